/-! ===== printed by mdl9.py: contracts of the model ===== -/
theorem t_R4_ext {g g' : Nat → Int32} {a : Int} (R : t_R4 g a) (h : ∀ j, 1400 ≤ j → g' j = g j) : t_R4 g' a := by
  intro r hr
  rw [h 1403 (by omega)] at hr
  obtain ⟨h1, h2⟩ := R r hr
  have e2 : g' (350 * 4 + 101 + 3 * r) = g (350 * 4 + 101 + 3 * r) := h _ (by omega)
  refine ⟨t_good_ext (s := 4) (s' := 4) (h _ (by omega)) e2 (fun j hj => h _ (by omega)) h1, ?_⟩
  have eh : t_hg g' 4 r = t_hg g 4 r := by unfold t_hg; rw [e2]
  rw [eh]; exact h2
theorem t_R4_0 {g : Nat → Int32} {a : Int} (h : (g 1403).toInt = 0) : t_R4 g a := fun r hr => by rw [h] at hr; omega
theorem t_rpn_of {g : Nat → Int32} {a : Int} (R : t_R4 g a) (ha : a ≤ 210) (h3 : g 3 = g 1403) (hn : (g 1403).toInt ≤ 12) (hc : ∀ j : Nat, 100 ≤ j → j < 350 → g j = g (1400 + j)) : t_rpn g 0 := by
  intro r hr
  have hr : (r : Int) < (g 1403).toInt := by rw [← h3]; exact hr
  obtain ⟨h1, h2⟩ := R r hr
  refine t_good_ext (s := 4) (s' := 0) ?_ ?_ (fun j hj => ?_) h1
  · rw [show 350 * 0 + 100 + 3 * r = 100 + 3 * r by omega, hc _ (by omega) (by omega), show 1400 + (100 + 3 * r) = 350 * 4 + 100 + 3 * r by omega]
  · rw [show 350 * 0 + 101 + 3 * r = 101 + 3 * r by omega, hc _ (by omega) (by omega), show 1400 + (101 + 3 * r) = 350 * 4 + 101 + 3 * r by omega]
  · rw [show 350 * 0 + 140 + j = 140 + j by omega, hc _ (by omega) (by omega), show 1400 + (140 + j) = 350 * 4 + 140 + j by omega]
theorem t_cp100 {g g' : Nat → Nat → Int32} {z z' i i2 w : Int32} (h : ∀ j : Nat, 100 ≤ j → (j : Int) < z.toInt → g 70 j = g 70 (1400 + j)) (ew : w = g 70 i2.toNatClampNeg) (e : g' = x_up2 g 70 i.toNatClampNeg w) (hi : i.toNatClampNeg = z.toInt.toNat) (h2 : i2.toNatClampNeg = 1400 + z.toInt.toNat) (hz : z'.toInt = z.toInt + 1) (h0 : 100 ≤ z.toInt) (hn : z.toInt < 350) : ∀ j : Nat, 100 ≤ j → (j : Int) < z'.toInt → g' 70 j = g' 70 (1400 + j) := by
  intro j h3 h4
  have e2 : g' 70 (1400 + j) = g 70 (1400 + j) := by rw [e]; exact x_up2_off (Or.inr (by omega))
  rw [e2]
  rcases t_stc e j with ⟨h5, h6⟩ | ⟨h5, h6⟩
  · rw [h6, ew, h2]; congr 1; omega
  · rw [h6]; exact h j h3 (by omega)
noncomputable def wl_m_aRule : List (Nat × Nat) := [(69, 12), (69, 13), (69, 14), (69, 15), (69, 17), (69, 18), (69, 22), (69, 23), (69, 24), (69, 25), (70, 140311403), (70, 150011536), (70, 150111537), (70, 150211538), (70, 154011750), (77, 9999)]
noncomputable def Q_m_aRule (gi : Nat → Nat → Int32) (gl : Nat → Nat → Int64) (gr : Nat → Nat → Value) : Int32 → (Nat → Nat → Int32) → (Nat → Nat → Int64) → (Nat → Nat → Value) → Prop := fun (v : Int32) (gi2 : Nat → Nat → Int32) (gl2 : Nat → Nat → Int64) (gr2 : Nat → Nat → Value) => (gi 69 14).toInt ≤ (gi2 69 14).toInt ∧ (v.toInt = 1 → (gi2 69 12).toInt ≠ 0 → (gi 69 14).toInt < (gi2 69 14).toInt) ∧ (v.toInt = 0 → (gi2 69 18).toInt ≠ 0) ∧ (v.toInt = 1 → (t_R4 (gi2 70) (gi2 69 25).toInt ∧ (gi2 69 25).toInt ≤ 8 * (gi2 69 24).toInt))
set_option maxHeartbeats 40000000 in
theorem c_m_aRule {X : x_Ext} {d : Nat} {sh : List (Nat ⊕ (Nat × Nat))} {gi : Nat → Nat → Int32} {gl : Nat → Nat → Int64} {gr : Nat → Nat → Value} (hI : t_I sh gi gr) (e_p0 : t_R4 (gi 70) (gi 69 25).toInt) (e_p1 : (gi 69 25).toInt ≤ 8 * (gi 69 24).toInt) : x_Me X (d + 8) n_X12_aRule [.ref 69] (sh, gi, gl, gr) (t_PI wl_m_aRule sh gi gl gr 0 1 (Q_m_aRule gi gl gr)) := by
  have hX : t_X wl_m_aRule sh gi gl gr gi gl gr := t_X.rf
  refine me_i f_X12_aRule (hI.wf.s rfl) rfl rfl rfl ?_
  obtain ⟨l1, u1⟩ := hI.b (hI.wf.s (k := 69) rfl) (t_bdK rfl : t_bd 11 12 = some (0, 4))
  obtain ⟨l2, u2⟩ := hI.b (hI.wf.s (k := 69) rfl) (t_bdK rfl : t_bd 11 14 = some (0, 900))
  have hI4 := hI
  have hI5 := hI
  have hI6 := hI
  obtain ⟨l7, u7⟩ := hI.b (hI.wf.s (k := 69) rfl) (t_bdK rfl : t_bd 11 25 = some (0, 210))
  refine ev_sp f_X12_aRule (nx := 3) (v := 1500) rfl (by decide) rfl ?_
  refine ev_ic f_X12_aRule (nx := 4) (v := 3) rfl (by decide) rfl ?_
  refine ev_loc f_X12_aRule (nx := 5) rfl rfl rfl rfl ?_
  refine ev_getR f_X12_aRule (nx := 8) rfl (hI.wf.s rfl) rfl rfl (hI.wf.r rfl) rfl rfl ?_
  refine ev_sp f_X12_aRule (nx := 11) (v := 1403) rfl (by decide) rfl ?_
  obtain ⟨l8, u8⟩ := hI.ab (by decide +kernel : t_abr 70 1403 1403 0 12 = true) (Nat.le_refl _) (Nat.le_refl _)
  refine ev_ialdv f_X12_aRule (nx := 12) (w := (gi 70 1403)) rfl (hI.wf.s rfl) (by decide) (rfl : (1403 : Int32).toNatClampNeg = 1403) (by decide) rfl rfl ?_
  refine ev_mulL f_X12_aRule (nx := 13) (c := 3) (l := 0) (u := 36) rfl (by decide) (by decide) l8 u8 rfl rfl (by decide) (by decide) rfl (fun z9 e9 l9 u9 => ?_)
  refine ev_addK f_X12_aRule (nx := 14) (c := 1500) (l := 1500) (u := 1536) rfl (by decide) l9 u9 rfl rfl (by decide) (by decide) rfl (fun z10 e10 l10 u10 => ?_)
  refine ev_loc f_X12_aRule (nx := 15) (lo' := [(1, .int z10), (0, .ref 69)]) rfl rfl rfl rfl ?_
  refine ev_loc f_X12_aRule (nx := 16) rfl rfl rfl rfl ?_
  refine ev_heap f_X12_aRule (nx := 18) rfl rfl rfl rfl ?_
  refine ev_qI f_X12_aRule (nx := 21) (r := []) rfl rfl rfl rfl rfl rfl rfl (c_m_inWords hI ) rfl hX rfl (fun w11 gi11 gl11 gr11 l11 u11 hI hX hC11 q11 => ?_)
  have q11 : 0 ≤ w11.toInt → (gi 69 12).toInt = 2 := q11
  refine ev_bp f_X12_aRule (nx := 23) (v := 13) rfl (by decide) rfl ?_
  refine ev_if f_X12_aRule (t1 := 32) (t2 := 26) rfl rfl rfl (fun h12 => ?_) (fun h12 => ?_)
  · have u13 : w11.toInt ≤ 13 := t_equ h12 (by decide : (13:Int32).toInt ≤ (13:Int))
    have l14 : 13 ≤ w11.toInt := t_eql h12 (by decide : (13:Int) ≤ (13:Int32).toInt)
    refine ev_loc f_X12_aRule (nx := 33) rfl rfl rfl rfl ?_
    refine ev_getR f_X12_aRule (nx := 36) rfl (hI.wf.s rfl) rfl rfl (hI.wf.r rfl) rfl rfl ?_
    refine ev_sp f_X12_aRule (nx := 39) (v := 1403) rfl (by decide) rfl ?_
    refine ev_ialdv f_X12_aRule (nx := 40) (w := (gi 70 1403)) rfl (hI.wf.s rfl) (by decide) (rfl : (1403 : Int32).toNatClampNeg = 1403) (by decide) ((hC11.1 70 1403 rfl).1.trans rfl) rfl ?_
    refine ev_bp f_X12_aRule (nx := 42) (v := 12) rfl (by decide) rfl ?_
    refine ev_if f_X12_aRule (t1 := 45) (t2 := 52) rfl rfl rfl (fun h16 => ?_) (fun h16 => ?_)
    · have l17 : 12 ≤ (gi 70 1403).toInt := t_eql h16 (by decide : (12:Int) ≤ (12:Int32).toInt)
      refine ev_loc f_X12_aRule (nx := 46) rfl rfl rfl rfl ?_
      refine ev_bp f_X12_aRule (nx := 48) (v := 6) rfl (by decide) rfl ?_
      refine ev_inV2 f_X12_aRule (nx := 51) (lo2 := [(0, .ref 69), (1, .int 6)]) rfl rfl rfl rfl f_X12_fails (hI.wf.s rfl) rfl rfl rfl rfl rfl ?_
      refine ev_loc f_X12_fails (nx := 1) rfl rfl rfl rfl ?_
      refine ev_gvI f_X12_fails (nx := 4) (w := (gi 69 18)) rfl (hI.wf.s rfl) rfl rfl ((hC11.1 69 18 rfl).1.trans rfl) rfl ?_
      refine ev_if f_X12_fails (t1 := 7) (t2 := 32) rfl rfl rfl (fun h18 => ?_) (fun h18 => ?_)
      · have u19 : (gi 69 18).toInt ≤ 0 := t_equ h18 (by decide : (0:Int32).toInt ≤ (0:Int))
        have l20 : 0 ≤ (gi 69 18).toInt := t_eql h18 (by decide : (0:Int) ≤ (0:Int32).toInt)
        refine ev_loc f_X12_fails (nx := 8) rfl rfl rfl rfl ?_
        refine ev_loc f_X12_fails (nx := 9) rfl rfl rfl rfl ?_
        refine ev_gvI f_X12_fails (nx := 12) (w := (gi 69 12)) rfl (hI.wf.s rfl) rfl rfl ((hC11.1 69 12 rfl).1.trans rfl) rfl ?_
        refine ev_ic f_X12_fails (nx := 13) (v := 1) rfl (by decide) rfl ?_
        refine ev_if f_X12_fails (t1 := 16) (t2 := 20) rfl rfl rfl (fun h21 => ?_) (fun h21 => ?_)
        · have u22 : (gi 69 12).toInt ≤ 1 := t_equ h21 (by decide : (1:Int32).toInt ≤ (1:Int))
          have l23 : 1 ≤ (gi 69 12).toInt := t_eql h21 (by decide : (1:Int) ≤ (1:Int32).toInt)
          refine ev_ic f_X12_fails (nx := 17) (v := 1) rfl (by decide) rfl ?_
          refine ev_jmp f_X12_fails (nx := 21) rfl rfl rfl ?_
          refine ev_putIT f_X12_fails (nx := 24) rfl (hI.wf.s rfl) rfl rfl rfl (hI.put0 (hI.wf.s rfl) rfl rfl) (hX.upI rfl) (fun g24 e24 hI hX => ?_)
          refine ev_loc f_X12_fails (nx := 25) rfl rfl rfl rfl ?_
          refine ev_loc f_X12_fails (nx := 26) rfl rfl rfl rfl ?_
          refine ev_getI f_X12_fails (nx := 29) rfl (hI.wf.s rfl) rfl rfl rfl ?_
          obtain ⟨l25, u25⟩ := hI.b (hI.wf.s (k := 69) rfl) (t_bdK rfl : t_bd 11 13 = some (0, 900))
          refine ev_putIT f_X12_fails (nx := 32) rfl (hI.wf.s rfl) rfl rfl rfl (hI.put0 (hI.wf.s rfl) rfl rfl) (hX.upI rfl) (fun g26 e26 hI hX => ?_)
          refine ev_ic f_X12_fails (nx := 33) (v := 0) rfl (by decide) rfl ?_
          refine ev_retK1 f_X12_fails rfl rfl rfl ?_
          exact ev_ret f_X12_aRule rfl rfl rfl ⟨_, _, _, rfl, hI, hX, ⟨_, rfl, (by decide : (0:Int) ≤ (0:Int32).toInt), (Int.le_trans (by decide : (0:Int32).toInt ≤ (0:Int)) (by decide : (0:Int) ≤ 1)), (show (gi 69 14).toInt ≤ (g26 69 14).toInt ∧ (0 = 1 → (g26 69 12).toInt ≠ 0 → (gi 69 14).toInt < (g26 69 14).toInt) ∧ (0 = 0 → (g26 69 18).toInt ≠ 0) ∧ (0 = 1 → (t_R4 (g26 70) (g26 69 25).toInt ∧ (g26 69 25).toInt ≤ 8 * (g26 69 24).toInt)) from ⟨(by have ff27 : (g26 69 14).toInt = (gi 69 14).toInt := congrArg Int32.toInt ((by rw [e26]; exact x_up2_off (Or.inr (by decide)) : g26 69 14 = g24 69 14).trans ((by rw [e24]; exact x_up2_off (Or.inr (by decide)) : g24 69 14 = gi11 69 14).trans ((hC11.1 69 14 rfl).1.trans rfl))); omega), (by have ff28 : (g26 69 12).toInt = (gi 69 12).toInt := congrArg Int32.toInt ((by rw [e26]; exact x_up2_off (Or.inr (by decide)) : g26 69 12 = g24 69 12).trans ((by rw [e24]; exact x_up2_off (Or.inr (by decide)) : g24 69 12 = gi11 69 12).trans ((hC11.1 69 12 rfl).1.trans rfl))); have ff29 : (g26 69 14).toInt = (gi 69 14).toInt := congrArg Int32.toInt ((by rw [e26]; exact x_up2_off (Or.inr (by decide)) : g26 69 14 = g24 69 14).trans ((by rw [e24]; exact x_up2_off (Or.inr (by decide)) : g24 69 14 = gi11 69 14).trans ((hC11.1 69 14 rfl).1.trans rfl))); omega), (by have ff30 : (g26 69 18).toInt = 1 := (congrArg Int32.toInt ((by rw [e26]; exact x_up2_off (Or.inr (by decide)) : g26 69 18 = g24 69 18).trans (by rw [e24]; exact x_up2_at _ _ _ _ : g24 69 18 = 1))).trans (by decide); omega), fun h => absurd h (by decide)⟩)⟩⟩
        · have r31 : (gi 69 12).toInt ≠ 1 := fun e => h21 (Int32.toInt_inj.mp (e.trans (by decide : (1:Int) = (1 : Int32).toInt)))
          refine ev_loc f_X12_fails (nx := 21) rfl rfl rfl rfl ?_
          refine ev_putIT f_X12_fails (nx := 24) rfl (hI.wf.s rfl) rfl rfl rfl (hI.put0 (hI.wf.s rfl) rfl rfl) (hX.upI rfl) (fun g32 e32 hI hX => ?_)
          refine ev_loc f_X12_fails (nx := 25) rfl rfl rfl rfl ?_
          refine ev_loc f_X12_fails (nx := 26) rfl rfl rfl rfl ?_
          refine ev_getI f_X12_fails (nx := 29) rfl (hI.wf.s rfl) rfl rfl rfl ?_
          obtain ⟨l33, u33⟩ := hI.b (hI.wf.s (k := 69) rfl) (t_bdK rfl : t_bd 11 13 = some (0, 900))
          refine ev_putIT f_X12_fails (nx := 32) rfl (hI.wf.s rfl) rfl rfl rfl (hI.put0 (hI.wf.s rfl) rfl rfl) (hX.upI rfl) (fun g34 e34 hI hX => ?_)
          refine ev_ic f_X12_fails (nx := 33) (v := 0) rfl (by decide) rfl ?_
          refine ev_retK1 f_X12_fails rfl rfl rfl ?_
          exact ev_ret f_X12_aRule rfl rfl rfl ⟨_, _, _, rfl, hI, hX, ⟨_, rfl, (by decide : (0:Int) ≤ (0:Int32).toInt), (Int.le_trans (by decide : (0:Int32).toInt ≤ (0:Int)) (by decide : (0:Int) ≤ 1)), (show (gi 69 14).toInt ≤ (g34 69 14).toInt ∧ (0 = 1 → (g34 69 12).toInt ≠ 0 → (gi 69 14).toInt < (g34 69 14).toInt) ∧ (0 = 0 → (g34 69 18).toInt ≠ 0) ∧ (0 = 1 → (t_R4 (g34 70) (g34 69 25).toInt ∧ (g34 69 25).toInt ≤ 8 * (g34 69 24).toInt)) from ⟨(by have ff35 : (g34 69 14).toInt = (gi 69 14).toInt := congrArg Int32.toInt ((by rw [e34]; exact x_up2_off (Or.inr (by decide)) : g34 69 14 = g32 69 14).trans ((by rw [e32]; exact x_up2_off (Or.inr (by decide)) : g32 69 14 = gi11 69 14).trans ((hC11.1 69 14 rfl).1.trans rfl))); omega), (by have ff36 : (g34 69 12).toInt = (gi 69 12).toInt := congrArg Int32.toInt ((by rw [e34]; exact x_up2_off (Or.inr (by decide)) : g34 69 12 = g32 69 12).trans ((by rw [e32]; exact x_up2_off (Or.inr (by decide)) : g32 69 12 = gi11 69 12).trans ((hC11.1 69 12 rfl).1.trans rfl))); have ff37 : (g34 69 14).toInt = (gi 69 14).toInt := congrArg Int32.toInt ((by rw [e34]; exact x_up2_off (Or.inr (by decide)) : g34 69 14 = g32 69 14).trans ((by rw [e32]; exact x_up2_off (Or.inr (by decide)) : g32 69 14 = gi11 69 14).trans ((hC11.1 69 14 rfl).1.trans rfl))); omega), (by have ff38 : (g34 69 18).toInt = 6 := (congrArg Int32.toInt ((by rw [e34]; exact x_up2_off (Or.inr (by decide)) : g34 69 18 = g32 69 18).trans (by rw [e32]; exact x_up2_at _ _ _ _ : g32 69 18 = 6))).trans (by decide); omega), fun h => absurd h (by decide)⟩)⟩⟩
      · have r39 : (gi 69 18).toInt ≠ 0 := fun e => h18 (Int32.toInt_inj.mp (e.trans (by decide : (0:Int) = (0 : Int32).toInt)))
        refine ev_ic f_X12_fails (nx := 33) (v := 0) rfl (by decide) rfl ?_
        refine ev_retK1 f_X12_fails rfl rfl rfl ?_
        exact ev_ret f_X12_aRule rfl rfl rfl ⟨_, _, _, rfl, hI, hX, ⟨_, rfl, (by decide : (0:Int) ≤ (0:Int32).toInt), (Int.le_trans (by decide : (0:Int32).toInt ≤ (0:Int)) (by decide : (0:Int) ≤ 1)), (show (gi 69 14).toInt ≤ (gi11 69 14).toInt ∧ (0 = 1 → (gi11 69 12).toInt ≠ 0 → (gi 69 14).toInt < (gi11 69 14).toInt) ∧ (0 = 0 → (gi11 69 18).toInt ≠ 0) ∧ (0 = 1 → (t_R4 (gi11 70) (gi11 69 25).toInt ∧ (gi11 69 25).toInt ≤ 8 * (gi11 69 24).toInt)) from ⟨(by have ff40 : (gi11 69 14).toInt = (gi 69 14).toInt := congrArg Int32.toInt ((hC11.1 69 14 rfl).1.trans rfl); omega), (by have ff41 : (gi11 69 12).toInt = (gi 69 12).toInt := congrArg Int32.toInt ((hC11.1 69 12 rfl).1.trans rfl); have ff42 : (gi11 69 14).toInt = (gi 69 14).toInt := congrArg Int32.toInt ((hC11.1 69 14 rfl).1.trans rfl); omega), (by have ff43 : (gi11 69 18).toInt = (gi 69 18).toInt := congrArg Int32.toInt ((hC11.1 69 18 rfl).1.trans rfl); omega), fun h => absurd h (by decide)⟩)⟩⟩
    · have r44 : (gi 70 1403).toInt ≠ 12 := fun e => h16 (Int32.toInt_inj.mp (e.trans (by decide : (12:Int) = (12 : Int32).toInt)))
      have u45 : (gi 70 1403).toInt ≤ 11 := t_neu h16 u8 rfl rfl
      refine ev_loc f_X12_aRule (nx := 53) rfl rfl rfl rfl ?_
      refine ev_qN f_X12_aRule (nx := 56) (r := []) rfl rfl rfl rfl rfl rfl rfl (c_m_ahead2 hI ) rfl hX rfl (fun gi46 gl46 gr46 hI hX hC46 q46 => ?_)
      have ff47 : (gi11 69 14).toInt = (gi 69 14).toInt := congrArg Int32.toInt ((hC11.1 69 14 rfl).1.trans rfl)
      have q46 : (gi11 69 14).toInt ≤ (gi46 69 14).toInt ∧ ((gi46 69 12).toInt ≠ 0 → (gi11 69 14).toInt < (gi46 69 14).toInt) ∧ ((gi46 69 12).toInt = 3 → 0 ≤ (gi46 69 15).toInt) := q46
      obtain ⟨l48, u48⟩ := hI.b (hI.wf.s (k := 69) rfl) (t_bdK rfl : t_bd 11 12 = some (0, 4))
      obtain ⟨l49, u49⟩ := hI.b (hI.wf.s (k := 69) rfl) (t_bdK rfl : t_bd 11 14 = some (0, 900))
      refine ev_loc f_X12_aRule (nx := 57) rfl rfl rfl rfl ?_
      refine ev_getR f_X12_aRule (nx := 60) rfl (hI.wf.s rfl) rfl rfl (hI.wf.r rfl) rfl rfl ?_
      refine ev_loc f_X12_aRule (nx := 61) rfl rfl rfl rfl ?_
      refine ev_loc f_X12_aRule (nx := 62) rfl rfl rfl rfl ?_
      refine ev_gvI f_X12_aRule (nx := 65) (w := (gi 69 25)) rfl (hI.wf.s rfl) rfl rfl ((hC46.1 69 25 rfl).1.trans ((hC11.1 69 25 rfl).1.trans rfl)) rfl ?_
      refine ev_iastT f_X12_aRule (nx := 66) rfl (hI.wf.s rfl) l10 (by decide) u10 (by decide) rfl (hI.astA (x := (gi 70 1403)) (hI.wf.s rfl) (by decide +kernel : t_abwa 70 1500 3 0 11 0 210 = true) (by omega) (by omega) (by omega) l7 u7 rfl) (hX.upI (t_inR (p := 1500) (m := 1536) rfl l10 (by decide) u10 (by decide) (by decide))) (fun g50 e50 hI hX => ?_)
      refine ev_loc f_X12_aRule (nx := 67) rfl rfl rfl rfl ?_
      refine ev_qI f_X12_aRule (nx := 70) (r := []) rfl rfl rfl rfl rfl rfl rfl (c_m_conditions hI  (b := g50 70) (by have ff52 : (g50 69 25).toInt = (gi 69 25).toInt := congrArg Int32.toInt ((by rw [e50]; exact x_up2_off (Or.inl (by decide)) : g50 69 25 = gi46 69 25).trans ((hC46.1 69 25 rfl).1.trans ((hC11.1 69 25 rfl).1.trans rfl))); have ff53 : (g50 69 24).toInt = (gi 69 24).toInt := congrArg Int32.toInt ((by rw [e50]; exact x_up2_off (Or.inl (by decide)) : g50 69 24 = gi46 69 24).trans ((hC46.1 69 24 rfl).1.trans ((hC11.1 69 24 rfl).1.trans rfl))); omega) rfl (by have ho := (t_onec (c := 70) (g := gi) (p := 1500 + 3 * (gi 70 1403).toInt.toNat) ((funext (fun j => (hC46.1 70 j rfl).1) : gi46 70 = gi11 70).trans ((funext (fun j => (hC11.1 70 j rfl).1) : gi11 70 = gi 70))) e50 rfl (by have hc := t_clamp (i := z10) (by omega); omega)); unfold t_lo4; rw [ho.1 1403 (by omega), ho.2]; have ff54 : (g50 69 25).toInt = (gi 69 25).toInt := congrArg Int32.toInt ((by rw [e50]; exact x_up2_off (Or.inl (by decide)) : g50 69 25 = gi46 69 25).trans ((hC46.1 69 25 rfl).1.trans ((hC11.1 69 25 rfl).1.trans rfl))); omega)) rfl hX rfl (fun w51 gi51 gl51 gr51 l51 u51 hI hX hC51 q51 => ?_)
      have ff55 : (g50 69 14).toInt = (gi46 69 14).toInt := congrArg Int32.toInt ((by rw [e50]; exact x_up2_off (Or.inl (by decide)) : g50 69 14 = gi46 69 14).trans rfl)
      have q51 : (g50 69 14).toInt ≤ (gi51 69 14).toInt ∧ (w51.toInt = 1 → (gi51 69 12).toInt ≠ 0 → (g50 69 14).toInt < (gi51 69 14).toInt) ∧ (w51.toInt = 0 → (gi51 69 18).toInt ≠ 0) ∧ (w51.toInt = 1 → (t_em (gi51 70) (t_lo4 (g50 70)) (gi51 69 25).toInt.toNat 1 ∧ (∀ j : Nat, j < 1540 + t_lo4 (g50 70) → gi51 70 j = (g50 70) j) ∧ 0 ≤ (gi51 69 25).toInt ∧ (gi51 69 25).toInt ≤ 8 * (gi51 69 24).toInt)) := q51
      obtain ⟨l56, u56⟩ := hI.b (hI.wf.s (k := 69) rfl) (t_bdK rfl : t_bd 11 12 = some (0, 4))
      obtain ⟨l57, u57⟩ := hI.b (hI.wf.s (k := 69) rfl) (t_bdK rfl : t_bd 11 14 = some (0, 900))
      have hI59 := hI
      have hI60 := hI
      have hI61 := hI
      obtain ⟨l62, u62⟩ := hI.b (hI.wf.s (k := 69) rfl) (t_bdK rfl : t_bd 11 25 = some (0, 210))
      refine ev_if f_X12_aRule (t1 := 73) (t2 := 75) rfl rfl rfl (fun h63 => ?_) (fun h63 => ?_)
      · have u64 : w51.toInt ≤ 0 := t_equ h63 (by decide : (0:Int32).toInt ≤ (0:Int))
        refine ev_ic f_X12_aRule (nx := 74) (v := 0) rfl (by decide) rfl ?_
        exact ev_ret f_X12_aRule rfl rfl rfl ⟨_, _, _, rfl, hI, hX, ⟨_, rfl, (by decide : (0:Int) ≤ (0:Int32).toInt), (Int.le_trans (by decide : (0:Int32).toInt ≤ (0:Int)) (by decide : (0:Int) ≤ 1)), (show (gi 69 14).toInt ≤ (gi51 69 14).toInt ∧ (0 = 1 → (gi51 69 12).toInt ≠ 0 → (gi 69 14).toInt < (gi51 69 14).toInt) ∧ (0 = 0 → (gi51 69 18).toInt ≠ 0) ∧ (0 = 1 → (t_R4 (gi51 70) (gi51 69 25).toInt ∧ (gi51 69 25).toInt ≤ 8 * (gi51 69 24).toInt)) from ⟨(by omega), (by omega), (by omega), fun h => absurd h (by decide)⟩)⟩⟩
      · have r65 : w51.toInt ≠ 0 := fun e => h63 (Int32.toInt_inj.mp (e.trans (by decide : (0:Int) = (0 : Int32).toInt)))
        have l66 : 1 ≤ w51.toInt := t_nel h63 l51 rfl rfl
        refine ev_loc f_X12_aRule (nx := 76) rfl rfl rfl rfl ?_
        refine ev_getR f_X12_aRule (nx := 79) rfl (hI.wf.s rfl) rfl rfl (hI.wf.r rfl) rfl rfl ?_
        refine ev_loc f_X12_aRule (nx := 80) rfl rfl rfl rfl ?_
        refine ev_ic f_X12_aRule (nx := 81) (v := 1) rfl (by decide) rfl ?_
        refine ev_addC f_X12_aRule (nx := 82) (c := 1) (l := 1501) (u := 1537) rfl (by decide) l10 u10 rfl rfl (by decide) (by decide) rfl (fun z67 e67 l67 u67 => ?_)
        refine ev_loc f_X12_aRule (nx := 83) rfl rfl rfl rfl ?_
        refine ev_gvI f_X12_aRule (nx := 86) (w := (gi51 69 25)) rfl (hI.wf.s rfl) rfl rfl rfl rfl ?_
        refine ev_iastT f_X12_aRule (nx := 87) rfl (hI.wf.s rfl) l67 (by decide) u67 (by decide) rfl (hI.astA (x := (gi 70 1403)) (hI.wf.s rfl) (by decide +kernel : t_abwa 70 1501 3 0 11 0 210 = true) (by omega) (by omega) (by omega) l62 u62 rfl) (hX.upI (t_inR (p := 1501) (m := 1537) rfl l67 (by decide) u67 (by decide) (by decide))) (fun g68 e68 hI hX => ?_)
        refine ev_loc f_X12_aRule (nx := 88) rfl rfl rfl rfl ?_
        refine ev_heap f_X12_aRule (nx := 90) rfl rfl rfl rfl ?_
        refine ev_bp f_X12_aRule (nx := 92) (v := 14) rfl (by decide) rfl ?_
        refine ev_qI f_X12_aRule (nx := 95) (r := []) rfl rfl rfl rfl rfl rfl rfl (c_m_wantWord2 hI (14)) rfl hX rfl (fun w69 gi69 gl69 gr69 l69 u69 hI hX hC69 q69 => ?_)
        have ff70 : (g68 69 14).toInt = (gi51 69 14).toInt := congrArg Int32.toInt ((by rw [e68]; exact x_up2_off (Or.inl (by decide)) : g68 69 14 = gi51 69 14).trans rfl)
        have q69 : (g68 69 14).toInt ≤ (gi69 69 14).toInt ∧ (w69.toInt = 1 → (gi69 69 12).toInt ≠ 0 → (g68 69 14).toInt < (gi69 69 14).toInt) ∧ (w69.toInt = 0 → (gi69 69 18).toInt ≠ 0) := q69
        obtain ⟨l71, u71⟩ := hI.b (hI.wf.s (k := 69) rfl) (t_bdK rfl : t_bd 11 12 = some (0, 4))
        obtain ⟨l72, u72⟩ := hI.b (hI.wf.s (k := 69) rfl) (t_bdK rfl : t_bd 11 14 = some (0, 900))
        refine ev_if f_X12_aRule (t1 := 98) (t2 := 100) rfl rfl rfl (fun h74 => ?_) (fun h74 => ?_)
        · have u75 : w69.toInt ≤ 0 := t_equ h74 (by decide : (0:Int32).toInt ≤ (0:Int))
          refine ev_ic f_X12_aRule (nx := 99) (v := 0) rfl (by decide) rfl ?_
          exact ev_ret f_X12_aRule rfl rfl rfl ⟨_, _, _, rfl, hI, hX, ⟨_, rfl, (by decide : (0:Int) ≤ (0:Int32).toInt), (Int.le_trans (by decide : (0:Int32).toInt ≤ (0:Int)) (by decide : (0:Int) ≤ 1)), (show (gi 69 14).toInt ≤ (gi69 69 14).toInt ∧ (0 = 1 → (gi69 69 12).toInt ≠ 0 → (gi 69 14).toInt < (gi69 69 14).toInt) ∧ (0 = 0 → (gi69 69 18).toInt ≠ 0) ∧ (0 = 1 → (t_R4 (gi69 70) (gi69 69 25).toInt ∧ (gi69 69 25).toInt ≤ 8 * (gi69 69 24).toInt)) from ⟨(by omega), (by omega), (by omega), fun h => absurd h (by decide)⟩)⟩⟩
        · have r76 : w69.toInt ≠ 0 := fun e => h74 (Int32.toInt_inj.mp (e.trans (by decide : (0:Int) = (0 : Int32).toInt)))
          have l77 : 1 ≤ w69.toInt := t_nel h74 l69 rfl rfl
          refine ev_loc f_X12_aRule (nx := 101) rfl rfl rfl rfl ?_
          refine ev_heap f_X12_aRule (nx := 103) rfl rfl rfl rfl ?_
          refine ev_qI f_X12_aRule (nx := 106) (r := []) rfl rfl rfl rfl rfl rfl rfl (c_m_inWords hI ) rfl hX rfl (fun w78 gi78 gl78 gr78 l78 u78 hI hX hC78 q78 => ?_)
          have q78 : 0 ≤ w78.toInt → (gi69 69 12).toInt = 2 := q78
          refine ev_loc f_X12_aRule (nx := 107) (lo' := [(2, .int w78), (1, .int z10), (0, .ref 69)]) rfl rfl rfl rfl ?_
          refine ev_loc f_X12_aRule (nx := 108) rfl rfl rfl rfl ?_
          refine ev_bp f_X12_aRule (nx := 110) (v := 15) rfl (by decide) rfl ?_
          refine ev_if f_X12_aRule (t1 := 119) (t2 := 113) rfl rfl rfl (fun h79 => ?_) (fun h79 => ?_)
          · have u80 : w78.toInt ≤ 14 := t_ltu h79 (by decide : (15:Int32).toInt ≤ (15:Int)) rfl
            refine ev_loc f_X12_aRule (nx := 120) rfl rfl rfl rfl ?_
            refine ev_ic f_X12_aRule (nx := 121) (v := 2) rfl (by decide) rfl ?_
            refine ev_inV2 f_X12_aRule (nx := 124) (lo2 := [(0, .ref 69), (1, .int 2)]) rfl rfl rfl rfl f_X12_fails (hI.wf.s rfl) rfl rfl rfl rfl rfl ?_
            refine ev_loc f_X12_fails (nx := 1) rfl rfl rfl rfl ?_
            refine ev_gvI f_X12_fails (nx := 4) (w := (gi69 69 18)) rfl (hI.wf.s rfl) rfl rfl ((hC78.1 69 18 rfl).1.trans rfl) rfl ?_
            refine ev_if f_X12_fails (t1 := 7) (t2 := 32) rfl rfl rfl (fun h81 => ?_) (fun h81 => ?_)
            · have u82 : (gi69 69 18).toInt ≤ 0 := t_equ h81 (by decide : (0:Int32).toInt ≤ (0:Int))
              have l83 : 0 ≤ (gi69 69 18).toInt := t_eql h81 (by decide : (0:Int) ≤ (0:Int32).toInt)
              refine ev_loc f_X12_fails (nx := 8) rfl rfl rfl rfl ?_
              refine ev_loc f_X12_fails (nx := 9) rfl rfl rfl rfl ?_
              refine ev_gvI f_X12_fails (nx := 12) (w := (gi69 69 12)) rfl (hI.wf.s rfl) rfl rfl ((hC78.1 69 12 rfl).1.trans rfl) rfl ?_
              refine ev_ic f_X12_fails (nx := 13) (v := 1) rfl (by decide) rfl ?_
              refine ev_if f_X12_fails (t1 := 16) (t2 := 20) rfl rfl rfl (fun h84 => ?_) (fun h84 => ?_)
              · have u85 : (gi69 69 12).toInt ≤ 1 := t_equ h84 (by decide : (1:Int32).toInt ≤ (1:Int))
                have l86 : 1 ≤ (gi69 69 12).toInt := t_eql h84 (by decide : (1:Int) ≤ (1:Int32).toInt)
                refine ev_ic f_X12_fails (nx := 17) (v := 1) rfl (by decide) rfl ?_
                refine ev_jmp f_X12_fails (nx := 21) rfl rfl rfl ?_
                refine ev_putIT f_X12_fails (nx := 24) rfl (hI.wf.s rfl) rfl rfl rfl (hI.put0 (hI.wf.s rfl) rfl rfl) (hX.upI rfl) (fun g87 e87 hI hX => ?_)
                refine ev_loc f_X12_fails (nx := 25) rfl rfl rfl rfl ?_
                refine ev_loc f_X12_fails (nx := 26) rfl rfl rfl rfl ?_
                refine ev_getI f_X12_fails (nx := 29) rfl (hI.wf.s rfl) rfl rfl rfl ?_
                obtain ⟨l88, u88⟩ := hI.b (hI.wf.s (k := 69) rfl) (t_bdK rfl : t_bd 11 13 = some (0, 900))
                refine ev_putIT f_X12_fails (nx := 32) rfl (hI.wf.s rfl) rfl rfl rfl (hI.put0 (hI.wf.s rfl) rfl rfl) (hX.upI rfl) (fun g89 e89 hI hX => ?_)
                refine ev_ic f_X12_fails (nx := 33) (v := 0) rfl (by decide) rfl ?_
                refine ev_retK1 f_X12_fails rfl rfl rfl ?_
                exact ev_ret f_X12_aRule rfl rfl rfl ⟨_, _, _, rfl, hI, hX, ⟨_, rfl, (by decide : (0:Int) ≤ (0:Int32).toInt), (Int.le_trans (by decide : (0:Int32).toInt ≤ (0:Int)) (by decide : (0:Int) ≤ 1)), (show (gi 69 14).toInt ≤ (g89 69 14).toInt ∧ (0 = 1 → (g89 69 12).toInt ≠ 0 → (gi 69 14).toInt < (g89 69 14).toInt) ∧ (0 = 0 → (g89 69 18).toInt ≠ 0) ∧ (0 = 1 → (t_R4 (g89 70) (g89 69 25).toInt ∧ (g89 69 25).toInt ≤ 8 * (g89 69 24).toInt)) from ⟨(by have ff90 : (g89 69 14).toInt = (gi69 69 14).toInt := congrArg Int32.toInt ((by rw [e89]; exact x_up2_off (Or.inr (by decide)) : g89 69 14 = g87 69 14).trans ((by rw [e87]; exact x_up2_off (Or.inr (by decide)) : g87 69 14 = gi78 69 14).trans ((hC78.1 69 14 rfl).1.trans rfl))); omega), (by have ff91 : (g89 69 12).toInt = (gi69 69 12).toInt := congrArg Int32.toInt ((by rw [e89]; exact x_up2_off (Or.inr (by decide)) : g89 69 12 = g87 69 12).trans ((by rw [e87]; exact x_up2_off (Or.inr (by decide)) : g87 69 12 = gi78 69 12).trans ((hC78.1 69 12 rfl).1.trans rfl))); have ff92 : (g89 69 14).toInt = (gi69 69 14).toInt := congrArg Int32.toInt ((by rw [e89]; exact x_up2_off (Or.inr (by decide)) : g89 69 14 = g87 69 14).trans ((by rw [e87]; exact x_up2_off (Or.inr (by decide)) : g87 69 14 = gi78 69 14).trans ((hC78.1 69 14 rfl).1.trans rfl))); omega), (by have ff93 : (g89 69 18).toInt = 1 := (congrArg Int32.toInt ((by rw [e89]; exact x_up2_off (Or.inr (by decide)) : g89 69 18 = g87 69 18).trans (by rw [e87]; exact x_up2_at _ _ _ _ : g87 69 18 = 1))).trans (by decide); omega), fun h => absurd h (by decide)⟩)⟩⟩
              · have r94 : (gi69 69 12).toInt ≠ 1 := fun e => h84 (Int32.toInt_inj.mp (e.trans (by decide : (1:Int) = (1 : Int32).toInt)))
                refine ev_loc f_X12_fails (nx := 21) rfl rfl rfl rfl ?_
                refine ev_putIT f_X12_fails (nx := 24) rfl (hI.wf.s rfl) rfl rfl rfl (hI.put0 (hI.wf.s rfl) rfl rfl) (hX.upI rfl) (fun g95 e95 hI hX => ?_)
                refine ev_loc f_X12_fails (nx := 25) rfl rfl rfl rfl ?_
                refine ev_loc f_X12_fails (nx := 26) rfl rfl rfl rfl ?_
                refine ev_getI f_X12_fails (nx := 29) rfl (hI.wf.s rfl) rfl rfl rfl ?_
                obtain ⟨l96, u96⟩ := hI.b (hI.wf.s (k := 69) rfl) (t_bdK rfl : t_bd 11 13 = some (0, 900))
                refine ev_putIT f_X12_fails (nx := 32) rfl (hI.wf.s rfl) rfl rfl rfl (hI.put0 (hI.wf.s rfl) rfl rfl) (hX.upI rfl) (fun g97 e97 hI hX => ?_)
                refine ev_ic f_X12_fails (nx := 33) (v := 0) rfl (by decide) rfl ?_
                refine ev_retK1 f_X12_fails rfl rfl rfl ?_
                exact ev_ret f_X12_aRule rfl rfl rfl ⟨_, _, _, rfl, hI, hX, ⟨_, rfl, (by decide : (0:Int) ≤ (0:Int32).toInt), (Int.le_trans (by decide : (0:Int32).toInt ≤ (0:Int)) (by decide : (0:Int) ≤ 1)), (show (gi 69 14).toInt ≤ (g97 69 14).toInt ∧ (0 = 1 → (g97 69 12).toInt ≠ 0 → (gi 69 14).toInt < (g97 69 14).toInt) ∧ (0 = 0 → (g97 69 18).toInt ≠ 0) ∧ (0 = 1 → (t_R4 (g97 70) (g97 69 25).toInt ∧ (g97 69 25).toInt ≤ 8 * (g97 69 24).toInt)) from ⟨(by have ff98 : (g97 69 14).toInt = (gi69 69 14).toInt := congrArg Int32.toInt ((by rw [e97]; exact x_up2_off (Or.inr (by decide)) : g97 69 14 = g95 69 14).trans ((by rw [e95]; exact x_up2_off (Or.inr (by decide)) : g95 69 14 = gi78 69 14).trans ((hC78.1 69 14 rfl).1.trans rfl))); omega), (by have ff99 : (g97 69 12).toInt = (gi69 69 12).toInt := congrArg Int32.toInt ((by rw [e97]; exact x_up2_off (Or.inr (by decide)) : g97 69 12 = g95 69 12).trans ((by rw [e95]; exact x_up2_off (Or.inr (by decide)) : g95 69 12 = gi78 69 12).trans ((hC78.1 69 12 rfl).1.trans rfl))); have ff100 : (g97 69 14).toInt = (gi69 69 14).toInt := congrArg Int32.toInt ((by rw [e97]; exact x_up2_off (Or.inr (by decide)) : g97 69 14 = g95 69 14).trans ((by rw [e95]; exact x_up2_off (Or.inr (by decide)) : g95 69 14 = gi78 69 14).trans ((hC78.1 69 14 rfl).1.trans rfl))); omega), (by have ff101 : (g97 69 18).toInt = 2 := (congrArg Int32.toInt ((by rw [e97]; exact x_up2_off (Or.inr (by decide)) : g97 69 18 = g95 69 18).trans (by rw [e95]; exact x_up2_at _ _ _ _ : g95 69 18 = 2))).trans (by decide); omega), fun h => absurd h (by decide)⟩)⟩⟩
            · have r102 : (gi69 69 18).toInt ≠ 0 := fun e => h81 (Int32.toInt_inj.mp (e.trans (by decide : (0:Int) = (0 : Int32).toInt)))
              refine ev_ic f_X12_fails (nx := 33) (v := 0) rfl (by decide) rfl ?_
              refine ev_retK1 f_X12_fails rfl rfl rfl ?_
              exact ev_ret f_X12_aRule rfl rfl rfl ⟨_, _, _, rfl, hI, hX, ⟨_, rfl, (by decide : (0:Int) ≤ (0:Int32).toInt), (Int.le_trans (by decide : (0:Int32).toInt ≤ (0:Int)) (by decide : (0:Int) ≤ 1)), (show (gi 69 14).toInt ≤ (gi78 69 14).toInt ∧ (0 = 1 → (gi78 69 12).toInt ≠ 0 → (gi 69 14).toInt < (gi78 69 14).toInt) ∧ (0 = 0 → (gi78 69 18).toInt ≠ 0) ∧ (0 = 1 → (t_R4 (gi78 70) (gi78 69 25).toInt ∧ (gi78 69 25).toInt ≤ 8 * (gi78 69 24).toInt)) from ⟨(by have ff103 : (gi78 69 14).toInt = (gi69 69 14).toInt := congrArg Int32.toInt ((hC78.1 69 14 rfl).1.trans rfl); omega), (by have ff104 : (gi78 69 12).toInt = (gi69 69 12).toInt := congrArg Int32.toInt ((hC78.1 69 12 rfl).1.trans rfl); have ff105 : (gi78 69 14).toInt = (gi69 69 14).toInt := congrArg Int32.toInt ((hC78.1 69 14 rfl).1.trans rfl); omega), (by have ff106 : (gi78 69 18).toInt = (gi69 69 18).toInt := congrArg Int32.toInt ((hC78.1 69 18 rfl).1.trans rfl); omega), fun h => absurd h (by decide)⟩)⟩⟩
          · have l107 : 15 ≤ w78.toInt := t_lel (t_nlt h79) (by decide : (15:Int) ≤ (15:Int32).toInt)
            refine ev_loc f_X12_aRule (nx := 114) rfl rfl rfl rfl ?_
            refine ev_bp f_X12_aRule (nx := 116) (v := 17) rfl (by decide) rfl ?_
            refine ev_if f_X12_aRule (t1 := 125) (t2 := 119) rfl rfl rfl (fun h108 => ?_) (fun h108 => ?_)
            · have u109 : w78.toInt ≤ 17 := t_leu h108 (by decide : (17:Int32).toInt ≤ (17:Int))
              refine ev_loc f_X12_aRule (nx := 126) rfl rfl rfl rfl ?_
              refine ev_getR f_X12_aRule (nx := 129) rfl (hI.wf.s rfl) rfl rfl (hI.wf.r rfl) rfl rfl ?_
              refine ev_loc f_X12_aRule (nx := 130) rfl rfl rfl rfl ?_
              refine ev_ic f_X12_aRule (nx := 131) (v := 2) rfl (by decide) rfl ?_
              refine ev_addC f_X12_aRule (nx := 132) (c := 2) (l := 1502) (u := 1538) rfl (by decide) l10 u10 rfl rfl (by decide) (by decide) rfl (fun z110 e110 l110 u110 => ?_)
              refine ev_loc f_X12_aRule (nx := 133) rfl rfl rfl rfl ?_
              refine ev_iastT f_X12_aRule (nx := 134) rfl (hI.wf.s rfl) l110 (by decide) u110 (by decide) rfl (hI.astA (x := (gi 70 1403)) (hI.wf.s rfl) (by decide +kernel : t_abwa 70 1502 3 0 11 15 17 = true) (by omega) (by omega) (by omega) l107 u109 rfl) (hX.upI (t_inR (p := 1502) (m := 1538) rfl l110 (by decide) u110 (by decide) (by decide))) (fun g111 e111 hI hX => ?_)
              refine ev_loc f_X12_aRule (nx := 135) rfl rfl rfl rfl ?_
              refine ev_qN f_X12_aRule (nx := 138) (r := []) rfl rfl rfl rfl rfl rfl rfl (c_m_ahead2 hI ) rfl hX rfl (fun gi112 gl112 gr112 hI hX hC112 q112 => ?_)
              have ff113 : (g111 69 14).toInt = (gi69 69 14).toInt := congrArg Int32.toInt ((by rw [e111]; exact x_up2_off (Or.inl (by decide)) : g111 69 14 = gi78 69 14).trans ((hC78.1 69 14 rfl).1.trans rfl))
              have q112 : (g111 69 14).toInt ≤ (gi112 69 14).toInt ∧ ((gi112 69 12).toInt ≠ 0 → (g111 69 14).toInt < (gi112 69 14).toInt) ∧ ((gi112 69 12).toInt = 3 → 0 ≤ (gi112 69 15).toInt) := q112
              obtain ⟨l114, u114⟩ := hI.b (hI.wf.s (k := 69) rfl) (t_bdK rfl : t_bd 11 12 = some (0, 4))
              obtain ⟨l115, u115⟩ := hI.b (hI.wf.s (k := 69) rfl) (t_bdK rfl : t_bd 11 14 = some (0, 900))
              refine ev_loc f_X12_aRule (nx := 139) rfl rfl rfl rfl ?_
              refine ev_getR f_X12_aRule (nx := 142) rfl (hI.wf.s rfl) rfl rfl (hI.wf.r rfl) rfl rfl ?_
              refine ev_sp f_X12_aRule (nx := 145) (v := 1403) rfl (by decide) rfl ?_
              refine ev_alu f_X12_aRule (nx := 146) rfl rfl rfl rfl ?_
              refine ev_ialdv f_X12_aRule (nx := 147) (w := (gi 70 1403)) rfl (hI.wf.s rfl) (by decide) (rfl : (1403 : Int32).toNatClampNeg = 1403) (by decide) ((hC112.1 70 1403 rfl).1.trans ((by rw [e111]; exact x_up2_off (Or.inr (t_neCl l110 (by decide))) : g111 70 1403 = gi78 70 1403).trans ((hC78.1 70 1403 rfl).1.trans ((hC69.1 70 1403 rfl).1.trans ((by rw [e68]; exact x_up2_off (Or.inr (t_neCl l67 (by decide))) : g68 70 1403 = gi51 70 1403).trans ((hC51.1 70 1403 rfl).1.trans ((by rw [e50]; exact x_up2_off (Or.inr (t_neCl l10 (by decide))) : g50 70 1403 = gi46 70 1403).trans ((hC46.1 70 1403 rfl).1.trans ((hC11.1 70 1403 rfl).1.trans rfl))))))))) rfl ?_
              refine ev_ic f_X12_aRule (nx := 148) (v := 1) rfl (by decide) rfl ?_
              refine ev_addC f_X12_aRule (nx := 149) (c := 1) (l := 1) (u := 12) rfl (by decide) l8 u45 rfl rfl (by decide) (by decide) rfl (fun z117 e117 l117 u117 => ?_)
              refine ev_iastT f_X12_aRule (nx := 150) rfl (hI.wf.s rfl) (by decide : (1403:Int) ≤ (1403:Int32).toInt) (by decide) (by decide : (1403:Int32).toInt ≤ (1403:Int)) (by decide) rfl (hI.astL (hI.wf.s rfl) (by decide +kernel : t_abw 70 1403 1403 1 12 = true) (t_cl1 (by decide : (1403:Int) ≤ (1403:Int32).toInt) (by decide)) (t_cl2 (by decide : (1403:Int) ≤ (1403:Int32).toInt) (by decide : (1403:Int32).toInt ≤ (1403:Int)) (by decide) (by decide)) l117 u117 rfl) (hX.upI (t_inR (p := 1403) (m := 1403) rfl (by decide : (1403:Int) ≤ (1403:Int32).toInt) (by decide) (by decide : (1403:Int32).toInt ≤ (1403:Int)) (by decide) (by decide))) (fun g118 e118 hI hX => ?_)
              refine ev_loc f_X12_aRule (nx := 151) rfl rfl rfl rfl ?_
              refine ev_bp f_X12_aRule (nx := 153) (v := 59) rfl (by decide) rfl ?_
              refine ev_qI f_X12_aRule (nx := 156) (r := []) rfl rfl rfl rfl rfl rfl rfl (c_m_wantSign2 hI (59)) rfl hX rfl (fun w119 gi119 gl119 gr119 l119 u119 hI hX hC119 q119 => ?_)
              have ff120 : (g118 69 14).toInt = (gi112 69 14).toInt := congrArg Int32.toInt ((by rw [e118]; exact x_up2_off (Or.inl (by decide)) : g118 69 14 = gi112 69 14).trans rfl)
              have q119 : (g118 69 14).toInt ≤ (gi119 69 14).toInt ∧ (w119.toInt = 1 → (gi119 69 12).toInt ≠ 0 → (g118 69 14).toInt < (gi119 69 14).toInt) ∧ (w119.toInt = 0 → (gi119 69 18).toInt ≠ 0) := q119
              obtain ⟨l121, u121⟩ := hI.b (hI.wf.s (k := 69) rfl) (t_bdK rfl : t_bd 11 12 = some (0, 4))
              obtain ⟨l122, u122⟩ := hI.b (hI.wf.s (k := 69) rfl) (t_bdK rfl : t_bd 11 14 = some (0, 900))
              exact ev_retZ f_X12_aRule rfl l119 u119 ⟨_, _, _, rfl, hI, hX, ⟨_, rfl, l119, u119, (show (gi 69 14).toInt ≤ (gi119 69 14).toInt ∧ (w119.toInt = 1 → (gi119 69 12).toInt ≠ 0 → (gi 69 14).toInt < (gi119 69 14).toInt) ∧ (w119.toInt = 0 → (gi119 69 18).toInt ≠ 0) ∧ (w119.toInt = 1 → (t_R4 (gi119 70) (gi119 69 25).toInt ∧ (gi119 69 25).toInt ≤ 8 * (gi119 69 24).toInt)) from ⟨(by omega), (by omega), (by omega), fun _ => ⟨(by have ho := (t_onec (c := 70) (g := gi) (p := 1500 + 3 * (gi 70 1403).toInt.toNat) ((funext (fun j => (hC46.1 70 j rfl).1) : gi46 70 = gi11 70).trans ((funext (fun j => (hC11.1 70 j rfl).1) : gi11 70 = gi 70))) e50 rfl (by have hc := t_clamp (i := z10) (by omega); omega)); have hq := (q51.2.2.2 (by omega)); have e25 : (gi51 69 25).toInt = (gi119 69 25).toInt := (by have ff124 : (gi119 69 25).toInt = (gi51 69 25).toInt := congrArg Int32.toInt ((hC119.1 69 25 rfl).1.trans ((by rw [e118]; exact x_up2_off (Or.inl (by decide)) : g118 69 25 = gi112 69 25).trans ((hC112.1 69 25 rfl).1.trans ((by rw [e111]; exact x_up2_off (Or.inl (by decide)) : g111 69 25 = gi78 69 25).trans ((hC78.1 69 25 rfl).1.trans ((hC69.1 69 25 rfl).1.trans ((by rw [e68]; exact x_up2_off (Or.inl (by decide)) : g68 69 25 = gi51 69 25).trans rfl))))))); omega); rw [e25] at hq; exact t_R4_add (a0 := (gi 69 25).toInt) (n := (gi 70 1403).toInt.toNat) e_p0 (by omega) (by omega) (by omega) ho.1 (by have h1 := congrArg Int32.toInt ho.2; omega) hq.1 hq.2.1 (by have ff124 : (gi119 69 25).toInt = (gi51 69 25).toInt := congrArg Int32.toInt ((hC119.1 69 25 rfl).1.trans ((by rw [e118]; exact x_up2_off (Or.inl (by decide)) : g118 69 25 = gi112 69 25).trans ((hC112.1 69 25 rfl).1.trans ((by rw [e111]; exact x_up2_off (Or.inl (by decide)) : g111 69 25 = gi78 69 25).trans ((hC78.1 69 25 rfl).1.trans ((hC69.1 69 25 rfl).1.trans ((by rw [e68]; exact x_up2_off (Or.inl (by decide)) : g68 69 25 = gi51 69 25).trans rfl))))))); omega) (by have ha := congrArg Int32.toInt (((congrFun ((funext (fun j => (hC119.1 70 j rfl).1) : gi119 70 = g118 70)) (1501 + 3 * (gi 70 1403).toInt.toNat)).trans ((by rw [e118]; exact x_up2_off (Or.inr (by have hc : (1403 : Int32).toNatClampNeg = 1403 := rfl; omega)) : g118 70 (1501 + 3 * (gi 70 1403).toInt.toNat) = gi112 70 (1501 + 3 * (gi 70 1403).toInt.toNat)).trans ((congrFun ((funext (fun j => (hC112.1 70 j rfl).1) : gi112 70 = g111 70)) (1501 + 3 * (gi 70 1403).toInt.toNat)).trans ((by rw [e111]; exact x_up2_off (Or.inr (by have hc := t_clamp (i := z110) (by omega); omega)) : g111 70 (1501 + 3 * (gi 70 1403).toInt.toNat) = gi78 70 (1501 + 3 * (gi 70 1403).toInt.toNat)).trans ((congrFun ((funext (fun j => (hC78.1 70 j rfl).1) : gi78 70 = gi69 70)) (1501 + 3 * (gi 70 1403).toInt.toNat)).trans ((congrFun ((funext (fun j => (hC69.1 70 j rfl).1) : gi69 70 = g68 70)) (1501 + 3 * (gi 70 1403).toInt.toNat)).trans ((by rw [e68, show 1501 + 3 * (gi 70 1403).toInt.toNat = z67.toNatClampNeg from (by have hc := t_clamp (i := z67) (by omega); omega)]; exact x_up2_at _ _ _ _ : g68 70 (1501 + 3 * (gi 70 1403).toInt.toNat) = (gi51 69 25)))))))))); have ff124 : (gi119 69 25).toInt = (gi51 69 25).toInt := congrArg Int32.toInt ((hC119.1 69 25 rfl).1.trans ((by rw [e118]; exact x_up2_off (Or.inl (by decide)) : g118 69 25 = gi112 69 25).trans ((hC112.1 69 25 rfl).1.trans ((by rw [e111]; exact x_up2_off (Or.inl (by decide)) : g111 69 25 = gi78 69 25).trans ((hC78.1 69 25 rfl).1.trans ((hC69.1 69 25 rfl).1.trans ((by rw [e68]; exact x_up2_off (Or.inl (by decide)) : g68 69 25 = gi51 69 25).trans rfl))))))); omega) (by have ha := congrArg Int32.toInt (((congrFun ((funext (fun j => (hC119.1 70 j rfl).1) : gi119 70 = g118 70)) (1403)).trans ((by rw [e118, show (1403 : Nat) = (1403 : Int32).toNatClampNeg from rfl]; exact x_up2_at _ _ _ _ : g118 70 (1403) = z117)))); omega) (fun j h1 h2 h3 => ((congrFun ((funext (fun j => (hC119.1 70 j rfl).1) : gi119 70 = g118 70)) (j)).trans ((by rw [e118]; exact x_up2_off (Or.inr (by have hc : (1403 : Int32).toNatClampNeg = 1403 := rfl; omega)) : g118 70 (j) = gi112 70 (j)).trans ((congrFun ((funext (fun j => (hC112.1 70 j rfl).1) : gi112 70 = g111 70)) (j)).trans ((by rw [e111]; exact x_up2_off (Or.inr (by have hc := t_clamp (i := z110) (by omega); omega)) : g111 70 (j) = gi78 70 (j)).trans ((congrFun ((funext (fun j => (hC78.1 70 j rfl).1) : gi78 70 = gi69 70)) (j)).trans ((congrFun ((funext (fun j => (hC69.1 70 j rfl).1) : gi69 70 = g68 70)) (j)).trans ((by rw [e68]; exact x_up2_off (Or.inr (by have hc := t_clamp (i := z67) (by omega); omega)) : g68 70 (j) = gi51 70 (j))))))))))), (by have hq := (q51.2.2.2 (by omega)); have ff124 : (gi119 69 25).toInt = (gi51 69 25).toInt := congrArg Int32.toInt ((hC119.1 69 25 rfl).1.trans ((by rw [e118]; exact x_up2_off (Or.inl (by decide)) : g118 69 25 = gi112 69 25).trans ((hC112.1 69 25 rfl).1.trans ((by rw [e111]; exact x_up2_off (Or.inl (by decide)) : g111 69 25 = gi78 69 25).trans ((hC78.1 69 25 rfl).1.trans ((hC69.1 69 25 rfl).1.trans ((by rw [e68]; exact x_up2_off (Or.inl (by decide)) : g68 69 25 = gi51 69 25).trans rfl))))))); have ff125 : (gi119 69 24).toInt = (gi51 69 24).toInt := congrArg Int32.toInt ((hC119.1 69 24 rfl).1.trans ((by rw [e118]; exact x_up2_off (Or.inl (by decide)) : g118 69 24 = gi112 69 24).trans ((hC112.1 69 24 rfl).1.trans ((by rw [e111]; exact x_up2_off (Or.inl (by decide)) : g111 69 24 = gi78 69 24).trans ((hC78.1 69 24 rfl).1.trans ((hC69.1 69 24 rfl).1.trans ((by rw [e68]; exact x_up2_off (Or.inl (by decide)) : g68 69 24 = gi51 69 24).trans rfl))))))); have hq2 := hq.2.2; omega)⟩⟩)⟩⟩
            · have l126 : 18 ≤ w78.toInt := t_ltl (t_nle h108) (by decide : (17:Int) ≤ (17:Int32).toInt) rfl
              refine ev_loc f_X12_aRule (nx := 120) rfl rfl rfl rfl ?_
              refine ev_ic f_X12_aRule (nx := 121) (v := 2) rfl (by decide) rfl ?_
              refine ev_inV2 f_X12_aRule (nx := 124) (lo2 := [(0, .ref 69), (1, .int 2)]) rfl rfl rfl rfl f_X12_fails (hI.wf.s rfl) rfl rfl rfl rfl rfl ?_
              refine ev_loc f_X12_fails (nx := 1) rfl rfl rfl rfl ?_
              refine ev_gvI f_X12_fails (nx := 4) (w := (gi69 69 18)) rfl (hI.wf.s rfl) rfl rfl ((hC78.1 69 18 rfl).1.trans rfl) rfl ?_
              refine ev_if f_X12_fails (t1 := 7) (t2 := 32) rfl rfl rfl (fun h127 => ?_) (fun h127 => ?_)
              · have u128 : (gi69 69 18).toInt ≤ 0 := t_equ h127 (by decide : (0:Int32).toInt ≤ (0:Int))
                have l129 : 0 ≤ (gi69 69 18).toInt := t_eql h127 (by decide : (0:Int) ≤ (0:Int32).toInt)
                refine ev_loc f_X12_fails (nx := 8) rfl rfl rfl rfl ?_
                refine ev_loc f_X12_fails (nx := 9) rfl rfl rfl rfl ?_
                refine ev_gvI f_X12_fails (nx := 12) (w := (gi69 69 12)) rfl (hI.wf.s rfl) rfl rfl ((hC78.1 69 12 rfl).1.trans rfl) rfl ?_
                refine ev_ic f_X12_fails (nx := 13) (v := 1) rfl (by decide) rfl ?_
                refine ev_if f_X12_fails (t1 := 16) (t2 := 20) rfl rfl rfl (fun h130 => ?_) (fun h130 => ?_)
                · have u131 : (gi69 69 12).toInt ≤ 1 := t_equ h130 (by decide : (1:Int32).toInt ≤ (1:Int))
                  have l132 : 1 ≤ (gi69 69 12).toInt := t_eql h130 (by decide : (1:Int) ≤ (1:Int32).toInt)
                  refine ev_ic f_X12_fails (nx := 17) (v := 1) rfl (by decide) rfl ?_
                  refine ev_jmp f_X12_fails (nx := 21) rfl rfl rfl ?_
                  refine ev_putIT f_X12_fails (nx := 24) rfl (hI.wf.s rfl) rfl rfl rfl (hI.put0 (hI.wf.s rfl) rfl rfl) (hX.upI rfl) (fun g133 e133 hI hX => ?_)
                  refine ev_loc f_X12_fails (nx := 25) rfl rfl rfl rfl ?_
                  refine ev_loc f_X12_fails (nx := 26) rfl rfl rfl rfl ?_
                  refine ev_getI f_X12_fails (nx := 29) rfl (hI.wf.s rfl) rfl rfl rfl ?_
                  obtain ⟨l134, u134⟩ := hI.b (hI.wf.s (k := 69) rfl) (t_bdK rfl : t_bd 11 13 = some (0, 900))
                  refine ev_putIT f_X12_fails (nx := 32) rfl (hI.wf.s rfl) rfl rfl rfl (hI.put0 (hI.wf.s rfl) rfl rfl) (hX.upI rfl) (fun g135 e135 hI hX => ?_)
                  refine ev_ic f_X12_fails (nx := 33) (v := 0) rfl (by decide) rfl ?_
                  refine ev_retK1 f_X12_fails rfl rfl rfl ?_
                  exact ev_ret f_X12_aRule rfl rfl rfl ⟨_, _, _, rfl, hI, hX, ⟨_, rfl, (by decide : (0:Int) ≤ (0:Int32).toInt), (Int.le_trans (by decide : (0:Int32).toInt ≤ (0:Int)) (by decide : (0:Int) ≤ 1)), (show (gi 69 14).toInt ≤ (g135 69 14).toInt ∧ (0 = 1 → (g135 69 12).toInt ≠ 0 → (gi 69 14).toInt < (g135 69 14).toInt) ∧ (0 = 0 → (g135 69 18).toInt ≠ 0) ∧ (0 = 1 → (t_R4 (g135 70) (g135 69 25).toInt ∧ (g135 69 25).toInt ≤ 8 * (g135 69 24).toInt)) from ⟨(by have ff136 : (g135 69 14).toInt = (gi69 69 14).toInt := congrArg Int32.toInt ((by rw [e135]; exact x_up2_off (Or.inr (by decide)) : g135 69 14 = g133 69 14).trans ((by rw [e133]; exact x_up2_off (Or.inr (by decide)) : g133 69 14 = gi78 69 14).trans ((hC78.1 69 14 rfl).1.trans rfl))); omega), (by have ff137 : (g135 69 12).toInt = (gi69 69 12).toInt := congrArg Int32.toInt ((by rw [e135]; exact x_up2_off (Or.inr (by decide)) : g135 69 12 = g133 69 12).trans ((by rw [e133]; exact x_up2_off (Or.inr (by decide)) : g133 69 12 = gi78 69 12).trans ((hC78.1 69 12 rfl).1.trans rfl))); have ff138 : (g135 69 14).toInt = (gi69 69 14).toInt := congrArg Int32.toInt ((by rw [e135]; exact x_up2_off (Or.inr (by decide)) : g135 69 14 = g133 69 14).trans ((by rw [e133]; exact x_up2_off (Or.inr (by decide)) : g133 69 14 = gi78 69 14).trans ((hC78.1 69 14 rfl).1.trans rfl))); omega), (by have ff139 : (g135 69 18).toInt = 1 := (congrArg Int32.toInt ((by rw [e135]; exact x_up2_off (Or.inr (by decide)) : g135 69 18 = g133 69 18).trans (by rw [e133]; exact x_up2_at _ _ _ _ : g133 69 18 = 1))).trans (by decide); omega), fun h => absurd h (by decide)⟩)⟩⟩
                · have r140 : (gi69 69 12).toInt ≠ 1 := fun e => h130 (Int32.toInt_inj.mp (e.trans (by decide : (1:Int) = (1 : Int32).toInt)))
                  refine ev_loc f_X12_fails (nx := 21) rfl rfl rfl rfl ?_
                  refine ev_putIT f_X12_fails (nx := 24) rfl (hI.wf.s rfl) rfl rfl rfl (hI.put0 (hI.wf.s rfl) rfl rfl) (hX.upI rfl) (fun g141 e141 hI hX => ?_)
                  refine ev_loc f_X12_fails (nx := 25) rfl rfl rfl rfl ?_
                  refine ev_loc f_X12_fails (nx := 26) rfl rfl rfl rfl ?_
                  refine ev_getI f_X12_fails (nx := 29) rfl (hI.wf.s rfl) rfl rfl rfl ?_
                  obtain ⟨l142, u142⟩ := hI.b (hI.wf.s (k := 69) rfl) (t_bdK rfl : t_bd 11 13 = some (0, 900))
                  refine ev_putIT f_X12_fails (nx := 32) rfl (hI.wf.s rfl) rfl rfl rfl (hI.put0 (hI.wf.s rfl) rfl rfl) (hX.upI rfl) (fun g143 e143 hI hX => ?_)
                  refine ev_ic f_X12_fails (nx := 33) (v := 0) rfl (by decide) rfl ?_
                  refine ev_retK1 f_X12_fails rfl rfl rfl ?_
                  exact ev_ret f_X12_aRule rfl rfl rfl ⟨_, _, _, rfl, hI, hX, ⟨_, rfl, (by decide : (0:Int) ≤ (0:Int32).toInt), (Int.le_trans (by decide : (0:Int32).toInt ≤ (0:Int)) (by decide : (0:Int) ≤ 1)), (show (gi 69 14).toInt ≤ (g143 69 14).toInt ∧ (0 = 1 → (g143 69 12).toInt ≠ 0 → (gi 69 14).toInt < (g143 69 14).toInt) ∧ (0 = 0 → (g143 69 18).toInt ≠ 0) ∧ (0 = 1 → (t_R4 (g143 70) (g143 69 25).toInt ∧ (g143 69 25).toInt ≤ 8 * (g143 69 24).toInt)) from ⟨(by have ff144 : (g143 69 14).toInt = (gi69 69 14).toInt := congrArg Int32.toInt ((by rw [e143]; exact x_up2_off (Or.inr (by decide)) : g143 69 14 = g141 69 14).trans ((by rw [e141]; exact x_up2_off (Or.inr (by decide)) : g141 69 14 = gi78 69 14).trans ((hC78.1 69 14 rfl).1.trans rfl))); omega), (by have ff145 : (g143 69 12).toInt = (gi69 69 12).toInt := congrArg Int32.toInt ((by rw [e143]; exact x_up2_off (Or.inr (by decide)) : g143 69 12 = g141 69 12).trans ((by rw [e141]; exact x_up2_off (Or.inr (by decide)) : g141 69 12 = gi78 69 12).trans ((hC78.1 69 12 rfl).1.trans rfl))); have ff146 : (g143 69 14).toInt = (gi69 69 14).toInt := congrArg Int32.toInt ((by rw [e143]; exact x_up2_off (Or.inr (by decide)) : g143 69 14 = g141 69 14).trans ((by rw [e141]; exact x_up2_off (Or.inr (by decide)) : g141 69 14 = gi78 69 14).trans ((hC78.1 69 14 rfl).1.trans rfl))); omega), (by have ff147 : (g143 69 18).toInt = 2 := (congrArg Int32.toInt ((by rw [e143]; exact x_up2_off (Or.inr (by decide)) : g143 69 18 = g141 69 18).trans (by rw [e141]; exact x_up2_at _ _ _ _ : g141 69 18 = 2))).trans (by decide); omega), fun h => absurd h (by decide)⟩)⟩⟩
              · have r148 : (gi69 69 18).toInt ≠ 0 := fun e => h127 (Int32.toInt_inj.mp (e.trans (by decide : (0:Int) = (0 : Int32).toInt)))
                refine ev_ic f_X12_fails (nx := 33) (v := 0) rfl (by decide) rfl ?_
                refine ev_retK1 f_X12_fails rfl rfl rfl ?_
                exact ev_ret f_X12_aRule rfl rfl rfl ⟨_, _, _, rfl, hI, hX, ⟨_, rfl, (by decide : (0:Int) ≤ (0:Int32).toInt), (Int.le_trans (by decide : (0:Int32).toInt ≤ (0:Int)) (by decide : (0:Int) ≤ 1)), (show (gi 69 14).toInt ≤ (gi78 69 14).toInt ∧ (0 = 1 → (gi78 69 12).toInt ≠ 0 → (gi 69 14).toInt < (gi78 69 14).toInt) ∧ (0 = 0 → (gi78 69 18).toInt ≠ 0) ∧ (0 = 1 → (t_R4 (gi78 70) (gi78 69 25).toInt ∧ (gi78 69 25).toInt ≤ 8 * (gi78 69 24).toInt)) from ⟨(by have ff149 : (gi78 69 14).toInt = (gi69 69 14).toInt := congrArg Int32.toInt ((hC78.1 69 14 rfl).1.trans rfl); omega), (by have ff150 : (gi78 69 12).toInt = (gi69 69 12).toInt := congrArg Int32.toInt ((hC78.1 69 12 rfl).1.trans rfl); have ff151 : (gi78 69 14).toInt = (gi69 69 14).toInt := congrArg Int32.toInt ((hC78.1 69 14 rfl).1.trans rfl); omega), (by have ff152 : (gi78 69 18).toInt = (gi69 69 18).toInt := congrArg Int32.toInt ((hC78.1 69 18 rfl).1.trans rfl); omega), fun h => absurd h (by decide)⟩)⟩⟩
  · have r153 : w11.toInt ≠ 13 := fun e => h12 (Int32.toInt_inj.mp (e.trans (by decide : (13:Int) = (13 : Int32).toInt)))
    refine ev_loc f_X12_aRule (nx := 27) rfl rfl rfl rfl ?_
    refine ev_ic f_X12_aRule (nx := 28) (v := 2) rfl (by decide) rfl ?_
    refine ev_inV2 f_X12_aRule (nx := 31) (lo2 := [(0, .ref 69), (1, .int 2)]) rfl rfl rfl rfl f_X12_fails (hI.wf.s rfl) rfl rfl rfl rfl rfl ?_
    refine ev_loc f_X12_fails (nx := 1) rfl rfl rfl rfl ?_
    refine ev_gvI f_X12_fails (nx := 4) (w := (gi 69 18)) rfl (hI.wf.s rfl) rfl rfl ((hC11.1 69 18 rfl).1.trans rfl) rfl ?_
    refine ev_if f_X12_fails (t1 := 7) (t2 := 32) rfl rfl rfl (fun h154 => ?_) (fun h154 => ?_)
    · have u155 : (gi 69 18).toInt ≤ 0 := t_equ h154 (by decide : (0:Int32).toInt ≤ (0:Int))
      have l156 : 0 ≤ (gi 69 18).toInt := t_eql h154 (by decide : (0:Int) ≤ (0:Int32).toInt)
      refine ev_loc f_X12_fails (nx := 8) rfl rfl rfl rfl ?_
      refine ev_loc f_X12_fails (nx := 9) rfl rfl rfl rfl ?_
      refine ev_gvI f_X12_fails (nx := 12) (w := (gi 69 12)) rfl (hI.wf.s rfl) rfl rfl ((hC11.1 69 12 rfl).1.trans rfl) rfl ?_
      refine ev_ic f_X12_fails (nx := 13) (v := 1) rfl (by decide) rfl ?_
      refine ev_if f_X12_fails (t1 := 16) (t2 := 20) rfl rfl rfl (fun h157 => ?_) (fun h157 => ?_)
      · have u158 : (gi 69 12).toInt ≤ 1 := t_equ h157 (by decide : (1:Int32).toInt ≤ (1:Int))
        have l159 : 1 ≤ (gi 69 12).toInt := t_eql h157 (by decide : (1:Int) ≤ (1:Int32).toInt)
        refine ev_ic f_X12_fails (nx := 17) (v := 1) rfl (by decide) rfl ?_
        refine ev_jmp f_X12_fails (nx := 21) rfl rfl rfl ?_
        refine ev_putIT f_X12_fails (nx := 24) rfl (hI.wf.s rfl) rfl rfl rfl (hI.put0 (hI.wf.s rfl) rfl rfl) (hX.upI rfl) (fun g160 e160 hI hX => ?_)
        refine ev_loc f_X12_fails (nx := 25) rfl rfl rfl rfl ?_
        refine ev_loc f_X12_fails (nx := 26) rfl rfl rfl rfl ?_
        refine ev_getI f_X12_fails (nx := 29) rfl (hI.wf.s rfl) rfl rfl rfl ?_
        obtain ⟨l161, u161⟩ := hI.b (hI.wf.s (k := 69) rfl) (t_bdK rfl : t_bd 11 13 = some (0, 900))
        refine ev_putIT f_X12_fails (nx := 32) rfl (hI.wf.s rfl) rfl rfl rfl (hI.put0 (hI.wf.s rfl) rfl rfl) (hX.upI rfl) (fun g162 e162 hI hX => ?_)
        refine ev_ic f_X12_fails (nx := 33) (v := 0) rfl (by decide) rfl ?_
        refine ev_retK1 f_X12_fails rfl rfl rfl ?_
        exact ev_ret f_X12_aRule rfl rfl rfl ⟨_, _, _, rfl, hI, hX, ⟨_, rfl, (by decide : (0:Int) ≤ (0:Int32).toInt), (Int.le_trans (by decide : (0:Int32).toInt ≤ (0:Int)) (by decide : (0:Int) ≤ 1)), (show (gi 69 14).toInt ≤ (g162 69 14).toInt ∧ (0 = 1 → (g162 69 12).toInt ≠ 0 → (gi 69 14).toInt < (g162 69 14).toInt) ∧ (0 = 0 → (g162 69 18).toInt ≠ 0) ∧ (0 = 1 → (t_R4 (g162 70) (g162 69 25).toInt ∧ (g162 69 25).toInt ≤ 8 * (g162 69 24).toInt)) from ⟨(by have ff163 : (g162 69 14).toInt = (gi 69 14).toInt := congrArg Int32.toInt ((by rw [e162]; exact x_up2_off (Or.inr (by decide)) : g162 69 14 = g160 69 14).trans ((by rw [e160]; exact x_up2_off (Or.inr (by decide)) : g160 69 14 = gi11 69 14).trans ((hC11.1 69 14 rfl).1.trans rfl))); omega), (by have ff164 : (g162 69 12).toInt = (gi 69 12).toInt := congrArg Int32.toInt ((by rw [e162]; exact x_up2_off (Or.inr (by decide)) : g162 69 12 = g160 69 12).trans ((by rw [e160]; exact x_up2_off (Or.inr (by decide)) : g160 69 12 = gi11 69 12).trans ((hC11.1 69 12 rfl).1.trans rfl))); have ff165 : (g162 69 14).toInt = (gi 69 14).toInt := congrArg Int32.toInt ((by rw [e162]; exact x_up2_off (Or.inr (by decide)) : g162 69 14 = g160 69 14).trans ((by rw [e160]; exact x_up2_off (Or.inr (by decide)) : g160 69 14 = gi11 69 14).trans ((hC11.1 69 14 rfl).1.trans rfl))); omega), (by have ff166 : (g162 69 18).toInt = 1 := (congrArg Int32.toInt ((by rw [e162]; exact x_up2_off (Or.inr (by decide)) : g162 69 18 = g160 69 18).trans (by rw [e160]; exact x_up2_at _ _ _ _ : g160 69 18 = 1))).trans (by decide); omega), fun h => absurd h (by decide)⟩)⟩⟩
      · have r167 : (gi 69 12).toInt ≠ 1 := fun e => h157 (Int32.toInt_inj.mp (e.trans (by decide : (1:Int) = (1 : Int32).toInt)))
        refine ev_loc f_X12_fails (nx := 21) rfl rfl rfl rfl ?_
        refine ev_putIT f_X12_fails (nx := 24) rfl (hI.wf.s rfl) rfl rfl rfl (hI.put0 (hI.wf.s rfl) rfl rfl) (hX.upI rfl) (fun g168 e168 hI hX => ?_)
        refine ev_loc f_X12_fails (nx := 25) rfl rfl rfl rfl ?_
        refine ev_loc f_X12_fails (nx := 26) rfl rfl rfl rfl ?_
        refine ev_getI f_X12_fails (nx := 29) rfl (hI.wf.s rfl) rfl rfl rfl ?_
        obtain ⟨l169, u169⟩ := hI.b (hI.wf.s (k := 69) rfl) (t_bdK rfl : t_bd 11 13 = some (0, 900))
        refine ev_putIT f_X12_fails (nx := 32) rfl (hI.wf.s rfl) rfl rfl rfl (hI.put0 (hI.wf.s rfl) rfl rfl) (hX.upI rfl) (fun g170 e170 hI hX => ?_)
        refine ev_ic f_X12_fails (nx := 33) (v := 0) rfl (by decide) rfl ?_
        refine ev_retK1 f_X12_fails rfl rfl rfl ?_
        exact ev_ret f_X12_aRule rfl rfl rfl ⟨_, _, _, rfl, hI, hX, ⟨_, rfl, (by decide : (0:Int) ≤ (0:Int32).toInt), (Int.le_trans (by decide : (0:Int32).toInt ≤ (0:Int)) (by decide : (0:Int) ≤ 1)), (show (gi 69 14).toInt ≤ (g170 69 14).toInt ∧ (0 = 1 → (g170 69 12).toInt ≠ 0 → (gi 69 14).toInt < (g170 69 14).toInt) ∧ (0 = 0 → (g170 69 18).toInt ≠ 0) ∧ (0 = 1 → (t_R4 (g170 70) (g170 69 25).toInt ∧ (g170 69 25).toInt ≤ 8 * (g170 69 24).toInt)) from ⟨(by have ff171 : (g170 69 14).toInt = (gi 69 14).toInt := congrArg Int32.toInt ((by rw [e170]; exact x_up2_off (Or.inr (by decide)) : g170 69 14 = g168 69 14).trans ((by rw [e168]; exact x_up2_off (Or.inr (by decide)) : g168 69 14 = gi11 69 14).trans ((hC11.1 69 14 rfl).1.trans rfl))); omega), (by have ff172 : (g170 69 12).toInt = (gi 69 12).toInt := congrArg Int32.toInt ((by rw [e170]; exact x_up2_off (Or.inr (by decide)) : g170 69 12 = g168 69 12).trans ((by rw [e168]; exact x_up2_off (Or.inr (by decide)) : g168 69 12 = gi11 69 12).trans ((hC11.1 69 12 rfl).1.trans rfl))); have ff173 : (g170 69 14).toInt = (gi 69 14).toInt := congrArg Int32.toInt ((by rw [e170]; exact x_up2_off (Or.inr (by decide)) : g170 69 14 = g168 69 14).trans ((by rw [e168]; exact x_up2_off (Or.inr (by decide)) : g168 69 14 = gi11 69 14).trans ((hC11.1 69 14 rfl).1.trans rfl))); omega), (by have ff174 : (g170 69 18).toInt = 2 := (congrArg Int32.toInt ((by rw [e170]; exact x_up2_off (Or.inr (by decide)) : g170 69 18 = g168 69 18).trans (by rw [e168]; exact x_up2_at _ _ _ _ : g168 69 18 = 2))).trans (by decide); omega), fun h => absurd h (by decide)⟩)⟩⟩
    · have r175 : (gi 69 18).toInt ≠ 0 := fun e => h154 (Int32.toInt_inj.mp (e.trans (by decide : (0:Int) = (0 : Int32).toInt)))
      refine ev_ic f_X12_fails (nx := 33) (v := 0) rfl (by decide) rfl ?_
      refine ev_retK1 f_X12_fails rfl rfl rfl ?_
      exact ev_ret f_X12_aRule rfl rfl rfl ⟨_, _, _, rfl, hI, hX, ⟨_, rfl, (by decide : (0:Int) ≤ (0:Int32).toInt), (Int.le_trans (by decide : (0:Int32).toInt ≤ (0:Int)) (by decide : (0:Int) ≤ 1)), (show (gi 69 14).toInt ≤ (gi11 69 14).toInt ∧ (0 = 1 → (gi11 69 12).toInt ≠ 0 → (gi 69 14).toInt < (gi11 69 14).toInt) ∧ (0 = 0 → (gi11 69 18).toInt ≠ 0) ∧ (0 = 1 → (t_R4 (gi11 70) (gi11 69 25).toInt ∧ (gi11 69 25).toInt ≤ 8 * (gi11 69 24).toInt)) from ⟨(by have ff176 : (gi11 69 14).toInt = (gi 69 14).toInt := congrArg Int32.toInt ((hC11.1 69 14 rfl).1.trans rfl); omega), (by have ff177 : (gi11 69 12).toInt = (gi 69 12).toInt := congrArg Int32.toInt ((hC11.1 69 12 rfl).1.trans rfl); have ff178 : (gi11 69 14).toInt = (gi 69 14).toInt := congrArg Int32.toInt ((hC11.1 69 14 rfl).1.trans rfl); omega), (by have ff179 : (gi11 69 18).toInt = (gi 69 18).toInt := congrArg Int32.toInt ((hC11.1 69 18 rfl).1.trans rfl); omega), fun h => absurd h (by decide)⟩)⟩⟩
noncomputable def wl_m_rules : List (Nat × Nat) := [(69, 2), (69, 10), (69, 11), (69, 12), (69, 13), (69, 14), (69, 15), (69, 16), (69, 17), (69, 18), (69, 19), (69, 22), (69, 23), (69, 24), (69, 25), (70, 310003), (70, 810008), (70, 10010349), (70, 140311403), (70, 150011536), (70, 150111537), (70, 150211538), (70, 154011750), (76, 9999), (77, 9999)]
noncomputable def Q_m_rules (gi : Nat → Nat → Int32) (gl : Nat → Nat → Int64) (gr : Nat → Nat → Value) (J0 : Nat) (ar1 : Int32) : Int32 → (Nat → Nat → Int32) → (Nat → Nat → Int64) → (Nat → Nat → Value) → Prop := fun (v : Int32) (gi2 : Nat → Nat → Int32) (gl2 : Nat → Nat → Int64) (gr2 : Nat → Nat → Value) => ((0 ≤ ar1.toInt ∧ ar1.toInt ≤ (gi 69 10).toInt ∧ ar1.toInt ≤ 300) → (gi2 69 10).toInt = 0) ∧ (¬ (0 ≤ ar1.toInt ∧ ar1.toInt ≤ (gi 69 10).toInt ∧ ar1.toInt ≤ 300) → (gi2 69 10).toInt = (gi 69 10).toInt) ∧ (((gi2 70 J0) = (gi 70 J0)) ∨ (t_rpn (gi2 70) 0 ∧ (gi2 70 4) = (gi 70 4)))
set_option maxHeartbeats 40000000 in
theorem c_m_rules {X : x_Ext} {d : Nat} {sh : List (Nat ⊕ (Nat × Nat))} {gi : Nat → Nat → Int32} {gl : Nat → Nat → Int64} {gr : Nat → Nat → Value} (hI : t_I sh gi gr) (J0 : Nat) (b_J0l : 0 ≤ J0) (b_J0u : J0 < 350) (ar1 : Int32) : x_Me X (d + 9) n_X12_rules [.ref 69, .int ar1] (sh, gi, gl, gr) (t_PI wl_m_rules sh gi gl gr (-1) 12 (Q_m_rules gi gl gr J0 ar1)) := by
  have hX : t_X wl_m_rules sh gi gl gr gi gl gr := t_X.rf
  refine me_i f_X12_rules (hI.wf.s rfl) rfl rfl rfl ?_
  obtain ⟨l1, u1⟩ := hI.b (hI.wf.s (k := 69) rfl) (t_bdK rfl : t_bd 11 10 = some (0, 900))
  obtain ⟨l2, u2⟩ := hI.b (hI.wf.s (k := 69) rfl) (t_bdK rfl : t_bd 11 12 = some (0, 4))
  obtain ⟨l3, u3⟩ := hI.b (hI.wf.s (k := 69) rfl) (t_bdK rfl : t_bd 11 14 = some (0, 900))
  obtain ⟨l5, u5⟩ := hI.b (hI.wf.s (k := 69) rfl) (t_bdK rfl : t_bd 11 24 = some (0, 24))
  obtain ⟨l6, u6⟩ := hI.b (hI.wf.s (k := 69) rfl) (t_bdK rfl : t_bd 11 25 = some (0, 210))
  obtain ⟨l7, u7⟩ := hI.ab (by decide +kernel : t_abr 70 4 4 0 20 = true) (Nat.le_refl _) (Nat.le_refl _)
  obtain ⟨l8, u8⟩ := hI.ab (by decide +kernel : t_abr 70 1403 1403 0 12 = true) (Nat.le_refl _) (Nat.le_refl _)
  refine ev_loc f_X12_rules (nx := 1) rfl rfl rfl rfl ?_
  refine ev_loc f_X12_rules (nx := 2) rfl rfl rfl rfl ?_
  refine ev_sp f_X12_rules (nx := 5) (v := 300) rfl (by decide) rfl ?_
  refine ev_qI f_X12_rules (nx := 8) (r := []) rfl rfl rfl rfl rfl rfl rfl (c_m_begins hI (ar1) (300)) rfl hX rfl (fun w9 gi9 gl9 gr9 l9 u9 hI hX hC9 q9 => ?_)
  have q9 : (w9.toInt = 1 → (0 ≤ ar1.toInt ∧ ar1.toInt ≤ (gi 69 10).toInt ∧ ar1.toInt ≤ 300) ∧ (gi9 69 10).toInt = 0) ∧ (w9.toInt = 0 → ¬ (0 ≤ ar1.toInt ∧ ar1.toInt ≤ (gi 69 10).toInt ∧ ar1.toInt ≤ 300) ∧ (gi9 69 10).toInt = (gi 69 10).toInt) := q9
  obtain ⟨l10, u10⟩ := hI.b (hI.wf.s (k := 69) rfl) (t_bdK rfl : t_bd 11 10 = some (0, 900))
  obtain ⟨l11, u11⟩ := hI.b (hI.wf.s (k := 69) rfl) (t_bdK rfl : t_bd 11 12 = some (0, 4))
  obtain ⟨l12, u12⟩ := hI.b (hI.wf.s (k := 69) rfl) (t_bdK rfl : t_bd 11 14 = some (0, 900))
  refine ev_if f_X12_rules (t1 := 11) (t2 := 17) rfl rfl rfl (fun h14 => ?_) (fun h14 => ?_)
  · have u15 : w9.toInt ≤ 0 := t_equ h14 (by decide : (0:Int32).toInt ≤ (0:Int))
    refine ev_loc f_X12_rules (nx := 12) rfl rfl rfl rfl ?_
    refine ev_ic f_X12_rules (nx := 13) (v := 1) rfl (by decide) rfl ?_
    refine ev_inV2 f_X12_rules (nx := 16) (lo2 := [(0, .ref 69), (1, .int 1)]) rfl rfl rfl rfl f_X12_refuse (hI.wf.s rfl) rfl rfl rfl rfl rfl ?_
    refine ev_loc f_X12_refuse (nx := 1) rfl rfl rfl rfl ?_
    refine ev_loc f_X12_refuse (nx := 2) rfl rfl rfl rfl ?_
    refine ev_putIT f_X12_refuse (nx := 5) rfl (hI.wf.s rfl) rfl rfl rfl (hI.put0 (hI.wf.s rfl) rfl rfl) (hX.upI rfl) (fun g16 e16 hI hX => ?_)
    refine ev_ic f_X12_refuse (nx := 6) (v := -1) rfl (by decide) rfl ?_
    refine ev_retK1 f_X12_refuse rfl rfl rfl ?_
    exact ev_ret f_X12_rules rfl rfl rfl ⟨_, _, _, rfl, hI, hX, ⟨_, rfl, (by decide : ((-1):Int) ≤ ((-1):Int32).toInt), (Int.le_trans (by decide : ((-1):Int32).toInt ≤ ((-1):Int)) (by decide : ((-1):Int) ≤ 12)), (show ((0 ≤ ar1.toInt ∧ ar1.toInt ≤ (gi 69 10).toInt ∧ ar1.toInt ≤ 300) → (g16 69 10).toInt = 0) ∧ (¬ (0 ≤ ar1.toInt ∧ ar1.toInt ≤ (gi 69 10).toInt ∧ ar1.toInt ≤ 300) → (g16 69 10).toInt = (gi 69 10).toInt) ∧ (((g16 70 J0) = (gi 70 J0)) ∨ (t_rpn (g16 70) 0 ∧ (g16 70 4) = (gi 70 4))) from ⟨(by have ff17 : (g16 69 10).toInt = (gi9 69 10).toInt := congrArg Int32.toInt ((by rw [e16]; exact x_up2_off (Or.inr (by decide)) : g16 69 10 = gi9 69 10).trans rfl); omega), (by have ff18 : (g16 69 10).toInt = (gi9 69 10).toInt := congrArg Int32.toInt ((by rw [e16]; exact x_up2_off (Or.inr (by decide)) : g16 69 10 = gi9 69 10).trans rfl); omega), Or.inl ((by rw [e16]; exact x_up2_off (Or.inl (by decide)) : g16 70 J0 = gi9 70 J0).trans ((hC9.1 70 J0 (t_nG (lo := 0) (hi := 350) rfl (by omega) (by omega))).1.trans rfl))⟩)⟩⟩
  · have r19 : w9.toInt ≠ 0 := fun e => h14 (Int32.toInt_inj.mp (e.trans (by decide : (0:Int) = (0 : Int32).toInt)))
    have l20 : 1 ≤ w9.toInt := t_nel h14 l9 rfl rfl
    refine ev_loc f_X12_rules (nx := 18) rfl rfl rfl rfl ?_
    refine ev_getR f_X12_rules (nx := 21) rfl (hI.wf.s rfl) rfl rfl (hI.wf.r rfl) rfl rfl ?_
    refine ev_sp f_X12_rules (nx := 24) (v := 1403) rfl (by decide) rfl ?_
    refine ev_ic f_X12_rules (nx := 25) (v := 0) rfl (by decide) rfl ?_
    refine ev_iastT f_X12_rules (nx := 26) rfl (hI.wf.s rfl) (by decide : (1403:Int) ≤ (1403:Int32).toInt) (by decide) (by decide : (1403:Int32).toInt ≤ (1403:Int)) (by decide) rfl (hI.astL (hI.wf.s rfl) (by decide +kernel : t_abw 70 1403 1403 0 0 = true) (t_cl1 (by decide : (1403:Int) ≤ (1403:Int32).toInt) (by decide)) (t_cl2 (by decide : (1403:Int) ≤ (1403:Int32).toInt) (by decide : (1403:Int32).toInt ≤ (1403:Int)) (by decide) (by decide)) (by decide : (0:Int) ≤ (0:Int32).toInt) (by decide : (0:Int32).toInt ≤ (0:Int)) rfl) (hX.upI (t_inR (p := 1403) (m := 1403) rfl (by decide : (1403:Int) ≤ (1403:Int32).toInt) (by decide) (by decide : (1403:Int32).toInt ≤ (1403:Int)) (by decide) (by decide))) (fun g21 e21 hI hX => ?_)
    refine ev_loc f_X12_rules (nx := 27) rfl rfl rfl rfl ?_
    refine ev_ic f_X12_rules (nx := 28) (v := 0) rfl (by decide) rfl ?_
    refine ev_putIT f_X12_rules (nx := 31) rfl (hI.wf.s rfl) rfl rfl rfl (hI.putB (hI.wf.s rfl) rfl rfl (by decide : (0:Int) ≤ (0:Int32).toInt) (by decide) (by decide : (0:Int32).toInt ≤ (0:Int)) (by decide)) (hX.upI rfl) (fun g22 e22 hI hX => ?_)
    refine ev_loc f_X12_rules (nx := 32) rfl rfl rfl rfl ?_
    refine ev_ic f_X12_rules (nx := 33) (v := 0) rfl (by decide) rfl ?_
    refine ev_putIT f_X12_rules (nx := 36) rfl (hI.wf.s rfl) rfl rfl rfl (hI.putB (hI.wf.s rfl) rfl rfl (by decide : (0:Int) ≤ (0:Int32).toInt) (by decide) (by decide : (0:Int32).toInt ≤ (0:Int)) (by decide)) (hX.upI rfl) (fun g23 e23 hI hX => ?_)
    refine ev_ic f_X12_rules (nx := 37) (v := 1) rfl (by decide) rfl ?_
    refine ev_loc f_X12_rules (nx := 38) (lo' := [(2, .int 1), (0, .ref 69), (1, .int ar1)]) rfl rfl rfl rfl ?_
    have L24 : ∀ (m24 : Nat) (gi24 : Nat → Nat → Int32) (gl24 : Nat → Nat → Int64) (gr24 : Nat → Nat → Value) (y24_2 : Int32), t_I sh gi24 gr24 → t_X wl_m_rules sh gi gl gr gi24 gl24 gr24 → 0 ≤ y24_2.toInt → y24_2.toInt ≤ 1 → gi24 69 10 = (gi9 69 10) → gi24 70 J0 = (gi 70 J0) → gi24 70 4 = (gi 70 4) → (y24_2.toInt = 1 → (t_R4 (gi24 70) (gi24 69 25).toInt ∧ (gi24 69 25).toInt ≤ 8 * (gi24 69 24).toInt)) → (y24_2.toInt = 0 → (gi24 69 18).toInt ≠ 0) → (4 * (900 - (gi24 69 14).toInt) + 2 * min (gi24 69 12).toInt 1 + y24_2.toInt).toNat = m24 → x_Ev X (d + 9) n_X12_rules 38 [(2, .int y24_2), (0, .ref 69), (1, .int ar1)] [] (sh, gi24, gl24, gr24) (t_PI wl_m_rules sh gi gl gr (-1) 12 (Q_m_rules gi gl gr J0 ar1)) := by
      intro m24
      induction m24 using Nat.strongRecOn with
      | _ m24 ih24 =>
      intro gi24 gl24 gr24 y24_2 hI hX l24_2 u24_2 c24_0 c24_1 c24_2 j24_0 j24_1 hm24
      have cf24_0 : (gi24 69 10).toInt = (gi9 69 10).toInt := congrArg Int32.toInt c24_0
      have cf24_2 : (gi24 70 4).toInt = (gi 70 4).toInt := congrArg Int32.toInt c24_2
      obtain ⟨l25, u25⟩ := hI.b (hI.wf.s (k := 69) rfl) (t_bdK rfl : t_bd 11 12 = some (0, 4))
      obtain ⟨l26, u26⟩ := hI.b (hI.wf.s (k := 69) rfl) (t_bdK rfl : t_bd 11 14 = some (0, 900))
      obtain ⟨l28, u28⟩ := hI.b (hI.wf.s (k := 69) rfl) (t_bdK rfl : t_bd 11 24 = some (0, 24))
      obtain ⟨l29, u29⟩ := hI.b (hI.wf.s (k := 69) rfl) (t_bdK rfl : t_bd 11 25 = some (0, 210))
      obtain ⟨l30, u30⟩ := hI.ab (by decide +kernel : t_abr 70 1403 1403 0 12 = true) (Nat.le_refl _) (Nat.le_refl _)
      refine ev_loc f_X12_rules (nx := 39) rfl rfl rfl rfl ?_
      refine ev_if f_X12_rules (t1 := 57) (t2 := 42) rfl rfl rfl (fun h31 => ?_) (fun h31 => ?_)
      · have u32 : y24_2.toInt ≤ 0 := t_equ h31 (by decide : (0:Int32).toInt ≤ (0:Int))
        refine ev_loc f_X12_rules (nx := 58) rfl rfl rfl rfl ?_
        refine ev_gvI f_X12_rules (nx := 61) (w := (gi24 69 18)) rfl (hI.wf.s rfl) rfl rfl rfl rfl ?_
        refine ev_if f_X12_rules (t1 := 64) (t2 := 118) rfl rfl rfl (fun h33 => ?_) (fun h33 => ?_)
        · have u34 : (gi24 69 18).toInt ≤ 0 := t_equ h33 (by decide : (0:Int32).toInt ≤ (0:Int))
          have l35 : 0 ≤ (gi24 69 18).toInt := t_eql h33 (by decide : (0:Int) ≤ (0:Int32).toInt)
          refine ev_loc f_X12_rules (nx := 65) rfl rfl rfl rfl ?_
          refine ev_getR f_X12_rules (nx := 68) rfl (hI.wf.s rfl) rfl rfl (hI.wf.r rfl) rfl rfl ?_
          refine ev_ic f_X12_rules (nx := 69) (v := 3) rfl (by decide) rfl ?_
          refine ev_loc f_X12_rules (nx := 70) rfl rfl rfl rfl ?_
          refine ev_getR f_X12_rules (nx := 73) rfl (hI.wf.s rfl) rfl rfl (hI.wf.r rfl) rfl rfl ?_
          refine ev_sp f_X12_rules (nx := 76) (v := 1403) rfl (by decide) rfl ?_
          refine ev_ialdv f_X12_rules (nx := 77) (w := (gi24 70 1403)) rfl (hI.wf.s rfl) (by decide) (rfl : (1403 : Int32).toNatClampNeg = 1403) (by decide) rfl rfl ?_
          refine ev_iastT f_X12_rules (nx := 78) rfl (hI.wf.s rfl) (by decide : (3:Int) ≤ (3:Int32).toInt) (by decide) (by decide : (3:Int32).toInt ≤ (3:Int)) (by decide) rfl (hI.astL (hI.wf.s rfl) (by decide +kernel : t_abw 70 3 3 0 12 = true) (t_cl1 (by decide : (3:Int) ≤ (3:Int32).toInt) (by decide)) (t_cl2 (by decide : (3:Int) ≤ (3:Int32).toInt) (by decide : (3:Int32).toInt ≤ (3:Int)) (by decide) (by decide)) l30 u30 rfl) (hX.upI (t_inR (p := 3) (m := 3) rfl (by decide : (3:Int) ≤ (3:Int32).toInt) (by decide) (by decide : (3:Int32).toInt ≤ (3:Int)) (by decide) (by decide))) (fun g37 e37 hI hX => ?_)
          refine ev_loc f_X12_rules (nx := 79) rfl rfl rfl rfl ?_
          refine ev_getR f_X12_rules (nx := 82) rfl (hI.wf.s rfl) rfl rfl (hI.wf.r rfl) rfl rfl ?_
          refine ev_bp f_X12_rules (nx := 84) (v := 8) rfl (by decide) rfl ?_
          refine ev_ic f_X12_rules (nx := 85) (v := 1) rfl (by decide) rfl ?_
          refine ev_iastT f_X12_rules (nx := 86) rfl (hI.wf.s rfl) (by decide : (8:Int) ≤ (8:Int32).toInt) (by decide) (by decide : (8:Int32).toInt ≤ (8:Int)) (by decide) rfl (hI.astL (hI.wf.s rfl) (by decide +kernel : t_abw 70 8 8 1 1 = true) (t_cl1 (by decide : (8:Int) ≤ (8:Int32).toInt) (by decide)) (t_cl2 (by decide : (8:Int) ≤ (8:Int32).toInt) (by decide : (8:Int32).toInt ≤ (8:Int)) (by decide) (by decide)) (by decide : (1:Int) ≤ (1:Int32).toInt) (by decide : (1:Int32).toInt ≤ (1:Int)) rfl) (hX.upI (t_inR (p := 8) (m := 8) rfl (by decide : (8:Int) ≤ (8:Int32).toInt) (by decide) (by decide : (8:Int32).toInt ≤ (8:Int)) (by decide) (by decide))) (fun g38 e38 hI hX => ?_)
          refine ev_bp f_X12_rules (nx := 88) (v := 100) rfl (by decide) rfl ?_
          refine ev_loc f_X12_rules (nx := 89) (lo' := [(3, .int 100), (2, .int y24_2), (0, .ref 69), (1, .int ar1)]) rfl rfl rfl rfl ?_
          have L39 : ∀ (m39 : Nat) (gi39 : Nat → Nat → Int32) (gl39 : Nat → Nat → Int64) (gr39 : Nat → Nat → Value) (y39_3 : Int32), t_I sh gi39 gr39 → t_X wl_m_rules sh gi gl gr gi39 gl39 gr39 → 100 ≤ y39_3.toInt → y39_3.toInt ≤ 350 → gi39 69 10 = (gi9 69 10) → gi39 69 12 = (gi24 69 12) → gi39 69 14 = (gi24 69 14) → gi39 69 18 = (gi24 69 18) → gi39 69 24 = (gi24 69 24) → gi39 69 25 = (gi24 69 25) → gi39 70 1403 = (gi24 70 1403) → gi39 70 3 = (gi24 70 1403) → gi39 70 4 = (gi 70 4) → gi39 70 8 = 1 → (∀ j : Nat, 100 ≤ j → (j : Int) < y39_3.toInt → gi39 70 j = gi39 70 (1400 + j)) → t_R4 (gi39 70) (gi39 69 25).toInt → gi39 70 3 = gi39 70 1403 → (350 - y39_3.toInt).toNat = m39 → x_Ev X (d + 9) n_X12_rules 89 [(3, .int y39_3), (2, .int y24_2), (0, .ref 69), (1, .int ar1)] [] (sh, gi39, gl39, gr39) (t_PI wl_m_rules sh gi gl gr (-1) 12 (Q_m_rules gi gl gr J0 ar1)) := by
            intro m39
            induction m39 using Nat.strongRecOn with
            | _ m39 ih39 =>
            intro gi39 gl39 gr39 y39_3 hI hX l39_3 u39_3 c39_0 c39_1 c39_2 c39_3 c39_4 c39_5 c39_6 c39_7 c39_8 c39_9 j39_0 j39_1 j39_2 hm39
            have cf39_0 : (gi39 69 10).toInt = (gi9 69 10).toInt := congrArg Int32.toInt c39_0
            have cf39_1 : (gi39 69 12).toInt = (gi24 69 12).toInt := congrArg Int32.toInt c39_1
            have cf39_2 : (gi39 69 14).toInt = (gi24 69 14).toInt := congrArg Int32.toInt c39_2
            have cf39_3 : (gi39 69 18).toInt = (gi24 69 18).toInt := congrArg Int32.toInt c39_3
            have cf39_4 : (gi39 69 24).toInt = (gi24 69 24).toInt := congrArg Int32.toInt c39_4
            have cf39_5 : (gi39 69 25).toInt = (gi24 69 25).toInt := congrArg Int32.toInt c39_5
            have cf39_6 : (gi39 70 1403).toInt = (gi24 70 1403).toInt := congrArg Int32.toInt c39_6
            have cf39_8 : (gi39 70 4).toInt = (gi 70 4).toInt := congrArg Int32.toInt c39_8
            refine ev_loc f_X12_rules (nx := 90) rfl rfl rfl rfl ?_
            refine ev_sp f_X12_rules (nx := 93) (v := 350) rfl (by decide) rfl ?_
            refine ev_if f_X12_rules (t1 := 118) (t2 := 96) rfl rfl rfl (fun h40 => ?_) (fun h40 => ?_)
            · have l41 : 350 ≤ y39_3.toInt := t_lel h40 (by decide : (350:Int) ≤ (350:Int32).toInt)
              refine ev_loc f_X12_rules (nx := 119) rfl rfl rfl rfl ?_
              refine ev_loc f_X12_rules (nx := 120) rfl rfl rfl rfl ?_
              refine ev_getR f_X12_rules (nx := 123) rfl (hI.wf.s rfl) rfl rfl (hI.wf.r rfl) rfl rfl ?_
              refine ev_ic f_X12_rules (nx := 124) (v := 3) rfl (by decide) rfl ?_
              refine ev_ialdv f_X12_rules (nx := 125) (w := (gi24 70 1403)) rfl (hI.wf.s rfl) (by decide) (rfl : (3 : Int32).toNatClampNeg = 3) (by decide) c39_7 rfl ?_
              refine ev_inV2 f_X12_rules (nx := 128) (lo2 := [(0, .ref 69), (1, .int (gi24 70 1403))]) rfl rfl rfl rfl f_X12_taken (hI.wf.s rfl) rfl rfl rfl rfl rfl ?_
              refine ev_loc f_X12_taken (nx := 1) rfl rfl rfl rfl ?_
              refine ev_loc f_X12_taken (nx := 2) rfl rfl rfl rfl ?_
              refine ev_gvI f_X12_taken (nx := 5) (w := (gi24 69 18)) rfl (hI.wf.s rfl) rfl rfl c39_3 rfl ?_
              refine ev_putIT f_X12_taken (nx := 8) rfl (hI.wf.s rfl) rfl rfl rfl (hI.put0 (hI.wf.s rfl) rfl rfl) (hX.upI rfl) (fun g43 e43 hI hX => ?_)
              refine ev_loc f_X12_taken (nx := 9) rfl rfl rfl rfl ?_
              refine ev_gvI f_X12_taken (nx := 12) (w := (gi24 69 18)) rfl (hI.wf.s rfl) rfl rfl ((by rw [e43]; exact x_up2_off (Or.inr (by decide)) : g43 69 18 = gi39 69 18).trans c39_3) rfl ?_
              refine ev_t f_X12_taken (t1 := 24) (t2 := 15) rfl rfl rfl (t_leT u34 (by decide : (0:Int) ≤ (0:Int32).toInt) (by decide)) ?_
              refine ev_loc f_X12_taken (nx := 25) rfl rfl rfl rfl ?_
              refine ev_loc f_X12_taken (nx := 26) rfl rfl rfl rfl ?_
              refine ev_inV2 f_X12_taken (nx := 29) (lo2 := [(0, .ref 69), (1, .int (gi24 70 1403))]) rfl rfl rfl rfl f_X12_gives (hI.wf.s rfl) rfl rfl rfl rfl rfl ?_
              refine ev_loc f_X12_gives (nx := 1) rfl rfl rfl rfl ?_
              refine ev_ic f_X12_gives (nx := 2) (v := 0) rfl (by decide) rfl ?_
              refine ev_putIT f_X12_gives (nx := 5) rfl (hI.wf.s rfl) rfl rfl rfl (hI.put0 (hI.wf.s rfl) rfl rfl) (hX.upI rfl) (fun g44 e44 hI hX => ?_)
              refine ev_loc f_X12_gives (nx := 6) rfl rfl rfl rfl ?_
              refine ev_retK1 f_X12_gives rfl rfl rfl ?_
              refine ev_retK1 f_X12_taken rfl rfl rfl ?_
              exact ev_ret f_X12_rules rfl rfl rfl ⟨_, _, _, rfl, hI, hX, ⟨_, rfl, (Int.le_trans (by decide : ((-1):Int) ≤ 0) l30), u30, (show ((0 ≤ ar1.toInt ∧ ar1.toInt ≤ (gi 69 10).toInt ∧ ar1.toInt ≤ 300) → (g44 69 10).toInt = 0) ∧ (¬ (0 ≤ ar1.toInt ∧ ar1.toInt ≤ (gi 69 10).toInt ∧ ar1.toInt ≤ 300) → (g44 69 10).toInt = (gi 69 10).toInt) ∧ (((g44 70 J0) = (gi 70 J0)) ∨ (t_rpn (g44 70) 0 ∧ (g44 70 4) = (gi 70 4))) from ⟨(by have ff45 : (g44 69 10).toInt = (gi9 69 10).toInt := congrArg Int32.toInt ((by rw [e44]; exact x_up2_off (Or.inr (by decide)) : g44 69 10 = g43 69 10).trans ((by rw [e43]; exact x_up2_off (Or.inr (by decide)) : g43 69 10 = gi39 69 10).trans c39_0)); omega), (by have ff46 : (g44 69 10).toInt = (gi9 69 10).toInt := congrArg Int32.toInt ((by rw [e44]; exact x_up2_off (Or.inr (by decide)) : g44 69 10 = g43 69 10).trans ((by rw [e43]; exact x_up2_off (Or.inr (by decide)) : g43 69 10 = gi39 69 10).trans c39_0)); omega), (by have h0 := t_rpn_of (g := gi39 70) (a := (gi39 69 25).toInt) j39_1 (by omega) j39_2 (by omega) (fun j h1 h2 => j39_0 j h1 (by omega)); refine Or.inr ⟨?_, ((by rw [e44]; exact x_up2_off (Or.inr (by decide)) : g44 70 4 = g43 70 4).trans ((by rw [e43]; exact x_up2_off (Or.inr (by decide)) : g43 70 4 = gi39 70 4).trans c39_8))⟩; have hq : g44 70 = gi39 70 := ((by rw [e44]; exact x_up2_ne (by decide) : g44 70 = g43 70).trans ((by rw [e43]; exact x_up2_ne (by decide) : g43 70 = gi39 70))); rw [hq]; exact h0)⟩)⟩⟩
            · have u48 : y39_3.toInt ≤ 349 := t_ltu (t_nle h40) (by decide : (350:Int32).toInt ≤ (350:Int)) rfl
              refine ev_loc f_X12_rules (nx := 97) rfl rfl rfl rfl ?_
              refine ev_getR f_X12_rules (nx := 100) rfl (hI.wf.s rfl) rfl rfl (hI.wf.r rfl) rfl rfl ?_
              refine ev_loc f_X12_rules (nx := 101) rfl rfl rfl rfl ?_
              refine ev_loc f_X12_rules (nx := 102) rfl rfl rfl rfl ?_
              refine ev_getR f_X12_rules (nx := 105) rfl (hI.wf.s rfl) rfl rfl (hI.wf.r rfl) rfl rfl ?_
              refine ev_sp f_X12_rules (nx := 108) (v := 1400) rfl (by decide) rfl ?_
              refine ev_loc f_X12_rules (nx := 109) rfl rfl rfl rfl ?_
              refine ev_addK f_X12_rules (nx := 110) (c := 1400) (l := 1500) (u := 1749) rfl (by decide) l39_3 u48 rfl rfl (by decide) (by decide) rfl (fun z49 e49 l49 u49 => ?_)
              refine ev_ialdT f_X12_rules (nx := 111) rfl (hI.wf.s rfl) l49 (by decide) u49 (by decide) rfl (fun w50 e50 => ?_)
              refine ev_iastT f_X12_rules (nx := 112) rfl (hI.wf.s rfl) l39_3 (by decide) u48 (by decide) rfl (hI.astS (a := 4) (b := 0) (k := y39_3.toInt.toNat) e50 (by omega) (by omega) (by omega) (by omega) (by omega)) (hX.upI (t_inR (p := 100) (m := 349) rfl l39_3 (by decide) u48 (by decide) (by decide))) (fun g51 e51 hI hX => ?_)
              refine ev_incR f_X12_rules (nx := 115) (c := 1) (l := 101) (u := 350) rfl rfl (by decide) (by decide) l39_3 u48 rfl rfl (by decide) (by decide) rfl (fun z52 e52 l52 u52 => ?_)
              refine ev_jmp f_X12_rules (nx := 89) rfl rfl rfl ?_
              refine ev_sub (lo := [(3, .int z52), (2, .int y24_2), (0, .ref 69), (1, .int ar1)]) rfl (t_sc rfl (t_sc rfl (t_sc rfl (t_sc rfl t_sn)))) ?_
              exact ih39 _ (by omega) g51 gl39 gr39 (z52) hI hX  (Int.le_trans (by decide : (100:Int) ≤ 101) l52) u52 ((by rw [e51]; exact x_up2_off (Or.inl (by decide)) : g51 69 10 = gi39 69 10).trans c39_0) ((by rw [e51]; exact x_up2_off (Or.inl (by decide)) : g51 69 12 = gi39 69 12).trans c39_1) ((by rw [e51]; exact x_up2_off (Or.inl (by decide)) : g51 69 14 = gi39 69 14).trans c39_2) ((by rw [e51]; exact x_up2_off (Or.inl (by decide)) : g51 69 18 = gi39 69 18).trans c39_3) ((by rw [e51]; exact x_up2_off (Or.inl (by decide)) : g51 69 24 = gi39 69 24).trans c39_4) ((by rw [e51]; exact x_up2_off (Or.inl (by decide)) : g51 69 25 = gi39 69 25).trans c39_5) ((by rw [e51]; exact x_up2_off (Or.inr (t_neCu l39_3 u48 (by decide) (by decide))) : g51 70 1403 = gi39 70 1403).trans c39_6) ((by rw [e51]; exact x_up2_off (Or.inr (t_neCl l39_3 (by decide))) : g51 70 3 = gi39 70 3).trans c39_7) ((by rw [e51]; exact x_up2_off (Or.inr (t_neCl l39_3 (by decide))) : g51 70 4 = gi39 70 4).trans c39_8) ((by rw [e51]; exact x_up2_off (Or.inr (t_neCl l39_3 (by decide))) : g51 70 8 = gi39 70 8).trans c39_9) (t_cp100 j39_0 e50 e51 (by have := t_clamp (i := y39_3) (by omega); omega) (by have := t_clamp (i := z49) (by omega); omega) (by omega) (by omega) (by omega)) (by have hr := t_R4_ext (g' := g51 70) j39_1 (fun j hj => (by rw [e51]; exact x_up2_off (Or.inr (by have hc := t_clamp (i := y39_3) (by omega); omega)) : g51 70 (j) = gi39 70 (j))); have ff53 : (g51 69 25).toInt = (gi24 69 25).toInt := congrArg Int32.toInt ((by rw [e51]; exact x_up2_off (Or.inl (by decide)) : g51 69 25 = gi39 69 25).trans c39_5); have e25 : (g51 69 25).toInt = (gi39 69 25).toInt := (by omega); rw [e25]; exact hr) ((((by rw [e51]; exact x_up2_off (Or.inr (t_neCl l39_3 (by decide))) : g51 70 3 = gi39 70 3).trans c39_7) : g51 70 3 = (gi24 70 1403)).trans (((by rw [e51]; exact x_up2_off (Or.inr (t_neCu l39_3 u48 (by decide) (by decide))) : g51 70 1403 = gi39 70 1403).trans c39_6) : g51 70 1403 = (gi24 70 1403)).symm) rfl
          refine ev_sub (lo := [(3, .int 100), (2, .int y24_2), (0, .ref 69), (1, .int ar1)]) rfl (t_sc rfl (t_sc rfl (t_sc rfl (t_sc rfl t_sn)))) ?_
          exact L39 _ g38 gl24 gr24 (100) hI hX  (by decide : (100:Int) ≤ (100:Int32).toInt) (Int.le_trans (by decide : (100:Int32).toInt ≤ (100:Int)) (by decide : (100:Int) ≤ 350)) ((by rw [e38]; exact x_up2_off (Or.inl (by decide)) : g38 69 10 = g37 69 10).trans ((by rw [e37]; exact x_up2_off (Or.inl (by decide)) : g37 69 10 = gi24 69 10).trans c24_0)) ((by rw [e38]; exact x_up2_off (Or.inl (by decide)) : g38 69 12 = g37 69 12).trans ((by rw [e37]; exact x_up2_off (Or.inl (by decide)) : g37 69 12 = gi24 69 12).trans rfl)) ((by rw [e38]; exact x_up2_off (Or.inl (by decide)) : g38 69 14 = g37 69 14).trans ((by rw [e37]; exact x_up2_off (Or.inl (by decide)) : g37 69 14 = gi24 69 14).trans rfl)) ((by rw [e38]; exact x_up2_off (Or.inl (by decide)) : g38 69 18 = g37 69 18).trans ((by rw [e37]; exact x_up2_off (Or.inl (by decide)) : g37 69 18 = gi24 69 18).trans rfl)) ((by rw [e38]; exact x_up2_off (Or.inl (by decide)) : g38 69 24 = g37 69 24).trans ((by rw [e37]; exact x_up2_off (Or.inl (by decide)) : g37 69 24 = gi24 69 24).trans rfl)) ((by rw [e38]; exact x_up2_off (Or.inl (by decide)) : g38 69 25 = g37 69 25).trans ((by rw [e37]; exact x_up2_off (Or.inl (by decide)) : g37 69 25 = gi24 69 25).trans rfl)) ((by rw [e38]; exact x_up2_off (Or.inr (by decide)) : g38 70 1403 = g37 70 1403).trans ((by rw [e37]; exact x_up2_off (Or.inr (by decide)) : g37 70 1403 = gi24 70 1403).trans rfl)) ((by rw [e38]; exact x_up2_off (Or.inr (by decide)) : g38 70 3 = g37 70 3).trans (by rw [e37]; exact x_up2_at _ _ _ _ : g37 70 3 = (gi24 70 1403))) ((by rw [e38]; exact x_up2_off (Or.inr (by decide)) : g38 70 4 = g37 70 4).trans ((by rw [e37]; exact x_up2_off (Or.inr (by decide)) : g37 70 4 = gi24 70 4).trans c24_2)) (by rw [e38]; exact x_up2_at _ _ _ _ : g38 70 8 = 1) (fun j h1 h2 => absurd h2 (by have : (100 : Int32).toInt = 100 := rfl; omega)) (by have hr := t_R4_ext (g' := g38 70) (j24_0 (by omega)).1 (fun j hj => ((by rw [e38]; exact x_up2_off (Or.inr (by have hc : (8 : Int32).toNatClampNeg = 8 := rfl; omega)) : g38 70 (j) = g37 70 (j)).trans ((by rw [e37]; exact x_up2_off (Or.inr (by have hc : (3 : Int32).toNatClampNeg = 3 := rfl; omega)) : g37 70 (j) = gi24 70 (j))))); have ff54 : (g38 69 25).toInt = (gi24 69 25).toInt := congrArg Int32.toInt ((by rw [e38]; exact x_up2_off (Or.inl (by decide)) : g38 69 25 = g37 69 25).trans ((by rw [e37]; exact x_up2_off (Or.inl (by decide)) : g37 69 25 = gi24 69 25).trans rfl)); have e25 : (g38 69 25).toInt = (gi24 69 25).toInt := (by omega); rw [e25]; exact hr) ((((by rw [e38]; exact x_up2_off (Or.inr (by decide)) : g38 70 3 = g37 70 3).trans (by rw [e37]; exact x_up2_at _ _ _ _ : g37 70 3 = (gi24 70 1403))) : g38 70 3 = (gi24 70 1403)).trans (((by rw [e38]; exact x_up2_off (Or.inr (by decide)) : g38 70 1403 = g37 70 1403).trans ((by rw [e37]; exact x_up2_off (Or.inr (by decide)) : g37 70 1403 = gi24 70 1403).trans rfl)) : g38 70 1403 = (gi24 70 1403)).symm) rfl
        · have r55 : (gi24 69 18).toInt ≠ 0 := fun e => h33 (Int32.toInt_inj.mp (e.trans (by decide : (0:Int) = (0 : Int32).toInt)))
          refine ev_loc f_X12_rules (nx := 119) rfl rfl rfl rfl ?_
          refine ev_loc f_X12_rules (nx := 120) rfl rfl rfl rfl ?_
          refine ev_getR f_X12_rules (nx := 123) rfl (hI.wf.s rfl) rfl rfl (hI.wf.r rfl) rfl rfl ?_
          refine ev_ic f_X12_rules (nx := 124) (v := 3) rfl (by decide) rfl ?_
          obtain ⟨l56, u56⟩ := hI.ab (by decide +kernel : t_abr 70 3 3 0 12 = true) (Nat.le_refl _) (Nat.le_refl _)
          refine ev_ialdv f_X12_rules (nx := 125) (w := (gi24 70 3)) rfl (hI.wf.s rfl) (by decide) (rfl : (3 : Int32).toNatClampNeg = 3) (by decide) rfl rfl ?_
          refine ev_inV2 f_X12_rules (nx := 128) (lo2 := [(0, .ref 69), (1, .int (gi24 70 3))]) rfl rfl rfl rfl f_X12_taken (hI.wf.s rfl) rfl rfl rfl rfl rfl ?_
          refine ev_loc f_X12_taken (nx := 1) rfl rfl rfl rfl ?_
          refine ev_loc f_X12_taken (nx := 2) rfl rfl rfl rfl ?_
          refine ev_gvI f_X12_taken (nx := 5) (w := (gi24 69 18)) rfl (hI.wf.s rfl) rfl rfl rfl rfl ?_
          refine ev_putIT f_X12_taken (nx := 8) rfl (hI.wf.s rfl) rfl rfl rfl (hI.put0 (hI.wf.s rfl) rfl rfl) (hX.upI rfl) (fun g57 e57 hI hX => ?_)
          refine ev_loc f_X12_taken (nx := 9) rfl rfl rfl rfl ?_
          refine ev_gvI f_X12_taken (nx := 12) (w := (gi24 69 18)) rfl (hI.wf.s rfl) rfl rfl ((by rw [e57]; exact x_up2_off (Or.inr (by decide)) : g57 69 18 = gi24 69 18).trans rfl) rfl ?_
          refine ev_if f_X12_taken (t1 := 24) (t2 := 15) rfl rfl rfl (fun h58 => ?_) (fun h58 => ?_)
          · have u59 : (gi24 69 18).toInt ≤ 0 := t_leu h58 (by decide : (0:Int32).toInt ≤ (0:Int))
            refine ev_loc f_X12_taken (nx := 25) rfl rfl rfl rfl ?_
            refine ev_loc f_X12_taken (nx := 26) rfl rfl rfl rfl ?_
            refine ev_inV2 f_X12_taken (nx := 29) (lo2 := [(0, .ref 69), (1, .int (gi24 70 3))]) rfl rfl rfl rfl f_X12_gives (hI.wf.s rfl) rfl rfl rfl rfl rfl ?_
            refine ev_loc f_X12_gives (nx := 1) rfl rfl rfl rfl ?_
            refine ev_ic f_X12_gives (nx := 2) (v := 0) rfl (by decide) rfl ?_
            refine ev_putIT f_X12_gives (nx := 5) rfl (hI.wf.s rfl) rfl rfl rfl (hI.put0 (hI.wf.s rfl) rfl rfl) (hX.upI rfl) (fun g60 e60 hI hX => ?_)
            refine ev_loc f_X12_gives (nx := 6) rfl rfl rfl rfl ?_
            refine ev_retK1 f_X12_gives rfl rfl rfl ?_
            refine ev_retK1 f_X12_taken rfl rfl rfl ?_
            exact ev_ret f_X12_rules rfl rfl rfl ⟨_, _, _, rfl, hI, hX, ⟨_, rfl, (Int.le_trans (by decide : ((-1):Int) ≤ 0) l56), u56, (show ((0 ≤ ar1.toInt ∧ ar1.toInt ≤ (gi 69 10).toInt ∧ ar1.toInt ≤ 300) → (g60 69 10).toInt = 0) ∧ (¬ (0 ≤ ar1.toInt ∧ ar1.toInt ≤ (gi 69 10).toInt ∧ ar1.toInt ≤ 300) → (g60 69 10).toInt = (gi 69 10).toInt) ∧ (((g60 70 J0) = (gi 70 J0)) ∨ (t_rpn (g60 70) 0 ∧ (g60 70 4) = (gi 70 4))) from ⟨(by have ff61 : (g60 69 10).toInt = (gi9 69 10).toInt := congrArg Int32.toInt ((by rw [e60]; exact x_up2_off (Or.inr (by decide)) : g60 69 10 = g57 69 10).trans ((by rw [e57]; exact x_up2_off (Or.inr (by decide)) : g57 69 10 = gi24 69 10).trans c24_0)); omega), (by have ff62 : (g60 69 10).toInt = (gi9 69 10).toInt := congrArg Int32.toInt ((by rw [e60]; exact x_up2_off (Or.inr (by decide)) : g60 69 10 = g57 69 10).trans ((by rw [e57]; exact x_up2_off (Or.inr (by decide)) : g57 69 10 = gi24 69 10).trans c24_0)); omega), Or.inl ((by rw [e60]; exact x_up2_off (Or.inl (by decide)) : g60 70 J0 = g57 70 J0).trans ((by rw [e57]; exact x_up2_off (Or.inl (by decide)) : g57 70 J0 = gi24 70 J0).trans c24_1))⟩)⟩⟩
          · have l63 : 1 ≤ (gi24 69 18).toInt := t_ltl (t_nle h58) (by decide : (0:Int) ≤ (0:Int32).toInt) rfl
            refine ev_loc f_X12_taken (nx := 16) rfl rfl rfl rfl ?_
            refine ev_bp f_X12_taken (nx := 18) (v := 9) rfl (by decide) rfl ?_
            refine ev_inV2 f_X12_taken (nx := 21) (lo2 := [(0, .ref 69), (1, .int 9)]) rfl rfl rfl rfl f_X12_refuse (hI.wf.s rfl) rfl rfl rfl rfl rfl ?_
            refine ev_loc f_X12_refuse (nx := 1) rfl rfl rfl rfl ?_
            refine ev_loc f_X12_refuse (nx := 2) rfl rfl rfl rfl ?_
            refine ev_putIT f_X12_refuse (nx := 5) rfl (hI.wf.s rfl) rfl rfl rfl (hI.put0 (hI.wf.s rfl) rfl rfl) (hX.upI rfl) (fun g64 e64 hI hX => ?_)
            refine ev_ic f_X12_refuse (nx := 6) (v := -1) rfl (by decide) rfl ?_
            refine ev_retK1 f_X12_refuse rfl rfl rfl ?_
            refine ev_jmp f_X12_taken (nx := 29) rfl rfl rfl ?_
            refine ev_retK1 f_X12_taken rfl rfl rfl ?_
            exact ev_ret f_X12_rules rfl rfl rfl ⟨_, _, _, rfl, hI, hX, ⟨_, rfl, (by decide : ((-1):Int) ≤ ((-1):Int32).toInt), (Int.le_trans (by decide : ((-1):Int32).toInt ≤ ((-1):Int)) (by decide : ((-1):Int) ≤ 12)), (show ((0 ≤ ar1.toInt ∧ ar1.toInt ≤ (gi 69 10).toInt ∧ ar1.toInt ≤ 300) → (g64 69 10).toInt = 0) ∧ (¬ (0 ≤ ar1.toInt ∧ ar1.toInt ≤ (gi 69 10).toInt ∧ ar1.toInt ≤ 300) → (g64 69 10).toInt = (gi 69 10).toInt) ∧ (((g64 70 J0) = (gi 70 J0)) ∨ (t_rpn (g64 70) 0 ∧ (g64 70 4) = (gi 70 4))) from ⟨(by have ff65 : (g64 69 10).toInt = (gi9 69 10).toInt := congrArg Int32.toInt ((by rw [e64]; exact x_up2_off (Or.inr (by decide)) : g64 69 10 = g57 69 10).trans ((by rw [e57]; exact x_up2_off (Or.inr (by decide)) : g57 69 10 = gi24 69 10).trans c24_0)); omega), (by have ff66 : (g64 69 10).toInt = (gi9 69 10).toInt := congrArg Int32.toInt ((by rw [e64]; exact x_up2_off (Or.inr (by decide)) : g64 69 10 = g57 69 10).trans ((by rw [e57]; exact x_up2_off (Or.inr (by decide)) : g57 69 10 = gi24 69 10).trans c24_0)); omega), Or.inl ((by rw [e64]; exact x_up2_off (Or.inl (by decide)) : g64 70 J0 = g57 70 J0).trans ((by rw [e57]; exact x_up2_off (Or.inl (by decide)) : g57 70 J0 = gi24 70 J0).trans c24_1))⟩)⟩⟩
      · have r67 : y24_2.toInt ≠ 0 := fun e => h31 (Int32.toInt_inj.mp (e.trans (by decide : (0:Int) = (0 : Int32).toInt)))
        have l68 : 1 ≤ y24_2.toInt := t_nel h31 l24_2 rfl rfl
        refine ev_loc f_X12_rules (nx := 43) rfl rfl rfl rfl ?_
        refine ev_gvI f_X12_rules (nx := 46) (w := (gi24 69 12)) rfl (hI.wf.s rfl) rfl rfl rfl rfl ?_
        refine ev_if f_X12_rules (t1 := 57) (t2 := 49) rfl rfl rfl (fun h69 => ?_) (fun h69 => ?_)
        · have u70 : (gi24 69 12).toInt ≤ 0 := t_equ h69 (by decide : (0:Int32).toInt ≤ (0:Int))
          refine ev_loc f_X12_rules (nx := 58) rfl rfl rfl rfl ?_
          refine ev_gvI f_X12_rules (nx := 61) (w := (gi24 69 18)) rfl (hI.wf.s rfl) rfl rfl rfl rfl ?_
          refine ev_if f_X12_rules (t1 := 64) (t2 := 118) rfl rfl rfl (fun h71 => ?_) (fun h71 => ?_)
          · have u72 : (gi24 69 18).toInt ≤ 0 := t_equ h71 (by decide : (0:Int32).toInt ≤ (0:Int))
            have l73 : 0 ≤ (gi24 69 18).toInt := t_eql h71 (by decide : (0:Int) ≤ (0:Int32).toInt)
            refine ev_loc f_X12_rules (nx := 65) rfl rfl rfl rfl ?_
            refine ev_getR f_X12_rules (nx := 68) rfl (hI.wf.s rfl) rfl rfl (hI.wf.r rfl) rfl rfl ?_
            refine ev_ic f_X12_rules (nx := 69) (v := 3) rfl (by decide) rfl ?_
            refine ev_loc f_X12_rules (nx := 70) rfl rfl rfl rfl ?_
            refine ev_getR f_X12_rules (nx := 73) rfl (hI.wf.s rfl) rfl rfl (hI.wf.r rfl) rfl rfl ?_
            refine ev_sp f_X12_rules (nx := 76) (v := 1403) rfl (by decide) rfl ?_
            refine ev_ialdv f_X12_rules (nx := 77) (w := (gi24 70 1403)) rfl (hI.wf.s rfl) (by decide) (rfl : (1403 : Int32).toNatClampNeg = 1403) (by decide) rfl rfl ?_
            refine ev_iastT f_X12_rules (nx := 78) rfl (hI.wf.s rfl) (by decide : (3:Int) ≤ (3:Int32).toInt) (by decide) (by decide : (3:Int32).toInt ≤ (3:Int)) (by decide) rfl (hI.astL (hI.wf.s rfl) (by decide +kernel : t_abw 70 3 3 0 12 = true) (t_cl1 (by decide : (3:Int) ≤ (3:Int32).toInt) (by decide)) (t_cl2 (by decide : (3:Int) ≤ (3:Int32).toInt) (by decide : (3:Int32).toInt ≤ (3:Int)) (by decide) (by decide)) l30 u30 rfl) (hX.upI (t_inR (p := 3) (m := 3) rfl (by decide : (3:Int) ≤ (3:Int32).toInt) (by decide) (by decide : (3:Int32).toInt ≤ (3:Int)) (by decide) (by decide))) (fun g75 e75 hI hX => ?_)
            refine ev_loc f_X12_rules (nx := 79) rfl rfl rfl rfl ?_
            refine ev_getR f_X12_rules (nx := 82) rfl (hI.wf.s rfl) rfl rfl (hI.wf.r rfl) rfl rfl ?_
            refine ev_bp f_X12_rules (nx := 84) (v := 8) rfl (by decide) rfl ?_
            refine ev_ic f_X12_rules (nx := 85) (v := 1) rfl (by decide) rfl ?_
            refine ev_iastT f_X12_rules (nx := 86) rfl (hI.wf.s rfl) (by decide : (8:Int) ≤ (8:Int32).toInt) (by decide) (by decide : (8:Int32).toInt ≤ (8:Int)) (by decide) rfl (hI.astL (hI.wf.s rfl) (by decide +kernel : t_abw 70 8 8 1 1 = true) (t_cl1 (by decide : (8:Int) ≤ (8:Int32).toInt) (by decide)) (t_cl2 (by decide : (8:Int) ≤ (8:Int32).toInt) (by decide : (8:Int32).toInt ≤ (8:Int)) (by decide) (by decide)) (by decide : (1:Int) ≤ (1:Int32).toInt) (by decide : (1:Int32).toInt ≤ (1:Int)) rfl) (hX.upI (t_inR (p := 8) (m := 8) rfl (by decide : (8:Int) ≤ (8:Int32).toInt) (by decide) (by decide : (8:Int32).toInt ≤ (8:Int)) (by decide) (by decide))) (fun g76 e76 hI hX => ?_)
            refine ev_bp f_X12_rules (nx := 88) (v := 100) rfl (by decide) rfl ?_
            refine ev_loc f_X12_rules (nx := 89) (lo' := [(3, .int 100), (2, .int y24_2), (0, .ref 69), (1, .int ar1)]) rfl rfl rfl rfl ?_
            have L77 : ∀ (m77 : Nat) (gi77 : Nat → Nat → Int32) (gl77 : Nat → Nat → Int64) (gr77 : Nat → Nat → Value) (y77_3 : Int32), t_I sh gi77 gr77 → t_X wl_m_rules sh gi gl gr gi77 gl77 gr77 → 100 ≤ y77_3.toInt → y77_3.toInt ≤ 350 → gi77 69 10 = (gi9 69 10) → gi77 69 12 = (gi24 69 12) → gi77 69 14 = (gi24 69 14) → gi77 69 18 = (gi24 69 18) → gi77 69 24 = (gi24 69 24) → gi77 69 25 = (gi24 69 25) → gi77 70 1403 = (gi24 70 1403) → gi77 70 3 = (gi24 70 1403) → gi77 70 4 = (gi 70 4) → gi77 70 8 = 1 → (∀ j : Nat, 100 ≤ j → (j : Int) < y77_3.toInt → gi77 70 j = gi77 70 (1400 + j)) → t_R4 (gi77 70) (gi77 69 25).toInt → gi77 70 3 = gi77 70 1403 → (350 - y77_3.toInt).toNat = m77 → x_Ev X (d + 9) n_X12_rules 89 [(3, .int y77_3), (2, .int y24_2), (0, .ref 69), (1, .int ar1)] [] (sh, gi77, gl77, gr77) (t_PI wl_m_rules sh gi gl gr (-1) 12 (Q_m_rules gi gl gr J0 ar1)) := by
              intro m77
              induction m77 using Nat.strongRecOn with
              | _ m77 ih77 =>
              intro gi77 gl77 gr77 y77_3 hI hX l77_3 u77_3 c77_0 c77_1 c77_2 c77_3 c77_4 c77_5 c77_6 c77_7 c77_8 c77_9 j77_0 j77_1 j77_2 hm77
              have cf77_0 : (gi77 69 10).toInt = (gi9 69 10).toInt := congrArg Int32.toInt c77_0
              have cf77_1 : (gi77 69 12).toInt = (gi24 69 12).toInt := congrArg Int32.toInt c77_1
              have cf77_2 : (gi77 69 14).toInt = (gi24 69 14).toInt := congrArg Int32.toInt c77_2
              have cf77_3 : (gi77 69 18).toInt = (gi24 69 18).toInt := congrArg Int32.toInt c77_3
              have cf77_4 : (gi77 69 24).toInt = (gi24 69 24).toInt := congrArg Int32.toInt c77_4
              have cf77_5 : (gi77 69 25).toInt = (gi24 69 25).toInt := congrArg Int32.toInt c77_5
              have cf77_6 : (gi77 70 1403).toInt = (gi24 70 1403).toInt := congrArg Int32.toInt c77_6
              have cf77_8 : (gi77 70 4).toInt = (gi 70 4).toInt := congrArg Int32.toInt c77_8
              refine ev_loc f_X12_rules (nx := 90) rfl rfl rfl rfl ?_
              refine ev_sp f_X12_rules (nx := 93) (v := 350) rfl (by decide) rfl ?_
              refine ev_if f_X12_rules (t1 := 118) (t2 := 96) rfl rfl rfl (fun h78 => ?_) (fun h78 => ?_)
              · have l79 : 350 ≤ y77_3.toInt := t_lel h78 (by decide : (350:Int) ≤ (350:Int32).toInt)
                refine ev_loc f_X12_rules (nx := 119) rfl rfl rfl rfl ?_
                refine ev_loc f_X12_rules (nx := 120) rfl rfl rfl rfl ?_
                refine ev_getR f_X12_rules (nx := 123) rfl (hI.wf.s rfl) rfl rfl (hI.wf.r rfl) rfl rfl ?_
                refine ev_ic f_X12_rules (nx := 124) (v := 3) rfl (by decide) rfl ?_
                refine ev_ialdv f_X12_rules (nx := 125) (w := (gi24 70 1403)) rfl (hI.wf.s rfl) (by decide) (rfl : (3 : Int32).toNatClampNeg = 3) (by decide) c77_7 rfl ?_
                refine ev_inV2 f_X12_rules (nx := 128) (lo2 := [(0, .ref 69), (1, .int (gi24 70 1403))]) rfl rfl rfl rfl f_X12_taken (hI.wf.s rfl) rfl rfl rfl rfl rfl ?_
                refine ev_loc f_X12_taken (nx := 1) rfl rfl rfl rfl ?_
                refine ev_loc f_X12_taken (nx := 2) rfl rfl rfl rfl ?_
                refine ev_gvI f_X12_taken (nx := 5) (w := (gi24 69 18)) rfl (hI.wf.s rfl) rfl rfl c77_3 rfl ?_
                refine ev_putIT f_X12_taken (nx := 8) rfl (hI.wf.s rfl) rfl rfl rfl (hI.put0 (hI.wf.s rfl) rfl rfl) (hX.upI rfl) (fun g81 e81 hI hX => ?_)
                refine ev_loc f_X12_taken (nx := 9) rfl rfl rfl rfl ?_
                refine ev_gvI f_X12_taken (nx := 12) (w := (gi24 69 18)) rfl (hI.wf.s rfl) rfl rfl ((by rw [e81]; exact x_up2_off (Or.inr (by decide)) : g81 69 18 = gi77 69 18).trans c77_3) rfl ?_
                refine ev_t f_X12_taken (t1 := 24) (t2 := 15) rfl rfl rfl (t_leT u72 (by decide : (0:Int) ≤ (0:Int32).toInt) (by decide)) ?_
                refine ev_loc f_X12_taken (nx := 25) rfl rfl rfl rfl ?_
                refine ev_loc f_X12_taken (nx := 26) rfl rfl rfl rfl ?_
                refine ev_inV2 f_X12_taken (nx := 29) (lo2 := [(0, .ref 69), (1, .int (gi24 70 1403))]) rfl rfl rfl rfl f_X12_gives (hI.wf.s rfl) rfl rfl rfl rfl rfl ?_
                refine ev_loc f_X12_gives (nx := 1) rfl rfl rfl rfl ?_
                refine ev_ic f_X12_gives (nx := 2) (v := 0) rfl (by decide) rfl ?_
                refine ev_putIT f_X12_gives (nx := 5) rfl (hI.wf.s rfl) rfl rfl rfl (hI.put0 (hI.wf.s rfl) rfl rfl) (hX.upI rfl) (fun g82 e82 hI hX => ?_)
                refine ev_loc f_X12_gives (nx := 6) rfl rfl rfl rfl ?_
                refine ev_retK1 f_X12_gives rfl rfl rfl ?_
                refine ev_retK1 f_X12_taken rfl rfl rfl ?_
                exact ev_ret f_X12_rules rfl rfl rfl ⟨_, _, _, rfl, hI, hX, ⟨_, rfl, (Int.le_trans (by decide : ((-1):Int) ≤ 0) l30), u30, (show ((0 ≤ ar1.toInt ∧ ar1.toInt ≤ (gi 69 10).toInt ∧ ar1.toInt ≤ 300) → (g82 69 10).toInt = 0) ∧ (¬ (0 ≤ ar1.toInt ∧ ar1.toInt ≤ (gi 69 10).toInt ∧ ar1.toInt ≤ 300) → (g82 69 10).toInt = (gi 69 10).toInt) ∧ (((g82 70 J0) = (gi 70 J0)) ∨ (t_rpn (g82 70) 0 ∧ (g82 70 4) = (gi 70 4))) from ⟨(by have ff83 : (g82 69 10).toInt = (gi9 69 10).toInt := congrArg Int32.toInt ((by rw [e82]; exact x_up2_off (Or.inr (by decide)) : g82 69 10 = g81 69 10).trans ((by rw [e81]; exact x_up2_off (Or.inr (by decide)) : g81 69 10 = gi77 69 10).trans c77_0)); omega), (by have ff84 : (g82 69 10).toInt = (gi9 69 10).toInt := congrArg Int32.toInt ((by rw [e82]; exact x_up2_off (Or.inr (by decide)) : g82 69 10 = g81 69 10).trans ((by rw [e81]; exact x_up2_off (Or.inr (by decide)) : g81 69 10 = gi77 69 10).trans c77_0)); omega), (by have h0 := t_rpn_of (g := gi77 70) (a := (gi77 69 25).toInt) j77_1 (by omega) j77_2 (by omega) (fun j h1 h2 => j77_0 j h1 (by omega)); refine Or.inr ⟨?_, ((by rw [e82]; exact x_up2_off (Or.inr (by decide)) : g82 70 4 = g81 70 4).trans ((by rw [e81]; exact x_up2_off (Or.inr (by decide)) : g81 70 4 = gi77 70 4).trans c77_8))⟩; have hq : g82 70 = gi77 70 := ((by rw [e82]; exact x_up2_ne (by decide) : g82 70 = g81 70).trans ((by rw [e81]; exact x_up2_ne (by decide) : g81 70 = gi77 70))); rw [hq]; exact h0)⟩)⟩⟩
              · have u86 : y77_3.toInt ≤ 349 := t_ltu (t_nle h78) (by decide : (350:Int32).toInt ≤ (350:Int)) rfl
                refine ev_loc f_X12_rules (nx := 97) rfl rfl rfl rfl ?_
                refine ev_getR f_X12_rules (nx := 100) rfl (hI.wf.s rfl) rfl rfl (hI.wf.r rfl) rfl rfl ?_
                refine ev_loc f_X12_rules (nx := 101) rfl rfl rfl rfl ?_
                refine ev_loc f_X12_rules (nx := 102) rfl rfl rfl rfl ?_
                refine ev_getR f_X12_rules (nx := 105) rfl (hI.wf.s rfl) rfl rfl (hI.wf.r rfl) rfl rfl ?_
                refine ev_sp f_X12_rules (nx := 108) (v := 1400) rfl (by decide) rfl ?_
                refine ev_loc f_X12_rules (nx := 109) rfl rfl rfl rfl ?_
                refine ev_addK f_X12_rules (nx := 110) (c := 1400) (l := 1500) (u := 1749) rfl (by decide) l77_3 u86 rfl rfl (by decide) (by decide) rfl (fun z87 e87 l87 u87 => ?_)
                refine ev_ialdT f_X12_rules (nx := 111) rfl (hI.wf.s rfl) l87 (by decide) u87 (by decide) rfl (fun w88 e88 => ?_)
                refine ev_iastT f_X12_rules (nx := 112) rfl (hI.wf.s rfl) l77_3 (by decide) u86 (by decide) rfl (hI.astS (a := 4) (b := 0) (k := y77_3.toInt.toNat) e88 (by omega) (by omega) (by omega) (by omega) (by omega)) (hX.upI (t_inR (p := 100) (m := 349) rfl l77_3 (by decide) u86 (by decide) (by decide))) (fun g89 e89 hI hX => ?_)
                refine ev_incR f_X12_rules (nx := 115) (c := 1) (l := 101) (u := 350) rfl rfl (by decide) (by decide) l77_3 u86 rfl rfl (by decide) (by decide) rfl (fun z90 e90 l90 u90 => ?_)
                refine ev_jmp f_X12_rules (nx := 89) rfl rfl rfl ?_
                refine ev_sub (lo := [(3, .int z90), (2, .int y24_2), (0, .ref 69), (1, .int ar1)]) rfl (t_sc rfl (t_sc rfl (t_sc rfl (t_sc rfl t_sn)))) ?_
                exact ih77 _ (by omega) g89 gl77 gr77 (z90) hI hX  (Int.le_trans (by decide : (100:Int) ≤ 101) l90) u90 ((by rw [e89]; exact x_up2_off (Or.inl (by decide)) : g89 69 10 = gi77 69 10).trans c77_0) ((by rw [e89]; exact x_up2_off (Or.inl (by decide)) : g89 69 12 = gi77 69 12).trans c77_1) ((by rw [e89]; exact x_up2_off (Or.inl (by decide)) : g89 69 14 = gi77 69 14).trans c77_2) ((by rw [e89]; exact x_up2_off (Or.inl (by decide)) : g89 69 18 = gi77 69 18).trans c77_3) ((by rw [e89]; exact x_up2_off (Or.inl (by decide)) : g89 69 24 = gi77 69 24).trans c77_4) ((by rw [e89]; exact x_up2_off (Or.inl (by decide)) : g89 69 25 = gi77 69 25).trans c77_5) ((by rw [e89]; exact x_up2_off (Or.inr (t_neCu l77_3 u86 (by decide) (by decide))) : g89 70 1403 = gi77 70 1403).trans c77_6) ((by rw [e89]; exact x_up2_off (Or.inr (t_neCl l77_3 (by decide))) : g89 70 3 = gi77 70 3).trans c77_7) ((by rw [e89]; exact x_up2_off (Or.inr (t_neCl l77_3 (by decide))) : g89 70 4 = gi77 70 4).trans c77_8) ((by rw [e89]; exact x_up2_off (Or.inr (t_neCl l77_3 (by decide))) : g89 70 8 = gi77 70 8).trans c77_9) (t_cp100 j77_0 e88 e89 (by have := t_clamp (i := y77_3) (by omega); omega) (by have := t_clamp (i := z87) (by omega); omega) (by omega) (by omega) (by omega)) (by have hr := t_R4_ext (g' := g89 70) j77_1 (fun j hj => (by rw [e89]; exact x_up2_off (Or.inr (by have hc := t_clamp (i := y77_3) (by omega); omega)) : g89 70 (j) = gi77 70 (j))); have ff91 : (g89 69 25).toInt = (gi24 69 25).toInt := congrArg Int32.toInt ((by rw [e89]; exact x_up2_off (Or.inl (by decide)) : g89 69 25 = gi77 69 25).trans c77_5); have e25 : (g89 69 25).toInt = (gi77 69 25).toInt := (by omega); rw [e25]; exact hr) ((((by rw [e89]; exact x_up2_off (Or.inr (t_neCl l77_3 (by decide))) : g89 70 3 = gi77 70 3).trans c77_7) : g89 70 3 = (gi24 70 1403)).trans (((by rw [e89]; exact x_up2_off (Or.inr (t_neCu l77_3 u86 (by decide) (by decide))) : g89 70 1403 = gi77 70 1403).trans c77_6) : g89 70 1403 = (gi24 70 1403)).symm) rfl
            refine ev_sub (lo := [(3, .int 100), (2, .int y24_2), (0, .ref 69), (1, .int ar1)]) rfl (t_sc rfl (t_sc rfl (t_sc rfl (t_sc rfl t_sn)))) ?_
            exact L77 _ g76 gl24 gr24 (100) hI hX  (by decide : (100:Int) ≤ (100:Int32).toInt) (Int.le_trans (by decide : (100:Int32).toInt ≤ (100:Int)) (by decide : (100:Int) ≤ 350)) ((by rw [e76]; exact x_up2_off (Or.inl (by decide)) : g76 69 10 = g75 69 10).trans ((by rw [e75]; exact x_up2_off (Or.inl (by decide)) : g75 69 10 = gi24 69 10).trans c24_0)) ((by rw [e76]; exact x_up2_off (Or.inl (by decide)) : g76 69 12 = g75 69 12).trans ((by rw [e75]; exact x_up2_off (Or.inl (by decide)) : g75 69 12 = gi24 69 12).trans rfl)) ((by rw [e76]; exact x_up2_off (Or.inl (by decide)) : g76 69 14 = g75 69 14).trans ((by rw [e75]; exact x_up2_off (Or.inl (by decide)) : g75 69 14 = gi24 69 14).trans rfl)) ((by rw [e76]; exact x_up2_off (Or.inl (by decide)) : g76 69 18 = g75 69 18).trans ((by rw [e75]; exact x_up2_off (Or.inl (by decide)) : g75 69 18 = gi24 69 18).trans rfl)) ((by rw [e76]; exact x_up2_off (Or.inl (by decide)) : g76 69 24 = g75 69 24).trans ((by rw [e75]; exact x_up2_off (Or.inl (by decide)) : g75 69 24 = gi24 69 24).trans rfl)) ((by rw [e76]; exact x_up2_off (Or.inl (by decide)) : g76 69 25 = g75 69 25).trans ((by rw [e75]; exact x_up2_off (Or.inl (by decide)) : g75 69 25 = gi24 69 25).trans rfl)) ((by rw [e76]; exact x_up2_off (Or.inr (by decide)) : g76 70 1403 = g75 70 1403).trans ((by rw [e75]; exact x_up2_off (Or.inr (by decide)) : g75 70 1403 = gi24 70 1403).trans rfl)) ((by rw [e76]; exact x_up2_off (Or.inr (by decide)) : g76 70 3 = g75 70 3).trans (by rw [e75]; exact x_up2_at _ _ _ _ : g75 70 3 = (gi24 70 1403))) ((by rw [e76]; exact x_up2_off (Or.inr (by decide)) : g76 70 4 = g75 70 4).trans ((by rw [e75]; exact x_up2_off (Or.inr (by decide)) : g75 70 4 = gi24 70 4).trans c24_2)) (by rw [e76]; exact x_up2_at _ _ _ _ : g76 70 8 = 1) (fun j h1 h2 => absurd h2 (by have : (100 : Int32).toInt = 100 := rfl; omega)) (by have hr := t_R4_ext (g' := g76 70) (j24_0 (by omega)).1 (fun j hj => ((by rw [e76]; exact x_up2_off (Or.inr (by have hc : (8 : Int32).toNatClampNeg = 8 := rfl; omega)) : g76 70 (j) = g75 70 (j)).trans ((by rw [e75]; exact x_up2_off (Or.inr (by have hc : (3 : Int32).toNatClampNeg = 3 := rfl; omega)) : g75 70 (j) = gi24 70 (j))))); have ff92 : (g76 69 25).toInt = (gi24 69 25).toInt := congrArg Int32.toInt ((by rw [e76]; exact x_up2_off (Or.inl (by decide)) : g76 69 25 = g75 69 25).trans ((by rw [e75]; exact x_up2_off (Or.inl (by decide)) : g75 69 25 = gi24 69 25).trans rfl)); have e25 : (g76 69 25).toInt = (gi24 69 25).toInt := (by omega); rw [e25]; exact hr) ((((by rw [e76]; exact x_up2_off (Or.inr (by decide)) : g76 70 3 = g75 70 3).trans (by rw [e75]; exact x_up2_at _ _ _ _ : g75 70 3 = (gi24 70 1403))) : g76 70 3 = (gi24 70 1403)).trans (((by rw [e76]; exact x_up2_off (Or.inr (by decide)) : g76 70 1403 = g75 70 1403).trans ((by rw [e75]; exact x_up2_off (Or.inr (by decide)) : g75 70 1403 = gi24 70 1403).trans rfl)) : g76 70 1403 = (gi24 70 1403)).symm) rfl
          · have r93 : (gi24 69 18).toInt ≠ 0 := fun e => h71 (Int32.toInt_inj.mp (e.trans (by decide : (0:Int) = (0 : Int32).toInt)))
            refine ev_loc f_X12_rules (nx := 119) rfl rfl rfl rfl ?_
            refine ev_loc f_X12_rules (nx := 120) rfl rfl rfl rfl ?_
            refine ev_getR f_X12_rules (nx := 123) rfl (hI.wf.s rfl) rfl rfl (hI.wf.r rfl) rfl rfl ?_
            refine ev_ic f_X12_rules (nx := 124) (v := 3) rfl (by decide) rfl ?_
            obtain ⟨l94, u94⟩ := hI.ab (by decide +kernel : t_abr 70 3 3 0 12 = true) (Nat.le_refl _) (Nat.le_refl _)
            refine ev_ialdv f_X12_rules (nx := 125) (w := (gi24 70 3)) rfl (hI.wf.s rfl) (by decide) (rfl : (3 : Int32).toNatClampNeg = 3) (by decide) rfl rfl ?_
            refine ev_inV2 f_X12_rules (nx := 128) (lo2 := [(0, .ref 69), (1, .int (gi24 70 3))]) rfl rfl rfl rfl f_X12_taken (hI.wf.s rfl) rfl rfl rfl rfl rfl ?_
            refine ev_loc f_X12_taken (nx := 1) rfl rfl rfl rfl ?_
            refine ev_loc f_X12_taken (nx := 2) rfl rfl rfl rfl ?_
            refine ev_gvI f_X12_taken (nx := 5) (w := (gi24 69 18)) rfl (hI.wf.s rfl) rfl rfl rfl rfl ?_
            refine ev_putIT f_X12_taken (nx := 8) rfl (hI.wf.s rfl) rfl rfl rfl (hI.put0 (hI.wf.s rfl) rfl rfl) (hX.upI rfl) (fun g95 e95 hI hX => ?_)
            refine ev_loc f_X12_taken (nx := 9) rfl rfl rfl rfl ?_
            refine ev_gvI f_X12_taken (nx := 12) (w := (gi24 69 18)) rfl (hI.wf.s rfl) rfl rfl ((by rw [e95]; exact x_up2_off (Or.inr (by decide)) : g95 69 18 = gi24 69 18).trans rfl) rfl ?_
            refine ev_if f_X12_taken (t1 := 24) (t2 := 15) rfl rfl rfl (fun h96 => ?_) (fun h96 => ?_)
            · have u97 : (gi24 69 18).toInt ≤ 0 := t_leu h96 (by decide : (0:Int32).toInt ≤ (0:Int))
              refine ev_loc f_X12_taken (nx := 25) rfl rfl rfl rfl ?_
              refine ev_loc f_X12_taken (nx := 26) rfl rfl rfl rfl ?_
              refine ev_inV2 f_X12_taken (nx := 29) (lo2 := [(0, .ref 69), (1, .int (gi24 70 3))]) rfl rfl rfl rfl f_X12_gives (hI.wf.s rfl) rfl rfl rfl rfl rfl ?_
              refine ev_loc f_X12_gives (nx := 1) rfl rfl rfl rfl ?_
              refine ev_ic f_X12_gives (nx := 2) (v := 0) rfl (by decide) rfl ?_
              refine ev_putIT f_X12_gives (nx := 5) rfl (hI.wf.s rfl) rfl rfl rfl (hI.put0 (hI.wf.s rfl) rfl rfl) (hX.upI rfl) (fun g98 e98 hI hX => ?_)
              refine ev_loc f_X12_gives (nx := 6) rfl rfl rfl rfl ?_
              refine ev_retK1 f_X12_gives rfl rfl rfl ?_
              refine ev_retK1 f_X12_taken rfl rfl rfl ?_
              exact ev_ret f_X12_rules rfl rfl rfl ⟨_, _, _, rfl, hI, hX, ⟨_, rfl, (Int.le_trans (by decide : ((-1):Int) ≤ 0) l94), u94, (show ((0 ≤ ar1.toInt ∧ ar1.toInt ≤ (gi 69 10).toInt ∧ ar1.toInt ≤ 300) → (g98 69 10).toInt = 0) ∧ (¬ (0 ≤ ar1.toInt ∧ ar1.toInt ≤ (gi 69 10).toInt ∧ ar1.toInt ≤ 300) → (g98 69 10).toInt = (gi 69 10).toInt) ∧ (((g98 70 J0) = (gi 70 J0)) ∨ (t_rpn (g98 70) 0 ∧ (g98 70 4) = (gi 70 4))) from ⟨(by have ff99 : (g98 69 10).toInt = (gi9 69 10).toInt := congrArg Int32.toInt ((by rw [e98]; exact x_up2_off (Or.inr (by decide)) : g98 69 10 = g95 69 10).trans ((by rw [e95]; exact x_up2_off (Or.inr (by decide)) : g95 69 10 = gi24 69 10).trans c24_0)); omega), (by have ff100 : (g98 69 10).toInt = (gi9 69 10).toInt := congrArg Int32.toInt ((by rw [e98]; exact x_up2_off (Or.inr (by decide)) : g98 69 10 = g95 69 10).trans ((by rw [e95]; exact x_up2_off (Or.inr (by decide)) : g95 69 10 = gi24 69 10).trans c24_0)); omega), Or.inl ((by rw [e98]; exact x_up2_off (Or.inl (by decide)) : g98 70 J0 = g95 70 J0).trans ((by rw [e95]; exact x_up2_off (Or.inl (by decide)) : g95 70 J0 = gi24 70 J0).trans c24_1))⟩)⟩⟩
            · have l101 : 1 ≤ (gi24 69 18).toInt := t_ltl (t_nle h96) (by decide : (0:Int) ≤ (0:Int32).toInt) rfl
              refine ev_loc f_X12_taken (nx := 16) rfl rfl rfl rfl ?_
              refine ev_bp f_X12_taken (nx := 18) (v := 9) rfl (by decide) rfl ?_
              refine ev_inV2 f_X12_taken (nx := 21) (lo2 := [(0, .ref 69), (1, .int 9)]) rfl rfl rfl rfl f_X12_refuse (hI.wf.s rfl) rfl rfl rfl rfl rfl ?_
              refine ev_loc f_X12_refuse (nx := 1) rfl rfl rfl rfl ?_
              refine ev_loc f_X12_refuse (nx := 2) rfl rfl rfl rfl ?_
              refine ev_putIT f_X12_refuse (nx := 5) rfl (hI.wf.s rfl) rfl rfl rfl (hI.put0 (hI.wf.s rfl) rfl rfl) (hX.upI rfl) (fun g102 e102 hI hX => ?_)
              refine ev_ic f_X12_refuse (nx := 6) (v := -1) rfl (by decide) rfl ?_
              refine ev_retK1 f_X12_refuse rfl rfl rfl ?_
              refine ev_jmp f_X12_taken (nx := 29) rfl rfl rfl ?_
              refine ev_retK1 f_X12_taken rfl rfl rfl ?_
              exact ev_ret f_X12_rules rfl rfl rfl ⟨_, _, _, rfl, hI, hX, ⟨_, rfl, (by decide : ((-1):Int) ≤ ((-1):Int32).toInt), (Int.le_trans (by decide : ((-1):Int32).toInt ≤ ((-1):Int)) (by decide : ((-1):Int) ≤ 12)), (show ((0 ≤ ar1.toInt ∧ ar1.toInt ≤ (gi 69 10).toInt ∧ ar1.toInt ≤ 300) → (g102 69 10).toInt = 0) ∧ (¬ (0 ≤ ar1.toInt ∧ ar1.toInt ≤ (gi 69 10).toInt ∧ ar1.toInt ≤ 300) → (g102 69 10).toInt = (gi 69 10).toInt) ∧ (((g102 70 J0) = (gi 70 J0)) ∨ (t_rpn (g102 70) 0 ∧ (g102 70 4) = (gi 70 4))) from ⟨(by have ff103 : (g102 69 10).toInt = (gi9 69 10).toInt := congrArg Int32.toInt ((by rw [e102]; exact x_up2_off (Or.inr (by decide)) : g102 69 10 = g95 69 10).trans ((by rw [e95]; exact x_up2_off (Or.inr (by decide)) : g95 69 10 = gi24 69 10).trans c24_0)); omega), (by have ff104 : (g102 69 10).toInt = (gi9 69 10).toInt := congrArg Int32.toInt ((by rw [e102]; exact x_up2_off (Or.inr (by decide)) : g102 69 10 = g95 69 10).trans ((by rw [e95]; exact x_up2_off (Or.inr (by decide)) : g95 69 10 = gi24 69 10).trans c24_0)); omega), Or.inl ((by rw [e102]; exact x_up2_off (Or.inl (by decide)) : g102 70 J0 = g95 70 J0).trans ((by rw [e95]; exact x_up2_off (Or.inl (by decide)) : g95 70 J0 = gi24 70 J0).trans c24_1))⟩)⟩⟩
        · have r105 : (gi24 69 12).toInt ≠ 0 := fun e => h69 (Int32.toInt_inj.mp (e.trans (by decide : (0:Int) = (0 : Int32).toInt)))
          have l106 : 1 ≤ (gi24 69 12).toInt := t_nel h69 l25 rfl rfl
          refine ev_loc f_X12_rules (nx := 50) rfl rfl rfl rfl ?_
          refine ev_qI f_X12_rules (nx := 53) (r := []) rfl rfl rfl rfl rfl rfl rfl (c_m_aRule hI  (j24_0 (by omega)).1 (j24_0 (by omega)).2) rfl hX rfl (fun w107 gi107 gl107 gr107 l107 u107 hI hX hC107 q107 => ?_)
          have q107 : (gi24 69 14).toInt ≤ (gi107 69 14).toInt ∧ (w107.toInt = 1 → (gi107 69 12).toInt ≠ 0 → (gi24 69 14).toInt < (gi107 69 14).toInt) ∧ (w107.toInt = 0 → (gi107 69 18).toInt ≠ 0) ∧ (w107.toInt = 1 → (t_R4 (gi107 70) (gi107 69 25).toInt ∧ (gi107 69 25).toInt ≤ 8 * (gi107 69 24).toInt)) := q107
          obtain ⟨l108, u108⟩ := hI.b (hI.wf.s (k := 69) rfl) (t_bdK rfl : t_bd 11 12 = some (0, 4))
          obtain ⟨l109, u109⟩ := hI.b (hI.wf.s (k := 69) rfl) (t_bdK rfl : t_bd 11 14 = some (0, 900))
          obtain ⟨l111, u111⟩ := hI.b (hI.wf.s (k := 69) rfl) (t_bdK rfl : t_bd 11 24 = some (0, 24))
          obtain ⟨l112, u112⟩ := hI.b (hI.wf.s (k := 69) rfl) (t_bdK rfl : t_bd 11 25 = some (0, 210))
          obtain ⟨l113, u113⟩ := hI.ab (by decide +kernel : t_abr 70 1403 1403 0 12 = true) (Nat.le_refl _) (Nat.le_refl _)
          refine ev_loc f_X12_rules (nx := 54) (lo' := [(2, .int w107), (0, .ref 69), (1, .int ar1)]) rfl rfl rfl rfl ?_
          refine ev_jmp f_X12_rules (nx := 38) rfl rfl rfl ?_
          refine ev_sub (lo := [(2, .int w107), (0, .ref 69), (1, .int ar1)]) rfl (t_sc rfl (t_sc rfl (t_sc rfl t_sn))) ?_
          exact ih24 _ (by omega) gi107 gl107 gr107 (w107) hI hX  l107 u107 ((hC107.1 69 10 rfl).1.trans c24_0) ((hC107.1 70 J0 (t_nG (lo := 0) (hi := 350) rfl (by omega) (by omega))).1.trans c24_1) ((hC107.1 70 4 rfl).1.trans c24_2) (fun h => (q107.2.2.2 (by omega))) (fun h => (q107.2.2.1 (by omega))) rfl
    refine ev_sub (lo := [(2, .int 1), (0, .ref 69), (1, .int ar1)]) rfl (t_sc rfl (t_sc rfl (t_sc rfl t_sn))) ?_
    exact L24 _ g23 gl9 gr9 (1) hI hX  (Int.le_trans (by decide : (0:Int) ≤ 1) (by decide : (1:Int) ≤ (1:Int32).toInt)) (by decide : (1:Int32).toInt ≤ (1:Int)) ((by rw [e23]; exact x_up2_off (Or.inr (by decide)) : g23 69 10 = g22 69 10).trans ((by rw [e22]; exact x_up2_off (Or.inr (by decide)) : g22 69 10 = g21 69 10).trans ((by rw [e21]; exact x_up2_off (Or.inl (by decide)) : g21 69 10 = gi9 69 10).trans rfl))) ((by rw [e23]; exact x_up2_off (Or.inl (by decide)) : g23 70 J0 = g22 70 J0).trans ((by rw [e22]; exact x_up2_off (Or.inl (by decide)) : g22 70 J0 = g21 70 J0).trans ((by rw [e21]; exact x_up2_off (Or.inr (by have : (1403 : Int32).toNatClampNeg = 1403 := rfl; omega)) : g21 70 J0 = gi9 70 J0).trans ((hC9.1 70 J0 (t_nG (lo := 0) (hi := 350) rfl (by omega) (by omega))).1.trans rfl)))) ((by rw [e23]; exact x_up2_off (Or.inr (by decide)) : g23 70 4 = g22 70 4).trans ((by rw [e22]; exact x_up2_off (Or.inr (by decide)) : g22 70 4 = g21 70 4).trans ((by rw [e21]; exact x_up2_off (Or.inr (by decide)) : g21 70 4 = gi9 70 4).trans ((hC9.1 70 4 rfl).1.trans rfl)))) (fun _ => ⟨t_R4_0 (by have ff114 : (g23 70 1403).toInt = 0 := (congrArg Int32.toInt ((by rw [e23]; exact x_up2_off (Or.inr (by decide)) : g23 70 1403 = g22 70 1403).trans ((by rw [e22]; exact x_up2_off (Or.inr (by decide)) : g22 70 1403 = g21 70 1403).trans (by rw [e21]; exact x_up2_at _ _ _ _ : g21 70 1403 = 0)))).trans (by decide); omega), (by have hb4 := hI.b (hI.wf.s (k := 69) rfl) (t_bdK rfl : t_bd 11 24 = some (0, 24)); have ff115 : (g23 69 24).toInt = 0 := (congrArg Int32.toInt ((by rw [e23]; exact x_up2_off (Or.inr (by decide)) : g23 69 24 = g22 69 24).trans (by rw [e22]; exact x_up2_at _ _ _ _ : g22 69 24 = 0))).trans (by decide); have ff116 : (g23 69 25).toInt = 0 := (congrArg Int32.toInt (by rw [e23]; exact x_up2_at _ _ _ _ : g23 69 25 = 0)).trans (by decide); omega)⟩) (fun h => absurd h (by decide)) rfl
noncomputable def wl_m_mark : List (Nat × Nat) := [(69, 2), (69, 75), (70, 11399), (71, 10071)]
noncomputable def Q_m_mark (gi : Nat → Nat → Int32) (gl : Nat → Nat → Int64) (gr : Nat → Nat → Value) : Int32 → (Nat → Nat → Int32) → (Nat → Nat → Int64) → (Nat → Nat → Value) → Prop := fun (v : Int32) (gi2 : Nat → Nat → Int32) (gl2 : Nat → Nat → Int64) (gr2 : Nat → Nat → Value) => ((gi 69 75).toInt = 3 → v.toInt = -1 ∧ (gi2 69 75).toInt = 3 ∧ gi2 70 = gi 70) ∧ ((gi 69 75).toInt ≠ 3 → v.toInt = (gi 69 75).toInt + 1 ∧ (gi2 69 75).toInt = (gi 69 75).toInt + 1 ∧ ∀ j, gi2 70 j = t_cpy (gi 70) 0 ((gi 69 75).toInt.toNat + 1) 350 j)
theorem c_m_mark {X : x_Ext} {d : Nat} {sh : List (Nat ⊕ (Nat × Nat))} {gi : Nat → Nat → Int32} {gl : Nat → Nat → Int64} {gr : Nat → Nat → Value} (hI : t_I sh gi gr) : x_Me X (d + 2) n_X12_mark [.ref 69] (sh, gi, gl, gr) (t_PI wl_m_mark sh gi gl gr (-1) 3 (Q_m_mark gi gl gr)) := by
  have hX : t_X wl_m_mark sh gi gl gr gi gl gr := t_X.rf
  refine me_i f_X12_mark (hI.wf.s rfl) rfl rfl rfl ?_
  obtain ⟨l1, u1⟩ := hI.b (hI.wf.s (k := 69) rfl) (t_bdK rfl : t_bd 11 75 = some (0, 3))
  refine ev_loc f_X12_mark (nx := 1) rfl rfl rfl rfl ?_
  refine ev_gvI f_X12_mark (nx := 4) (w := (gi 69 75)) rfl (hI.wf.s rfl) rfl rfl rfl rfl ?_
  refine ev_ic f_X12_mark (nx := 5) (v := 3) rfl (by decide) rfl ?_
  refine ev_if f_X12_mark (t1 := 8) (t2 := 14) rfl rfl rfl (fun h2 => ?_) (fun h2 => ?_)
  · have l3 : 3 ≤ (gi 69 75).toInt := t_eql h2 (by decide : (3:Int) ≤ (3:Int32).toInt)
    refine ev_loc f_X12_mark (nx := 9) rfl rfl rfl rfl ?_
    refine ev_ic f_X12_mark (nx := 10) (v := 4) rfl (by decide) rfl ?_
    refine ev_inV2 f_X12_mark (nx := 13) (lo2 := [(0, .ref 69), (1, .int 4)]) rfl rfl rfl rfl f_X12_refuse (hI.wf.s rfl) rfl rfl rfl rfl rfl ?_
    refine ev_loc f_X12_refuse (nx := 1) rfl rfl rfl rfl ?_
    refine ev_loc f_X12_refuse (nx := 2) rfl rfl rfl rfl ?_
    refine ev_putIT f_X12_refuse (nx := 5) rfl (hI.wf.s rfl) rfl rfl rfl (hI.put0 (hI.wf.s rfl) rfl rfl) (hX.upI rfl) (fun g4 e4 hI hX => ?_)
    refine ev_ic f_X12_refuse (nx := 6) (v := -1) rfl (by decide) rfl ?_
    refine ev_retK1 f_X12_refuse rfl rfl rfl ?_
    exact ev_ret f_X12_mark rfl rfl rfl ⟨_, _, _, rfl, hI, hX, ⟨_, rfl, (by decide : ((-1):Int) ≤ ((-1):Int32).toInt), (Int.le_trans (by decide : ((-1):Int32).toInt ≤ ((-1):Int)) (by decide : ((-1):Int) ≤ 3)), (show ((gi 69 75).toInt = 3 → (-1) = -1 ∧ (g4 69 75).toInt = 3 ∧ g4 70 = gi 70) ∧ ((gi 69 75).toInt ≠ 3 → (-1) = (gi 69 75).toInt + 1 ∧ (g4 69 75).toInt = (gi 69 75).toInt + 1 ∧ ∀ j, g4 70 j = t_cpy (gi 70) 0 ((gi 69 75).toInt.toNat + 1) 350 j) from ⟨fun _ => ⟨(by omega), (by have ff5 : (g4 69 75).toInt = (gi 69 75).toInt := congrArg Int32.toInt ((by rw [e4]; exact x_up2_off (Or.inr (by decide)) : g4 69 75 = gi 69 75).trans rfl); omega), ((by rw [e4]; exact x_up2_ne (by decide) : g4 70 = gi 70))⟩, fun h => absurd h (by omega)⟩)⟩⟩
  · have r6 : (gi 69 75).toInt ≠ 3 := fun e => h2 (Int32.toInt_inj.mp (e.trans (by decide : (3:Int) = (3 : Int32).toInt)))
    have u7 : (gi 69 75).toInt ≤ 2 := t_neu h2 u1 rfl rfl
    refine ev_loc f_X12_mark (nx := 15) rfl rfl rfl rfl ?_
    refine ev_alu f_X12_mark (nx := 16) rfl rfl rfl rfl ?_
    refine ev_gvI f_X12_mark (nx := 19) (w := (gi 69 75)) rfl (hI.wf.s rfl) rfl rfl rfl rfl ?_
    refine ev_ic f_X12_mark (nx := 20) (v := 1) rfl (by decide) rfl ?_
    refine ev_addC f_X12_mark (nx := 21) (c := 1) (l := 1) (u := 3) rfl (by decide) l1 u7 rfl rfl (by decide) (by decide) rfl (fun z8 e8 l8 u8 => ?_)
    refine ev_putIT f_X12_mark (nx := 24) rfl (hI.wf.s rfl) rfl rfl rfl (hI.putB (hI.wf.s rfl) rfl rfl l8 (by decide) u8 (by decide)) (hX.upI rfl) (fun g9 e9 hI hX => ?_)
    refine ev_loc f_X12_mark (nx := 25) rfl rfl rfl rfl ?_
    refine ev_ic f_X12_mark (nx := 26) (v := 0) rfl (by decide) rfl ?_
    refine ev_loc f_X12_mark (nx := 27) rfl rfl rfl rfl ?_
    refine ev_gvI f_X12_mark (nx := 30) (w := z8) rfl (hI.wf.s rfl) rfl rfl (by rw [e9]; exact x_up2_at _ _ _ _ : g9 69 75 = z8) rfl ?_
    refine ev_qN f_X12_mark (nx := 33) (r := []) rfl rfl rfl rfl rfl rfl rfl (c_m_copies hI (0) (by decide : (0:Int) ≤ (0:Int32).toInt) (Int.le_trans (by decide : (0:Int32).toInt ≤ (0:Int)) (by decide : (0:Int) ≤ 3)) (z8) (Int.le_trans (by decide : (0:Int) ≤ 1) l8) u8 (by have kf11 : (0 : Int32).toInt = 0 := (by decide); omega)) rfl hX rfl (fun gi10 gl10 gr10 hI hX hC10 q10 => ?_)
    have q10 : (∀ j, gi10 70 j = t_cpy (g9 70) 0 z8.toInt.toNat 350 j) := q10
    refine ev_loc f_X12_mark (nx := 34) rfl rfl rfl rfl ?_
    refine ev_loc f_X12_mark (nx := 35) rfl rfl rfl rfl ?_
    refine ev_gvI f_X12_mark (nx := 38) (w := z8) rfl (hI.wf.s rfl) rfl rfl ((hC10.1 69 75 rfl).1.trans (by rw [e9]; exact x_up2_at _ _ _ _ : g9 69 75 = z8)) rfl ?_
    refine ev_inV2 f_X12_mark (nx := 41) (lo2 := [(0, .ref 69), (1, .int z8)]) rfl rfl rfl rfl f_X12_gives (hI.wf.s rfl) rfl rfl rfl rfl rfl ?_
    refine ev_loc f_X12_gives (nx := 1) rfl rfl rfl rfl ?_
    refine ev_ic f_X12_gives (nx := 2) (v := 0) rfl (by decide) rfl ?_
    refine ev_putIT f_X12_gives (nx := 5) rfl (hI.wf.s rfl) rfl rfl rfl (hI.put0 (hI.wf.s rfl) rfl rfl) (hX.upI rfl) (fun g12 e12 hI hX => ?_)
    refine ev_loc f_X12_gives (nx := 6) rfl rfl rfl rfl ?_
    refine ev_retK1 f_X12_gives rfl rfl rfl ?_
    exact ev_ret f_X12_mark rfl rfl rfl ⟨_, _, _, rfl, hI, hX, ⟨_, rfl, (Int.le_trans (by decide : ((-1):Int) ≤ 1) l8), u8, (show ((gi 69 75).toInt = 3 → z8.toInt = -1 ∧ (g12 69 75).toInt = 3 ∧ g12 70 = gi 70) ∧ ((gi 69 75).toInt ≠ 3 → z8.toInt = (gi 69 75).toInt + 1 ∧ (g12 69 75).toInt = (gi 69 75).toInt + 1 ∧ ∀ j, g12 70 j = t_cpy (gi 70) 0 ((gi 69 75).toInt.toNat + 1) 350 j) from ⟨fun h => absurd h (by omega), fun _ => ⟨(by have ff13 : (g12 69 75).toInt = z8.toInt := congrArg Int32.toInt ((by rw [e12]; exact x_up2_off (Or.inr (by decide)) : g12 69 75 = gi10 69 75).trans ((hC10.1 69 75 rfl).1.trans (by rw [e9]; exact x_up2_at _ _ _ _ : g9 69 75 = z8))); omega), (by have ff13 : (g12 69 75).toInt = z8.toInt := congrArg Int32.toInt ((by rw [e12]; exact x_up2_off (Or.inr (by decide)) : g12 69 75 = gi10 69 75).trans ((hC10.1 69 75 rfl).1.trans (by rw [e9]; exact x_up2_at _ _ _ _ : g9 69 75 = z8))); omega), (by intro j; rw [congrFun ((by rw [e12]; exact x_up2_ne (by decide) : g12 70 = gi10 70)) j]; have hc := q10 j; rw [show (z8).toInt.toNat = (gi 69 75).toInt.toNat + 1 by omega] at hc; rw [hc, show g9 70 = gi 70 from ((by rw [e9]; exact x_up2_ne (by decide) : g9 70 = gi 70))])⟩⟩)⟩⟩
noncomputable def wl_m_back : List (Nat × Nat) := [(69, 2), (69, 75), (70, 11399), (71, 10071)]
noncomputable def Q_m_back (gi : Nat → Nat → Int32) (gl : Nat → Nat → Int64) (gr : Nat → Nat → Value) : Int32 → (Nat → Nat → Int32) → (Nat → Nat → Int64) → (Nat → Nat → Value) → Prop := fun (v : Int32) (gi2 : Nat → Nat → Int32) (gl2 : Nat → Nat → Int64) (gr2 : Nat → Nat → Value) => ((gi 69 75).toInt = 0 → v.toInt = -1 ∧ (gi2 69 75).toInt = 0 ∧ gi2 70 = gi 70) ∧ ((gi 69 75).toInt ≠ 0 → v.toInt = (gi 69 75).toInt - 1 ∧ (gi2 69 75).toInt = (gi 69 75).toInt - 1 ∧ ∀ j, gi2 70 j = t_cpy (gi 70) (gi 69 75).toInt.toNat 0 350 j)
theorem c_m_back {X : x_Ext} {d : Nat} {sh : List (Nat ⊕ (Nat × Nat))} {gi : Nat → Nat → Int32} {gl : Nat → Nat → Int64} {gr : Nat → Nat → Value} (hI : t_I sh gi gr) : x_Me X (d + 2) n_X12_back [.ref 69] (sh, gi, gl, gr) (t_PI wl_m_back sh gi gl gr (-1) 2 (Q_m_back gi gl gr)) := by
  have hX : t_X wl_m_back sh gi gl gr gi gl gr := t_X.rf
  refine me_i f_X12_back (hI.wf.s rfl) rfl rfl rfl ?_
  obtain ⟨l1, u1⟩ := hI.b (hI.wf.s (k := 69) rfl) (t_bdK rfl : t_bd 11 75 = some (0, 3))
  refine ev_loc f_X12_back (nx := 1) rfl rfl rfl rfl ?_
  refine ev_gvI f_X12_back (nx := 4) (w := (gi 69 75)) rfl (hI.wf.s rfl) rfl rfl rfl rfl ?_
  refine ev_if f_X12_back (t1 := 7) (t2 := 14) rfl rfl rfl (fun h2 => ?_) (fun h2 => ?_)
  · have u3 : (gi 69 75).toInt ≤ 0 := t_equ h2 (by decide : (0:Int32).toInt ≤ (0:Int))
    refine ev_loc f_X12_back (nx := 8) rfl rfl rfl rfl ?_
    refine ev_bp f_X12_back (nx := 10) (v := 6) rfl (by decide) rfl ?_
    refine ev_inV2 f_X12_back (nx := 13) (lo2 := [(0, .ref 69), (1, .int 6)]) rfl rfl rfl rfl f_X12_refuse (hI.wf.s rfl) rfl rfl rfl rfl rfl ?_
    refine ev_loc f_X12_refuse (nx := 1) rfl rfl rfl rfl ?_
    refine ev_loc f_X12_refuse (nx := 2) rfl rfl rfl rfl ?_
    refine ev_putIT f_X12_refuse (nx := 5) rfl (hI.wf.s rfl) rfl rfl rfl (hI.put0 (hI.wf.s rfl) rfl rfl) (hX.upI rfl) (fun g4 e4 hI hX => ?_)
    refine ev_ic f_X12_refuse (nx := 6) (v := -1) rfl (by decide) rfl ?_
    refine ev_retK1 f_X12_refuse rfl rfl rfl ?_
    exact ev_ret f_X12_back rfl rfl rfl ⟨_, _, _, rfl, hI, hX, ⟨_, rfl, (by decide : ((-1):Int) ≤ ((-1):Int32).toInt), (Int.le_trans (by decide : ((-1):Int32).toInt ≤ ((-1):Int)) (by decide : ((-1):Int) ≤ 2)), (show ((gi 69 75).toInt = 0 → (-1) = -1 ∧ (g4 69 75).toInt = 0 ∧ g4 70 = gi 70) ∧ ((gi 69 75).toInt ≠ 0 → (-1) = (gi 69 75).toInt - 1 ∧ (g4 69 75).toInt = (gi 69 75).toInt - 1 ∧ ∀ j, g4 70 j = t_cpy (gi 70) (gi 69 75).toInt.toNat 0 350 j) from ⟨fun _ => ⟨(by omega), (by have ff5 : (g4 69 75).toInt = (gi 69 75).toInt := congrArg Int32.toInt ((by rw [e4]; exact x_up2_off (Or.inr (by decide)) : g4 69 75 = gi 69 75).trans rfl); omega), ((by rw [e4]; exact x_up2_ne (by decide) : g4 70 = gi 70))⟩, fun h => absurd h (by omega)⟩)⟩⟩
  · have r6 : (gi 69 75).toInt ≠ 0 := fun e => h2 (Int32.toInt_inj.mp (e.trans (by decide : (0:Int) = (0 : Int32).toInt)))
    have l7 : 1 ≤ (gi 69 75).toInt := t_nel h2 l1 rfl rfl
    refine ev_loc f_X12_back (nx := 15) rfl rfl rfl rfl ?_
    refine ev_loc f_X12_back (nx := 16) rfl rfl rfl rfl ?_
    refine ev_gvI f_X12_back (nx := 19) (w := (gi 69 75)) rfl (hI.wf.s rfl) rfl rfl rfl rfl ?_
    refine ev_ic f_X12_back (nx := 20) (v := 0) rfl (by decide) rfl ?_
    refine ev_qN f_X12_back (nx := 23) (r := []) rfl rfl rfl rfl rfl rfl rfl (c_m_copies hI ((gi 69 75)) (Int.le_trans (by decide : (0:Int) ≤ 1) l7) u1 (0) (by decide : (0:Int) ≤ (0:Int32).toInt) (Int.le_trans (by decide : (0:Int32).toInt ≤ (0:Int)) (by decide : (0:Int) ≤ 3)) (by have kf9 : (0 : Int32).toInt = 0 := (by decide); omega)) rfl hX rfl (fun gi8 gl8 gr8 hI hX hC8 q8 => ?_)
    have q8 : (∀ j, gi8 70 j = t_cpy (gi 70) (gi 69 75).toInt.toNat 0 350 j) := q8
    refine ev_loc f_X12_back (nx := 24) rfl rfl rfl rfl ?_
    refine ev_alu f_X12_back (nx := 25) rfl rfl rfl rfl ?_
    refine ev_gvI f_X12_back (nx := 28) (w := (gi 69 75)) rfl (hI.wf.s rfl) rfl rfl ((hC8.1 69 75 rfl).1.trans rfl) rfl ?_
    refine ev_ic f_X12_back (nx := 29) (v := 1) rfl (by decide) rfl ?_
    refine ev_subC f_X12_back (nx := 30) (c := 1) (l := 0) (u := 2) rfl (by decide) l7 u1 rfl rfl (by decide) (by decide) rfl (fun z10 e10 l10 u10 => ?_)
    refine ev_putIT f_X12_back (nx := 33) rfl (hI.wf.s rfl) rfl rfl rfl (hI.putB (hI.wf.s rfl) rfl rfl l10 (by decide) u10 (by decide)) (hX.upI rfl) (fun g11 e11 hI hX => ?_)
    refine ev_loc f_X12_back (nx := 34) rfl rfl rfl rfl ?_
    refine ev_loc f_X12_back (nx := 35) rfl rfl rfl rfl ?_
    refine ev_gvI f_X12_back (nx := 38) (w := z10) rfl (hI.wf.s rfl) rfl rfl (by rw [e11]; exact x_up2_at _ _ _ _ : g11 69 75 = z10) rfl ?_
    refine ev_inV2 f_X12_back (nx := 41) (lo2 := [(0, .ref 69), (1, .int z10)]) rfl rfl rfl rfl f_X12_gives (hI.wf.s rfl) rfl rfl rfl rfl rfl ?_
    refine ev_loc f_X12_gives (nx := 1) rfl rfl rfl rfl ?_
    refine ev_ic f_X12_gives (nx := 2) (v := 0) rfl (by decide) rfl ?_
    refine ev_putIT f_X12_gives (nx := 5) rfl (hI.wf.s rfl) rfl rfl rfl (hI.put0 (hI.wf.s rfl) rfl rfl) (hX.upI rfl) (fun g12 e12 hI hX => ?_)
    refine ev_loc f_X12_gives (nx := 6) rfl rfl rfl rfl ?_
    refine ev_retK1 f_X12_gives rfl rfl rfl ?_
    exact ev_ret f_X12_back rfl rfl rfl ⟨_, _, _, rfl, hI, hX, ⟨_, rfl, (Int.le_trans (by decide : ((-1):Int) ≤ 0) l10), u10, (show ((gi 69 75).toInt = 0 → z10.toInt = -1 ∧ (g12 69 75).toInt = 0 ∧ g12 70 = gi 70) ∧ ((gi 69 75).toInt ≠ 0 → z10.toInt = (gi 69 75).toInt - 1 ∧ (g12 69 75).toInt = (gi 69 75).toInt - 1 ∧ ∀ j, g12 70 j = t_cpy (gi 70) (gi 69 75).toInt.toNat 0 350 j) from ⟨fun h => absurd h (by omega), fun _ => ⟨(by have ff13 : (g12 69 75).toInt = z10.toInt := congrArg Int32.toInt ((by rw [e12]; exact x_up2_off (Or.inr (by decide)) : g12 69 75 = g11 69 75).trans (by rw [e11]; exact x_up2_at _ _ _ _ : g11 69 75 = z10)); omega), (by have ff13 : (g12 69 75).toInt = z10.toInt := congrArg Int32.toInt ((by rw [e12]; exact x_up2_off (Or.inr (by decide)) : g12 69 75 = g11 69 75).trans (by rw [e11]; exact x_up2_at _ _ _ _ : g11 69 75 = z10)); omega), (by intro j; rw [congrFun ((by rw [e12]; exact x_up2_ne (by decide) : g12 70 = g11 70).trans ((by rw [e11]; exact x_up2_ne (by decide) : g11 70 = gi8 70))) j]; have hc := q8 j; rw [hc, show gi 70 = gi 70 from rfl])⟩⟩)⟩⟩
