/-! ===== printed by riv.py: the steps of the other side ===== -/
noncomputable def Q_o_conditionsB (gi : Nat → Nat → Int32) (gl : Nat → Nat → Int64) (gr : Nat → Nat → Value) (b : Nat → Int32) : Int32 → (Nat → Nat → Int32) → (Nat → Nat → Int64) → (Nat → Nat → Value) → Prop := fun (v : Int32) (gi2 : Nat → Nat → Int32) (gl2 : Nat → Nat → Int64) (gr2 : Nat → Nat → Value) => (((gi 69 14).toInt ≤ (gi2 69 14).toInt ∧ (v.toInt = 1 → (gi2 69 12).toInt ≠ 0 → (gi 69 14).toInt < (gi2 69 14).toInt) ∧ (v.toInt = 0 → (gi2 69 18).toInt ≠ 0) ∧ (v.toInt = 1 → (t_em (gi2 70) (t_lo4 b) (gi2 69 25).toInt.toNat 1 ∧ (∀ j : Nat, j < 1540 + t_lo4 b → gi2 70 j = b j) ∧ 0 ≤ (gi2 69 25).toInt ∧ (gi2 69 25).toInt ≤ 8 * (gi2 69 24).toInt))) ∧ ((∀ (b : Nat → Int32) (n q c : Nat), t_TM b n q gi → t_MF gi 0 (-1) → n ≤ 300 → (gi 69 24).toInt = (c : Int) → (v.toInt = 1 ∧ ∃ q2 c2 : Nat, s_Cnd b n false q c [] = s_qk q2 c2 ∧ q < q2 ∧ t_TM b n q2 gi2 ∧ t_MF gi2 0 (-1) ∧ (gi2 69 24).toInt = (c2 : Int)) ∨ (v.toInt = 0 ∧ ∃ p x, x ≠ 0 ∧ s_Cnd b n false q c [] = s_qb b n p x ∧ t_MF gi2 (s_fk b n p x) (s_F b n p))))) ∧ ((∀ (b : Nat → Int32) (n q : Nat) (E : List Int), t_TM b n q gi → t_AK gi E → v.toInt = 1 → t_AK gi2 (s_Em b n false q [] E)))
theorem c_o_conditionsB {X : x_Ext} {d : Nat} {sh : List (Nat ⊕ (Nat × Nat))} {gi : Nat → Nat → Int32} {gl : Nat → Nat → Int64} {gr : Nat → Nat → Value} (hI : t_I sh gi gr) {b : Nat → Int32} (e_p0 : (gi 69 25).toInt ≤ 8 * (gi 69 24).toInt) (e_p1 : gi 70 = b) (e_p2 : t_lo4 b = (gi 69 25).toInt.toNat) : x_Me X (d + 7) n_X12_conditions [.ref 69] (sh, gi, gl, gr) (t_PI wl_m_conditions sh gi gl gr 0 1 (Q_o_conditionsB gi gl gr b)) := by
  refine ((x_Me.up (c_n_conditionsB (X := X) (d := d) (gl := gl) (b := b) hI e_p0 e_p1 e_p2) (by omega)).and (x_Me.up (c_o_conditions (X := X) (d := d) (gl := gl) (b := b) hI e_p0 e_p1 e_p2) (by omega))).mono ?_
  rintro v G' ⟨⟨g1, l1, r1, rfl, k1, k2, x, rfl, k3, k4, k5⟩, g2, l2, r2, e, _, _, x2, e2, _, _, q⟩
  cases e; cases e2
  exact ⟨g1, l1, r1, rfl, k1, k2, x, rfl, k3, k4, k5, q⟩
noncomputable def wl_o_aRule : List (Nat × Nat) := [(69, 12), (69, 13), (69, 14), (69, 15), (69, 17), (69, 18), (69, 22), (69, 23), (69, 24), (69, 25), (70, 140311403), (70, 150011536), (70, 150111537), (70, 150211538), (70, 154011750), (77, 9999)]
noncomputable def Q_o_aRule (gi : Nat → Nat → Int32) (gl : Nat → Nat → Int64) (gr : Nat → Nat → Value) : Int32 → (Nat → Nat → Int32) → (Nat → Nat → Int64) → (Nat → Nat → Value) → Prop := fun (v : Int32) (gi2 : Nat → Nat → Int32) (gl2 : Nat → Nat → Int64) (gr2 : Nat → Nat → Value) => (∀ (b : Nat → Int32) (n q c : Nat) (R : List (List Int × Int)), t_TM b n q gi → t_MF gi 0 (-1) → n ≤ 300 → (gi 69 24).toInt = (c : Int) → s_K b n q ≠ 0 → t_MK gi R → v.toInt = 1 → ∃ (q2 c2 : Nat) (x : List Int × Int), (∀ m, s_rle b n (m + 1) q c = x :: s_rle b n m q2 c2) ∧ t_TM b n q2 gi2 ∧ t_MF gi2 0 (-1) ∧ (gi2 69 24).toInt = (c2 : Int) ∧ t_MK gi2 (R ++ [x]))
set_option maxHeartbeats 40000000 in
theorem c_o_aRule {X : x_Ext} {d : Nat} {sh : List (Nat ⊕ (Nat × Nat))} {gi : Nat → Nat → Int32} {gl : Nat → Nat → Int64} {gr : Nat → Nat → Value} (hI : t_I sh gi gr) (e_p0 : t_R4 (gi 70) (gi 69 25).toInt) (e_p1 : (gi 69 25).toInt ≤ 8 * (gi 69 24).toInt) : x_Me X (d + 8) n_X12_aRule [.ref 69] (sh, gi, gl, gr) (t_PI wl_o_aRule sh gi gl gr 0 1 (Q_o_aRule gi gl gr)) := by
  have hX : t_X wl_o_aRule sh gi gl gr gi gl gr := t_X.rf
  refine me_i f_X12_aRule (hI.wf.s rfl) rfl rfl rfl ?_
  have hI1 := hI
  have hI2 := hI
  have hI3 := hI
  obtain ⟨l4, u4⟩ := hI.b (hI.wf.s (k := 69) rfl) (t_bdK rfl : t_bd 11 25 = some (0, 210))
  refine ev_sp f_X12_aRule (nx := 3) (v := 1500) rfl (by decide) rfl ?_
  refine ev_ic f_X12_aRule (nx := 4) (v := 3) rfl (by decide) rfl ?_
  refine ev_loc f_X12_aRule (nx := 5) rfl rfl rfl rfl ?_
  refine ev_getR f_X12_aRule (nx := 8) rfl (hI.wf.s rfl) rfl rfl (hI.wf.r rfl) rfl rfl ?_
  refine ev_sp f_X12_aRule (nx := 11) (v := 1403) rfl (by decide) rfl ?_
  obtain ⟨l5, u5⟩ := hI.ab (by decide +kernel : t_abr 70 1403 1403 0 12 = true) (Nat.le_refl _) (Nat.le_refl _)
  refine ev_ialdv f_X12_aRule (nx := 12) (w := (gi 70 1403)) rfl (hI.wf.s rfl) (by decide) (rfl : (1403 : Int32).toNatClampNeg = 1403) (by decide) rfl rfl ?_
  refine ev_mulL f_X12_aRule (nx := 13) (c := 3) (l := 0) (u := 36) rfl (by decide) (by decide) l5 u5 rfl rfl (by decide) (by decide) rfl (fun z6 e6 l6 u6 => ?_)
  refine ev_addK f_X12_aRule (nx := 14) (c := 1500) (l := 1500) (u := 1536) rfl (by decide) l6 u6 rfl rfl (by decide) (by decide) rfl (fun z7 e7 l7 u7 => ?_)
  refine ev_loc f_X12_aRule (nx := 15) (lo' := [(1, .int z7), (0, .ref 69)]) rfl rfl rfl rfl ?_
  refine ev_loc f_X12_aRule (nx := 16) rfl rfl rfl rfl ?_
  refine ev_heap f_X12_aRule (nx := 18) rfl rfl rfl rfl ?_
  refine ev_qI0 f_X12_aRule (nx := 21) (r := []) rfl rfl rfl rfl rfl rfl rfl (c_n_inWords hI ) rfl (fun w8 l8 u8 q8 => ?_)
  have q8 : (∀ (b : Nat → Int32) (n q : Nat), t_TM b n q gi → w8.toInt = s_mi (s_W b n q)) ∧ (0 ≤ w8.toInt → (gi 69 12).toInt = 2) := q8
  refine ev_bp f_X12_aRule (nx := 23) (v := 13) rfl (by decide) rfl ?_
  refine ev_if f_X12_aRule (t1 := 32) (t2 := 26) rfl rfl rfl (fun h9 => ?_) (fun h9 => ?_)
  · have u10 : w8.toInt ≤ 13 := t_equ h9 (by decide : (13:Int32).toInt ≤ (13:Int))
    have l11 : 13 ≤ w8.toInt := t_eql h9 (by decide : (13:Int) ≤ (13:Int32).toInt)
    refine ev_loc f_X12_aRule (nx := 33) rfl rfl rfl rfl ?_
    refine ev_getR f_X12_aRule (nx := 36) rfl (hI.wf.s rfl) rfl rfl (hI.wf.r rfl) rfl rfl ?_
    refine ev_sp f_X12_aRule (nx := 39) (v := 1403) rfl (by decide) rfl ?_
    refine ev_ialdv f_X12_aRule (nx := 40) (w := (gi 70 1403)) rfl (hI.wf.s rfl) (by decide) (rfl : (1403 : Int32).toNatClampNeg = 1403) (by decide) rfl rfl ?_
    refine ev_bp f_X12_aRule (nx := 42) (v := 12) rfl (by decide) rfl ?_
    refine ev_if f_X12_aRule (t1 := 45) (t2 := 52) rfl rfl rfl (fun h13 => ?_) (fun h13 => ?_)
    · have l14 : 12 ≤ (gi 70 1403).toInt := t_eql h13 (by decide : (12:Int) ≤ (12:Int32).toInt)
      refine ev_loc f_X12_aRule (nx := 46) rfl rfl rfl rfl ?_
      refine ev_bp f_X12_aRule (nx := 48) (v := 6) rfl (by decide) rfl ?_
      refine ev_qI f_X12_aRule (nx := 51) (r := []) rfl rfl rfl rfl rfl rfl rfl (c_n_fails hI (6) (Int.le_trans (by decide : (2:Int) ≤ 6) (by decide : (6:Int) ≤ (6:Int32).toInt)) (Int.le_trans (by decide : (6:Int32).toInt ≤ (6:Int)) (by decide : (6:Int) ≤ 7))) rfl hX rfl (fun w15 gi15 gl15 gr15 l15 u15 hI hX hC15 q15 => ?_)
      have q15 : (∀ (b : Nat → Int32) (n q : Nat), t_TM b n q gi → (gi 69 18).toInt = 0 → t_MF gi15 (s_fk b n q 6) (s_F b n q)) ∧ w15.toInt = 0 := q15
      exact ev_retZ f_X12_aRule rfl l15 (Int.le_trans u15 (by decide : (0:Int) ≤ 1)) ⟨_, _, _, rfl, hI, hX, ⟨_, rfl, l15, (Int.le_trans u15 (by decide : (0:Int) ≤ 1)), (show (∀ (b : Nat → Int32) (n q c : Nat) (R : List (List Int × Int)), t_TM b n q gi → t_MF gi 0 (-1) → n ≤ 300 → (gi 69 24).toInt = (c : Int) → s_K b n q ≠ 0 → t_MK gi R → w15.toInt = 1 → ∃ (q2 c2 : Nat) (x : List Int × Int), (∀ m, s_rle b n (m + 1) q c = x :: s_rle b n m q2 c2) ∧ t_TM b n q2 gi15 ∧ t_MF gi15 0 (-1) ∧ (gi15 69 24).toInt = (c2 : Int) ∧ t_MK gi15 (R ++ [x])) from (fun b n q c R ht hf hn hc hK hR hv => absurd hv (by have := q15.2; omega)))⟩⟩
    · have r16 : (gi 70 1403).toInt ≠ 12 := fun e => h13 (Int32.toInt_inj.mp (e.trans (by decide : (12:Int) = (12 : Int32).toInt)))
      have u17 : (gi 70 1403).toInt ≤ 11 := t_neu h13 u5 rfl rfl
      refine ev_loc f_X12_aRule (nx := 53) rfl rfl rfl rfl ?_
      refine ev_qN f_X12_aRule (nx := 56) (r := []) rfl rfl rfl rfl rfl rfl rfl (c_n_aheadB hI ) rfl hX rfl (fun gi18 gl18 gr18 hI hX hC18 q18 => ?_)
      have q18 : ((gi 69 14).toInt ≤ (gi18 69 14).toInt ∧ ((gi18 69 12).toInt ≠ 0 → (gi 69 14).toInt < (gi18 69 14).toInt) ∧ ((gi18 69 12).toInt = 3 → 0 ≤ (gi18 69 15).toInt)) ∧ (∀ (b : Nat → Int32) (n q : Nat), t_Sm b n q gi → t_TM b n q gi18) := q18
      refine ev_loc f_X12_aRule (nx := 57) rfl rfl rfl rfl ?_
      refine ev_getR f_X12_aRule (nx := 60) rfl (hI.wf.s rfl) rfl rfl (hI.wf.r rfl) rfl rfl ?_
      refine ev_loc f_X12_aRule (nx := 61) rfl rfl rfl rfl ?_
      refine ev_loc f_X12_aRule (nx := 62) rfl rfl rfl rfl ?_
      refine ev_gvI f_X12_aRule (nx := 65) (w := (gi 69 25)) rfl (hI.wf.s rfl) rfl rfl ((hC18.1 69 25 rfl).1.trans rfl) rfl ?_
      refine ev_iastT f_X12_aRule (nx := 66) rfl (hI.wf.s rfl) l7 (by decide) u7 (by decide) rfl (hI.astA (x := (gi 70 1403)) (hI.wf.s rfl) (by decide +kernel : t_abwa 70 1500 3 0 11 0 210 = true) (by omega) (by omega) (by omega) l4 u4 rfl) (hX.upI (t_inR (p := 1500) (m := 1536) rfl l7 (by decide) u7 (by decide) (by decide))) (fun g19 e19 hI hX => ?_)
      refine ev_loc f_X12_aRule (nx := 67) rfl rfl rfl rfl ?_
      refine ev_qI f_X12_aRule (nx := 70) (r := []) rfl rfl rfl rfl rfl rfl rfl (c_o_conditionsB hI  (b := g19 70) (by have ff21 : (g19 69 25).toInt = (gi 69 25).toInt := congrArg Int32.toInt ((by rw [e19]; exact x_up2_off (Or.inl (by decide)) : g19 69 25 = gi18 69 25).trans ((hC18.1 69 25 rfl).1.trans rfl)); have ff22 : (g19 69 24).toInt = (gi 69 24).toInt := congrArg Int32.toInt ((by rw [e19]; exact x_up2_off (Or.inl (by decide)) : g19 69 24 = gi18 69 24).trans ((hC18.1 69 24 rfl).1.trans rfl)); omega) rfl (by have ho := (t_onec (c := 70) (g := gi) (p := 1500 + 3 * (gi 70 1403).toInt.toNat) ((funext (fun j => (hC18.1 70 j rfl).1) : gi18 70 = gi 70)) e19 rfl (by have hc := t_clamp (i := z7) (by omega); omega)); unfold t_lo4; rw [ho.1 1403 (by omega), ho.2]; have ff23 : (g19 69 25).toInt = (gi 69 25).toInt := congrArg Int32.toInt ((by rw [e19]; exact x_up2_off (Or.inl (by decide)) : g19 69 25 = gi18 69 25).trans ((hC18.1 69 25 rfl).1.trans rfl)); omega)) rfl hX rfl (fun w20 gi20 gl20 gr20 l20 u20 hI hX hC20 q20 => ?_)
      have ff24 : (g19 69 24).toInt = (gi 69 24).toInt := congrArg Int32.toInt ((by rw [e19]; exact x_up2_off (Or.inl (by decide)) : g19 69 24 = gi18 69 24).trans ((hC18.1 69 24 rfl).1.trans rfl))
      have q20 : (((g19 69 14).toInt ≤ (gi20 69 14).toInt ∧ (w20.toInt = 1 → (gi20 69 12).toInt ≠ 0 → (g19 69 14).toInt < (gi20 69 14).toInt) ∧ (w20.toInt = 0 → (gi20 69 18).toInt ≠ 0) ∧ (w20.toInt = 1 → (t_em (gi20 70) (t_lo4 (g19 70)) (gi20 69 25).toInt.toNat 1 ∧ (∀ j : Nat, j < 1540 + t_lo4 (g19 70) → gi20 70 j = (g19 70) j) ∧ 0 ≤ (gi20 69 25).toInt ∧ (gi20 69 25).toInt ≤ 8 * (gi20 69 24).toInt))) ∧ ((∀ (b : Nat → Int32) (n q c : Nat), t_TM b n q g19 → t_MF g19 0 (-1) → n ≤ 300 → (g19 69 24).toInt = (c : Int) → (w20.toInt = 1 ∧ ∃ q2 c2 : Nat, s_Cnd b n false q c [] = s_qk q2 c2 ∧ q < q2 ∧ t_TM b n q2 gi20 ∧ t_MF gi20 0 (-1) ∧ (gi20 69 24).toInt = (c2 : Int)) ∨ (w20.toInt = 0 ∧ ∃ p x, x ≠ 0 ∧ s_Cnd b n false q c [] = s_qb b n p x ∧ t_MF gi20 (s_fk b n p x) (s_F b n p))))) ∧ ((∀ (b : Nat → Int32) (n q : Nat) (E : List Int), t_TM b n q g19 → t_AK g19 E → w20.toInt = 1 → t_AK gi20 (s_Em b n false q [] E))) := q20
      have hI25 := hI
      have hI26 := hI
      have hI27 := hI
      obtain ⟨l28, u28⟩ := hI.b (hI.wf.s (k := 69) rfl) (t_bdK rfl : t_bd 11 25 = some (0, 210))
      refine ev_if f_X12_aRule (t1 := 73) (t2 := 75) rfl rfl rfl (fun h29 => ?_) (fun h29 => ?_)
      · have u30 : w20.toInt ≤ 0 := t_equ h29 (by decide : (0:Int32).toInt ≤ (0:Int))
        refine ev_ic f_X12_aRule (nx := 74) (v := 0) rfl (by decide) rfl ?_
        exact ev_ret f_X12_aRule rfl rfl rfl ⟨_, _, _, rfl, hI, hX, ⟨_, rfl, (by decide : (0:Int) ≤ (0:Int32).toInt), (Int.le_trans (by decide : (0:Int32).toInt ≤ (0:Int)) (by decide : (0:Int) ≤ 1)), (show (∀ (b : Nat → Int32) (n q c : Nat) (R : List (List Int × Int)), t_TM b n q gi → t_MF gi 0 (-1) → n ≤ 300 → (gi 69 24).toInt = (c : Int) → s_K b n q ≠ 0 → t_MK gi R → (0 : Int) = 1 → ∃ (q2 c2 : Nat) (x : List Int × Int), (∀ m, s_rle b n (m + 1) q c = x :: s_rle b n m q2 c2) ∧ t_TM b n q2 gi20 ∧ t_MF gi20 0 (-1) ∧ (gi20 69 24).toInt = (c2 : Int) ∧ t_MK gi20 (R ++ [x])) from (fun b n q c R ht hf hn hc hK hR hv => absurd hv (by decide)))⟩⟩
      · have r31 : w20.toInt ≠ 0 := fun e => h29 (Int32.toInt_inj.mp (e.trans (by decide : (0:Int) = (0 : Int32).toInt)))
        have l32 : 1 ≤ w20.toInt := t_nel h29 l20 rfl rfl
        refine ev_loc f_X12_aRule (nx := 76) rfl rfl rfl rfl ?_
        refine ev_getR f_X12_aRule (nx := 79) rfl (hI.wf.s rfl) rfl rfl (hI.wf.r rfl) rfl rfl ?_
        refine ev_loc f_X12_aRule (nx := 80) rfl rfl rfl rfl ?_
        refine ev_ic f_X12_aRule (nx := 81) (v := 1) rfl (by decide) rfl ?_
        refine ev_addC f_X12_aRule (nx := 82) (c := 1) (l := 1501) (u := 1537) rfl (by decide) l7 u7 rfl rfl (by decide) (by decide) rfl (fun z33 e33 l33 u33 => ?_)
        refine ev_loc f_X12_aRule (nx := 83) rfl rfl rfl rfl ?_
        refine ev_gvI f_X12_aRule (nx := 86) (w := (gi20 69 25)) rfl (hI.wf.s rfl) rfl rfl rfl rfl ?_
        refine ev_iastT f_X12_aRule (nx := 87) rfl (hI.wf.s rfl) l33 (by decide) u33 (by decide) rfl (hI.astA (x := (gi 70 1403)) (hI.wf.s rfl) (by decide +kernel : t_abwa 70 1501 3 0 11 0 210 = true) (by omega) (by omega) (by omega) l28 u28 rfl) (hX.upI (t_inR (p := 1501) (m := 1537) rfl l33 (by decide) u33 (by decide) (by decide))) (fun g34 e34 hI hX => ?_)
        refine ev_loc f_X12_aRule (nx := 88) rfl rfl rfl rfl ?_
        refine ev_heap f_X12_aRule (nx := 90) rfl rfl rfl rfl ?_
        refine ev_bp f_X12_aRule (nx := 92) (v := 14) rfl (by decide) rfl ?_
        refine ev_qI f_X12_aRule (nx := 95) (r := []) rfl rfl rfl rfl rfl rfl rfl (c_n_wantWord hI (14)) rfl hX rfl (fun w35 gi35 gl35 gr35 l35 u35 hI hX hC35 q35 => ?_)
        have q35 : ∀ (b : Nat → Int32) (n q : Nat), t_TM b n q g34 → (w35.toInt = 1 ∧ s_mi (s_W b n q) = 14 ∧ t_TM b n (s_E b n q) gi35 ∧ t_mf g34 gi35) ∨ (w35.toInt = 0 ∧ ¬ s_mi (s_W b n q) = 14 ∧ ((g34 69 18).toInt = 0 → t_MF gi35 (s_fk b n q 2) (s_F b n q))) := q35
        refine ev_if f_X12_aRule (t1 := 98) (t2 := 100) rfl rfl rfl (fun h36 => ?_) (fun h36 => ?_)
        · have u37 : w35.toInt ≤ 0 := t_equ h36 (by decide : (0:Int32).toInt ≤ (0:Int))
          refine ev_ic f_X12_aRule (nx := 99) (v := 0) rfl (by decide) rfl ?_
          exact ev_ret f_X12_aRule rfl rfl rfl ⟨_, _, _, rfl, hI, hX, ⟨_, rfl, (by decide : (0:Int) ≤ (0:Int32).toInt), (Int.le_trans (by decide : (0:Int32).toInt ≤ (0:Int)) (by decide : (0:Int) ≤ 1)), (show (∀ (b : Nat → Int32) (n q c : Nat) (R : List (List Int × Int)), t_TM b n q gi → t_MF gi 0 (-1) → n ≤ 300 → (gi 69 24).toInt = (c : Int) → s_K b n q ≠ 0 → t_MK gi R → (0 : Int) = 1 → ∃ (q2 c2 : Nat) (x : List Int × Int), (∀ m, s_rle b n (m + 1) q c = x :: s_rle b n m q2 c2) ∧ t_TM b n q2 gi35 ∧ t_MF gi35 0 (-1) ∧ (gi35 69 24).toInt = (c2 : Int) ∧ t_MK gi35 (R ++ [x])) from (fun b n q c R ht hf hn hc hK hR hv => absurd hv (by decide)))⟩⟩
        · have r38 : w35.toInt ≠ 0 := fun e => h36 (Int32.toInt_inj.mp (e.trans (by decide : (0:Int) = (0 : Int32).toInt)))
          have l39 : 1 ≤ w35.toInt := t_nel h36 l35 rfl rfl
          refine ev_loc f_X12_aRule (nx := 101) rfl rfl rfl rfl ?_
          refine ev_heap f_X12_aRule (nx := 103) rfl rfl rfl rfl ?_
          refine ev_qI0 f_X12_aRule (nx := 106) (r := []) rfl rfl rfl rfl rfl rfl rfl (c_n_inWords hI ) rfl (fun w40 l40 u40 q40 => ?_)
          have q40 : (∀ (b : Nat → Int32) (n q : Nat), t_TM b n q gi35 → w40.toInt = s_mi (s_W b n q)) ∧ (0 ≤ w40.toInt → (gi35 69 12).toInt = 2) := q40
          refine ev_loc f_X12_aRule (nx := 107) (lo' := [(2, .int w40), (1, .int z7), (0, .ref 69)]) rfl rfl rfl rfl ?_
          refine ev_loc f_X12_aRule (nx := 108) rfl rfl rfl rfl ?_
          refine ev_bp f_X12_aRule (nx := 110) (v := 15) rfl (by decide) rfl ?_
          refine ev_if f_X12_aRule (t1 := 119) (t2 := 113) rfl rfl rfl (fun h41 => ?_) (fun h41 => ?_)
          · have u42 : w40.toInt ≤ 14 := t_ltu h41 (by decide : (15:Int32).toInt ≤ (15:Int)) rfl
            refine ev_loc f_X12_aRule (nx := 120) rfl rfl rfl rfl ?_
            refine ev_ic f_X12_aRule (nx := 121) (v := 2) rfl (by decide) rfl ?_
            refine ev_qI f_X12_aRule (nx := 124) (r := []) rfl rfl rfl rfl rfl rfl rfl (c_n_fails hI (2) (by decide : (2:Int) ≤ (2:Int32).toInt) (Int.le_trans (by decide : (2:Int32).toInt ≤ (2:Int)) (by decide : (2:Int) ≤ 7))) rfl hX rfl (fun w43 gi43 gl43 gr43 l43 u43 hI hX hC43 q43 => ?_)
            have q43 : (∀ (b : Nat → Int32) (n q : Nat), t_TM b n q gi35 → (gi35 69 18).toInt = 0 → t_MF gi43 (s_fk b n q 2) (s_F b n q)) ∧ w43.toInt = 0 := q43
            exact ev_retZ f_X12_aRule rfl l43 (Int.le_trans u43 (by decide : (0:Int) ≤ 1)) ⟨_, _, _, rfl, hI, hX, ⟨_, rfl, l43, (Int.le_trans u43 (by decide : (0:Int) ≤ 1)), (show (∀ (b : Nat → Int32) (n q c : Nat) (R : List (List Int × Int)), t_TM b n q gi → t_MF gi 0 (-1) → n ≤ 300 → (gi 69 24).toInt = (c : Int) → s_K b n q ≠ 0 → t_MK gi R → w43.toInt = 1 → ∃ (q2 c2 : Nat) (x : List Int × Int), (∀ m, s_rle b n (m + 1) q c = x :: s_rle b n m q2 c2) ∧ t_TM b n q2 gi43 ∧ t_MF gi43 0 (-1) ∧ (gi43 69 24).toInt = (c2 : Int) ∧ t_MK gi43 (R ++ [x])) from (fun b n q c R ht hf hn hc hK hR hv => absurd hv (by have := q43.2; omega)))⟩⟩
          · have l44 : 15 ≤ w40.toInt := t_lel (t_nlt h41) (by decide : (15:Int) ≤ (15:Int32).toInt)
            refine ev_loc f_X12_aRule (nx := 114) rfl rfl rfl rfl ?_
            refine ev_bp f_X12_aRule (nx := 116) (v := 17) rfl (by decide) rfl ?_
            refine ev_if f_X12_aRule (t1 := 125) (t2 := 119) rfl rfl rfl (fun h45 => ?_) (fun h45 => ?_)
            · have u46 : w40.toInt ≤ 17 := t_leu h45 (by decide : (17:Int32).toInt ≤ (17:Int))
              refine ev_loc f_X12_aRule (nx := 126) rfl rfl rfl rfl ?_
              refine ev_getR f_X12_aRule (nx := 129) rfl (hI.wf.s rfl) rfl rfl (hI.wf.r rfl) rfl rfl ?_
              refine ev_loc f_X12_aRule (nx := 130) rfl rfl rfl rfl ?_
              refine ev_ic f_X12_aRule (nx := 131) (v := 2) rfl (by decide) rfl ?_
              refine ev_addC f_X12_aRule (nx := 132) (c := 2) (l := 1502) (u := 1538) rfl (by decide) l7 u7 rfl rfl (by decide) (by decide) rfl (fun z47 e47 l47 u47 => ?_)
              refine ev_loc f_X12_aRule (nx := 133) rfl rfl rfl rfl ?_
              refine ev_iastT f_X12_aRule (nx := 134) rfl (hI.wf.s rfl) l47 (by decide) u47 (by decide) rfl (hI.astA (x := (gi 70 1403)) (hI.wf.s rfl) (by decide +kernel : t_abwa 70 1502 3 0 11 15 17 = true) (by omega) (by omega) (by omega) l44 u46 rfl) (hX.upI (t_inR (p := 1502) (m := 1538) rfl l47 (by decide) u47 (by decide) (by decide))) (fun g48 e48 hI hX => ?_)
              refine ev_loc f_X12_aRule (nx := 135) rfl rfl rfl rfl ?_
              refine ev_qN f_X12_aRule (nx := 138) (r := []) rfl rfl rfl rfl rfl rfl rfl (c_n_aheadB hI ) rfl hX rfl (fun gi49 gl49 gr49 hI hX hC49 q49 => ?_)
              have q49 : ((g48 69 14).toInt ≤ (gi49 69 14).toInt ∧ ((gi49 69 12).toInt ≠ 0 → (g48 69 14).toInt < (gi49 69 14).toInt) ∧ ((gi49 69 12).toInt = 3 → 0 ≤ (gi49 69 15).toInt)) ∧ (∀ (b : Nat → Int32) (n q : Nat), t_Sm b n q g48 → t_TM b n q gi49) := q49
              refine ev_loc f_X12_aRule (nx := 139) rfl rfl rfl rfl ?_
              refine ev_getR f_X12_aRule (nx := 142) rfl (hI.wf.s rfl) rfl rfl (hI.wf.r rfl) rfl rfl ?_
              refine ev_sp f_X12_aRule (nx := 145) (v := 1403) rfl (by decide) rfl ?_
              refine ev_alu f_X12_aRule (nx := 146) rfl rfl rfl rfl ?_
              refine ev_ialdv f_X12_aRule (nx := 147) (w := (gi 70 1403)) rfl (hI.wf.s rfl) (by decide) (rfl : (1403 : Int32).toNatClampNeg = 1403) (by decide) ((hC49.1 70 1403 rfl).1.trans ((by rw [e48]; exact x_up2_off (Or.inr (t_neCl l47 (by decide))) : g48 70 1403 = gi35 70 1403).trans ((hC35.1 70 1403 rfl).1.trans ((by rw [e34]; exact x_up2_off (Or.inr (t_neCl l33 (by decide))) : g34 70 1403 = gi20 70 1403).trans ((hC20.1 70 1403 rfl).1.trans ((by rw [e19]; exact x_up2_off (Or.inr (t_neCl l7 (by decide))) : g19 70 1403 = gi18 70 1403).trans ((hC18.1 70 1403 rfl).1.trans rfl))))))) rfl ?_
              refine ev_ic f_X12_aRule (nx := 148) (v := 1) rfl (by decide) rfl ?_
              refine ev_addC f_X12_aRule (nx := 149) (c := 1) (l := 1) (u := 12) rfl (by decide) l5 u17 rfl rfl (by decide) (by decide) rfl (fun z51 e51 l51 u51 => ?_)
              refine ev_iastT f_X12_aRule (nx := 150) rfl (hI.wf.s rfl) (by decide : (1403:Int) ≤ (1403:Int32).toInt) (by decide) (by decide : (1403:Int32).toInt ≤ (1403:Int)) (by decide) rfl (hI.astL (hI.wf.s rfl) (by decide +kernel : t_abw 70 1403 1403 1 12 = true) (t_cl1 (by decide : (1403:Int) ≤ (1403:Int32).toInt) (by decide)) (t_cl2 (by decide : (1403:Int) ≤ (1403:Int32).toInt) (by decide : (1403:Int32).toInt ≤ (1403:Int)) (by decide) (by decide)) l51 u51 rfl) (hX.upI (t_inR (p := 1403) (m := 1403) rfl (by decide : (1403:Int) ≤ (1403:Int32).toInt) (by decide) (by decide : (1403:Int32).toInt ≤ (1403:Int)) (by decide) (by decide))) (fun g52 e52 hI hX => ?_)
              refine ev_loc f_X12_aRule (nx := 151) rfl rfl rfl rfl ?_
              refine ev_bp f_X12_aRule (nx := 153) (v := 59) rfl (by decide) rfl ?_
              refine ev_qI f_X12_aRule (nx := 156) (r := []) rfl rfl rfl rfl rfl rfl rfl (c_n_wantSign hI (59)) rfl hX rfl (fun w53 gi53 gl53 gr53 l53 u53 hI hX hC53 q53 => ?_)
              have q53 : ∀ (b : Nat → Int32) (n q : Nat), t_TM b n q g52 → (w53.toInt = 1 ∧ s_isS b n q 59 ∧ t_TM b n (s_E b n q) gi53 ∧ t_mf g52 gi53) ∨ (w53.toInt = 0 ∧ ¬ s_isS b n q 59 ∧ ((g52 69 18).toInt = 0 → t_MF gi53 (s_fk b n q 2) (s_F b n q))) := q53
              exact ev_retZ f_X12_aRule rfl l53 u53 ⟨_, _, _, rfl, hI, hX, ⟨_, rfl, l53, u53, (show (∀ (b : Nat → Int32) (n q c : Nat) (R : List (List Int × Int)), t_TM b n q gi → t_MF gi 0 (-1) → n ≤ 300 → (gi 69 24).toInt = (c : Int) → s_K b n q ≠ 0 → t_MK gi R → w53.toInt = 1 → ∃ (q2 c2 : Nat) (x : List Int × Int), (∀ m, s_rle b n (m + 1) q c = x :: s_rle b n m q2 c2) ∧ t_TM b n q2 gi53 ∧ t_MF gi53 0 (-1) ∧ (gi53 69 24).toInt = (c2 : Int) ∧ t_MK gi53 (R ++ [x])) from (fun b n q c R ht hf hn hc hK hR hv => (by
                                                            have hk := q8.1 b n _ ht
                                                            have hW : s_W b n q = some 13 := s_mi_i (by decide) (show s_mi (s_W b n q) = 13 by omega)
                                                            have hr := hR.1.1
                                                            have h12 := hR.1.2
                                                            have hr12 : R.length < 12 := by omega
                                                            have t1 := (q18.2 b n _ ht.S).fM (t_fM.rf.ux (by decide) e19)
                                                            have f1 := (hf.mf ⟨(hC18.1 69 18 rfl).1, (hC18.1 69 17 rfl).1⟩).fM (t_fM.rf.ux (by decide) e19)
                                                            have c1 : (g19 69 24).toInt = (c : Int) := (congrArg Int32.toInt (by rw [e19, x_up2_ne (by decide), (hC18.1 69 24 rfl).1])).trans hc
                                                            have a1 : t_AK g19 (s_flr R) := hR.2.1.fr (congrArg Int32.toInt (by rw [e19, x_up2_ne (by decide), (hC18.1 69 25 rfl).1])) (fun j hj => ((by rw [e19]; exact x_up2_off (Or.inr (by have hc := t_clamp (i := z7) (by omega); omega)) : g19 70 (j) = gi18 70 (j)).trans ((hC18.1 70 (j) rfl).1)))
                                                            obtain ⟨_, q2, c2, hX, hlt, h2, h3, h4⟩ := (q20.1.2 b n _ c t1 f1 hn c1).resolve_right (fun hh => absurd hh.1 (by omega))
                                                            have hE := q20.2 b n _ _ t1 a1 (by omega)
                                                            rw [s_Em_f] at hE
                                                            have t2 := h2.fM (t_fM.rf.ux (by decide) e34)
                                                            have f2 := h3.fM (t_fM.rf.ux (by decide) e34)
                                                            obtain ⟨_, hw, t3, m3⟩ := (q35 b n _ t2).resolve_right (fun hh => absurd hh.1 (by omega))
                                                            have hD : s_W b n q2 = some 14 := (s_mi_W (i := 14) (by decide)).mp hw
                                                            have f3 := f2.mf m3
                                                            have hk2 := q40.1 b n _ t3
                                                            have t4 := (q49.2 b n _ (t3.fM (t_fM.rf.ux (by decide) e48)).S).fM (t_fM.rf.ux (by decide) e52)
                                                            have f4 := ((f3.fM (t_fM.rf.ux (by decide) e48)).mf ⟨(hC49.1 69 18 rfl).1, (hC49.1 69 17 rfl).1⟩).fM (t_fM.rf.ux (by decide) e52)
                                                            obtain ⟨_, hS, t5, m5⟩ := (q53 b n _ t4).resolve_right (fun hh => absurd hh.1 (by omega))
                                                            have d3 := congrArg Int32.toInt (((hC53.1 70 (1403) rfl).1.trans ((by rw [e52, show 1403 = (1403 : Int32).toNatClampNeg from (by have hc : (1403 : Int32).toNatClampNeg = 1403 := rfl; omega)]; exact x_up2_at _ _ _ _ : g52 70 (1403) = z51))))
                                                            have d0 := congrArg Int32.toInt (((hC53.1 70 (1500 + 3 * R.length) rfl).1.trans ((by rw [e52]; exact x_up2_off (Or.inr (by have hc : (1403 : Int32).toNatClampNeg = 1403 := rfl; omega)) : g52 70 (1500 + 3 * R.length) = gi49 70 (1500 + 3 * R.length)).trans ((hC49.1 70 (1500 + 3 * R.length) rfl).1.trans ((by rw [e48]; exact x_up2_off (Or.inr (by have hc := t_clamp (i := z47) (by omega); omega)) : g48 70 (1500 + 3 * R.length) = gi35 70 (1500 + 3 * R.length)).trans ((hC35.1 70 (1500 + 3 * R.length) rfl).1.trans ((by rw [e34]; exact x_up2_off (Or.inr (by have hc := t_clamp (i := z33) (by omega); omega)) : g34 70 (1500 + 3 * R.length) = gi20 70 (1500 + 3 * R.length)).trans (((q20.1.1.2.2.2 (by omega)).2.1 (1500 + 3 * R.length) (by omega)).trans ((by rw [e19, show 1500 + 3 * R.length = z7.toNatClampNeg from (by have hc := t_clamp (i := z7) (by omega); omega)]; exact x_up2_at _ _ _ _ : g19 70 (1500 + 3 * R.length) = (gi 69 25)))))))))))
                                                            have d1 := congrArg Int32.toInt (((hC53.1 70 (1501 + 3 * R.length) rfl).1.trans ((by rw [e52]; exact x_up2_off (Or.inr (by have hc : (1403 : Int32).toNatClampNeg = 1403 := rfl; omega)) : g52 70 (1501 + 3 * R.length) = gi49 70 (1501 + 3 * R.length)).trans ((hC49.1 70 (1501 + 3 * R.length) rfl).1.trans ((by rw [e48]; exact x_up2_off (Or.inr (by have hc := t_clamp (i := z47) (by omega); omega)) : g48 70 (1501 + 3 * R.length) = gi35 70 (1501 + 3 * R.length)).trans ((hC35.1 70 (1501 + 3 * R.length) rfl).1.trans ((by rw [e34, show 1501 + 3 * R.length = z33.toNatClampNeg from (by have hc := t_clamp (i := z33) (by omega); omega)]; exact x_up2_at _ _ _ _ : g34 70 (1501 + 3 * R.length) = (gi20 69 25)))))))))
                                                            have d2 := congrArg Int32.toInt (((hC53.1 70 (1502 + 3 * R.length) rfl).1.trans ((by rw [e52]; exact x_up2_off (Or.inr (by have hc : (1403 : Int32).toNatClampNeg = 1403 := rfl; omega)) : g52 70 (1502 + 3 * R.length) = gi49 70 (1502 + 3 * R.length)).trans ((hC49.1 70 (1502 + 3 * R.length) rfl).1.trans ((by rw [e48, show 1502 + 3 * R.length = z47.toNatClampNeg from (by have hc := t_clamp (i := z47) (by omega); omega)]; exact x_up2_at _ _ _ _ : g48 70 (1502 + 3 * R.length) = w40))))))
                                                            have e25 : (gi53 69 25).toInt = (gi20 69 25).toInt := (congrArg Int32.toInt (by rw [(hC53.1 69 25 rfl).1, e52, x_up2_ne (by decide), (hC49.1 69 25 rfl).1, e48, x_up2_ne (by decide), (hC35.1 69 25 rfl).1, e34, x_up2_ne (by decide)]))
                                                            have b3 : g19 70 1403 = gi 70 1403 := ((by rw [e19]; exact x_up2_off (Or.inr (by have hc := t_clamp (i := z7) (by omega); omega)) : g19 70 (1403) = gi18 70 (1403)).trans ((hC18.1 70 (1403) rfl).1))
                                                            have b0 := (by rw [e19, show 1500 + 3 * R.length = z7.toNatClampNeg from (by have hc := t_clamp (i := z7) (by omega); omega)]; exact x_up2_at _ _ _ _ : g19 70 (1500 + 3 * R.length) = (gi 69 25))
                                                            have ha1 := hR.2.1.1
                                                            have hlo : t_lo4 (g19 70) = (s_flr R).length := by unfold t_lo4; rw [b3, show (gi 70 1403).toInt.toNat = R.length by omega, b0]; omega
                                                            have hgd := t_em_hr (q20.1.1.2.2.2 (by omega)).1 hlo rfl hE
                                                            have hM := hR.add (g1 := gi53) (p := (s_Em b n false (s_E b n q) [] [], s_mi (s_W b n (s_E b n q2)) - 15)) hr12 (hE.fr e25 (fun j hj => ((hC53.1 70 (j) rfl).1.trans ((by rw [e52]; exact x_up2_off (Or.inr (by have hc : (1403 : Int32).toNatClampNeg = 1403 := rfl; omega)) : g52 70 (j) = gi49 70 (j)).trans ((hC49.1 70 (j) rfl).1.trans ((by rw [e48]; exact x_up2_off (Or.inr (by have hc := t_clamp (i := z47) (by omega); omega)) : g48 70 (j) = gi35 70 (j)).trans ((hC35.1 70 (j) rfl).1.trans ((by rw [e34]; exact x_up2_off (Or.inr (by have hc := t_clamp (i := z33) (by omega); omega)) : g34 70 (j) = gi20 70 (j)))))))))) (d3.trans (by omega)) (d0.trans (by omega)) (d1.trans (by omega)) (d2.trans (by show _ = s_mi (s_W b n (s_E b n q2)) - 15 + 15; omega)) (fun j j1 j2 => ((hC53.1 70 (j) rfl).1.trans ((by rw [e52]; exact x_up2_off (Or.inr (by have hc : (1403 : Int32).toNatClampNeg = 1403 := rfl; omega)) : g52 70 (j) = gi49 70 (j)).trans ((hC49.1 70 (j) rfl).1.trans ((by rw [e48]; exact x_up2_off (Or.inr (by have hc := t_clamp (i := z47) (by omega); omega)) : g48 70 (j) = gi35 70 (j)).trans ((hC35.1 70 (j) rfl).1.trans ((by rw [e34]; exact x_up2_off (Or.inr (by have hc := t_clamp (i := z33) (by omega); omega)) : g34 70 (j) = gi20 70 (j)).trans (((q20.1.1.2.2.2 (by omega)).2.1 (j) (by omega)).trans ((by rw [e19]; exact x_up2_off (Or.inr (by have hc := t_clamp (i := z7) (by omega); omega)) : g19 70 (j) = gi18 70 (j)).trans ((hC18.1 70 (j) rfl).1)))))))))) hgd
                                                            exact ⟨_, c2, _, (fun m => s_rle_k hK hX rfl (by omega)), t5, f4.mf m5, (congrArg Int32.toInt (by rw [(hC53.1 69 24 rfl).1, e52, x_up2_ne (by decide), (hC49.1 69 24 rfl).1, e48, x_up2_ne (by decide), (hC35.1 69 24 rfl).1, e34, x_up2_ne (by decide)])).trans h4, hM⟩)))⟩⟩
            · have l54 : 18 ≤ w40.toInt := t_ltl (t_nle h45) (by decide : (17:Int) ≤ (17:Int32).toInt) rfl
              refine ev_loc f_X12_aRule (nx := 120) rfl rfl rfl rfl ?_
              refine ev_ic f_X12_aRule (nx := 121) (v := 2) rfl (by decide) rfl ?_
              refine ev_qI f_X12_aRule (nx := 124) (r := []) rfl rfl rfl rfl rfl rfl rfl (c_n_fails hI (2) (by decide : (2:Int) ≤ (2:Int32).toInt) (Int.le_trans (by decide : (2:Int32).toInt ≤ (2:Int)) (by decide : (2:Int) ≤ 7))) rfl hX rfl (fun w55 gi55 gl55 gr55 l55 u55 hI hX hC55 q55 => ?_)
              have q55 : (∀ (b : Nat → Int32) (n q : Nat), t_TM b n q gi35 → (gi35 69 18).toInt = 0 → t_MF gi55 (s_fk b n q 2) (s_F b n q)) ∧ w55.toInt = 0 := q55
              exact ev_retZ f_X12_aRule rfl l55 (Int.le_trans u55 (by decide : (0:Int) ≤ 1)) ⟨_, _, _, rfl, hI, hX, ⟨_, rfl, l55, (Int.le_trans u55 (by decide : (0:Int) ≤ 1)), (show (∀ (b : Nat → Int32) (n q c : Nat) (R : List (List Int × Int)), t_TM b n q gi → t_MF gi 0 (-1) → n ≤ 300 → (gi 69 24).toInt = (c : Int) → s_K b n q ≠ 0 → t_MK gi R → w55.toInt = 1 → ∃ (q2 c2 : Nat) (x : List Int × Int), (∀ m, s_rle b n (m + 1) q c = x :: s_rle b n m q2 c2) ∧ t_TM b n q2 gi55 ∧ t_MF gi55 0 (-1) ∧ (gi55 69 24).toInt = (c2 : Int) ∧ t_MK gi55 (R ++ [x])) from (fun b n q c R ht hf hn hc hK hR hv => absurd hv (by have := q55.2; omega)))⟩⟩
  · have r56 : w8.toInt ≠ 13 := fun e => h9 (Int32.toInt_inj.mp (e.trans (by decide : (13:Int) = (13 : Int32).toInt)))
    refine ev_loc f_X12_aRule (nx := 27) rfl rfl rfl rfl ?_
    refine ev_ic f_X12_aRule (nx := 28) (v := 2) rfl (by decide) rfl ?_
    refine ev_qI f_X12_aRule (nx := 31) (r := []) rfl rfl rfl rfl rfl rfl rfl (c_n_fails hI (2) (by decide : (2:Int) ≤ (2:Int32).toInt) (Int.le_trans (by decide : (2:Int32).toInt ≤ (2:Int)) (by decide : (2:Int) ≤ 7))) rfl hX rfl (fun w57 gi57 gl57 gr57 l57 u57 hI hX hC57 q57 => ?_)
    have q57 : (∀ (b : Nat → Int32) (n q : Nat), t_TM b n q gi → (gi 69 18).toInt = 0 → t_MF gi57 (s_fk b n q 2) (s_F b n q)) ∧ w57.toInt = 0 := q57
    exact ev_retZ f_X12_aRule rfl l57 (Int.le_trans u57 (by decide : (0:Int) ≤ 1)) ⟨_, _, _, rfl, hI, hX, ⟨_, rfl, l57, (Int.le_trans u57 (by decide : (0:Int) ≤ 1)), (show (∀ (b : Nat → Int32) (n q c : Nat) (R : List (List Int × Int)), t_TM b n q gi → t_MF gi 0 (-1) → n ≤ 300 → (gi 69 24).toInt = (c : Int) → s_K b n q ≠ 0 → t_MK gi R → w57.toInt = 1 → ∃ (q2 c2 : Nat) (x : List Int × Int), (∀ m, s_rle b n (m + 1) q c = x :: s_rle b n m q2 c2) ∧ t_TM b n q2 gi57 ∧ t_MF gi57 0 (-1) ∧ (gi57 69 24).toInt = (c2 : Int) ∧ t_MK gi57 (R ++ [x])) from (fun b n q c R ht hf hn hc hK hR hv => absurd hv (by have := q57.2; omega)))⟩⟩
noncomputable def Q_o_aRuleB (gi : Nat → Nat → Int32) (gl : Nat → Nat → Int64) (gr : Nat → Nat → Value) : Int32 → (Nat → Nat → Int32) → (Nat → Nat → Int64) → (Nat → Nat → Value) → Prop := fun (v : Int32) (gi2 : Nat → Nat → Int32) (gl2 : Nat → Nat → Int64) (gr2 : Nat → Nat → Value) => (((gi 69 14).toInt ≤ (gi2 69 14).toInt ∧ (v.toInt = 1 → (gi2 69 12).toInt ≠ 0 → (gi 69 14).toInt < (gi2 69 14).toInt) ∧ (v.toInt = 0 → (gi2 69 18).toInt ≠ 0) ∧ (v.toInt = 1 → (t_R4 (gi2 70) (gi2 69 25).toInt ∧ (gi2 69 25).toInt ≤ 8 * (gi2 69 24).toInt))) ∧ ((∀ (b : Nat → Int32) (n q c r : Nat), t_TM b n q gi → t_MF gi 0 (-1) → n ≤ 300 → (gi 69 24).toInt = (c : Int) → (gi 70 1403).toInt = (r : Int) → s_K b n q ≠ 0 → (v.toInt = 1 ∧ ∃ q2 c2 : Nat, (r < 12 ∧ ∀ m, s_rls b n (m + 1) q c r = s_rls b n m q2 c2 (r + 1)) ∧ t_TM b n q2 gi2 ∧ t_MF gi2 0 (-1) ∧ (gi2 69 24).toInt = (c2 : Int) ∧ (gi2 70 1403).toInt = (r : Int) + 1) ∨ (v.toInt = 0 ∧ ∃ p x, x ≠ 0 ∧ (∀ m, s_rls b n (m + 1) q c r = ((s_qb b n p x).1, 0)) ∧ t_MF gi2 (s_fk b n p x) (s_F b n p))))) ∧ ((∀ (b : Nat → Int32) (n q c : Nat) (R : List (List Int × Int)), t_TM b n q gi → t_MF gi 0 (-1) → n ≤ 300 → (gi 69 24).toInt = (c : Int) → s_K b n q ≠ 0 → t_MK gi R → v.toInt = 1 → ∃ (q2 c2 : Nat) (x : List Int × Int), (∀ m, s_rle b n (m + 1) q c = x :: s_rle b n m q2 c2) ∧ t_TM b n q2 gi2 ∧ t_MF gi2 0 (-1) ∧ (gi2 69 24).toInt = (c2 : Int) ∧ t_MK gi2 (R ++ [x])))
theorem c_o_aRuleB {X : x_Ext} {d : Nat} {sh : List (Nat ⊕ (Nat × Nat))} {gi : Nat → Nat → Int32} {gl : Nat → Nat → Int64} {gr : Nat → Nat → Value} (hI : t_I sh gi gr) (e_p0 : t_R4 (gi 70) (gi 69 25).toInt) (e_p1 : (gi 69 25).toInt ≤ 8 * (gi 69 24).toInt) : x_Me X (d + 8) n_X12_aRule [.ref 69] (sh, gi, gl, gr) (t_PI wl_m_aRule sh gi gl gr 0 1 (Q_o_aRuleB gi gl gr)) := by
  refine ((x_Me.up (c_n_aRuleB (X := X) (d := d) (gl := gl) hI e_p0 e_p1) (by omega)).and (x_Me.up (c_o_aRule (X := X) (d := d) (gl := gl) hI e_p0 e_p1) (by omega))).mono ?_
  rintro v G' ⟨⟨g1, l1, r1, rfl, k1, k2, x, rfl, k3, k4, k5⟩, g2, l2, r2, e, _, _, x2, e2, _, _, q⟩
  cases e; cases e2
  exact ⟨g1, l1, r1, rfl, k1, k2, x, rfl, k3, k4, k5, q⟩
noncomputable def wl_o_rules : List (Nat × Nat) := [(69, 2), (69, 10), (69, 11), (69, 12), (69, 13), (69, 14), (69, 15), (69, 16), (69, 17), (69, 18), (69, 19), (69, 22), (69, 23), (69, 24), (69, 25), (70, 310003), (70, 810008), (70, 10010349), (70, 140311403), (70, 150011536), (70, 150111537), (70, 150211538), (70, 154011750), (76, 9999), (77, 9999)]
noncomputable def Q_o_rules (gi : Nat → Nat → Int32) (gl : Nat → Nat → Int64) (gr : Nat → Nat → Value) (J0 : Nat) (ar1 : Int32) : Int32 → (Nat → Nat → Int32) → (Nat → Nat → Int64) → (Nat → Nat → Value) → Prop := fun (v : Int32) (gi2 : Nat → Nat → Int32) (gl2 : Nat → Nat → Int64) (gr2 : Nat → Nat → Value) => ((0 ≤ ar1.toInt ∧ ar1.toInt ≤ (gi 69 10).toInt ∧ ar1.toInt ≤ 300) → ∀ (b : Nat → Int32) (n : Nat), (n : Int) = ar1.toInt → (∀ j : Nat, j < n → gi 75 j = b j) → t_by b n → 0 ≤ v.toInt → (gi2 70 8).toInt = 1 ∧ t_MQ (gi2 70) (s_rle b n 301 0 0)) ∧ (v.toInt = -1 → gi2 70 J0 = gi 70 J0)
set_option maxHeartbeats 40000000 in
theorem c_o_rules {X : x_Ext} {d : Nat} {sh : List (Nat ⊕ (Nat × Nat))} {gi : Nat → Nat → Int32} {gl : Nat → Nat → Int64} {gr : Nat → Nat → Value} (hI : t_I sh gi gr) (J0 : Nat) (b_J0l : 0 ≤ J0) (b_J0u : J0 < 350) (ar1 : Int32) : x_Me X (d + 9) n_X12_rules [.ref 69, .int ar1] (sh, gi, gl, gr) (t_PI wl_o_rules sh gi gl gr (-1) 12 (Q_o_rules gi gl gr J0 ar1)) := by
  have hX : t_X wl_o_rules sh gi gl gr gi gl gr := t_X.rf
  refine me_i f_X12_rules (hI.wf.s rfl) rfl rfl rfl ?_
  obtain ⟨l1, u1⟩ := hI.b (hI.wf.s (k := 69) rfl) (t_bdK rfl : t_bd 11 10 = some (0, 900))
  obtain ⟨l2, u2⟩ := hI.b (hI.wf.s (k := 69) rfl) (t_bdK rfl : t_bd 11 12 = some (0, 4))
  obtain ⟨l3, u3⟩ := hI.b (hI.wf.s (k := 69) rfl) (t_bdK rfl : t_bd 11 14 = some (0, 900))
  obtain ⟨l5, u5⟩ := hI.b (hI.wf.s (k := 69) rfl) (t_bdK rfl : t_bd 11 24 = some (0, 24))
  obtain ⟨l6, u6⟩ := hI.b (hI.wf.s (k := 69) rfl) (t_bdK rfl : t_bd 11 25 = some (0, 210))
  obtain ⟨l7, u7⟩ := hI.ab (by decide +kernel : t_abr 70 3 3 0 12 = true) (Nat.le_refl _) (Nat.le_refl _)
  obtain ⟨l8, u8⟩ := hI.ab (by decide +kernel : t_abr 70 4 4 0 20 = true) (Nat.le_refl _) (Nat.le_refl _)
  obtain ⟨l9, u9⟩ := hI.ab (by decide +kernel : t_abr 70 8 8 0 1 = true) (Nat.le_refl _) (Nat.le_refl _)
  obtain ⟨l10, u10⟩ := hI.ab (by decide +kernel : t_abr 70 1403 1403 0 12 = true) (Nat.le_refl _) (Nat.le_refl _)
  refine ev_loc f_X12_rules (nx := 1) rfl rfl rfl rfl ?_
  refine ev_loc f_X12_rules (nx := 2) rfl rfl rfl rfl ?_
  refine ev_sp f_X12_rules (nx := 5) (v := 300) rfl (by decide) rfl ?_
  refine ev_qI f_X12_rules (nx := 8) (r := []) rfl rfl rfl rfl rfl rfl rfl (c_n_begins hI (ar1) (300)) rfl hX rfl (fun w11 gi11 gl11 gr11 l11 u11 hI hX hC11 q11 => ?_)
  have q11 : (∀ (b : Nat → Int32) (n : Nat), (n : Int) = ar1.toInt → (∀ j : Nat, j < n → gi 75 j = b j) → t_by b n → w11.toInt = 1 → t_TM b n 0 gi11 ∧ t_MF gi11 0 (-1)) ∧ (w11.toInt = 1 → (0 ≤ ar1.toInt ∧ ar1.toInt ≤ (gi 69 10).toInt ∧ ar1.toInt ≤ 300)) ∧ (w11.toInt = 0 → ¬ (0 ≤ ar1.toInt ∧ ar1.toInt ≤ (gi 69 10).toInt ∧ ar1.toInt ≤ 300)) := q11
  obtain ⟨l12, u12⟩ := hI.b (hI.wf.s (k := 69) rfl) (t_bdK rfl : t_bd 11 10 = some (0, 900))
  obtain ⟨l13, u13⟩ := hI.b (hI.wf.s (k := 69) rfl) (t_bdK rfl : t_bd 11 12 = some (0, 4))
  obtain ⟨l14, u14⟩ := hI.b (hI.wf.s (k := 69) rfl) (t_bdK rfl : t_bd 11 14 = some (0, 900))
  refine ev_if f_X12_rules (t1 := 11) (t2 := 17) rfl rfl rfl (fun h16 => ?_) (fun h16 => ?_)
  · have u17 : w11.toInt ≤ 0 := t_equ h16 (by decide : (0:Int32).toInt ≤ (0:Int))
    refine ev_loc f_X12_rules (nx := 12) rfl rfl rfl rfl ?_
    refine ev_ic f_X12_rules (nx := 13) (v := 1) rfl (by decide) rfl ?_
    refine ev_inV2 f_X12_rules (nx := 16) (lo2 := [(0, .ref 69), (1, .int 1)]) rfl rfl rfl rfl f_X12_refuse (hI.wf.s rfl) rfl rfl rfl rfl rfl ?_
    refine ev_loc f_X12_refuse (nx := 1) rfl rfl rfl rfl ?_
    refine ev_loc f_X12_refuse (nx := 2) rfl rfl rfl rfl ?_
    refine ev_putIT f_X12_refuse (nx := 5) rfl (hI.wf.s rfl) rfl rfl rfl (hI.put0 (hI.wf.s rfl) rfl rfl) (hX.upI rfl) (fun g18 e18 hI hX => ?_)
    refine ev_ic f_X12_refuse (nx := 6) (v := -1) rfl (by decide) rfl ?_
    refine ev_retK1 f_X12_refuse rfl rfl rfl ?_
    exact ev_ret f_X12_rules rfl rfl rfl ⟨_, _, _, rfl, hI, hX, ⟨_, rfl, (by decide : ((-1):Int) ≤ ((-1):Int32).toInt), (Int.le_trans (by decide : ((-1):Int32).toInt ≤ ((-1):Int)) (by decide : ((-1):Int) ≤ 12)), (show ((0 ≤ ar1.toInt ∧ ar1.toInt ≤ (gi 69 10).toInt ∧ ar1.toInt ≤ 300) → ∀ (b : Nat → Int32) (n : Nat), (n : Int) = ar1.toInt → (∀ j : Nat, j < n → gi 75 j = b j) → t_by b n → 0 ≤ ((-1) : Int) → (g18 70 8).toInt = 1 ∧ t_MQ (g18 70) (s_rle b n 301 0 0)) ∧ (((-1) : Int) = -1 → g18 70 J0 = gi 70 J0) from ⟨fun _ b n hn hb hy hv => absurd hv (by decide), fun _ => (((by rw [e18]; exact x_up2_off (Or.inl (by decide)) : g18 70 J0 = gi11 70 J0).trans ((hC11.1 70 J0 (t_nG (lo := 0) (hi := 350) rfl (by omega) (by omega))).1.trans rfl)) : g18 70 J0 = gi 70 J0)⟩)⟩⟩
  · have r19 : w11.toInt ≠ 0 := fun e => h16 (Int32.toInt_inj.mp (e.trans (by decide : (0:Int) = (0 : Int32).toInt)))
    have l20 : 1 ≤ w11.toInt := t_nel h16 l11 rfl rfl
    refine ev_loc f_X12_rules (nx := 18) rfl rfl rfl rfl ?_
    refine ev_getR f_X12_rules (nx := 21) rfl (hI.wf.s rfl) rfl rfl (hI.wf.r rfl) rfl rfl ?_
    refine ev_sp f_X12_rules (nx := 24) (v := 1403) rfl (by decide) rfl ?_
    refine ev_ic f_X12_rules (nx := 25) (v := 0) rfl (by decide) rfl ?_
    refine ev_iastT f_X12_rules (nx := 26) rfl (hI.wf.s rfl) (by decide : (1403:Int) ≤ (1403:Int32).toInt) (by decide) (by decide : (1403:Int32).toInt ≤ (1403:Int)) (by decide) rfl (hI.astL (hI.wf.s rfl) (by decide +kernel : t_abw 70 1403 1403 0 0 = true) (t_cl1 (by decide : (1403:Int) ≤ (1403:Int32).toInt) (by decide)) (t_cl2 (by decide : (1403:Int) ≤ (1403:Int32).toInt) (by decide : (1403:Int32).toInt ≤ (1403:Int)) (by decide) (by decide)) (by decide : (0:Int) ≤ (0:Int32).toInt) (by decide : (0:Int32).toInt ≤ (0:Int)) rfl) (hX.upI (t_inR (p := 1403) (m := 1403) rfl (by decide : (1403:Int) ≤ (1403:Int32).toInt) (by decide) (by decide : (1403:Int32).toInt ≤ (1403:Int)) (by decide) (by decide))) (fun g21 e21 hI hX => ?_)
    refine ev_loc f_X12_rules (nx := 27) rfl rfl rfl rfl ?_
    refine ev_ic f_X12_rules (nx := 28) (v := 0) rfl (by decide) rfl ?_
    refine ev_putIT f_X12_rules (nx := 31) rfl (hI.wf.s rfl) rfl rfl rfl (hI.putB (hI.wf.s rfl) rfl rfl (by decide : (0:Int) ≤ (0:Int32).toInt) (by decide) (by decide : (0:Int32).toInt ≤ (0:Int)) (by decide)) (hX.upI rfl) (fun g22 e22 hI hX => ?_)
    refine ev_loc f_X12_rules (nx := 32) rfl rfl rfl rfl ?_
    refine ev_ic f_X12_rules (nx := 33) (v := 0) rfl (by decide) rfl ?_
    refine ev_putIT f_X12_rules (nx := 36) rfl (hI.wf.s rfl) rfl rfl rfl (hI.putB (hI.wf.s rfl) rfl rfl (by decide : (0:Int) ≤ (0:Int32).toInt) (by decide) (by decide : (0:Int32).toInt ≤ (0:Int)) (by decide)) (hX.upI rfl) (fun g23 e23 hI hX => ?_)
    refine ev_ic f_X12_rules (nx := 37) (v := 1) rfl (by decide) rfl ?_
    refine ev_loc f_X12_rules (nx := 38) (lo' := [(2, .int 1), (0, .ref 69), (1, .int ar1)]) rfl rfl rfl rfl ?_
    have L24 : ∀ (m24 : Nat) (gi24 : Nat → Nat → Int32) (gl24 : Nat → Nat → Int64) (gr24 : Nat → Nat → Value) (y24_2 : Int32), t_I sh gi24 gr24 → t_X wl_o_rules sh gi gl gr gi24 gl24 gr24 → 0 ≤ y24_2.toInt → y24_2.toInt ≤ 1 → gi24 69 10 = (gi11 69 10) → gi24 70 J0 = (gi 70 J0) → gi24 70 3 = (gi 70 3) → gi24 70 4 = (gi 70 4) → gi24 70 8 = (gi 70 8) → (y24_2.toInt = 1 → (t_R4 (gi24 70) (gi24 69 25).toInt ∧ (gi24 69 25).toInt ≤ 8 * (gi24 69 24).toInt)) → (y24_2.toInt = 0 → (gi24 69 18).toInt ≠ 0) → (∀ (b : Nat → Int32) (n : Nat), (n : Int) = ar1.toInt → (∀ j : Nat, j < n → gi 75 j = b j) → t_by b n → t_OQ b n y24_2 gi24) → (∀ (b : Nat → Int32) (n : Nat), (n : Int) = ar1.toInt → (∀ j : Nat, j < n → gi 75 j = b j) → t_by b n → t_UR b n y24_2 gi24) → (4 * (900 - (gi24 69 14).toInt) + 2 * min (gi24 69 12).toInt 1 + y24_2.toInt).toNat = m24 → x_Ev X (d + 9) n_X12_rules 38 [(2, .int y24_2), (0, .ref 69), (1, .int ar1)] [] (sh, gi24, gl24, gr24) (t_PI wl_o_rules sh gi gl gr (-1) 12 (Q_o_rules gi gl gr J0 ar1)) := by
      intro m24
      induction m24 using Nat.strongRecOn with
      | _ m24 ih24 =>
      intro gi24 gl24 gr24 y24_2 hI hX l24_2 u24_2 c24_0 c24_1 c24_2 c24_3 c24_4 j24_0 j24_1 j24_2 j24_3 hm24
      have cf24_0 : (gi24 69 10).toInt = (gi11 69 10).toInt := congrArg Int32.toInt c24_0
      have cf24_2 : (gi24 70 3).toInt = (gi 70 3).toInt := congrArg Int32.toInt c24_2
      have cf24_3 : (gi24 70 4).toInt = (gi 70 4).toInt := congrArg Int32.toInt c24_3
      have cf24_4 : (gi24 70 8).toInt = (gi 70 8).toInt := congrArg Int32.toInt c24_4
      obtain ⟨l25, u25⟩ := hI.b (hI.wf.s (k := 69) rfl) (t_bdK rfl : t_bd 11 12 = some (0, 4))
      obtain ⟨l26, u26⟩ := hI.b (hI.wf.s (k := 69) rfl) (t_bdK rfl : t_bd 11 14 = some (0, 900))
      obtain ⟨l28, u28⟩ := hI.b (hI.wf.s (k := 69) rfl) (t_bdK rfl : t_bd 11 24 = some (0, 24))
      obtain ⟨l29, u29⟩ := hI.b (hI.wf.s (k := 69) rfl) (t_bdK rfl : t_bd 11 25 = some (0, 210))
      obtain ⟨l30, u30⟩ := hI.ab (by decide +kernel : t_abr 70 1403 1403 0 12 = true) (Nat.le_refl _) (Nat.le_refl _)
      refine ev_loc f_X12_rules (nx := 39) rfl rfl rfl rfl ?_
      refine ev_if f_X12_rules (t1 := 57) (t2 := 42) rfl rfl rfl (fun h31 => ?_) (fun h31 => ?_)
      · have u32 : y24_2.toInt ≤ 0 := t_equ h31 (by decide : (0:Int32).toInt ≤ (0:Int))
        refine ev_loc f_X12_rules (nx := 58) rfl rfl rfl rfl ?_
        refine ev_gvI f_X12_rules (nx := 61) (w := (gi24 69 18)) rfl (hI.wf.s rfl) rfl rfl rfl rfl ?_
        refine ev_if f_X12_rules (t1 := 64) (t2 := 118) rfl rfl rfl (fun h33 => ?_) (fun h33 => ?_)
        · have u34 : (gi24 69 18).toInt ≤ 0 := t_equ h33 (by decide : (0:Int32).toInt ≤ (0:Int))
          have l35 : 0 ≤ (gi24 69 18).toInt := t_eql h33 (by decide : (0:Int) ≤ (0:Int32).toInt)
          refine ev_loc f_X12_rules (nx := 65) rfl rfl rfl rfl ?_
          refine ev_getR f_X12_rules (nx := 68) rfl (hI.wf.s rfl) rfl rfl (hI.wf.r rfl) rfl rfl ?_
          refine ev_ic f_X12_rules (nx := 69) (v := 3) rfl (by decide) rfl ?_
          refine ev_loc f_X12_rules (nx := 70) rfl rfl rfl rfl ?_
          refine ev_getR f_X12_rules (nx := 73) rfl (hI.wf.s rfl) rfl rfl (hI.wf.r rfl) rfl rfl ?_
          refine ev_sp f_X12_rules (nx := 76) (v := 1403) rfl (by decide) rfl ?_
          refine ev_ialdv f_X12_rules (nx := 77) (w := (gi24 70 1403)) rfl (hI.wf.s rfl) (by decide) (rfl : (1403 : Int32).toNatClampNeg = 1403) (by decide) rfl rfl ?_
          refine ev_iastT f_X12_rules (nx := 78) rfl (hI.wf.s rfl) (by decide : (3:Int) ≤ (3:Int32).toInt) (by decide) (by decide : (3:Int32).toInt ≤ (3:Int)) (by decide) rfl (hI.astL (hI.wf.s rfl) (by decide +kernel : t_abw 70 3 3 0 12 = true) (t_cl1 (by decide : (3:Int) ≤ (3:Int32).toInt) (by decide)) (t_cl2 (by decide : (3:Int) ≤ (3:Int32).toInt) (by decide : (3:Int32).toInt ≤ (3:Int)) (by decide) (by decide)) l30 u30 rfl) (hX.upI (t_inR (p := 3) (m := 3) rfl (by decide : (3:Int) ≤ (3:Int32).toInt) (by decide) (by decide : (3:Int32).toInt ≤ (3:Int)) (by decide) (by decide))) (fun g37 e37 hI hX => ?_)
          refine ev_loc f_X12_rules (nx := 79) rfl rfl rfl rfl ?_
          refine ev_getR f_X12_rules (nx := 82) rfl (hI.wf.s rfl) rfl rfl (hI.wf.r rfl) rfl rfl ?_
          refine ev_bp f_X12_rules (nx := 84) (v := 8) rfl (by decide) rfl ?_
          refine ev_ic f_X12_rules (nx := 85) (v := 1) rfl (by decide) rfl ?_
          refine ev_iastT f_X12_rules (nx := 86) rfl (hI.wf.s rfl) (by decide : (8:Int) ≤ (8:Int32).toInt) (by decide) (by decide : (8:Int32).toInt ≤ (8:Int)) (by decide) rfl (hI.astL (hI.wf.s rfl) (by decide +kernel : t_abw 70 8 8 1 1 = true) (t_cl1 (by decide : (8:Int) ≤ (8:Int32).toInt) (by decide)) (t_cl2 (by decide : (8:Int) ≤ (8:Int32).toInt) (by decide : (8:Int32).toInt ≤ (8:Int)) (by decide) (by decide)) (by decide : (1:Int) ≤ (1:Int32).toInt) (by decide : (1:Int32).toInt ≤ (1:Int)) rfl) (hX.upI (t_inR (p := 8) (m := 8) rfl (by decide : (8:Int) ≤ (8:Int32).toInt) (by decide) (by decide : (8:Int32).toInt ≤ (8:Int)) (by decide) (by decide))) (fun g38 e38 hI hX => ?_)
          refine ev_bp f_X12_rules (nx := 88) (v := 100) rfl (by decide) rfl ?_
          refine ev_loc f_X12_rules (nx := 89) (lo' := [(3, .int 100), (2, .int y24_2), (0, .ref 69), (1, .int ar1)]) rfl rfl rfl rfl ?_
          have L39 : ∀ (m39 : Nat) (gi39 : Nat → Nat → Int32) (gl39 : Nat → Nat → Int64) (gr39 : Nat → Nat → Value) (y39_3 : Int32), t_I sh gi39 gr39 → t_X wl_o_rules sh gi gl gr gi39 gl39 gr39 → 100 ≤ y39_3.toInt → y39_3.toInt ≤ 350 → gi39 69 10 = (gi11 69 10) → gi39 69 12 = (gi24 69 12) → gi39 69 14 = (gi24 69 14) → gi39 69 18 = (gi24 69 18) → gi39 69 24 = (gi24 69 24) → gi39 69 25 = (gi24 69 25) → gi39 70 1403 = (gi24 70 1403) → gi39 70 3 = (gi24 70 1403) → gi39 70 4 = (gi 70 4) → gi39 70 8 = 1 → (∀ j : Nat, 100 ≤ j → (j : Int) < y39_3.toInt → gi39 70 j = gi39 70 (1400 + j)) → t_R4 (gi39 70) (gi39 69 25).toInt → gi39 70 3 = gi39 70 1403 → (∀ (b : Nat → Int32) (n : Nat), (n : Int) = ar1.toInt → (∀ j : Nat, j < n → gi 75 j = b j) → t_by b n → t_MK gi39 (s_rle b n 301 0 0)) → (gi39 70 8).toInt = 1 → (gi39 69 18).toInt = 0 → (350 - y39_3.toInt).toNat = m39 → x_Ev X (d + 9) n_X12_rules 89 [(3, .int y39_3), (2, .int y24_2), (0, .ref 69), (1, .int ar1)] [] (sh, gi39, gl39, gr39) (t_PI wl_o_rules sh gi gl gr (-1) 12 (Q_o_rules gi gl gr J0 ar1)) := by
            intro m39
            induction m39 using Nat.strongRecOn with
            | _ m39 ih39 =>
            intro gi39 gl39 gr39 y39_3 hI hX l39_3 u39_3 c39_0 c39_1 c39_2 c39_3 c39_4 c39_5 c39_6 c39_7 c39_8 c39_9 j39_0 j39_1 j39_2 j39_3 j39_4 j39_5 hm39
            have cf39_0 : (gi39 69 10).toInt = (gi11 69 10).toInt := congrArg Int32.toInt c39_0
            have cf39_1 : (gi39 69 12).toInt = (gi24 69 12).toInt := congrArg Int32.toInt c39_1
            have cf39_2 : (gi39 69 14).toInt = (gi24 69 14).toInt := congrArg Int32.toInt c39_2
            have cf39_3 : (gi39 69 18).toInt = (gi24 69 18).toInt := congrArg Int32.toInt c39_3
            have cf39_4 : (gi39 69 24).toInt = (gi24 69 24).toInt := congrArg Int32.toInt c39_4
            have cf39_5 : (gi39 69 25).toInt = (gi24 69 25).toInt := congrArg Int32.toInt c39_5
            have cf39_6 : (gi39 70 1403).toInt = (gi24 70 1403).toInt := congrArg Int32.toInt c39_6
            have cf39_7 : (gi39 70 3).toInt = (gi24 70 1403).toInt := congrArg Int32.toInt c39_7
            have cf39_8 : (gi39 70 4).toInt = (gi 70 4).toInt := congrArg Int32.toInt c39_8
            have cf39_9 : (gi39 70 8).toInt = 1 := (congrArg Int32.toInt c39_9).trans (by decide)
            refine ev_loc f_X12_rules (nx := 90) rfl rfl rfl rfl ?_
            refine ev_sp f_X12_rules (nx := 93) (v := 350) rfl (by decide) rfl ?_
            refine ev_if f_X12_rules (t1 := 118) (t2 := 96) rfl rfl rfl (fun h40 => ?_) (fun h40 => ?_)
            · have l41 : 350 ≤ y39_3.toInt := t_lel h40 (by decide : (350:Int) ≤ (350:Int32).toInt)
              refine ev_loc f_X12_rules (nx := 119) rfl rfl rfl rfl ?_
              refine ev_loc f_X12_rules (nx := 120) rfl rfl rfl rfl ?_
              refine ev_getR f_X12_rules (nx := 123) rfl (hI.wf.s rfl) rfl rfl (hI.wf.r rfl) rfl rfl ?_
              refine ev_ic f_X12_rules (nx := 124) (v := 3) rfl (by decide) rfl ?_
              refine ev_ialdv f_X12_rules (nx := 125) (w := (gi24 70 1403)) rfl (hI.wf.s rfl) (by decide) (rfl : (3 : Int32).toNatClampNeg = 3) (by decide) c39_7 rfl ?_
              refine ev_inV2 f_X12_rules (nx := 128) (lo2 := [(0, .ref 69), (1, .int (gi24 70 1403))]) rfl rfl rfl rfl f_X12_taken (hI.wf.s rfl) rfl rfl rfl rfl rfl ?_
              refine ev_loc f_X12_taken (nx := 1) rfl rfl rfl rfl ?_
              refine ev_loc f_X12_taken (nx := 2) rfl rfl rfl rfl ?_
              refine ev_gvI f_X12_taken (nx := 5) (w := (gi24 69 18)) rfl (hI.wf.s rfl) rfl rfl c39_3 rfl ?_
              refine ev_putIT f_X12_taken (nx := 8) rfl (hI.wf.s rfl) rfl rfl rfl (hI.put0 (hI.wf.s rfl) rfl rfl) (hX.upI rfl) (fun g43 e43 hI hX => ?_)
              refine ev_loc f_X12_taken (nx := 9) rfl rfl rfl rfl ?_
              refine ev_gvI f_X12_taken (nx := 12) (w := (gi24 69 18)) rfl (hI.wf.s rfl) rfl rfl ((by rw [e43]; exact x_up2_off (Or.inr (by decide)) : g43 69 18 = gi39 69 18).trans c39_3) rfl ?_
              refine ev_t f_X12_taken (t1 := 24) (t2 := 15) rfl rfl rfl (t_leT u34 (by decide : (0:Int) ≤ (0:Int32).toInt) (by decide)) ?_
              refine ev_loc f_X12_taken (nx := 25) rfl rfl rfl rfl ?_
              refine ev_loc f_X12_taken (nx := 26) rfl rfl rfl rfl ?_
              refine ev_inV2 f_X12_taken (nx := 29) (lo2 := [(0, .ref 69), (1, .int (gi24 70 1403))]) rfl rfl rfl rfl f_X12_gives (hI.wf.s rfl) rfl rfl rfl rfl rfl ?_
              refine ev_loc f_X12_gives (nx := 1) rfl rfl rfl rfl ?_
              refine ev_ic f_X12_gives (nx := 2) (v := 0) rfl (by decide) rfl ?_
              refine ev_putIT f_X12_gives (nx := 5) rfl (hI.wf.s rfl) rfl rfl rfl (hI.put0 (hI.wf.s rfl) rfl rfl) (hX.upI rfl) (fun g44 e44 hI hX => ?_)
              refine ev_loc f_X12_gives (nx := 6) rfl rfl rfl rfl ?_
              refine ev_retK1 f_X12_gives rfl rfl rfl ?_
              refine ev_retK1 f_X12_taken rfl rfl rfl ?_
              exact ev_ret f_X12_rules rfl rfl rfl ⟨_, _, _, rfl, hI, hX, ⟨_, rfl, (Int.le_trans (by decide : ((-1):Int) ≤ 0) l30), u30, (show ((0 ≤ ar1.toInt ∧ ar1.toInt ≤ (gi 69 10).toInt ∧ ar1.toInt ≤ 300) → ∀ (b : Nat → Int32) (n : Nat), (n : Int) = ar1.toInt → (∀ j : Nat, j < n → gi 75 j = b j) → t_by b n → 0 ≤ (gi24 70 1403).toInt → (g44 70 8).toInt = 1 ∧ t_MQ (g44 70) (s_rle b n 301 0 0)) ∧ ((gi24 70 1403).toInt = -1 → g44 70 J0 = gi 70 J0) from ⟨fun _ b n hn hb hy hv => (by
                                                            have hq := (j39_3 b n hn hb hy).mq j39_2 (by omega) (fun j h1 h2 => j39_0 j h1 (by omega))
                                                            have hr := j39_4
                                                            have e70 : g44 70 = gi39 70 := (funext fun j => (by rw [e44, x_up2_ne (by decide), e43, x_up2_ne (by decide)]))
                                                            exact ⟨by rw [e70]; exact hr, hq.ext (fun j _ => congrFun e70 j)⟩), fun hh => absurd hh (by omega)⟩)⟩⟩
            · have u45 : y39_3.toInt ≤ 349 := t_ltu (t_nle h40) (by decide : (350:Int32).toInt ≤ (350:Int)) rfl
              refine ev_loc f_X12_rules (nx := 97) rfl rfl rfl rfl ?_
              refine ev_getR f_X12_rules (nx := 100) rfl (hI.wf.s rfl) rfl rfl (hI.wf.r rfl) rfl rfl ?_
              refine ev_loc f_X12_rules (nx := 101) rfl rfl rfl rfl ?_
              refine ev_loc f_X12_rules (nx := 102) rfl rfl rfl rfl ?_
              refine ev_getR f_X12_rules (nx := 105) rfl (hI.wf.s rfl) rfl rfl (hI.wf.r rfl) rfl rfl ?_
              refine ev_sp f_X12_rules (nx := 108) (v := 1400) rfl (by decide) rfl ?_
              refine ev_loc f_X12_rules (nx := 109) rfl rfl rfl rfl ?_
              refine ev_addK f_X12_rules (nx := 110) (c := 1400) (l := 1500) (u := 1749) rfl (by decide) l39_3 u45 rfl rfl (by decide) (by decide) rfl (fun z46 e46 l46 u46 => ?_)
              refine ev_ialdT f_X12_rules (nx := 111) rfl (hI.wf.s rfl) l46 (by decide) u46 (by decide) rfl (fun w47 e47 => ?_)
              refine ev_iastT f_X12_rules (nx := 112) rfl (hI.wf.s rfl) l39_3 (by decide) u45 (by decide) rfl (hI.astS (a := 4) (b := 0) (k := y39_3.toInt.toNat) e47 (by omega) (by omega) (by omega) (by omega) (by omega)) (hX.upI (t_inR (p := 100) (m := 349) rfl l39_3 (by decide) u45 (by decide) (by decide))) (fun g48 e48 hI hX => ?_)
              refine ev_incR f_X12_rules (nx := 115) (c := 1) (l := 101) (u := 350) rfl rfl (by decide) (by decide) l39_3 u45 rfl rfl (by decide) (by decide) rfl (fun z49 e49 l49 u49 => ?_)
              refine ev_jmp f_X12_rules (nx := 89) rfl rfl rfl ?_
              refine ev_sub (lo := [(3, .int z49), (2, .int y24_2), (0, .ref 69), (1, .int ar1)]) rfl (t_sc rfl (t_sc rfl (t_sc rfl (t_sc rfl t_sn)))) ?_
              exact ih39 _ (by omega) g48 gl39 gr39 (z49) hI hX  (Int.le_trans (by decide : (100:Int) ≤ 101) l49) u49 ((by rw [e48]; exact x_up2_off (Or.inl (by decide)) : g48 69 10 = gi39 69 10).trans c39_0) ((by rw [e48]; exact x_up2_off (Or.inl (by decide)) : g48 69 12 = gi39 69 12).trans c39_1) ((by rw [e48]; exact x_up2_off (Or.inl (by decide)) : g48 69 14 = gi39 69 14).trans c39_2) ((by rw [e48]; exact x_up2_off (Or.inl (by decide)) : g48 69 18 = gi39 69 18).trans c39_3) ((by rw [e48]; exact x_up2_off (Or.inl (by decide)) : g48 69 24 = gi39 69 24).trans c39_4) ((by rw [e48]; exact x_up2_off (Or.inl (by decide)) : g48 69 25 = gi39 69 25).trans c39_5) ((by rw [e48]; exact x_up2_off (Or.inr (t_neCu l39_3 u45 (by decide) (by decide))) : g48 70 1403 = gi39 70 1403).trans c39_6) ((by rw [e48]; exact x_up2_off (Or.inr (t_neCl l39_3 (by decide))) : g48 70 3 = gi39 70 3).trans c39_7) ((by rw [e48]; exact x_up2_off (Or.inr (t_neCl l39_3 (by decide))) : g48 70 4 = gi39 70 4).trans c39_8) ((by rw [e48]; exact x_up2_off (Or.inr (t_neCl l39_3 (by decide))) : g48 70 8 = gi39 70 8).trans c39_9) (t_cp100 j39_0 e47 e48 (by have := t_clamp (i := y39_3) (by omega); omega) (by have := t_clamp (i := z46) (by omega); omega) (by omega) (by omega) (by omega)) (by have hr := t_R4_ext (g' := g48 70) j39_1 (fun j hj => (by rw [e48]; exact x_up2_off (Or.inr (by have hc := t_clamp (i := y39_3) (by omega); omega)) : g48 70 (j) = gi39 70 (j))); have ff50 : (g48 69 25).toInt = (gi24 69 25).toInt := congrArg Int32.toInt ((by rw [e48]; exact x_up2_off (Or.inl (by decide)) : g48 69 25 = gi39 69 25).trans c39_5); have e25 : (g48 69 25).toInt = (gi39 69 25).toInt := (by omega); rw [e25]; exact hr) ((((by rw [e48]; exact x_up2_off (Or.inr (t_neCl l39_3 (by decide))) : g48 70 3 = gi39 70 3).trans c39_7) : g48 70 3 = (gi24 70 1403)).trans (((by rw [e48]; exact x_up2_off (Or.inr (t_neCu l39_3 u45 (by decide) (by decide))) : g48 70 1403 = gi39 70 1403).trans c39_6) : g48 70 1403 = (gi24 70 1403)).symm) (fun b n hn hb hy => (j39_3 b n hn hb hy).eq (g1 := g48) (by rw [e48]; exact x_up2_off (Or.inr (by have hc := t_clamp (i := y39_3) (by omega); omega)) : g48 70 (1403) = gi39 70 (1403)) (congrArg Int32.toInt (by rw [e48, x_up2_ne (by decide)])) (fun j hj => (by rw [e48]; exact x_up2_off (Or.inr (by have hc := t_clamp (i := y39_3) (by omega); omega)) : g48 70 (j) = gi39 70 (j)))) (by have ff51 : (g48 70 8).toInt = 1 := (congrArg Int32.toInt ((by rw [e48]; exact x_up2_off (Or.inr (t_neCl l39_3 (by decide))) : g48 70 8 = gi39 70 8).trans c39_9)).trans (by decide); omega) (by have ff52 : (g48 69 18).toInt = (gi24 69 18).toInt := congrArg Int32.toInt ((by rw [e48]; exact x_up2_off (Or.inl (by decide)) : g48 69 18 = gi39 69 18).trans c39_3); omega) rfl
          refine ev_sub (lo := [(3, .int 100), (2, .int y24_2), (0, .ref 69), (1, .int ar1)]) rfl (t_sc rfl (t_sc rfl (t_sc rfl (t_sc rfl t_sn)))) ?_
          exact L39 _ g38 gl24 gr24 (100) hI hX  (by decide : (100:Int) ≤ (100:Int32).toInt) (Int.le_trans (by decide : (100:Int32).toInt ≤ (100:Int)) (by decide : (100:Int) ≤ 350)) ((by rw [e38]; exact x_up2_off (Or.inl (by decide)) : g38 69 10 = g37 69 10).trans ((by rw [e37]; exact x_up2_off (Or.inl (by decide)) : g37 69 10 = gi24 69 10).trans c24_0)) ((by rw [e38]; exact x_up2_off (Or.inl (by decide)) : g38 69 12 = g37 69 12).trans ((by rw [e37]; exact x_up2_off (Or.inl (by decide)) : g37 69 12 = gi24 69 12).trans rfl)) ((by rw [e38]; exact x_up2_off (Or.inl (by decide)) : g38 69 14 = g37 69 14).trans ((by rw [e37]; exact x_up2_off (Or.inl (by decide)) : g37 69 14 = gi24 69 14).trans rfl)) ((by rw [e38]; exact x_up2_off (Or.inl (by decide)) : g38 69 18 = g37 69 18).trans ((by rw [e37]; exact x_up2_off (Or.inl (by decide)) : g37 69 18 = gi24 69 18).trans rfl)) ((by rw [e38]; exact x_up2_off (Or.inl (by decide)) : g38 69 24 = g37 69 24).trans ((by rw [e37]; exact x_up2_off (Or.inl (by decide)) : g37 69 24 = gi24 69 24).trans rfl)) ((by rw [e38]; exact x_up2_off (Or.inl (by decide)) : g38 69 25 = g37 69 25).trans ((by rw [e37]; exact x_up2_off (Or.inl (by decide)) : g37 69 25 = gi24 69 25).trans rfl)) ((by rw [e38]; exact x_up2_off (Or.inr (by decide)) : g38 70 1403 = g37 70 1403).trans ((by rw [e37]; exact x_up2_off (Or.inr (by decide)) : g37 70 1403 = gi24 70 1403).trans rfl)) ((by rw [e38]; exact x_up2_off (Or.inr (by decide)) : g38 70 3 = g37 70 3).trans (by rw [e37]; exact x_up2_at _ _ _ _ : g37 70 3 = (gi24 70 1403))) ((by rw [e38]; exact x_up2_off (Or.inr (by decide)) : g38 70 4 = g37 70 4).trans ((by rw [e37]; exact x_up2_off (Or.inr (by decide)) : g37 70 4 = gi24 70 4).trans c24_3)) (by rw [e38]; exact x_up2_at _ _ _ _ : g38 70 8 = 1) (fun j h1 h2 => absurd h2 (by have : (100 : Int32).toInt = 100 := rfl; omega)) (by have hr := t_R4_ext (g' := g38 70) (j24_0 (by omega)).1 (fun j hj => ((by rw [e38]; exact x_up2_off (Or.inr (by have hc : (8 : Int32).toNatClampNeg = 8 := rfl; omega)) : g38 70 (j) = g37 70 (j)).trans ((by rw [e37]; exact x_up2_off (Or.inr (by have hc : (3 : Int32).toNatClampNeg = 3 := rfl; omega)) : g37 70 (j) = gi24 70 (j))))); have ff53 : (g38 69 25).toInt = (gi24 69 25).toInt := congrArg Int32.toInt ((by rw [e38]; exact x_up2_off (Or.inl (by decide)) : g38 69 25 = g37 69 25).trans ((by rw [e37]; exact x_up2_off (Or.inl (by decide)) : g37 69 25 = gi24 69 25).trans rfl)); have e25 : (g38 69 25).toInt = (gi24 69 25).toInt := (by omega); rw [e25]; exact hr) ((((by rw [e38]; exact x_up2_off (Or.inr (by decide)) : g38 70 3 = g37 70 3).trans (by rw [e37]; exact x_up2_at _ _ _ _ : g37 70 3 = (gi24 70 1403))) : g38 70 3 = (gi24 70 1403)).trans (((by rw [e38]; exact x_up2_off (Or.inr (by decide)) : g38 70 1403 = g37 70 1403).trans ((by rw [e37]; exact x_up2_off (Or.inr (by decide)) : g37 70 1403 = gi24 70 1403).trans rfl)) : g38 70 1403 = (gi24 70 1403)).symm) (fun b n hn hb hy => (t_OQ_e (j24_2 b n hn hb hy) (by omega) (by omega)).eq (g1 := g38) ((by rw [e38]; exact x_up2_off (Or.inr (by have hc : (8 : Int32).toNatClampNeg = 8 := rfl; omega)) : g38 70 (1403) = g37 70 (1403)).trans ((by rw [e37]; exact x_up2_off (Or.inr (by have hc : (3 : Int32).toNatClampNeg = 3 := rfl; omega)) : g37 70 (1403) = gi24 70 (1403)))) (congrArg Int32.toInt (by rw [e38, x_up2_ne (by decide), e37, x_up2_ne (by decide)])) (fun j hj => ((by rw [e38]; exact x_up2_off (Or.inr (by have hc : (8 : Int32).toNatClampNeg = 8 := rfl; omega)) : g38 70 (j) = g37 70 (j)).trans ((by rw [e37]; exact x_up2_off (Or.inr (by have hc : (3 : Int32).toNatClampNeg = 3 := rfl; omega)) : g37 70 (j) = gi24 70 (j)))))) (by have ff54 : (g38 70 8).toInt = 1 := (congrArg Int32.toInt (by rw [e38]; exact x_up2_at _ _ _ _ : g38 70 8 = 1)).trans (by decide); omega) (by have ff55 : (g38 69 18).toInt = (gi24 69 18).toInt := congrArg Int32.toInt ((by rw [e38]; exact x_up2_off (Or.inl (by decide)) : g38 69 18 = g37 69 18).trans ((by rw [e37]; exact x_up2_off (Or.inl (by decide)) : g37 69 18 = gi24 69 18).trans rfl)); omega) rfl
        · have r56 : (gi24 69 18).toInt ≠ 0 := fun e => h33 (Int32.toInt_inj.mp (e.trans (by decide : (0:Int) = (0 : Int32).toInt)))
          refine ev_loc f_X12_rules (nx := 119) rfl rfl rfl rfl ?_
          refine ev_loc f_X12_rules (nx := 120) rfl rfl rfl rfl ?_
          refine ev_getR f_X12_rules (nx := 123) rfl (hI.wf.s rfl) rfl rfl (hI.wf.r rfl) rfl rfl ?_
          refine ev_ic f_X12_rules (nx := 124) (v := 3) rfl (by decide) rfl ?_
          refine ev_ialdv f_X12_rules (nx := 125) (w := (gi 70 3)) rfl (hI.wf.s rfl) (by decide) (rfl : (3 : Int32).toNatClampNeg = 3) (by decide) c24_2 rfl ?_
          refine ev_inV2 f_X12_rules (nx := 128) (lo2 := [(0, .ref 69), (1, .int (gi 70 3))]) rfl rfl rfl rfl f_X12_taken (hI.wf.s rfl) rfl rfl rfl rfl rfl ?_
          refine ev_loc f_X12_taken (nx := 1) rfl rfl rfl rfl ?_
          refine ev_loc f_X12_taken (nx := 2) rfl rfl rfl rfl ?_
          refine ev_gvI f_X12_taken (nx := 5) (w := (gi24 69 18)) rfl (hI.wf.s rfl) rfl rfl rfl rfl ?_
          refine ev_putIT f_X12_taken (nx := 8) rfl (hI.wf.s rfl) rfl rfl rfl (hI.put0 (hI.wf.s rfl) rfl rfl) (hX.upI rfl) (fun g58 e58 hI hX => ?_)
          refine ev_loc f_X12_taken (nx := 9) rfl rfl rfl rfl ?_
          refine ev_gvI f_X12_taken (nx := 12) (w := (gi24 69 18)) rfl (hI.wf.s rfl) rfl rfl ((by rw [e58]; exact x_up2_off (Or.inr (by decide)) : g58 69 18 = gi24 69 18).trans rfl) rfl ?_
          refine ev_if f_X12_taken (t1 := 24) (t2 := 15) rfl rfl rfl (fun h59 => ?_) (fun h59 => ?_)
          · have u60 : (gi24 69 18).toInt ≤ 0 := t_leu h59 (by decide : (0:Int32).toInt ≤ (0:Int))
            refine ev_loc f_X12_taken (nx := 25) rfl rfl rfl rfl ?_
            refine ev_loc f_X12_taken (nx := 26) rfl rfl rfl rfl ?_
            refine ev_inV2 f_X12_taken (nx := 29) (lo2 := [(0, .ref 69), (1, .int (gi 70 3))]) rfl rfl rfl rfl f_X12_gives (hI.wf.s rfl) rfl rfl rfl rfl rfl ?_
            refine ev_loc f_X12_gives (nx := 1) rfl rfl rfl rfl ?_
            refine ev_ic f_X12_gives (nx := 2) (v := 0) rfl (by decide) rfl ?_
            refine ev_putIT f_X12_gives (nx := 5) rfl (hI.wf.s rfl) rfl rfl rfl (hI.put0 (hI.wf.s rfl) rfl rfl) (hX.upI rfl) (fun g61 e61 hI hX => ?_)
            refine ev_loc f_X12_gives (nx := 6) rfl rfl rfl rfl ?_
            refine ev_retK1 f_X12_gives rfl rfl rfl ?_
            refine ev_retK1 f_X12_taken rfl rfl rfl ?_
            exact ev_ret f_X12_rules rfl rfl rfl ⟨_, _, _, rfl, hI, hX, ⟨_, rfl, (Int.le_trans (by decide : ((-1):Int) ≤ 0) l7), u7, (show ((0 ≤ ar1.toInt ∧ ar1.toInt ≤ (gi 69 10).toInt ∧ ar1.toInt ≤ 300) → ∀ (b : Nat → Int32) (n : Nat), (n : Int) = ar1.toInt → (∀ j : Nat, j < n → gi 75 j = b j) → t_by b n → 0 ≤ (gi 70 3).toInt → (g61 70 8).toInt = 1 ∧ t_MQ (g61 70) (s_rle b n 301 0 0)) ∧ ((gi 70 3).toInt = -1 → g61 70 J0 = gi 70 J0) from ⟨fun _ b n hn hb hy hv => (by
                                                            exfalso
                                                            rcases j24_3 b n hn hb hy with ⟨h0, q, c, r, _, _, _, _, hf, _, _⟩ | ⟨h0, p, x, hx, h3, h4⟩
                                                            · have h5 := hf.1; omega
                                                            · have h5 := h4.1; have h6 := s_fk_ne (b := b) (n := n) (p := p) hx; have h7 := s_rls_bn h3; omega), fun _ => (((by rw [e61]; exact x_up2_off (Or.inl (by decide)) : g61 70 J0 = g58 70 J0).trans ((by rw [e58]; exact x_up2_off (Or.inl (by decide)) : g58 70 J0 = gi24 70 J0).trans c24_1)) : g61 70 J0 = gi 70 J0)⟩)⟩⟩
          · have l62 : 1 ≤ (gi24 69 18).toInt := t_ltl (t_nle h59) (by decide : (0:Int) ≤ (0:Int32).toInt) rfl
            refine ev_loc f_X12_taken (nx := 16) rfl rfl rfl rfl ?_
            refine ev_bp f_X12_taken (nx := 18) (v := 9) rfl (by decide) rfl ?_
            refine ev_inV2 f_X12_taken (nx := 21) (lo2 := [(0, .ref 69), (1, .int 9)]) rfl rfl rfl rfl f_X12_refuse (hI.wf.s rfl) rfl rfl rfl rfl rfl ?_
            refine ev_loc f_X12_refuse (nx := 1) rfl rfl rfl rfl ?_
            refine ev_loc f_X12_refuse (nx := 2) rfl rfl rfl rfl ?_
            refine ev_putIT f_X12_refuse (nx := 5) rfl (hI.wf.s rfl) rfl rfl rfl (hI.put0 (hI.wf.s rfl) rfl rfl) (hX.upI rfl) (fun g63 e63 hI hX => ?_)
            refine ev_ic f_X12_refuse (nx := 6) (v := -1) rfl (by decide) rfl ?_
            refine ev_retK1 f_X12_refuse rfl rfl rfl ?_
            refine ev_jmp f_X12_taken (nx := 29) rfl rfl rfl ?_
            refine ev_retK1 f_X12_taken rfl rfl rfl ?_
            exact ev_ret f_X12_rules rfl rfl rfl ⟨_, _, _, rfl, hI, hX, ⟨_, rfl, (by decide : ((-1):Int) ≤ ((-1):Int32).toInt), (Int.le_trans (by decide : ((-1):Int32).toInt ≤ ((-1):Int)) (by decide : ((-1):Int) ≤ 12)), (show ((0 ≤ ar1.toInt ∧ ar1.toInt ≤ (gi 69 10).toInt ∧ ar1.toInt ≤ 300) → ∀ (b : Nat → Int32) (n : Nat), (n : Int) = ar1.toInt → (∀ j : Nat, j < n → gi 75 j = b j) → t_by b n → 0 ≤ ((-1) : Int) → (g63 70 8).toInt = 1 ∧ t_MQ (g63 70) (s_rle b n 301 0 0)) ∧ (((-1) : Int) = -1 → g63 70 J0 = gi 70 J0) from ⟨fun _ b n hn hb hy hv => absurd hv (by decide), fun _ => (((by rw [e63]; exact x_up2_off (Or.inl (by decide)) : g63 70 J0 = g58 70 J0).trans ((by rw [e58]; exact x_up2_off (Or.inl (by decide)) : g58 70 J0 = gi24 70 J0).trans c24_1)) : g63 70 J0 = gi 70 J0)⟩)⟩⟩
      · have r64 : y24_2.toInt ≠ 0 := fun e => h31 (Int32.toInt_inj.mp (e.trans (by decide : (0:Int) = (0 : Int32).toInt)))
        have l65 : 1 ≤ y24_2.toInt := t_nel h31 l24_2 rfl rfl
        refine ev_loc f_X12_rules (nx := 43) rfl rfl rfl rfl ?_
        refine ev_gvI f_X12_rules (nx := 46) (w := (gi24 69 12)) rfl (hI.wf.s rfl) rfl rfl rfl rfl ?_
        refine ev_if f_X12_rules (t1 := 57) (t2 := 49) rfl rfl rfl (fun h66 => ?_) (fun h66 => ?_)
        · have u67 : (gi24 69 12).toInt ≤ 0 := t_equ h66 (by decide : (0:Int32).toInt ≤ (0:Int))
          refine ev_loc f_X12_rules (nx := 58) rfl rfl rfl rfl ?_
          refine ev_gvI f_X12_rules (nx := 61) (w := (gi24 69 18)) rfl (hI.wf.s rfl) rfl rfl rfl rfl ?_
          refine ev_if f_X12_rules (t1 := 64) (t2 := 118) rfl rfl rfl (fun h68 => ?_) (fun h68 => ?_)
          · have u69 : (gi24 69 18).toInt ≤ 0 := t_equ h68 (by decide : (0:Int32).toInt ≤ (0:Int))
            have l70 : 0 ≤ (gi24 69 18).toInt := t_eql h68 (by decide : (0:Int) ≤ (0:Int32).toInt)
            refine ev_loc f_X12_rules (nx := 65) rfl rfl rfl rfl ?_
            refine ev_getR f_X12_rules (nx := 68) rfl (hI.wf.s rfl) rfl rfl (hI.wf.r rfl) rfl rfl ?_
            refine ev_ic f_X12_rules (nx := 69) (v := 3) rfl (by decide) rfl ?_
            refine ev_loc f_X12_rules (nx := 70) rfl rfl rfl rfl ?_
            refine ev_getR f_X12_rules (nx := 73) rfl (hI.wf.s rfl) rfl rfl (hI.wf.r rfl) rfl rfl ?_
            refine ev_sp f_X12_rules (nx := 76) (v := 1403) rfl (by decide) rfl ?_
            refine ev_ialdv f_X12_rules (nx := 77) (w := (gi24 70 1403)) rfl (hI.wf.s rfl) (by decide) (rfl : (1403 : Int32).toNatClampNeg = 1403) (by decide) rfl rfl ?_
            refine ev_iastT f_X12_rules (nx := 78) rfl (hI.wf.s rfl) (by decide : (3:Int) ≤ (3:Int32).toInt) (by decide) (by decide : (3:Int32).toInt ≤ (3:Int)) (by decide) rfl (hI.astL (hI.wf.s rfl) (by decide +kernel : t_abw 70 3 3 0 12 = true) (t_cl1 (by decide : (3:Int) ≤ (3:Int32).toInt) (by decide)) (t_cl2 (by decide : (3:Int) ≤ (3:Int32).toInt) (by decide : (3:Int32).toInt ≤ (3:Int)) (by decide) (by decide)) l30 u30 rfl) (hX.upI (t_inR (p := 3) (m := 3) rfl (by decide : (3:Int) ≤ (3:Int32).toInt) (by decide) (by decide : (3:Int32).toInt ≤ (3:Int)) (by decide) (by decide))) (fun g72 e72 hI hX => ?_)
            refine ev_loc f_X12_rules (nx := 79) rfl rfl rfl rfl ?_
            refine ev_getR f_X12_rules (nx := 82) rfl (hI.wf.s rfl) rfl rfl (hI.wf.r rfl) rfl rfl ?_
            refine ev_bp f_X12_rules (nx := 84) (v := 8) rfl (by decide) rfl ?_
            refine ev_ic f_X12_rules (nx := 85) (v := 1) rfl (by decide) rfl ?_
            refine ev_iastT f_X12_rules (nx := 86) rfl (hI.wf.s rfl) (by decide : (8:Int) ≤ (8:Int32).toInt) (by decide) (by decide : (8:Int32).toInt ≤ (8:Int)) (by decide) rfl (hI.astL (hI.wf.s rfl) (by decide +kernel : t_abw 70 8 8 1 1 = true) (t_cl1 (by decide : (8:Int) ≤ (8:Int32).toInt) (by decide)) (t_cl2 (by decide : (8:Int) ≤ (8:Int32).toInt) (by decide : (8:Int32).toInt ≤ (8:Int)) (by decide) (by decide)) (by decide : (1:Int) ≤ (1:Int32).toInt) (by decide : (1:Int32).toInt ≤ (1:Int)) rfl) (hX.upI (t_inR (p := 8) (m := 8) rfl (by decide : (8:Int) ≤ (8:Int32).toInt) (by decide) (by decide : (8:Int32).toInt ≤ (8:Int)) (by decide) (by decide))) (fun g73 e73 hI hX => ?_)
            refine ev_bp f_X12_rules (nx := 88) (v := 100) rfl (by decide) rfl ?_
            refine ev_loc f_X12_rules (nx := 89) (lo' := [(3, .int 100), (2, .int y24_2), (0, .ref 69), (1, .int ar1)]) rfl rfl rfl rfl ?_
            have L74 : ∀ (m74 : Nat) (gi74 : Nat → Nat → Int32) (gl74 : Nat → Nat → Int64) (gr74 : Nat → Nat → Value) (y74_3 : Int32), t_I sh gi74 gr74 → t_X wl_o_rules sh gi gl gr gi74 gl74 gr74 → 100 ≤ y74_3.toInt → y74_3.toInt ≤ 350 → gi74 69 10 = (gi11 69 10) → gi74 69 12 = (gi24 69 12) → gi74 69 14 = (gi24 69 14) → gi74 69 18 = (gi24 69 18) → gi74 69 24 = (gi24 69 24) → gi74 69 25 = (gi24 69 25) → gi74 70 1403 = (gi24 70 1403) → gi74 70 3 = (gi24 70 1403) → gi74 70 4 = (gi 70 4) → gi74 70 8 = 1 → (∀ j : Nat, 100 ≤ j → (j : Int) < y74_3.toInt → gi74 70 j = gi74 70 (1400 + j)) → t_R4 (gi74 70) (gi74 69 25).toInt → gi74 70 3 = gi74 70 1403 → (∀ (b : Nat → Int32) (n : Nat), (n : Int) = ar1.toInt → (∀ j : Nat, j < n → gi 75 j = b j) → t_by b n → t_MK gi74 (s_rle b n 301 0 0)) → (gi74 70 8).toInt = 1 → (gi74 69 18).toInt = 0 → (350 - y74_3.toInt).toNat = m74 → x_Ev X (d + 9) n_X12_rules 89 [(3, .int y74_3), (2, .int y24_2), (0, .ref 69), (1, .int ar1)] [] (sh, gi74, gl74, gr74) (t_PI wl_o_rules sh gi gl gr (-1) 12 (Q_o_rules gi gl gr J0 ar1)) := by
              intro m74
              induction m74 using Nat.strongRecOn with
              | _ m74 ih74 =>
              intro gi74 gl74 gr74 y74_3 hI hX l74_3 u74_3 c74_0 c74_1 c74_2 c74_3 c74_4 c74_5 c74_6 c74_7 c74_8 c74_9 j74_0 j74_1 j74_2 j74_3 j74_4 j74_5 hm74
              have cf74_0 : (gi74 69 10).toInt = (gi11 69 10).toInt := congrArg Int32.toInt c74_0
              have cf74_1 : (gi74 69 12).toInt = (gi24 69 12).toInt := congrArg Int32.toInt c74_1
              have cf74_2 : (gi74 69 14).toInt = (gi24 69 14).toInt := congrArg Int32.toInt c74_2
              have cf74_3 : (gi74 69 18).toInt = (gi24 69 18).toInt := congrArg Int32.toInt c74_3
              have cf74_4 : (gi74 69 24).toInt = (gi24 69 24).toInt := congrArg Int32.toInt c74_4
              have cf74_5 : (gi74 69 25).toInt = (gi24 69 25).toInt := congrArg Int32.toInt c74_5
              have cf74_6 : (gi74 70 1403).toInt = (gi24 70 1403).toInt := congrArg Int32.toInt c74_6
              have cf74_7 : (gi74 70 3).toInt = (gi24 70 1403).toInt := congrArg Int32.toInt c74_7
              have cf74_8 : (gi74 70 4).toInt = (gi 70 4).toInt := congrArg Int32.toInt c74_8
              have cf74_9 : (gi74 70 8).toInt = 1 := (congrArg Int32.toInt c74_9).trans (by decide)
              refine ev_loc f_X12_rules (nx := 90) rfl rfl rfl rfl ?_
              refine ev_sp f_X12_rules (nx := 93) (v := 350) rfl (by decide) rfl ?_
              refine ev_if f_X12_rules (t1 := 118) (t2 := 96) rfl rfl rfl (fun h75 => ?_) (fun h75 => ?_)
              · have l76 : 350 ≤ y74_3.toInt := t_lel h75 (by decide : (350:Int) ≤ (350:Int32).toInt)
                refine ev_loc f_X12_rules (nx := 119) rfl rfl rfl rfl ?_
                refine ev_loc f_X12_rules (nx := 120) rfl rfl rfl rfl ?_
                refine ev_getR f_X12_rules (nx := 123) rfl (hI.wf.s rfl) rfl rfl (hI.wf.r rfl) rfl rfl ?_
                refine ev_ic f_X12_rules (nx := 124) (v := 3) rfl (by decide) rfl ?_
                refine ev_ialdv f_X12_rules (nx := 125) (w := (gi24 70 1403)) rfl (hI.wf.s rfl) (by decide) (rfl : (3 : Int32).toNatClampNeg = 3) (by decide) c74_7 rfl ?_
                refine ev_inV2 f_X12_rules (nx := 128) (lo2 := [(0, .ref 69), (1, .int (gi24 70 1403))]) rfl rfl rfl rfl f_X12_taken (hI.wf.s rfl) rfl rfl rfl rfl rfl ?_
                refine ev_loc f_X12_taken (nx := 1) rfl rfl rfl rfl ?_
                refine ev_loc f_X12_taken (nx := 2) rfl rfl rfl rfl ?_
                refine ev_gvI f_X12_taken (nx := 5) (w := (gi24 69 18)) rfl (hI.wf.s rfl) rfl rfl c74_3 rfl ?_
                refine ev_putIT f_X12_taken (nx := 8) rfl (hI.wf.s rfl) rfl rfl rfl (hI.put0 (hI.wf.s rfl) rfl rfl) (hX.upI rfl) (fun g78 e78 hI hX => ?_)
                refine ev_loc f_X12_taken (nx := 9) rfl rfl rfl rfl ?_
                refine ev_gvI f_X12_taken (nx := 12) (w := (gi24 69 18)) rfl (hI.wf.s rfl) rfl rfl ((by rw [e78]; exact x_up2_off (Or.inr (by decide)) : g78 69 18 = gi74 69 18).trans c74_3) rfl ?_
                refine ev_t f_X12_taken (t1 := 24) (t2 := 15) rfl rfl rfl (t_leT u69 (by decide : (0:Int) ≤ (0:Int32).toInt) (by decide)) ?_
                refine ev_loc f_X12_taken (nx := 25) rfl rfl rfl rfl ?_
                refine ev_loc f_X12_taken (nx := 26) rfl rfl rfl rfl ?_
                refine ev_inV2 f_X12_taken (nx := 29) (lo2 := [(0, .ref 69), (1, .int (gi24 70 1403))]) rfl rfl rfl rfl f_X12_gives (hI.wf.s rfl) rfl rfl rfl rfl rfl ?_
                refine ev_loc f_X12_gives (nx := 1) rfl rfl rfl rfl ?_
                refine ev_ic f_X12_gives (nx := 2) (v := 0) rfl (by decide) rfl ?_
                refine ev_putIT f_X12_gives (nx := 5) rfl (hI.wf.s rfl) rfl rfl rfl (hI.put0 (hI.wf.s rfl) rfl rfl) (hX.upI rfl) (fun g79 e79 hI hX => ?_)
                refine ev_loc f_X12_gives (nx := 6) rfl rfl rfl rfl ?_
                refine ev_retK1 f_X12_gives rfl rfl rfl ?_
                refine ev_retK1 f_X12_taken rfl rfl rfl ?_
                exact ev_ret f_X12_rules rfl rfl rfl ⟨_, _, _, rfl, hI, hX, ⟨_, rfl, (Int.le_trans (by decide : ((-1):Int) ≤ 0) l30), u30, (show ((0 ≤ ar1.toInt ∧ ar1.toInt ≤ (gi 69 10).toInt ∧ ar1.toInt ≤ 300) → ∀ (b : Nat → Int32) (n : Nat), (n : Int) = ar1.toInt → (∀ j : Nat, j < n → gi 75 j = b j) → t_by b n → 0 ≤ (gi24 70 1403).toInt → (g79 70 8).toInt = 1 ∧ t_MQ (g79 70) (s_rle b n 301 0 0)) ∧ ((gi24 70 1403).toInt = -1 → g79 70 J0 = gi 70 J0) from ⟨fun _ b n hn hb hy hv => (by
                                                            have hq := (j74_3 b n hn hb hy).mq j74_2 (by omega) (fun j h1 h2 => j74_0 j h1 (by omega))
                                                            have hr := j74_4
                                                            have e70 : g79 70 = gi74 70 := (funext fun j => (by rw [e79, x_up2_ne (by decide), e78, x_up2_ne (by decide)]))
                                                            exact ⟨by rw [e70]; exact hr, hq.ext (fun j _ => congrFun e70 j)⟩), fun hh => absurd hh (by omega)⟩)⟩⟩
              · have u80 : y74_3.toInt ≤ 349 := t_ltu (t_nle h75) (by decide : (350:Int32).toInt ≤ (350:Int)) rfl
                refine ev_loc f_X12_rules (nx := 97) rfl rfl rfl rfl ?_
                refine ev_getR f_X12_rules (nx := 100) rfl (hI.wf.s rfl) rfl rfl (hI.wf.r rfl) rfl rfl ?_
                refine ev_loc f_X12_rules (nx := 101) rfl rfl rfl rfl ?_
                refine ev_loc f_X12_rules (nx := 102) rfl rfl rfl rfl ?_
                refine ev_getR f_X12_rules (nx := 105) rfl (hI.wf.s rfl) rfl rfl (hI.wf.r rfl) rfl rfl ?_
                refine ev_sp f_X12_rules (nx := 108) (v := 1400) rfl (by decide) rfl ?_
                refine ev_loc f_X12_rules (nx := 109) rfl rfl rfl rfl ?_
                refine ev_addK f_X12_rules (nx := 110) (c := 1400) (l := 1500) (u := 1749) rfl (by decide) l74_3 u80 rfl rfl (by decide) (by decide) rfl (fun z81 e81 l81 u81 => ?_)
                refine ev_ialdT f_X12_rules (nx := 111) rfl (hI.wf.s rfl) l81 (by decide) u81 (by decide) rfl (fun w82 e82 => ?_)
                refine ev_iastT f_X12_rules (nx := 112) rfl (hI.wf.s rfl) l74_3 (by decide) u80 (by decide) rfl (hI.astS (a := 4) (b := 0) (k := y74_3.toInt.toNat) e82 (by omega) (by omega) (by omega) (by omega) (by omega)) (hX.upI (t_inR (p := 100) (m := 349) rfl l74_3 (by decide) u80 (by decide) (by decide))) (fun g83 e83 hI hX => ?_)
                refine ev_incR f_X12_rules (nx := 115) (c := 1) (l := 101) (u := 350) rfl rfl (by decide) (by decide) l74_3 u80 rfl rfl (by decide) (by decide) rfl (fun z84 e84 l84 u84 => ?_)
                refine ev_jmp f_X12_rules (nx := 89) rfl rfl rfl ?_
                refine ev_sub (lo := [(3, .int z84), (2, .int y24_2), (0, .ref 69), (1, .int ar1)]) rfl (t_sc rfl (t_sc rfl (t_sc rfl (t_sc rfl t_sn)))) ?_
                exact ih74 _ (by omega) g83 gl74 gr74 (z84) hI hX  (Int.le_trans (by decide : (100:Int) ≤ 101) l84) u84 ((by rw [e83]; exact x_up2_off (Or.inl (by decide)) : g83 69 10 = gi74 69 10).trans c74_0) ((by rw [e83]; exact x_up2_off (Or.inl (by decide)) : g83 69 12 = gi74 69 12).trans c74_1) ((by rw [e83]; exact x_up2_off (Or.inl (by decide)) : g83 69 14 = gi74 69 14).trans c74_2) ((by rw [e83]; exact x_up2_off (Or.inl (by decide)) : g83 69 18 = gi74 69 18).trans c74_3) ((by rw [e83]; exact x_up2_off (Or.inl (by decide)) : g83 69 24 = gi74 69 24).trans c74_4) ((by rw [e83]; exact x_up2_off (Or.inl (by decide)) : g83 69 25 = gi74 69 25).trans c74_5) ((by rw [e83]; exact x_up2_off (Or.inr (t_neCu l74_3 u80 (by decide) (by decide))) : g83 70 1403 = gi74 70 1403).trans c74_6) ((by rw [e83]; exact x_up2_off (Or.inr (t_neCl l74_3 (by decide))) : g83 70 3 = gi74 70 3).trans c74_7) ((by rw [e83]; exact x_up2_off (Or.inr (t_neCl l74_3 (by decide))) : g83 70 4 = gi74 70 4).trans c74_8) ((by rw [e83]; exact x_up2_off (Or.inr (t_neCl l74_3 (by decide))) : g83 70 8 = gi74 70 8).trans c74_9) (t_cp100 j74_0 e82 e83 (by have := t_clamp (i := y74_3) (by omega); omega) (by have := t_clamp (i := z81) (by omega); omega) (by omega) (by omega) (by omega)) (by have hr := t_R4_ext (g' := g83 70) j74_1 (fun j hj => (by rw [e83]; exact x_up2_off (Or.inr (by have hc := t_clamp (i := y74_3) (by omega); omega)) : g83 70 (j) = gi74 70 (j))); have ff85 : (g83 69 25).toInt = (gi24 69 25).toInt := congrArg Int32.toInt ((by rw [e83]; exact x_up2_off (Or.inl (by decide)) : g83 69 25 = gi74 69 25).trans c74_5); have e25 : (g83 69 25).toInt = (gi74 69 25).toInt := (by omega); rw [e25]; exact hr) ((((by rw [e83]; exact x_up2_off (Or.inr (t_neCl l74_3 (by decide))) : g83 70 3 = gi74 70 3).trans c74_7) : g83 70 3 = (gi24 70 1403)).trans (((by rw [e83]; exact x_up2_off (Or.inr (t_neCu l74_3 u80 (by decide) (by decide))) : g83 70 1403 = gi74 70 1403).trans c74_6) : g83 70 1403 = (gi24 70 1403)).symm) (fun b n hn hb hy => (j74_3 b n hn hb hy).eq (g1 := g83) (by rw [e83]; exact x_up2_off (Or.inr (by have hc := t_clamp (i := y74_3) (by omega); omega)) : g83 70 (1403) = gi74 70 (1403)) (congrArg Int32.toInt (by rw [e83, x_up2_ne (by decide)])) (fun j hj => (by rw [e83]; exact x_up2_off (Or.inr (by have hc := t_clamp (i := y74_3) (by omega); omega)) : g83 70 (j) = gi74 70 (j)))) (by have ff86 : (g83 70 8).toInt = 1 := (congrArg Int32.toInt ((by rw [e83]; exact x_up2_off (Or.inr (t_neCl l74_3 (by decide))) : g83 70 8 = gi74 70 8).trans c74_9)).trans (by decide); omega) (by have ff87 : (g83 69 18).toInt = (gi24 69 18).toInt := congrArg Int32.toInt ((by rw [e83]; exact x_up2_off (Or.inl (by decide)) : g83 69 18 = gi74 69 18).trans c74_3); omega) rfl
            refine ev_sub (lo := [(3, .int 100), (2, .int y24_2), (0, .ref 69), (1, .int ar1)]) rfl (t_sc rfl (t_sc rfl (t_sc rfl (t_sc rfl t_sn)))) ?_
            exact L74 _ g73 gl24 gr24 (100) hI hX  (by decide : (100:Int) ≤ (100:Int32).toInt) (Int.le_trans (by decide : (100:Int32).toInt ≤ (100:Int)) (by decide : (100:Int) ≤ 350)) ((by rw [e73]; exact x_up2_off (Or.inl (by decide)) : g73 69 10 = g72 69 10).trans ((by rw [e72]; exact x_up2_off (Or.inl (by decide)) : g72 69 10 = gi24 69 10).trans c24_0)) ((by rw [e73]; exact x_up2_off (Or.inl (by decide)) : g73 69 12 = g72 69 12).trans ((by rw [e72]; exact x_up2_off (Or.inl (by decide)) : g72 69 12 = gi24 69 12).trans rfl)) ((by rw [e73]; exact x_up2_off (Or.inl (by decide)) : g73 69 14 = g72 69 14).trans ((by rw [e72]; exact x_up2_off (Or.inl (by decide)) : g72 69 14 = gi24 69 14).trans rfl)) ((by rw [e73]; exact x_up2_off (Or.inl (by decide)) : g73 69 18 = g72 69 18).trans ((by rw [e72]; exact x_up2_off (Or.inl (by decide)) : g72 69 18 = gi24 69 18).trans rfl)) ((by rw [e73]; exact x_up2_off (Or.inl (by decide)) : g73 69 24 = g72 69 24).trans ((by rw [e72]; exact x_up2_off (Or.inl (by decide)) : g72 69 24 = gi24 69 24).trans rfl)) ((by rw [e73]; exact x_up2_off (Or.inl (by decide)) : g73 69 25 = g72 69 25).trans ((by rw [e72]; exact x_up2_off (Or.inl (by decide)) : g72 69 25 = gi24 69 25).trans rfl)) ((by rw [e73]; exact x_up2_off (Or.inr (by decide)) : g73 70 1403 = g72 70 1403).trans ((by rw [e72]; exact x_up2_off (Or.inr (by decide)) : g72 70 1403 = gi24 70 1403).trans rfl)) ((by rw [e73]; exact x_up2_off (Or.inr (by decide)) : g73 70 3 = g72 70 3).trans (by rw [e72]; exact x_up2_at _ _ _ _ : g72 70 3 = (gi24 70 1403))) ((by rw [e73]; exact x_up2_off (Or.inr (by decide)) : g73 70 4 = g72 70 4).trans ((by rw [e72]; exact x_up2_off (Or.inr (by decide)) : g72 70 4 = gi24 70 4).trans c24_3)) (by rw [e73]; exact x_up2_at _ _ _ _ : g73 70 8 = 1) (fun j h1 h2 => absurd h2 (by have : (100 : Int32).toInt = 100 := rfl; omega)) (by have hr := t_R4_ext (g' := g73 70) (j24_0 (by omega)).1 (fun j hj => ((by rw [e73]; exact x_up2_off (Or.inr (by have hc : (8 : Int32).toNatClampNeg = 8 := rfl; omega)) : g73 70 (j) = g72 70 (j)).trans ((by rw [e72]; exact x_up2_off (Or.inr (by have hc : (3 : Int32).toNatClampNeg = 3 := rfl; omega)) : g72 70 (j) = gi24 70 (j))))); have ff88 : (g73 69 25).toInt = (gi24 69 25).toInt := congrArg Int32.toInt ((by rw [e73]; exact x_up2_off (Or.inl (by decide)) : g73 69 25 = g72 69 25).trans ((by rw [e72]; exact x_up2_off (Or.inl (by decide)) : g72 69 25 = gi24 69 25).trans rfl)); have e25 : (g73 69 25).toInt = (gi24 69 25).toInt := (by omega); rw [e25]; exact hr) ((((by rw [e73]; exact x_up2_off (Or.inr (by decide)) : g73 70 3 = g72 70 3).trans (by rw [e72]; exact x_up2_at _ _ _ _ : g72 70 3 = (gi24 70 1403))) : g73 70 3 = (gi24 70 1403)).trans (((by rw [e73]; exact x_up2_off (Or.inr (by decide)) : g73 70 1403 = g72 70 1403).trans ((by rw [e72]; exact x_up2_off (Or.inr (by decide)) : g72 70 1403 = gi24 70 1403).trans rfl)) : g73 70 1403 = (gi24 70 1403)).symm) (fun b n hn hb hy => (t_OQ_e (j24_2 b n hn hb hy) (by omega) (by omega)).eq (g1 := g73) ((by rw [e73]; exact x_up2_off (Or.inr (by have hc : (8 : Int32).toNatClampNeg = 8 := rfl; omega)) : g73 70 (1403) = g72 70 (1403)).trans ((by rw [e72]; exact x_up2_off (Or.inr (by have hc : (3 : Int32).toNatClampNeg = 3 := rfl; omega)) : g72 70 (1403) = gi24 70 (1403)))) (congrArg Int32.toInt (by rw [e73, x_up2_ne (by decide), e72, x_up2_ne (by decide)])) (fun j hj => ((by rw [e73]; exact x_up2_off (Or.inr (by have hc : (8 : Int32).toNatClampNeg = 8 := rfl; omega)) : g73 70 (j) = g72 70 (j)).trans ((by rw [e72]; exact x_up2_off (Or.inr (by have hc : (3 : Int32).toNatClampNeg = 3 := rfl; omega)) : g72 70 (j) = gi24 70 (j)))))) (by have ff89 : (g73 70 8).toInt = 1 := (congrArg Int32.toInt (by rw [e73]; exact x_up2_at _ _ _ _ : g73 70 8 = 1)).trans (by decide); omega) (by have ff90 : (g73 69 18).toInt = (gi24 69 18).toInt := congrArg Int32.toInt ((by rw [e73]; exact x_up2_off (Or.inl (by decide)) : g73 69 18 = g72 69 18).trans ((by rw [e72]; exact x_up2_off (Or.inl (by decide)) : g72 69 18 = gi24 69 18).trans rfl)); omega) rfl
          · have r91 : (gi24 69 18).toInt ≠ 0 := fun e => h68 (Int32.toInt_inj.mp (e.trans (by decide : (0:Int) = (0 : Int32).toInt)))
            refine ev_loc f_X12_rules (nx := 119) rfl rfl rfl rfl ?_
            refine ev_loc f_X12_rules (nx := 120) rfl rfl rfl rfl ?_
            refine ev_getR f_X12_rules (nx := 123) rfl (hI.wf.s rfl) rfl rfl (hI.wf.r rfl) rfl rfl ?_
            refine ev_ic f_X12_rules (nx := 124) (v := 3) rfl (by decide) rfl ?_
            refine ev_ialdv f_X12_rules (nx := 125) (w := (gi 70 3)) rfl (hI.wf.s rfl) (by decide) (rfl : (3 : Int32).toNatClampNeg = 3) (by decide) c24_2 rfl ?_
            refine ev_inV2 f_X12_rules (nx := 128) (lo2 := [(0, .ref 69), (1, .int (gi 70 3))]) rfl rfl rfl rfl f_X12_taken (hI.wf.s rfl) rfl rfl rfl rfl rfl ?_
            refine ev_loc f_X12_taken (nx := 1) rfl rfl rfl rfl ?_
            refine ev_loc f_X12_taken (nx := 2) rfl rfl rfl rfl ?_
            refine ev_gvI f_X12_taken (nx := 5) (w := (gi24 69 18)) rfl (hI.wf.s rfl) rfl rfl rfl rfl ?_
            refine ev_putIT f_X12_taken (nx := 8) rfl (hI.wf.s rfl) rfl rfl rfl (hI.put0 (hI.wf.s rfl) rfl rfl) (hX.upI rfl) (fun g93 e93 hI hX => ?_)
            refine ev_loc f_X12_taken (nx := 9) rfl rfl rfl rfl ?_
            refine ev_gvI f_X12_taken (nx := 12) (w := (gi24 69 18)) rfl (hI.wf.s rfl) rfl rfl ((by rw [e93]; exact x_up2_off (Or.inr (by decide)) : g93 69 18 = gi24 69 18).trans rfl) rfl ?_
            refine ev_if f_X12_taken (t1 := 24) (t2 := 15) rfl rfl rfl (fun h94 => ?_) (fun h94 => ?_)
            · have u95 : (gi24 69 18).toInt ≤ 0 := t_leu h94 (by decide : (0:Int32).toInt ≤ (0:Int))
              refine ev_loc f_X12_taken (nx := 25) rfl rfl rfl rfl ?_
              refine ev_loc f_X12_taken (nx := 26) rfl rfl rfl rfl ?_
              refine ev_inV2 f_X12_taken (nx := 29) (lo2 := [(0, .ref 69), (1, .int (gi 70 3))]) rfl rfl rfl rfl f_X12_gives (hI.wf.s rfl) rfl rfl rfl rfl rfl ?_
              refine ev_loc f_X12_gives (nx := 1) rfl rfl rfl rfl ?_
              refine ev_ic f_X12_gives (nx := 2) (v := 0) rfl (by decide) rfl ?_
              refine ev_putIT f_X12_gives (nx := 5) rfl (hI.wf.s rfl) rfl rfl rfl (hI.put0 (hI.wf.s rfl) rfl rfl) (hX.upI rfl) (fun g96 e96 hI hX => ?_)
              refine ev_loc f_X12_gives (nx := 6) rfl rfl rfl rfl ?_
              refine ev_retK1 f_X12_gives rfl rfl rfl ?_
              refine ev_retK1 f_X12_taken rfl rfl rfl ?_
              exact ev_ret f_X12_rules rfl rfl rfl ⟨_, _, _, rfl, hI, hX, ⟨_, rfl, (Int.le_trans (by decide : ((-1):Int) ≤ 0) l7), u7, (show ((0 ≤ ar1.toInt ∧ ar1.toInt ≤ (gi 69 10).toInt ∧ ar1.toInt ≤ 300) → ∀ (b : Nat → Int32) (n : Nat), (n : Int) = ar1.toInt → (∀ j : Nat, j < n → gi 75 j = b j) → t_by b n → 0 ≤ (gi 70 3).toInt → (g96 70 8).toInt = 1 ∧ t_MQ (g96 70) (s_rle b n 301 0 0)) ∧ ((gi 70 3).toInt = -1 → g96 70 J0 = gi 70 J0) from ⟨fun _ b n hn hb hy hv => (by
                                                            exfalso
                                                            rcases j24_3 b n hn hb hy with ⟨h0, q, c, r, _, _, _, _, hf, _, _⟩ | ⟨h0, p, x, hx, h3, h4⟩
                                                            · have h5 := hf.1; omega
                                                            · have h5 := h4.1; have h6 := s_fk_ne (b := b) (n := n) (p := p) hx; have h7 := s_rls_bn h3; omega), fun _ => (((by rw [e96]; exact x_up2_off (Or.inl (by decide)) : g96 70 J0 = g93 70 J0).trans ((by rw [e93]; exact x_up2_off (Or.inl (by decide)) : g93 70 J0 = gi24 70 J0).trans c24_1)) : g96 70 J0 = gi 70 J0)⟩)⟩⟩
            · have l97 : 1 ≤ (gi24 69 18).toInt := t_ltl (t_nle h94) (by decide : (0:Int) ≤ (0:Int32).toInt) rfl
              refine ev_loc f_X12_taken (nx := 16) rfl rfl rfl rfl ?_
              refine ev_bp f_X12_taken (nx := 18) (v := 9) rfl (by decide) rfl ?_
              refine ev_inV2 f_X12_taken (nx := 21) (lo2 := [(0, .ref 69), (1, .int 9)]) rfl rfl rfl rfl f_X12_refuse (hI.wf.s rfl) rfl rfl rfl rfl rfl ?_
              refine ev_loc f_X12_refuse (nx := 1) rfl rfl rfl rfl ?_
              refine ev_loc f_X12_refuse (nx := 2) rfl rfl rfl rfl ?_
              refine ev_putIT f_X12_refuse (nx := 5) rfl (hI.wf.s rfl) rfl rfl rfl (hI.put0 (hI.wf.s rfl) rfl rfl) (hX.upI rfl) (fun g98 e98 hI hX => ?_)
              refine ev_ic f_X12_refuse (nx := 6) (v := -1) rfl (by decide) rfl ?_
              refine ev_retK1 f_X12_refuse rfl rfl rfl ?_
              refine ev_jmp f_X12_taken (nx := 29) rfl rfl rfl ?_
              refine ev_retK1 f_X12_taken rfl rfl rfl ?_
              exact ev_ret f_X12_rules rfl rfl rfl ⟨_, _, _, rfl, hI, hX, ⟨_, rfl, (by decide : ((-1):Int) ≤ ((-1):Int32).toInt), (Int.le_trans (by decide : ((-1):Int32).toInt ≤ ((-1):Int)) (by decide : ((-1):Int) ≤ 12)), (show ((0 ≤ ar1.toInt ∧ ar1.toInt ≤ (gi 69 10).toInt ∧ ar1.toInt ≤ 300) → ∀ (b : Nat → Int32) (n : Nat), (n : Int) = ar1.toInt → (∀ j : Nat, j < n → gi 75 j = b j) → t_by b n → 0 ≤ ((-1) : Int) → (g98 70 8).toInt = 1 ∧ t_MQ (g98 70) (s_rle b n 301 0 0)) ∧ (((-1) : Int) = -1 → g98 70 J0 = gi 70 J0) from ⟨fun _ b n hn hb hy hv => absurd hv (by decide), fun _ => (((by rw [e98]; exact x_up2_off (Or.inl (by decide)) : g98 70 J0 = g93 70 J0).trans ((by rw [e93]; exact x_up2_off (Or.inl (by decide)) : g93 70 J0 = gi24 70 J0).trans c24_1)) : g98 70 J0 = gi 70 J0)⟩)⟩⟩
        · have r99 : (gi24 69 12).toInt ≠ 0 := fun e => h66 (Int32.toInt_inj.mp (e.trans (by decide : (0:Int) = (0 : Int32).toInt)))
          have l100 : 1 ≤ (gi24 69 12).toInt := t_nel h66 l25 rfl rfl
          refine ev_loc f_X12_rules (nx := 50) rfl rfl rfl rfl ?_
          refine ev_qI f_X12_rules (nx := 53) (r := []) rfl rfl rfl rfl rfl rfl rfl (c_o_aRuleB hI  (j24_0 (by omega)).1 (j24_0 (by omega)).2) rfl hX rfl (fun w101 gi101 gl101 gr101 l101 u101 hI hX hC101 q101 => ?_)
          have q101 : (((gi24 69 14).toInt ≤ (gi101 69 14).toInt ∧ (w101.toInt = 1 → (gi101 69 12).toInt ≠ 0 → (gi24 69 14).toInt < (gi101 69 14).toInt) ∧ (w101.toInt = 0 → (gi101 69 18).toInt ≠ 0) ∧ (w101.toInt = 1 → (t_R4 (gi101 70) (gi101 69 25).toInt ∧ (gi101 69 25).toInt ≤ 8 * (gi101 69 24).toInt))) ∧ ((∀ (b : Nat → Int32) (n q c r : Nat), t_TM b n q gi24 → t_MF gi24 0 (-1) → n ≤ 300 → (gi24 69 24).toInt = (c : Int) → (gi24 70 1403).toInt = (r : Int) → s_K b n q ≠ 0 → (w101.toInt = 1 ∧ ∃ q2 c2 : Nat, (r < 12 ∧ ∀ m, s_rls b n (m + 1) q c r = s_rls b n m q2 c2 (r + 1)) ∧ t_TM b n q2 gi101 ∧ t_MF gi101 0 (-1) ∧ (gi101 69 24).toInt = (c2 : Int) ∧ (gi101 70 1403).toInt = (r : Int) + 1) ∨ (w101.toInt = 0 ∧ ∃ p x, x ≠ 0 ∧ (∀ m, s_rls b n (m + 1) q c r = ((s_qb b n p x).1, 0)) ∧ t_MF gi101 (s_fk b n p x) (s_F b n p))))) ∧ ((∀ (b : Nat → Int32) (n q c : Nat) (R : List (List Int × Int)), t_TM b n q gi24 → t_MF gi24 0 (-1) → n ≤ 300 → (gi24 69 24).toInt = (c : Int) → s_K b n q ≠ 0 → t_MK gi24 R → w101.toInt = 1 → ∃ (q2 c2 : Nat) (x : List Int × Int), (∀ m, s_rle b n (m + 1) q c = x :: s_rle b n m q2 c2) ∧ t_TM b n q2 gi101 ∧ t_MF gi101 0 (-1) ∧ (gi101 69 24).toInt = (c2 : Int) ∧ t_MK gi101 (R ++ [x]))) := q101
          obtain ⟨l102, u102⟩ := hI.b (hI.wf.s (k := 69) rfl) (t_bdK rfl : t_bd 11 12 = some (0, 4))
          obtain ⟨l103, u103⟩ := hI.b (hI.wf.s (k := 69) rfl) (t_bdK rfl : t_bd 11 14 = some (0, 900))
          obtain ⟨l105, u105⟩ := hI.b (hI.wf.s (k := 69) rfl) (t_bdK rfl : t_bd 11 24 = some (0, 24))
          obtain ⟨l106, u106⟩ := hI.b (hI.wf.s (k := 69) rfl) (t_bdK rfl : t_bd 11 25 = some (0, 210))
          obtain ⟨l107, u107⟩ := hI.ab (by decide +kernel : t_abr 70 1403 1403 0 12 = true) (Nat.le_refl _) (Nat.le_refl _)
          refine ev_loc f_X12_rules (nx := 54) (lo' := [(2, .int w101), (0, .ref 69), (1, .int ar1)]) rfl rfl rfl rfl ?_
          refine ev_jmp f_X12_rules (nx := 38) rfl rfl rfl ?_
          refine ev_sub (lo := [(2, .int w101), (0, .ref 69), (1, .int ar1)]) rfl (t_sc rfl (t_sc rfl (t_sc rfl t_sn))) ?_
          exact ih24 _ (by omega) gi101 gl101 gr101 (w101) hI hX  l101 u101 ((hC101.1 69 10 rfl).1.trans c24_0) ((hC101.1 70 J0 (t_nG (lo := 0) (hi := 350) rfl (by omega) (by omega))).1.trans c24_1) ((hC101.1 70 3 rfl).1.trans c24_2) ((hC101.1 70 4 rfl).1.trans c24_3) ((hC101.1 70 8 rfl).1.trans c24_4) (fun h => (q101.1.1.2.2.2 (by omega))) (fun h => (q101.1.1.2.2.1 (by omega))) (fun b n hn hb hy => t_OQ_s (j24_2 b n hn hb hy) (by omega) (by omega) (fun q c R h1 h2 h3 h4 h5 h6 h7 => q101.2 b n q c R h1 h2 h3 h4 h5 h6 h7)) (fun b n hn hb hy => t_UR_s (j24_3 b n hn hb hy) (by omega) (by omega) (fun q c r h1 h2 h3 h4 h5 h6 => q101.1.2 b n q c r h1 h2 h3 h4 h5 h6)) rfl
    refine ev_sub (lo := [(2, .int 1), (0, .ref 69), (1, .int ar1)]) rfl (t_sc rfl (t_sc rfl (t_sc rfl t_sn))) ?_
    exact L24 _ g23 gl11 gr11 (1) hI hX  (Int.le_trans (by decide : (0:Int) ≤ 1) (by decide : (1:Int) ≤ (1:Int32).toInt)) (by decide : (1:Int32).toInt ≤ (1:Int)) ((by rw [e23]; exact x_up2_off (Or.inr (by decide)) : g23 69 10 = g22 69 10).trans ((by rw [e22]; exact x_up2_off (Or.inr (by decide)) : g22 69 10 = g21 69 10).trans ((by rw [e21]; exact x_up2_off (Or.inl (by decide)) : g21 69 10 = gi11 69 10).trans rfl))) ((by rw [e23]; exact x_up2_off (Or.inl (by decide)) : g23 70 J0 = g22 70 J0).trans ((by rw [e22]; exact x_up2_off (Or.inl (by decide)) : g22 70 J0 = g21 70 J0).trans ((by rw [e21]; exact x_up2_off (Or.inr (by have : (1403 : Int32).toNatClampNeg = 1403 := rfl; omega)) : g21 70 J0 = gi11 70 J0).trans ((hC11.1 70 J0 (t_nG (lo := 0) (hi := 350) rfl (by omega) (by omega))).1.trans rfl)))) ((by rw [e23]; exact x_up2_off (Or.inr (by decide)) : g23 70 3 = g22 70 3).trans ((by rw [e22]; exact x_up2_off (Or.inr (by decide)) : g22 70 3 = g21 70 3).trans ((by rw [e21]; exact x_up2_off (Or.inr (by decide)) : g21 70 3 = gi11 70 3).trans ((hC11.1 70 3 rfl).1.trans rfl)))) ((by rw [e23]; exact x_up2_off (Or.inr (by decide)) : g23 70 4 = g22 70 4).trans ((by rw [e22]; exact x_up2_off (Or.inr (by decide)) : g22 70 4 = g21 70 4).trans ((by rw [e21]; exact x_up2_off (Or.inr (by decide)) : g21 70 4 = gi11 70 4).trans ((hC11.1 70 4 rfl).1.trans rfl)))) ((by rw [e23]; exact x_up2_off (Or.inr (by decide)) : g23 70 8 = g22 70 8).trans ((by rw [e22]; exact x_up2_off (Or.inr (by decide)) : g22 70 8 = g21 70 8).trans ((by rw [e21]; exact x_up2_off (Or.inr (by decide)) : g21 70 8 = gi11 70 8).trans ((hC11.1 70 8 rfl).1.trans rfl)))) (fun _ => ⟨t_R4_0 (by have ff108 : (g23 70 1403).toInt = 0 := (congrArg Int32.toInt ((by rw [e23]; exact x_up2_off (Or.inr (by decide)) : g23 70 1403 = g22 70 1403).trans ((by rw [e22]; exact x_up2_off (Or.inr (by decide)) : g22 70 1403 = g21 70 1403).trans (by rw [e21]; exact x_up2_at _ _ _ _ : g21 70 1403 = 0)))).trans (by decide); omega), (by have hb4 := hI.b (hI.wf.s (k := 69) rfl) (t_bdK rfl : t_bd 11 24 = some (0, 24)); have ff109 : (g23 69 24).toInt = 0 := (congrArg Int32.toInt ((by rw [e23]; exact x_up2_off (Or.inr (by decide)) : g23 69 24 = g22 69 24).trans (by rw [e22]; exact x_up2_at _ _ _ _ : g22 69 24 = 0))).trans (by decide); have ff110 : (g23 69 25).toInt = 0 := (congrArg Int32.toInt (by rw [e23]; exact x_up2_at _ _ _ _ : g23 69 25 = 0)).trans (by decide); omega)⟩) (fun h => absurd h (by decide)) (fun b n hn hb hy => (by
                                                            have h1 := q11.1 b n hn hb hy (by omega)
                                                            have h3 := q11.2.1 (by omega)
                                                            have k3 : (300 : Int32).toInt = 300 := rfl
                                                            exact fun _ => ⟨0, 0, [], rfl, by omega, h1.1.fM (((t_fM.rf.ux (by decide) e21).u9 (by decide) e22).u9 (by decide) e23), h1.2.fM (((t_fM.rf.ux (by decide) e21).u9 (by decide) e22).u9 (by decide) e23), (congrArg Int32.toInt ((by rw [e23]; exact x_up2_off (Or.inr (by decide)) : g23 69 24 = g22 69 24).trans ((by rw [e22]; exact x_up2_at _ _ _ _ : g22 69 24 = (0 : Int32))))), t_MK_0 (congrArg Int32.toInt ((by rw [e23]; exact x_up2_off (Or.inl (by decide)) : g23 70 1403 = g22 70 1403).trans ((by rw [e22]; exact x_up2_off (Or.inl (by decide)) : g22 70 1403 = g21 70 1403).trans ((by rw [e21]; exact x_up2_at _ _ _ _ : g21 70 1403 = (0 : Int32)))))) (congrArg Int32.toInt (by rw [e23]; exact x_up2_at _ _ _ _ : g23 69 25 = (0 : Int32)))⟩)) (fun b n hn hb hy => (by
                                                            have h1 := q11.1 b n hn hb hy (by omega)
                                                            have h3 := q11.2.1 (by omega)
                                                            have k3 : (300 : Int32).toInt = 300 := rfl
                                                            exact Or.inl ⟨by decide, 0, 0, 0, rfl, Nat.zero_le _, by omega, h1.1.fM (((t_fM.rf.ux (by decide) e21).u9 (by decide) e22).u9 (by decide) e23), h1.2.fM (((t_fM.rf.ux (by decide) e21).u9 (by decide) e22).u9 (by decide) e23), (congrArg Int32.toInt ((by rw [e23]; exact x_up2_off (Or.inr (by decide)) : g23 69 24 = g22 69 24).trans ((by rw [e22]; exact x_up2_at _ _ _ _ : g22 69 24 = (0 : Int32))))), (congrArg Int32.toInt ((by rw [e23]; exact x_up2_off (Or.inl (by decide)) : g23 70 1403 = g22 70 1403).trans ((by rw [e22]; exact x_up2_off (Or.inl (by decide)) : g22 70 1403 = g21 70 1403).trans ((by rw [e21]; exact x_up2_at _ _ _ _ : g21 70 1403 = (0 : Int32))))))⟩)) rfl
