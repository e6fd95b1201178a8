/-! ===== printed by mdl8.py: contracts of the model ===== -/
noncomputable def wl_m_conditions : List (Nat × Nat) := [(69, 12), (69, 13), (69, 14), (69, 15), (69, 17), (69, 18), (69, 22), (69, 23), (69, 24), (69, 25), (70, 154011750), (77, 9999)]
noncomputable def Q_m_conditions (gi : Nat → Nat → Int32) (gl : Nat → Nat → Int64) (gr : Nat → Nat → Value) (b : Nat → Int32) : Int32 → (Nat → Nat → Int32) → (Nat → Nat → Int64) → (Nat → Nat → Value) → Prop := fun (v : Int32) (gi2 : Nat → Nat → Int32) (gl2 : Nat → Nat → Int64) (gr2 : Nat → Nat → Value) => (gi 69 14).toInt ≤ (gi2 69 14).toInt ∧ (v.toInt = 1 → (gi2 69 12).toInt ≠ 0 → (gi 69 14).toInt < (gi2 69 14).toInt) ∧ (v.toInt = 0 → (gi2 69 18).toInt ≠ 0) ∧ (v.toInt = 1 → (t_em (gi2 70) (t_lo4 b) (gi2 69 25).toInt.toNat 1 ∧ (∀ j : Nat, j < 1540 + t_lo4 b → gi2 70 j = b j) ∧ 0 ≤ (gi2 69 25).toInt ∧ (gi2 69 25).toInt ≤ 8 * (gi2 69 24).toInt))
theorem t_ms30 {m : Nat} {P C P1 C1 P2 C2 : Int} (hm : (2 * (900 - P) + min C 1).toNat = m) (hC : C = 2) (hp : P ≤ P1) (h2 : C1 ≠ 0 → P < P1) (h9 : P1 ≤ 900) (l : 0 ≤ C1) (eP : P2 = P1) (eC : C2 = C1) : (2 * (900 - P2) + min C2 1).toNat < m := by
  subst eP eC
  by_cases h : C2 = 0
  · omega
  · have := h2 h; omega
set_option maxHeartbeats 40000000 in
theorem c_m_conditions {X : x_Ext} {d : Nat} {sh : List (Nat ⊕ (Nat × Nat))} {gi : Nat → Nat → Int32} {gl : Nat → Nat → Int64} {gr : Nat → Nat → Value} (hI : t_I sh gi gr) {b : Nat → Int32} (e_p0 : (gi 69 25).toInt ≤ 8 * (gi 69 24).toInt) (e_p1 : gi 70 = b) (e_p2 : t_lo4 b = (gi 69 25).toInt.toNat) : x_Me X (d + 7) n_X12_conditions [.ref 69] (sh, gi, gl, gr) (t_PI wl_m_conditions sh gi gl gr 0 1 (Q_m_conditions gi gl gr b)) := by
  have hX : t_X wl_m_conditions sh gi gl gr gi gl gr := t_X.rf
  refine me_i f_X12_conditions (hI.wf.s rfl) rfl rfl rfl ?_
  obtain ⟨l1, u1⟩ := hI.b (hI.wf.s (k := 69) rfl) (t_bdK rfl : t_bd 11 12 = some (0, 4))
  obtain ⟨l2, u2⟩ := hI.b (hI.wf.s (k := 69) rfl) (t_bdK rfl : t_bd 11 14 = some (0, 900))
  have hI4 := hI
  have hI5 := hI
  have hI6 := hI
  have hI7 := hI
  refine ev_loc f_X12_conditions (nx := 1) rfl rfl rfl rfl ?_
  refine ev_ic f_X12_conditions (nx := 2) (v := 0) rfl (by decide) rfl ?_
  refine ev_putIT f_X12_conditions (nx := 5) rfl (hI.wf.s rfl) rfl rfl rfl (hI.putB (hI.wf.s rfl) rfl rfl (by decide : (0:Int) ≤ (0:Int32).toInt) (by decide) (by decide : (0:Int32).toInt ≤ (0:Int)) (by decide)) (hX.upI rfl) (fun g8 e8 hI hX => ?_)
  refine ev_loc f_X12_conditions (nx := 6) rfl rfl rfl rfl ?_
  refine ev_ic f_X12_conditions (nx := 7) (v := 0) rfl (by decide) rfl ?_
  refine ev_putIT f_X12_conditions (nx := 10) rfl (hI.wf.s rfl) rfl rfl rfl (hI.putB (hI.wf.s rfl) rfl rfl (by decide : (0:Int) ≤ (0:Int32).toInt) (by decide) (by decide : (0:Int32).toInt ≤ (0:Int)) (by decide)) (hX.upI rfl) (fun g9 e9 hI hX => ?_)
  refine ev_loc f_X12_conditions (nx := 11) rfl rfl rfl rfl ?_
  refine ev_qI f_X12_conditions (nx := 14) (r := []) rfl rfl rfl rfl rfl rfl rfl (c_m_aOne hI  (b := b) (t_K_0 (show (g9 69 22).toInt = 0 from (by have ff15 : (g9 69 22).toInt = 0 := (congrArg Int32.toInt ((by rw [e9]; exact x_up2_off (Or.inr (by decide)) : g9 69 22 = g8 69 22).trans (by rw [e8]; exact x_up2_at _ _ _ _ : g8 69 22 = 0))).trans (by decide); omega)) (show (g9 69 23).toInt = 0 from (by have ff16 : (g9 69 23).toInt = 0 := (congrArg Int32.toInt (by rw [e9]; exact x_up2_at _ _ _ _ : g9 69 23 = 0)).trans (by decide); omega)) (by have hb4 := hI.b (hI.wf.s (k := 69) rfl) (t_bdK rfl : t_bd 11 24 = some (0, 24)); have hb5 := hI.b (hI.wf.s (k := 69) rfl) (t_bdK rfl : t_bd 11 25 = some (0, 210)); have ff11 : (g9 69 24).toInt = (gi 69 24).toInt := congrArg Int32.toInt ((by rw [e9]; exact x_up2_off (Or.inr (by decide)) : g9 69 24 = g8 69 24).trans ((by rw [e8]; exact x_up2_off (Or.inr (by decide)) : g8 69 24 = gi 69 24).trans rfl)); omega) (by have hb4 := hI.b (hI.wf.s (k := 69) rfl) (t_bdK rfl : t_bd 11 24 = some (0, 24)); have hb5 := hI.b (hI.wf.s (k := 69) rfl) (t_bdK rfl : t_bd 11 25 = some (0, 210)); have ff12 : (g9 69 25).toInt = (gi 69 25).toInt := congrArg Int32.toInt ((by rw [e9]; exact x_up2_off (Or.inr (by decide)) : g9 69 25 = g8 69 25).trans ((by rw [e8]; exact x_up2_off (Or.inr (by decide)) : g8 69 25 = gi 69 25).trans rfl)); have ff13 : (g9 69 24).toInt = (gi 69 24).toInt := congrArg Int32.toInt ((by rw [e9]; exact x_up2_off (Or.inr (by decide)) : g9 69 24 = g8 69 24).trans ((by rw [e8]; exact x_up2_off (Or.inr (by decide)) : g8 69 24 = gi 69 24).trans rfl)); omega) (((by rw [e9]; exact x_up2_ne (by decide) : g9 70 = g8 70).trans ((by rw [e8]; exact x_up2_ne (by decide) : g8 70 = gi 70))).trans e_p1) (by have hb4 := hI.b (hI.wf.s (k := 69) rfl) (t_bdK rfl : t_bd 11 24 = some (0, 24)); have hb5 := hI.b (hI.wf.s (k := 69) rfl) (t_bdK rfl : t_bd 11 25 = some (0, 210)); have ff14 : (g9 69 25).toInt = (gi 69 25).toInt := congrArg Int32.toInt ((by rw [e9]; exact x_up2_off (Or.inr (by decide)) : g9 69 25 = g8 69 25).trans ((by rw [e8]; exact x_up2_off (Or.inr (by decide)) : g8 69 25 = gi 69 25).trans rfl)); omega))) rfl hX rfl (fun w10 gi10 gl10 gr10 l10 u10 hI hX hC10 q10 => ?_)
  have ff17 : (g9 69 14).toInt = (gi 69 14).toInt := congrArg Int32.toInt ((by rw [e9]; exact x_up2_off (Or.inr (by decide)) : g9 69 14 = g8 69 14).trans ((by rw [e8]; exact x_up2_off (Or.inr (by decide)) : g8 69 14 = gi 69 14).trans rfl))
  have q10 : (g9 69 14).toInt ≤ (gi10 69 14).toInt ∧ (w10.toInt = 1 → (gi10 69 12).toInt ≠ 0 → (g9 69 14).toInt < (gi10 69 14).toInt) ∧ (w10.toInt = 0 → (gi10 69 18).toInt ≠ 0) ∧ (w10.toInt = 1 → t_K (b) gi10 2) := q10
  obtain ⟨l18, u18⟩ := hI.b (hI.wf.s (k := 69) rfl) (t_bdK rfl : t_bd 11 12 = some (0, 4))
  obtain ⟨l19, u19⟩ := hI.b (hI.wf.s (k := 69) rfl) (t_bdK rfl : t_bd 11 14 = some (0, 900))
  have hI21 := hI
  have hI22 := hI
  have hI23 := hI
  have hI24 := hI
  refine ev_if f_X12_conditions (t1 := 17) (t2 := 19) rfl rfl rfl (fun h25 => ?_) (fun h25 => ?_)
  · have u26 : w10.toInt ≤ 0 := t_equ h25 (by decide : (0:Int32).toInt ≤ (0:Int))
    refine ev_ic f_X12_conditions (nx := 18) (v := 0) rfl (by decide) rfl ?_
    exact ev_ret f_X12_conditions rfl rfl rfl ⟨_, _, _, rfl, hI, hX, ⟨_, rfl, (by decide : (0:Int) ≤ (0:Int32).toInt), (Int.le_trans (by decide : (0:Int32).toInt ≤ (0:Int)) (by decide : (0:Int) ≤ 1)), (show (gi 69 14).toInt ≤ (gi10 69 14).toInt ∧ (0 = 1 → (gi10 69 12).toInt ≠ 0 → (gi 69 14).toInt < (gi10 69 14).toInt) ∧ (0 = 0 → (gi10 69 18).toInt ≠ 0) ∧ (0 = 1 → (t_em (gi10 70) (t_lo4 b) (gi10 69 25).toInt.toNat 1 ∧ (∀ j : Nat, j < 1540 + t_lo4 b → gi10 70 j = b j) ∧ 0 ≤ (gi10 69 25).toInt ∧ (gi10 69 25).toInt ≤ 8 * (gi10 69 24).toInt)) from ⟨(by omega), (by omega), (by omega), fun h => absurd h (by decide)⟩)⟩⟩
  · have r27 : w10.toInt ≠ 0 := fun e => h25 (Int32.toInt_inj.mp (e.trans (by decide : (0:Int) = (0 : Int32).toInt)))
    have l28 : 1 ≤ w10.toInt := t_nel h25 l10 rfl rfl
    refine ev_loc f_X12_conditions (nx := 20) rfl rfl rfl rfl ?_
    refine ev_heap f_X12_conditions (nx := 22) rfl rfl rfl rfl ?_
    refine ev_qI f_X12_conditions (nx := 25) (r := []) rfl rfl rfl rfl rfl rfl rfl (c_m_inWords hI ) rfl hX rfl (fun w29 gi29 gl29 gr29 l29 u29 hI hX hC29 q29 => ?_)
    have q29 : 0 ≤ w29.toInt → (gi10 69 12).toInt = 2 := q29
    refine ev_loc f_X12_conditions (nx := 26) (lo' := [(1, .int w29), (0, .ref 69)]) rfl rfl rfl rfl ?_
    have L30 : ∀ (m30 : Nat) (gi30 : Nat → Nat → Int32) (gl30 : Nat → Nat → Int64) (gr30 : Nat → Nat → Value) (y30_1 : Int32), t_I sh gi30 gr30 → t_X wl_m_conditions sh gi gl gr gi30 gl30 gr30 → t_K b gi30 2 → (gi 69 14).toInt ≤ (gi30 69 14).toInt → ((gi30 69 12).toInt ≠ 0 → (gi 69 14).toInt < (gi30 69 14).toInt) → (0 ≤ y30_1.toInt → (gi30 69 12).toInt = 2) → (2 * (900 - (gi30 69 14).toInt) + min (gi30 69 12).toInt 1).toNat = m30 → x_Ev X (d + 7) n_X12_conditions 26 [(1, .int y30_1), (0, .ref 69)] [] (sh, gi30, gl30, gr30) (t_PI wl_m_conditions sh gi gl gr 0 1 (Q_m_conditions gi gl gr b)) := by
      intro m30
      induction m30 using Nat.strongRecOn with
      | _ m30 ih30 =>
      intro gi30 gl30 gr30 y30_1 hI hX j30_0 j30_1 j30_2 j30_3 hm30
      obtain ⟨l31, u31⟩ := hI.b (hI.wf.s (k := 69) rfl) (t_bdK rfl : t_bd 11 12 = some (0, 4))
      obtain ⟨l32, u32⟩ := hI.b (hI.wf.s (k := 69) rfl) (t_bdK rfl : t_bd 11 14 = some (0, 900))
      have hI34 := hI
      have hI35 := hI
      have hI36 := hI
      have hI37 := hI
      refine ev_loc f_X12_conditions (nx := 27) rfl rfl rfl rfl ?_
      refine ev_bp f_X12_conditions (nx := 29) (v := 18) rfl (by decide) rfl ?_
      refine ev_if f_X12_conditions (t1 := 38) (t2 := 32) rfl rfl rfl (fun h38 => ?_) (fun h38 => ?_)
      · have u39 : y30_1.toInt ≤ 18 := t_equ h38 (by decide : (18:Int32).toInt ≤ (18:Int))
        have l40 : 18 ≤ y30_1.toInt := t_eql h38 (by decide : (18:Int) ≤ (18:Int32).toInt)
        have L41 : ∀ (m41 : Nat) (gi41 : Nat → Nat → Int32) (gl41 : Nat → Nat → Int64) (gr41 : Nat → Nat → Value), t_I sh gi41 gr41 → t_X wl_m_conditions sh gi gl gr gi41 gl41 gr41 → gi41 69 12 = (gi30 69 12) → gi41 69 14 = (gi30 69 14) → gi41 69 18 = (gi30 69 18) → gi41 69 23 = (gi30 69 23) → gi41 69 24 = (gi30 69 24) → t_K b gi41 2 → (gi 69 14).toInt ≤ (gi41 69 14).toInt → ((gi41 69 12).toInt ≠ 0 → (gi 69 14).toInt < (gi41 69 14).toInt) → (gi41 69 22).toInt.toNat = m41 → x_Ev X (d + 7) n_X12_conditions 38 [(1, .int y30_1), (0, .ref 69)] [] (sh, gi41, gl41, gr41) (t_PI wl_m_conditions sh gi gl gr 0 1 (Q_m_conditions gi gl gr b)) := by
          intro m41
          induction m41 using Nat.strongRecOn with
          | _ m41 ih41 =>
          intro gi41 gl41 gr41 hI hX c41_0 c41_1 c41_2 c41_3 c41_4 j41_0 j41_1 j41_2 hm41
          have cf41_0 : (gi41 69 12).toInt = (gi30 69 12).toInt := congrArg Int32.toInt c41_0
          have cf41_1 : (gi41 69 14).toInt = (gi30 69 14).toInt := congrArg Int32.toInt c41_1
          have cf41_2 : (gi41 69 18).toInt = (gi30 69 18).toInt := congrArg Int32.toInt c41_2
          have cf41_3 : (gi41 69 23).toInt = (gi30 69 23).toInt := congrArg Int32.toInt c41_3
          have cf41_4 : (gi41 69 24).toInt = (gi30 69 24).toInt := congrArg Int32.toInt c41_4
          have hI42 := hI
          have hI43 := hI
          refine ev_loc f_X12_conditions (nx := 39) rfl rfl rfl rfl ?_
          refine ev_bp f_X12_conditions (nx := 41) (v := 19) rfl (by decide) rfl ?_
          refine ev_inV2 f_X12_conditions (nx := 44) (lo2 := [(0, .ref 69), (1, .int 19)]) rfl rfl rfl rfl f_X12_isDoing (hI.wf.s rfl) rfl rfl rfl rfl rfl ?_
          refine ev_loc f_X12_isDoing (nx := 1) rfl rfl rfl rfl ?_
          refine ev_gvI f_X12_isDoing (nx := 4) (w := (gi41 69 22)) rfl (hI.wf.s rfl) rfl rfl rfl rfl ?_
          refine ev_if f_X12_isDoing (t1 := 26) (t2 := 7) rfl rfl rfl (fun h44 => ?_) (fun h44 => ?_)
          · have u45 : (gi41 69 22).toInt ≤ 0 := t_leu h44 (by decide : (0:Int32).toInt ≤ (0:Int))
            refine ev_ic f_X12_isDoing (nx := 27) (v := 0) rfl (by decide) rfl ?_
            refine ev_retK1 f_X12_isDoing rfl rfl rfl ?_
            refine ev_t f_X12_conditions (t1 := 47) (t2 := 62) rfl rfl rfl (by decide) ?_
            refine ev_loc f_X12_conditions (nx := 48) rfl rfl rfl rfl ?_
            refine ev_bp f_X12_conditions (nx := 50) (v := 18) rfl (by decide) rfl ?_
            refine ev_t f_X12_conditions (t1 := 53) (t2 := 69) rfl rfl rfl (t_eqT u39 l40 (by decide : (18:Int32).toInt ≤ (18:Int)) (by decide : (18:Int) ≤ (18:Int32).toInt)) ?_
            refine ev_loc f_X12_conditions (nx := 54) rfl rfl rfl rfl ?_
            refine ev_bp f_X12_conditions (nx := 56) (v := 18) rfl (by decide) rfl ?_
            refine ev_inV2 f_X12_conditions (nx := 59) (lo2 := [(0, .ref 69), (1, .int 18)]) rfl rfl rfl rfl f_X12_isDoing (hI.wf.s rfl) rfl rfl rfl rfl rfl ?_
            refine ev_loc f_X12_isDoing (nx := 1) rfl rfl rfl rfl ?_
            refine ev_gvI f_X12_isDoing (nx := 4) (w := (gi41 69 22)) rfl (hI.wf.s rfl) rfl rfl rfl rfl ?_
            refine ev_t f_X12_isDoing (t1 := 26) (t2 := 7) rfl rfl rfl (t_leT u45 (by decide : (0:Int) ≤ (0:Int32).toInt) (by decide)) ?_
            refine ev_ic f_X12_isDoing (nx := 27) (v := 0) rfl (by decide) rfl ?_
            refine ev_retK1 f_X12_isDoing rfl rfl rfl ?_
            refine ev_t f_X12_conditions (t1 := 69) (t2 := 62) rfl rfl rfl (by decide) ?_
            refine ev_loc f_X12_conditions (nx := 70) rfl rfl rfl rfl ?_
            refine ev_loc f_X12_conditions (nx := 71) rfl rfl rfl rfl ?_
            refine ev_inV2 f_X12_conditions (nx := 74) (lo2 := [(0, .ref 69), (1, .int y30_1)]) rfl rfl rfl rfl f_X12_does (hI.wf.s rfl) rfl rfl rfl rfl rfl ?_
            have kn46 := t_K_num j41_0
            refine ev_loc f_X12_does (nx := 1) rfl rfl rfl rfl ?_
            refine ev_getR f_X12_does (nx := 4) rfl (hI.wf.s rfl) rfl rfl (hI.wf.r rfl) rfl rfl ?_
            refine ev_loc f_X12_does (nx := 5) rfl rfl rfl rfl ?_
            refine ev_gvI f_X12_does (nx := 8) (w := (gi41 69 22)) rfl (hI.wf.s rfl) rfl rfl rfl rfl ?_
            refine ev_loc f_X12_does (nx := 9) rfl rfl rfl rfl ?_
            refine ev_iastT f_X12_does (nx := 10) rfl (hI.wf.s rfl) (hI42.b (hI42.wf.s (k := 69) rfl) (t_bdK rfl : t_bd 11 22 = some (0, 60))).1 (by decide) u45 (by decide) rfl (hI.astG (hI.wf.s rfl) (fun lo hi e => absurd e (t_nob (by decide +kernel) _)) (fun k hk e => by have := hk.2.1; omega)) (hX.upI (t_inA_ok rfl)) (fun g47 e47 hI hX => ?_)
            refine ev_loc f_X12_does (nx := 11) rfl rfl rfl rfl ?_
            refine ev_alu f_X12_does (nx := 12) rfl rfl rfl rfl ?_
            refine ev_gvI f_X12_does (nx := 15) (w := (gi41 69 22)) rfl (hI.wf.s rfl) rfl rfl ((by rw [e47]; exact x_up2_off (Or.inl (by decide)) : g47 69 22 = gi41 69 22).trans rfl) rfl ?_
            refine ev_ic f_X12_does (nx := 16) (v := 1) rfl (by decide) rfl ?_
            refine ev_addC f_X12_does (nx := 17) (c := 1) (l := 1) (u := 1) rfl (by decide) (hI42.b (hI42.wf.s (k := 69) rfl) (t_bdK rfl : t_bd 11 22 = some (0, 60))).1 u45 rfl rfl (by decide) (by decide) rfl (fun z48 e48 l48 u48 => ?_)
            refine ev_putIT f_X12_does (nx := 20) rfl (hI.wf.s rfl) rfl rfl rfl (hI.putB (hI.wf.s rfl) rfl rfl l48 (by decide) u48 (by decide)) (hX.upI rfl) (fun g49 e49 hI hX => ?_)
            refine ev_retK0 f_X12_does rfl rfl rfl ?_
            refine ev_loc f_X12_conditions (nx := 75) rfl rfl rfl rfl ?_
            refine ev_qN f_X12_conditions (nx := 78) (r := []) rfl rfl rfl rfl rfl rfl rfl (c_m_ahead2 hI ) rfl hX rfl (fun gi50 gl50 gr50 hI hX hC50 q50 => ?_)
            have ff51 : (g49 69 14).toInt = (gi30 69 14).toInt := congrArg Int32.toInt ((by rw [e49]; exact x_up2_off (Or.inr (by decide)) : g49 69 14 = g47 69 14).trans ((by rw [e47]; exact x_up2_off (Or.inl (by decide)) : g47 69 14 = gi41 69 14).trans c41_1))
            have q50 : (g49 69 14).toInt ≤ (gi50 69 14).toInt ∧ ((gi50 69 12).toInt ≠ 0 → (g49 69 14).toInt < (gi50 69 14).toInt) ∧ ((gi50 69 12).toInt = 3 → 0 ≤ (gi50 69 15).toInt) := q50
            obtain ⟨l52, u52⟩ := hI.b (hI.wf.s (k := 69) rfl) (t_bdK rfl : t_bd 11 12 = some (0, 4))
            obtain ⟨l53, u53⟩ := hI.b (hI.wf.s (k := 69) rfl) (t_bdK rfl : t_bd 11 14 = some (0, 900))
            refine ev_loc f_X12_conditions (nx := 79) rfl rfl rfl rfl ?_
            refine ev_qI f_X12_conditions (nx := 82) (r := []) rfl rfl rfl rfl rfl rfl rfl (c_m_aOne hI  (b := b) (by have ho := (t_onec (p := (gi41 69 22).toInt.toNat) rfl e47 ((funext (fun j => (hC50.1 77 j rfl).1) : gi50 77 = g49 77).trans ((by rw [e49]; exact x_up2_ne (by decide) : g49 77 = g47 77))) (by have hc := t_clamp (i := (gi41 69 22)) (by omega); omega)); exact t_K_op j41_0 (by omega) (show (gi50 69 22).toInt = (gi41 69 22).toInt + 1 from (by have ff55 : (gi50 69 22).toInt = z48.toInt := congrArg Int32.toInt ((hC50.1 69 22 rfl).1.trans (by rw [e49]; exact x_up2_at _ _ _ _ : g49 69 22 = z48)); omega)) (show (gi50 69 23).toInt = (gi41 69 23).toInt from (by have ff56 : (gi50 69 23).toInt = (gi30 69 23).toInt := congrArg Int32.toInt ((hC50.1 69 23 rfl).1.trans ((by rw [e49]; exact x_up2_off (Or.inr (by decide)) : g49 69 23 = g47 69 23).trans ((by rw [e47]; exact x_up2_off (Or.inl (by decide)) : g47 69 23 = gi41 69 23).trans c41_3))); omega)) (show (gi50 69 24).toInt = (gi41 69 24).toInt from (by have ff57 : (gi50 69 24).toInt = (gi30 69 24).toInt := congrArg Int32.toInt ((hC50.1 69 24 rfl).1.trans ((by rw [e49]; exact x_up2_off (Or.inr (by decide)) : g49 69 24 = g47 69 24).trans ((by rw [e47]; exact x_up2_off (Or.inl (by decide)) : g47 69 24 = gi41 69 24).trans c41_4))); omega)) (show (gi50 69 25).toInt = (gi41 69 25).toInt from (by have ff58 : (gi50 69 25).toInt = (gi41 69 25).toInt := congrArg Int32.toInt ((hC50.1 69 25 rfl).1.trans ((by rw [e49]; exact x_up2_off (Or.inr (by decide)) : g49 69 25 = g47 69 25).trans ((by rw [e47]; exact x_up2_off (Or.inl (by decide)) : g47 69 25 = gi41 69 25).trans rfl))); omega)) ((funext (fun j => (hC50.1 70 j rfl).1) : gi50 70 = g49 70).trans ((by rw [e49]; exact x_up2_ne (by decide) : g49 70 = g47 70).trans ((by rw [e47]; exact x_up2_ne (by decide) : g47 70 = gi41 70)))) ho.1 ho.2)) rfl hX rfl (fun w54 gi54 gl54 gr54 l54 u54 hI hX hC54 q54 => ?_)
            have q54 : (gi50 69 14).toInt ≤ (gi54 69 14).toInt ∧ (w54.toInt = 1 → (gi54 69 12).toInt ≠ 0 → (gi50 69 14).toInt < (gi54 69 14).toInt) ∧ (w54.toInt = 0 → (gi54 69 18).toInt ≠ 0) ∧ (w54.toInt = 1 → t_K (b) gi54 2) := q54
            obtain ⟨l59, u59⟩ := hI.b (hI.wf.s (k := 69) rfl) (t_bdK rfl : t_bd 11 12 = some (0, 4))
            obtain ⟨l60, u60⟩ := hI.b (hI.wf.s (k := 69) rfl) (t_bdK rfl : t_bd 11 14 = some (0, 900))
            have hI62 := hI
            have hI63 := hI
            have hI64 := hI
            have hI65 := hI
            refine ev_if f_X12_conditions (t1 := 85) (t2 := 87) rfl rfl rfl (fun h66 => ?_) (fun h66 => ?_)
            · have u67 : w54.toInt ≤ 0 := t_equ h66 (by decide : (0:Int32).toInt ≤ (0:Int))
              refine ev_ic f_X12_conditions (nx := 86) (v := 0) rfl (by decide) rfl ?_
              exact ev_ret f_X12_conditions rfl rfl rfl ⟨_, _, _, rfl, hI, hX, ⟨_, rfl, (by decide : (0:Int) ≤ (0:Int32).toInt), (Int.le_trans (by decide : (0:Int32).toInt ≤ (0:Int)) (by decide : (0:Int) ≤ 1)), (show (gi 69 14).toInt ≤ (gi54 69 14).toInt ∧ (0 = 1 → (gi54 69 12).toInt ≠ 0 → (gi 69 14).toInt < (gi54 69 14).toInt) ∧ (0 = 0 → (gi54 69 18).toInt ≠ 0) ∧ (0 = 1 → (t_em (gi54 70) (t_lo4 b) (gi54 69 25).toInt.toNat 1 ∧ (∀ j : Nat, j < 1540 + t_lo4 b → gi54 70 j = b j) ∧ 0 ≤ (gi54 69 25).toInt ∧ (gi54 69 25).toInt ≤ 8 * (gi54 69 24).toInt)) from ⟨(by omega), (by omega), (by omega), fun h => absurd h (by decide)⟩)⟩⟩
            · have r68 : w54.toInt ≠ 0 := fun e => h66 (Int32.toInt_inj.mp (e.trans (by decide : (0:Int) = (0 : Int32).toInt)))
              have l69 : 1 ≤ w54.toInt := t_nel h66 l54 rfl rfl
              refine ev_loc f_X12_conditions (nx := 88) rfl rfl rfl rfl ?_
              refine ev_heap f_X12_conditions (nx := 90) rfl rfl rfl rfl ?_
              refine ev_qI f_X12_conditions (nx := 93) (r := []) rfl rfl rfl rfl rfl rfl rfl (c_m_inWords hI ) rfl hX rfl (fun w70 gi70 gl70 gr70 l70 u70 hI hX hC70 q70 => ?_)
              have q70 : 0 ≤ w70.toInt → (gi54 69 12).toInt = 2 := q70
              refine ev_loc f_X12_conditions (nx := 94) (lo' := [(1, .int w70), (0, .ref 69)]) rfl rfl rfl rfl ?_
              refine ev_jmp f_X12_conditions (nx := 26) rfl rfl rfl ?_
              refine ev_sub (lo := [(1, .int w70), (0, .ref 69)]) rfl (t_sc rfl (t_sc rfl t_sn)) ?_
              exact ih30 _ (by have ff79 : (gi70 69 14).toInt = (gi54 69 14).toInt := congrArg Int32.toInt ((hC70.1 69 14 rfl).1.trans rfl); have ff80 : (gi70 69 12).toInt = (gi54 69 12).toInt := congrArg Int32.toInt ((hC70.1 69 12 rfl).1.trans rfl); exact t_ms30 hm30 (j30_3 (by omega)) (by have := q54.1; omega) (fun h => by have := q54.2.1 (by omega) h; omega) (by omega) (by omega) ff79 ff80) gi70 gl70 gr70 (w70) hI hX  (t_K_ext (q54.2.2.2 (by omega)) (show (gi70 69 22).toInt = (gi54 69 22).toInt from (by have ff71 : (gi70 69 22).toInt = (gi54 69 22).toInt := congrArg Int32.toInt ((hC70.1 69 22 rfl).1.trans rfl); omega)) (show (gi70 69 23).toInt = (gi54 69 23).toInt from (by have ff72 : (gi70 69 23).toInt = (gi54 69 23).toInt := congrArg Int32.toInt ((hC70.1 69 23 rfl).1.trans rfl); omega)) (show (gi70 69 24).toInt = (gi54 69 24).toInt from (by have ff73 : (gi70 69 24).toInt = (gi54 69 24).toInt := congrArg Int32.toInt ((hC70.1 69 24 rfl).1.trans rfl); omega)) (show (gi70 69 25).toInt = (gi54 69 25).toInt from (by have ff74 : (gi70 69 25).toInt = (gi54 69 25).toInt := congrArg Int32.toInt ((hC70.1 69 25 rfl).1.trans rfl); omega)) ((funext (fun j => (hC70.1 77 j rfl).1) : gi70 77 = gi54 77)) ((funext (fun j => (hC70.1 70 j rfl).1) : gi70 70 = gi54 70))) (by have ff75 : (gi70 69 14).toInt = (gi54 69 14).toInt := congrArg Int32.toInt ((hC70.1 69 14 rfl).1.trans rfl); omega) (by have ff76 : (gi70 69 12).toInt = (gi54 69 12).toInt := congrArg Int32.toInt ((hC70.1 69 12 rfl).1.trans rfl); have ff77 : (gi70 69 14).toInt = (gi54 69 14).toInt := congrArg Int32.toInt ((hC70.1 69 14 rfl).1.trans rfl); omega) (by have ff78 : (gi70 69 12).toInt = (gi54 69 12).toInt := congrArg Int32.toInt ((hC70.1 69 12 rfl).1.trans rfl); omega) rfl
          · have l81 : 1 ≤ (gi41 69 22).toInt := t_ltl (t_nle h44) (by decide : (0:Int) ≤ (0:Int32).toInt) rfl
            refine ev_loc f_X12_isDoing (nx := 8) rfl rfl rfl rfl ?_
            refine ev_getR f_X12_isDoing (nx := 11) rfl (hI.wf.s rfl) rfl rfl (hI.wf.r rfl) rfl rfl ?_
            refine ev_loc f_X12_isDoing (nx := 12) rfl rfl rfl rfl ?_
            refine ev_gvI f_X12_isDoing (nx := 15) (w := (gi41 69 22)) rfl (hI.wf.s rfl) rfl rfl rfl rfl ?_
            refine ev_ic f_X12_isDoing (nx := 16) (v := 1) rfl (by decide) rfl ?_
            refine ev_subC f_X12_isDoing (nx := 17) (c := 1) (l := 0) (u := 59) rfl (by decide) l81 (hI42.b (hI42.wf.s (k := 69) rfl) (t_bdK rfl : t_bd 11 22 = some (0, 60))).2 rfl rfl (by decide) (by decide) rfl (fun z82 e82 l82 u82 => ?_)
            refine ev_ialdT f_X12_isDoing (nx := 18) rfl (hI.wf.s rfl) l82 (by decide) u82 (by decide) rfl (fun w83 e83 => ?_)
            refine ev_loc f_X12_isDoing (nx := 19) rfl rfl rfl rfl ?_
            refine ev_if f_X12_isDoing (t1 := 22) (t2 := 26) rfl rfl rfl (fun h84 => ?_) (fun h84 => ?_)
            · have u85 : w83.toInt ≤ 19 := t_equ h84 (by decide : (19:Int32).toInt ≤ (19:Int))
              have l86 : 19 ≤ w83.toInt := t_eql h84 (by decide : (19:Int) ≤ (19:Int32).toInt)
              refine ev_ic f_X12_isDoing (nx := 23) (v := 1) rfl (by decide) rfl ?_
              refine ev_jmp f_X12_isDoing (nx := 27) rfl rfl rfl ?_
              refine ev_retK1 f_X12_isDoing rfl rfl rfl ?_
              refine ev_f f_X12_conditions (t1 := 47) (t2 := 62) rfl rfl rfl (by decide) ?_
              refine ev_loc f_X12_conditions (nx := 63) rfl rfl rfl rfl ?_
              refine ev_inV1 f_X12_conditions (nx := 66) (lo2 := [(0, .ref 69)]) rfl rfl rfl rfl f_X12_joins (hI.wf.s rfl) rfl rfl rfl rfl rfl ?_
              have kn87 := t_K_num j41_0
              refine ev_loc f_X12_joins (nx := 1) rfl rfl rfl rfl ?_
              refine ev_alu f_X12_joins (nx := 2) rfl rfl rfl rfl ?_
              refine ev_gvI f_X12_joins (nx := 5) (w := (gi41 69 22)) rfl (hI.wf.s rfl) rfl rfl rfl rfl ?_
              refine ev_ic f_X12_joins (nx := 6) (v := 1) rfl (by decide) rfl ?_
              refine ev_subC f_X12_joins (nx := 7) (c := 1) (l := 0) (u := 59) rfl (by decide) l81 (hI42.b (hI42.wf.s (k := 69) rfl) (t_bdK rfl : t_bd 11 22 = some (0, 60))).2 rfl rfl (by decide) (by decide) rfl (fun z88 e88 l88 u88 => ?_)
              refine ev_putIT f_X12_joins (nx := 10) rfl (hI.wf.s rfl) rfl rfl rfl (hI.putB (hI.wf.s rfl) rfl rfl l88 (by decide) u88 (by decide)) (hX.upI rfl) (fun g89 e89 hI hX => ?_)
              refine ev_loc f_X12_joins (nx := 11) rfl rfl rfl rfl ?_
              refine ev_loc f_X12_joins (nx := 12) rfl rfl rfl rfl ?_
              refine ev_getR f_X12_joins (nx := 15) rfl (hI.wf.s rfl) rfl rfl (hI.wf.r rfl) rfl rfl ?_
              refine ev_loc f_X12_joins (nx := 16) rfl rfl rfl rfl ?_
              refine ev_gvI f_X12_joins (nx := 19) (w := z88) rfl (hI.wf.s rfl) rfl rfl (by rw [e89]; exact x_up2_at _ _ _ _ : g89 69 22 = z88) rfl ?_
              refine ev_ialdT f_X12_joins (nx := 20) rfl (hI.wf.s rfl) l88 (by decide) u88 (by decide) rfl (fun w90 e90 => ?_)
              refine ev_inV2 f_X12_joins (nx := 23) (lo2 := [(0, .ref 69), (1, .int w90)]) rfl rfl rfl rfl f_X12_asksAlso (hI.wf.s rfl) rfl rfl rfl rfl rfl ?_
              have kn91 := t_K_num j41_0
              refine ev_loc f_X12_asksAlso (nx := 1) rfl rfl rfl rfl ?_
              refine ev_getR f_X12_asksAlso (nx := 4) rfl (hI.wf.s rfl) rfl rfl (hI.wf.r rfl) rfl rfl ?_
              refine ev_sp f_X12_asksAlso (nx := 7) (v := 1540) rfl (by decide) rfl ?_
              refine ev_loc f_X12_asksAlso (nx := 8) rfl rfl rfl rfl ?_
              refine ev_gvI f_X12_asksAlso (nx := 11) (w := (gi41 69 25)) rfl (hI.wf.s rfl) rfl rfl ((by rw [e89]; exact x_up2_off (Or.inr (by decide)) : g89 69 25 = gi41 69 25).trans rfl) rfl ?_
              refine ev_addK f_X12_asksAlso (nx := 12) (c := 1540) (l := 1540) (u := 1750) rfl (by decide) (hI43.b (hI43.wf.s (k := 69) rfl) (t_bdK rfl : t_bd 11 25 = some (0, 210))).1 (hI43.b (hI43.wf.s (k := 69) rfl) (t_bdK rfl : t_bd 11 25 = some (0, 210))).2 rfl rfl (by decide) (by decide) rfl (fun z92 e92 l92 u92 => ?_)
              refine ev_loc f_X12_asksAlso (nx := 13) rfl rfl rfl rfl ?_
              refine ev_iastT f_X12_asksAlso (nx := 14) rfl (hI.wf.s rfl) l92 (by decide) u92 (by decide) rfl (hI.astL (hI.wf.s rfl) (by decide +kernel : t_abw 70 1540 1750 (-2147483648) 2147483647 = true) (t_cl1 l92 (by decide)) (t_cl2 l92 u92 (by decide) (by decide)) (t_lo w90) (t_hi w90) rfl) (hX.upI (t_inR (p := 1540) (m := 1750) rfl l92 (by decide) u92 (by decide) (by decide))) (fun g93 e93 hI hX => ?_)
              refine ev_loc f_X12_asksAlso (nx := 15) rfl rfl rfl rfl ?_
              refine ev_alu f_X12_asksAlso (nx := 16) rfl rfl rfl rfl ?_
              refine ev_gvI f_X12_asksAlso (nx := 19) (w := (gi41 69 25)) rfl (hI.wf.s rfl) rfl rfl ((by rw [e93]; exact x_up2_off (Or.inl (by decide)) : g93 69 25 = g89 69 25).trans ((by rw [e89]; exact x_up2_off (Or.inr (by decide)) : g89 69 25 = gi41 69 25).trans rfl)) rfl ?_
              refine ev_ic f_X12_asksAlso (nx := 20) (v := 1) rfl (by decide) rfl ?_
              refine ev_addC f_X12_asksAlso (nx := 21) (c := 1) (l := 1) (u := 211) rfl (by decide) (hI43.b (hI43.wf.s (k := 69) rfl) (t_bdK rfl : t_bd 11 25 = some (0, 210))).1 (hI43.b (hI43.wf.s (k := 69) rfl) (t_bdK rfl : t_bd 11 25 = some (0, 210))).2 rfl rfl (by decide) (by decide) rfl (fun z94 e94 l94 u94 => ?_)
              have u96 : z94.toInt ≤ (210:Int) := (by omega)
              refine ev_putIT f_X12_asksAlso (nx := 24) rfl (hI.wf.s rfl) rfl rfl rfl (hI.putB (hI.wf.s rfl) rfl rfl l94 (by decide) u96 (by decide)) (hX.upI rfl) (fun g95 e95 hI hX => ?_)
              refine ev_retK0 f_X12_asksAlso rfl rfl rfl ?_
              refine ev_retK0 f_X12_joins rfl rfl rfl ?_
              refine ev_jmp f_X12_conditions (nx := 38) rfl rfl rfl ?_
              refine ev_sub (lo := [(1, .int y30_1), (0, .ref 69)]) rfl (t_sc rfl (t_sc rfl t_sn)) ?_
              exact ih41 _ (by have ff104 : (g95 69 22).toInt = z88.toInt := congrArg Int32.toInt ((by rw [e95]; exact x_up2_off (Or.inr (by decide)) : g95 69 22 = g93 69 22).trans ((by rw [e93]; exact x_up2_off (Or.inl (by decide)) : g93 69 22 = g89 69 22).trans (by rw [e89]; exact x_up2_at _ _ _ _ : g89 69 22 = z88))); omega) g95 gl41 gr41  hI hX  ((by rw [e95]; exact x_up2_off (Or.inr (by decide)) : g95 69 12 = g93 69 12).trans ((by rw [e93]; exact x_up2_off (Or.inl (by decide)) : g93 69 12 = g89 69 12).trans ((by rw [e89]; exact x_up2_off (Or.inr (by decide)) : g89 69 12 = gi41 69 12).trans c41_0))) ((by rw [e95]; exact x_up2_off (Or.inr (by decide)) : g95 69 14 = g93 69 14).trans ((by rw [e93]; exact x_up2_off (Or.inl (by decide)) : g93 69 14 = g89 69 14).trans ((by rw [e89]; exact x_up2_off (Or.inr (by decide)) : g89 69 14 = gi41 69 14).trans c41_1))) ((by rw [e95]; exact x_up2_off (Or.inr (by decide)) : g95 69 18 = g93 69 18).trans ((by rw [e93]; exact x_up2_off (Or.inl (by decide)) : g93 69 18 = g89 69 18).trans ((by rw [e89]; exact x_up2_off (Or.inr (by decide)) : g89 69 18 = gi41 69 18).trans c41_2))) ((by rw [e95]; exact x_up2_off (Or.inr (by decide)) : g95 69 23 = g93 69 23).trans ((by rw [e93]; exact x_up2_off (Or.inl (by decide)) : g93 69 23 = g89 69 23).trans ((by rw [e89]; exact x_up2_off (Or.inr (by decide)) : g89 69 23 = gi41 69 23).trans c41_3))) ((by rw [e95]; exact x_up2_off (Or.inr (by decide)) : g95 69 24 = g93 69 24).trans ((by rw [e93]; exact x_up2_off (Or.inl (by decide)) : g93 69 24 = g89 69 24).trans ((by rw [e89]; exact x_up2_off (Or.inr (by decide)) : g89 69 24 = gi41 69 24).trans c41_4))) (by have ht := (by rw [e90]; have hc := t_clamp (i := z88) (by omega); have hx : z88.toNatClampNeg = (gi41 69 22).toInt.toNat - 1 := (by omega); rw [hx]; exact congrFun (((by rw [e89]; exact x_up2_ne (by decide) : g89 77 = gi41 77))) _ : w90 = gi41 77 ((gi41 69 22).toInt.toNat - 1)); have ho := (t_one (p := 1540 + (gi41 69 25).toInt.toNat) ((by rw [e89]; exact x_up2_ne (by decide) : g89 70 = gi41 70)) e93 ((by rw [e95]; exact x_up2_ne (by decide) : g95 70 = g93 70)) (by have hc := t_clamp (i := z92) (by omega); omega)); exact t_K_bin j41_0 (by omega) (by rw [← (by rw [e83]; have hc := t_clamp (i := z82) (by omega); have hx : z82.toNatClampNeg = (gi41 69 22).toInt.toNat - 1 := (by omega); rw [hx] : w83 = gi41 77 ((gi41 69 22).toInt.toNat - 1))]; omega) (show (g95 69 22).toInt = (gi41 69 22).toInt - 1 from (by have ff97 : (g95 69 22).toInt = z88.toInt := congrArg Int32.toInt ((by rw [e95]; exact x_up2_off (Or.inr (by decide)) : g95 69 22 = g93 69 22).trans ((by rw [e93]; exact x_up2_off (Or.inl (by decide)) : g93 69 22 = g89 69 22).trans (by rw [e89]; exact x_up2_at _ _ _ _ : g89 69 22 = z88))); omega)) (show (g95 69 23).toInt = (gi41 69 23).toInt from (by have ff98 : (g95 69 23).toInt = (gi30 69 23).toInt := congrArg Int32.toInt ((by rw [e95]; exact x_up2_off (Or.inr (by decide)) : g95 69 23 = g93 69 23).trans ((by rw [e93]; exact x_up2_off (Or.inl (by decide)) : g93 69 23 = g89 69 23).trans ((by rw [e89]; exact x_up2_off (Or.inr (by decide)) : g89 69 23 = gi41 69 23).trans c41_3))); omega)) (show (g95 69 24).toInt = (gi41 69 24).toInt from (by have ff99 : (g95 69 24).toInt = (gi30 69 24).toInt := congrArg Int32.toInt ((by rw [e95]; exact x_up2_off (Or.inr (by decide)) : g95 69 24 = g93 69 24).trans ((by rw [e93]; exact x_up2_off (Or.inl (by decide)) : g93 69 24 = g89 69 24).trans ((by rw [e89]; exact x_up2_off (Or.inr (by decide)) : g89 69 24 = gi41 69 24).trans c41_4))); omega)) (show (g95 69 25).toInt = (gi41 69 25).toInt + 1 from (by have ff100 : (g95 69 25).toInt = z94.toInt := congrArg Int32.toInt (by rw [e95]; exact x_up2_at _ _ _ _ : g95 69 25 = z94); omega)) ((by rw [e95]; exact x_up2_ne (by decide) : g95 77 = g93 77).trans ((by rw [e93]; exact x_up2_ne (by decide) : g93 77 = g89 77).trans ((by rw [e89]; exact x_up2_ne (by decide) : g89 77 = gi41 77)))) ho.1 (ho.2.trans ht)) (by have ff101 : (g95 69 14).toInt = (gi30 69 14).toInt := congrArg Int32.toInt ((by rw [e95]; exact x_up2_off (Or.inr (by decide)) : g95 69 14 = g93 69 14).trans ((by rw [e93]; exact x_up2_off (Or.inl (by decide)) : g93 69 14 = g89 69 14).trans ((by rw [e89]; exact x_up2_off (Or.inr (by decide)) : g89 69 14 = gi41 69 14).trans c41_1))); omega) (by have ff102 : (g95 69 12).toInt = (gi30 69 12).toInt := congrArg Int32.toInt ((by rw [e95]; exact x_up2_off (Or.inr (by decide)) : g95 69 12 = g93 69 12).trans ((by rw [e93]; exact x_up2_off (Or.inl (by decide)) : g93 69 12 = g89 69 12).trans ((by rw [e89]; exact x_up2_off (Or.inr (by decide)) : g89 69 12 = gi41 69 12).trans c41_0))); have ff103 : (g95 69 14).toInt = (gi30 69 14).toInt := congrArg Int32.toInt ((by rw [e95]; exact x_up2_off (Or.inr (by decide)) : g95 69 14 = g93 69 14).trans ((by rw [e93]; exact x_up2_off (Or.inl (by decide)) : g93 69 14 = g89 69 14).trans ((by rw [e89]; exact x_up2_off (Or.inr (by decide)) : g89 69 14 = gi41 69 14).trans c41_1))); omega) rfl
            · have r105 : w83.toInt ≠ 19 := fun e => h84 (Int32.toInt_inj.mp (e.trans (by decide : (19:Int) = (19 : Int32).toInt)))
              refine ev_ic f_X12_isDoing (nx := 27) (v := 0) rfl (by decide) rfl ?_
              refine ev_retK1 f_X12_isDoing rfl rfl rfl ?_
              refine ev_t f_X12_conditions (t1 := 47) (t2 := 62) rfl rfl rfl (by decide) ?_
              refine ev_loc f_X12_conditions (nx := 48) rfl rfl rfl rfl ?_
              refine ev_bp f_X12_conditions (nx := 50) (v := 18) rfl (by decide) rfl ?_
              refine ev_t f_X12_conditions (t1 := 53) (t2 := 69) rfl rfl rfl (t_eqT u39 l40 (by decide : (18:Int32).toInt ≤ (18:Int)) (by decide : (18:Int) ≤ (18:Int32).toInt)) ?_
              refine ev_loc f_X12_conditions (nx := 54) rfl rfl rfl rfl ?_
              refine ev_bp f_X12_conditions (nx := 56) (v := 18) rfl (by decide) rfl ?_
              refine ev_inV2 f_X12_conditions (nx := 59) (lo2 := [(0, .ref 69), (1, .int 18)]) rfl rfl rfl rfl f_X12_isDoing (hI.wf.s rfl) rfl rfl rfl rfl rfl ?_
              refine ev_loc f_X12_isDoing (nx := 1) rfl rfl rfl rfl ?_
              refine ev_gvI f_X12_isDoing (nx := 4) (w := (gi41 69 22)) rfl (hI.wf.s rfl) rfl rfl rfl rfl ?_
              refine ev_f f_X12_isDoing (t1 := 26) (t2 := 7) rfl rfl rfl (t_leF (by decide : (0:Int32).toInt ≤ (0:Int)) l81 (by decide)) ?_
              refine ev_loc f_X12_isDoing (nx := 8) rfl rfl rfl rfl ?_
              refine ev_getR f_X12_isDoing (nx := 11) rfl (hI.wf.s rfl) rfl rfl (hI.wf.r rfl) rfl rfl ?_
              refine ev_loc f_X12_isDoing (nx := 12) rfl rfl rfl rfl ?_
              refine ev_gvI f_X12_isDoing (nx := 15) (w := (gi41 69 22)) rfl (hI.wf.s rfl) rfl rfl rfl rfl ?_
              refine ev_ic f_X12_isDoing (nx := 16) (v := 1) rfl (by decide) rfl ?_
              refine ev_subC f_X12_isDoing (nx := 17) (c := 1) (l := 0) (u := 59) rfl (by decide) l81 (hI42.b (hI42.wf.s (k := 69) rfl) (t_bdK rfl : t_bd 11 22 = some (0, 60))).2 rfl rfl (by decide) (by decide) rfl (fun z106 e106 l106 u106 => ?_)
              refine ev_ialdT f_X12_isDoing (nx := 18) rfl (hI.wf.s rfl) l106 (by decide) u106 (by decide) rfl (fun w107 e107 => ?_)
              refine ev_loc f_X12_isDoing (nx := 19) rfl rfl rfl rfl ?_
              refine ev_if f_X12_isDoing (t1 := 22) (t2 := 26) rfl rfl rfl (fun h108 => ?_) (fun h108 => ?_)
              · have u109 : w107.toInt ≤ 18 := t_equ h108 (by decide : (18:Int32).toInt ≤ (18:Int))
                have l110 : 18 ≤ w107.toInt := t_eql h108 (by decide : (18:Int) ≤ (18:Int32).toInt)
                refine ev_ic f_X12_isDoing (nx := 23) (v := 1) rfl (by decide) rfl ?_
                refine ev_jmp f_X12_isDoing (nx := 27) rfl rfl rfl ?_
                refine ev_retK1 f_X12_isDoing rfl rfl rfl ?_
                refine ev_f f_X12_conditions (t1 := 69) (t2 := 62) rfl rfl rfl (by decide) ?_
                refine ev_loc f_X12_conditions (nx := 63) rfl rfl rfl rfl ?_
                refine ev_inV1 f_X12_conditions (nx := 66) (lo2 := [(0, .ref 69)]) rfl rfl rfl rfl f_X12_joins (hI.wf.s rfl) rfl rfl rfl rfl rfl ?_
                have kn111 := t_K_num j41_0
                refine ev_loc f_X12_joins (nx := 1) rfl rfl rfl rfl ?_
                refine ev_alu f_X12_joins (nx := 2) rfl rfl rfl rfl ?_
                refine ev_gvI f_X12_joins (nx := 5) (w := (gi41 69 22)) rfl (hI.wf.s rfl) rfl rfl rfl rfl ?_
                refine ev_ic f_X12_joins (nx := 6) (v := 1) rfl (by decide) rfl ?_
                refine ev_subC f_X12_joins (nx := 7) (c := 1) (l := 0) (u := 59) rfl (by decide) l81 (hI42.b (hI42.wf.s (k := 69) rfl) (t_bdK rfl : t_bd 11 22 = some (0, 60))).2 rfl rfl (by decide) (by decide) rfl (fun z112 e112 l112 u112 => ?_)
                refine ev_putIT f_X12_joins (nx := 10) rfl (hI.wf.s rfl) rfl rfl rfl (hI.putB (hI.wf.s rfl) rfl rfl l112 (by decide) u112 (by decide)) (hX.upI rfl) (fun g113 e113 hI hX => ?_)
                refine ev_loc f_X12_joins (nx := 11) rfl rfl rfl rfl ?_
                refine ev_loc f_X12_joins (nx := 12) rfl rfl rfl rfl ?_
                refine ev_getR f_X12_joins (nx := 15) rfl (hI.wf.s rfl) rfl rfl (hI.wf.r rfl) rfl rfl ?_
                refine ev_loc f_X12_joins (nx := 16) rfl rfl rfl rfl ?_
                refine ev_gvI f_X12_joins (nx := 19) (w := z112) rfl (hI.wf.s rfl) rfl rfl (by rw [e113]; exact x_up2_at _ _ _ _ : g113 69 22 = z112) rfl ?_
                refine ev_ialdT f_X12_joins (nx := 20) rfl (hI.wf.s rfl) l112 (by decide) u112 (by decide) rfl (fun w114 e114 => ?_)
                refine ev_inV2 f_X12_joins (nx := 23) (lo2 := [(0, .ref 69), (1, .int w114)]) rfl rfl rfl rfl f_X12_asksAlso (hI.wf.s rfl) rfl rfl rfl rfl rfl ?_
                have kn115 := t_K_num j41_0
                refine ev_loc f_X12_asksAlso (nx := 1) rfl rfl rfl rfl ?_
                refine ev_getR f_X12_asksAlso (nx := 4) rfl (hI.wf.s rfl) rfl rfl (hI.wf.r rfl) rfl rfl ?_
                refine ev_sp f_X12_asksAlso (nx := 7) (v := 1540) rfl (by decide) rfl ?_
                refine ev_loc f_X12_asksAlso (nx := 8) rfl rfl rfl rfl ?_
                refine ev_gvI f_X12_asksAlso (nx := 11) (w := (gi41 69 25)) rfl (hI.wf.s rfl) rfl rfl ((by rw [e113]; exact x_up2_off (Or.inr (by decide)) : g113 69 25 = gi41 69 25).trans rfl) rfl ?_
                refine ev_addK f_X12_asksAlso (nx := 12) (c := 1540) (l := 1540) (u := 1750) rfl (by decide) (hI43.b (hI43.wf.s (k := 69) rfl) (t_bdK rfl : t_bd 11 25 = some (0, 210))).1 (hI43.b (hI43.wf.s (k := 69) rfl) (t_bdK rfl : t_bd 11 25 = some (0, 210))).2 rfl rfl (by decide) (by decide) rfl (fun z116 e116 l116 u116 => ?_)
                refine ev_loc f_X12_asksAlso (nx := 13) rfl rfl rfl rfl ?_
                refine ev_iastT f_X12_asksAlso (nx := 14) rfl (hI.wf.s rfl) l116 (by decide) u116 (by decide) rfl (hI.astL (hI.wf.s rfl) (by decide +kernel : t_abw 70 1540 1750 (-2147483648) 2147483647 = true) (t_cl1 l116 (by decide)) (t_cl2 l116 u116 (by decide) (by decide)) (t_lo w114) (t_hi w114) rfl) (hX.upI (t_inR (p := 1540) (m := 1750) rfl l116 (by decide) u116 (by decide) (by decide))) (fun g117 e117 hI hX => ?_)
                refine ev_loc f_X12_asksAlso (nx := 15) rfl rfl rfl rfl ?_
                refine ev_alu f_X12_asksAlso (nx := 16) rfl rfl rfl rfl ?_
                refine ev_gvI f_X12_asksAlso (nx := 19) (w := (gi41 69 25)) rfl (hI.wf.s rfl) rfl rfl ((by rw [e117]; exact x_up2_off (Or.inl (by decide)) : g117 69 25 = g113 69 25).trans ((by rw [e113]; exact x_up2_off (Or.inr (by decide)) : g113 69 25 = gi41 69 25).trans rfl)) rfl ?_
                refine ev_ic f_X12_asksAlso (nx := 20) (v := 1) rfl (by decide) rfl ?_
                refine ev_addC f_X12_asksAlso (nx := 21) (c := 1) (l := 1) (u := 211) rfl (by decide) (hI43.b (hI43.wf.s (k := 69) rfl) (t_bdK rfl : t_bd 11 25 = some (0, 210))).1 (hI43.b (hI43.wf.s (k := 69) rfl) (t_bdK rfl : t_bd 11 25 = some (0, 210))).2 rfl rfl (by decide) (by decide) rfl (fun z118 e118 l118 u118 => ?_)
                have u120 : z118.toInt ≤ (210:Int) := (by omega)
                refine ev_putIT f_X12_asksAlso (nx := 24) rfl (hI.wf.s rfl) rfl rfl rfl (hI.putB (hI.wf.s rfl) rfl rfl l118 (by decide) u120 (by decide)) (hX.upI rfl) (fun g119 e119 hI hX => ?_)
                refine ev_retK0 f_X12_asksAlso rfl rfl rfl ?_
                refine ev_retK0 f_X12_joins rfl rfl rfl ?_
                refine ev_jmp f_X12_conditions (nx := 38) rfl rfl rfl ?_
                refine ev_sub (lo := [(1, .int y30_1), (0, .ref 69)]) rfl (t_sc rfl (t_sc rfl t_sn)) ?_
                exact ih41 _ (by have ff128 : (g119 69 22).toInt = z112.toInt := congrArg Int32.toInt ((by rw [e119]; exact x_up2_off (Or.inr (by decide)) : g119 69 22 = g117 69 22).trans ((by rw [e117]; exact x_up2_off (Or.inl (by decide)) : g117 69 22 = g113 69 22).trans (by rw [e113]; exact x_up2_at _ _ _ _ : g113 69 22 = z112))); omega) g119 gl41 gr41  hI hX  ((by rw [e119]; exact x_up2_off (Or.inr (by decide)) : g119 69 12 = g117 69 12).trans ((by rw [e117]; exact x_up2_off (Or.inl (by decide)) : g117 69 12 = g113 69 12).trans ((by rw [e113]; exact x_up2_off (Or.inr (by decide)) : g113 69 12 = gi41 69 12).trans c41_0))) ((by rw [e119]; exact x_up2_off (Or.inr (by decide)) : g119 69 14 = g117 69 14).trans ((by rw [e117]; exact x_up2_off (Or.inl (by decide)) : g117 69 14 = g113 69 14).trans ((by rw [e113]; exact x_up2_off (Or.inr (by decide)) : g113 69 14 = gi41 69 14).trans c41_1))) ((by rw [e119]; exact x_up2_off (Or.inr (by decide)) : g119 69 18 = g117 69 18).trans ((by rw [e117]; exact x_up2_off (Or.inl (by decide)) : g117 69 18 = g113 69 18).trans ((by rw [e113]; exact x_up2_off (Or.inr (by decide)) : g113 69 18 = gi41 69 18).trans c41_2))) ((by rw [e119]; exact x_up2_off (Or.inr (by decide)) : g119 69 23 = g117 69 23).trans ((by rw [e117]; exact x_up2_off (Or.inl (by decide)) : g117 69 23 = g113 69 23).trans ((by rw [e113]; exact x_up2_off (Or.inr (by decide)) : g113 69 23 = gi41 69 23).trans c41_3))) ((by rw [e119]; exact x_up2_off (Or.inr (by decide)) : g119 69 24 = g117 69 24).trans ((by rw [e117]; exact x_up2_off (Or.inl (by decide)) : g117 69 24 = g113 69 24).trans ((by rw [e113]; exact x_up2_off (Or.inr (by decide)) : g113 69 24 = gi41 69 24).trans c41_4))) (by have ht := (by rw [e114]; have hc := t_clamp (i := z112) (by omega); have hx : z112.toNatClampNeg = (gi41 69 22).toInt.toNat - 1 := (by omega); rw [hx]; exact congrFun (((by rw [e113]; exact x_up2_ne (by decide) : g113 77 = gi41 77))) _ : w114 = gi41 77 ((gi41 69 22).toInt.toNat - 1)); have ho := (t_one (p := 1540 + (gi41 69 25).toInt.toNat) ((by rw [e113]; exact x_up2_ne (by decide) : g113 70 = gi41 70)) e117 ((by rw [e119]; exact x_up2_ne (by decide) : g119 70 = g117 70)) (by have hc := t_clamp (i := z116) (by omega); omega)); exact t_K_bin j41_0 (by omega) (by rw [← (by rw [e107]; have hc := t_clamp (i := z106) (by omega); have hx : z106.toNatClampNeg = (gi41 69 22).toInt.toNat - 1 := (by omega); rw [hx] : w107 = gi41 77 ((gi41 69 22).toInt.toNat - 1))]; omega) (show (g119 69 22).toInt = (gi41 69 22).toInt - 1 from (by have ff121 : (g119 69 22).toInt = z112.toInt := congrArg Int32.toInt ((by rw [e119]; exact x_up2_off (Or.inr (by decide)) : g119 69 22 = g117 69 22).trans ((by rw [e117]; exact x_up2_off (Or.inl (by decide)) : g117 69 22 = g113 69 22).trans (by rw [e113]; exact x_up2_at _ _ _ _ : g113 69 22 = z112))); omega)) (show (g119 69 23).toInt = (gi41 69 23).toInt from (by have ff122 : (g119 69 23).toInt = (gi30 69 23).toInt := congrArg Int32.toInt ((by rw [e119]; exact x_up2_off (Or.inr (by decide)) : g119 69 23 = g117 69 23).trans ((by rw [e117]; exact x_up2_off (Or.inl (by decide)) : g117 69 23 = g113 69 23).trans ((by rw [e113]; exact x_up2_off (Or.inr (by decide)) : g113 69 23 = gi41 69 23).trans c41_3))); omega)) (show (g119 69 24).toInt = (gi41 69 24).toInt from (by have ff123 : (g119 69 24).toInt = (gi30 69 24).toInt := congrArg Int32.toInt ((by rw [e119]; exact x_up2_off (Or.inr (by decide)) : g119 69 24 = g117 69 24).trans ((by rw [e117]; exact x_up2_off (Or.inl (by decide)) : g117 69 24 = g113 69 24).trans ((by rw [e113]; exact x_up2_off (Or.inr (by decide)) : g113 69 24 = gi41 69 24).trans c41_4))); omega)) (show (g119 69 25).toInt = (gi41 69 25).toInt + 1 from (by have ff124 : (g119 69 25).toInt = z118.toInt := congrArg Int32.toInt (by rw [e119]; exact x_up2_at _ _ _ _ : g119 69 25 = z118); omega)) ((by rw [e119]; exact x_up2_ne (by decide) : g119 77 = g117 77).trans ((by rw [e117]; exact x_up2_ne (by decide) : g117 77 = g113 77).trans ((by rw [e113]; exact x_up2_ne (by decide) : g113 77 = gi41 77)))) ho.1 (ho.2.trans ht)) (by have ff125 : (g119 69 14).toInt = (gi30 69 14).toInt := congrArg Int32.toInt ((by rw [e119]; exact x_up2_off (Or.inr (by decide)) : g119 69 14 = g117 69 14).trans ((by rw [e117]; exact x_up2_off (Or.inl (by decide)) : g117 69 14 = g113 69 14).trans ((by rw [e113]; exact x_up2_off (Or.inr (by decide)) : g113 69 14 = gi41 69 14).trans c41_1))); omega) (by have ff126 : (g119 69 12).toInt = (gi30 69 12).toInt := congrArg Int32.toInt ((by rw [e119]; exact x_up2_off (Or.inr (by decide)) : g119 69 12 = g117 69 12).trans ((by rw [e117]; exact x_up2_off (Or.inl (by decide)) : g117 69 12 = g113 69 12).trans ((by rw [e113]; exact x_up2_off (Or.inr (by decide)) : g113 69 12 = gi41 69 12).trans c41_0))); have ff127 : (g119 69 14).toInt = (gi30 69 14).toInt := congrArg Int32.toInt ((by rw [e119]; exact x_up2_off (Or.inr (by decide)) : g119 69 14 = g117 69 14).trans ((by rw [e117]; exact x_up2_off (Or.inl (by decide)) : g117 69 14 = g113 69 14).trans ((by rw [e113]; exact x_up2_off (Or.inr (by decide)) : g113 69 14 = gi41 69 14).trans c41_1))); omega) rfl
              · have r129 : w107.toInt ≠ 18 := fun e => h108 (Int32.toInt_inj.mp (e.trans (by decide : (18:Int) = (18 : Int32).toInt)))
                refine ev_ic f_X12_isDoing (nx := 27) (v := 0) rfl (by decide) rfl ?_
                refine ev_retK1 f_X12_isDoing rfl rfl rfl ?_
                refine ev_t f_X12_conditions (t1 := 69) (t2 := 62) rfl rfl rfl (by decide) ?_
                refine ev_loc f_X12_conditions (nx := 70) rfl rfl rfl rfl ?_
                refine ev_loc f_X12_conditions (nx := 71) rfl rfl rfl rfl ?_
                refine ev_inV2 f_X12_conditions (nx := 74) (lo2 := [(0, .ref 69), (1, .int y30_1)]) rfl rfl rfl rfl f_X12_does (hI.wf.s rfl) rfl rfl rfl rfl rfl ?_
                have kn130 := t_K_num j41_0
                refine ev_loc f_X12_does (nx := 1) rfl rfl rfl rfl ?_
                refine ev_getR f_X12_does (nx := 4) rfl (hI.wf.s rfl) rfl rfl (hI.wf.r rfl) rfl rfl ?_
                refine ev_loc f_X12_does (nx := 5) rfl rfl rfl rfl ?_
                refine ev_gvI f_X12_does (nx := 8) (w := (gi41 69 22)) rfl (hI.wf.s rfl) rfl rfl rfl rfl ?_
                refine ev_loc f_X12_does (nx := 9) rfl rfl rfl rfl ?_
                have u132 : (gi41 69 22).toInt ≤ (59:Int) := (by omega)
                refine ev_iastT f_X12_does (nx := 10) rfl (hI.wf.s rfl) l81 (by decide) u132 (by decide) rfl (hI.astG (hI.wf.s rfl) (fun lo hi e => absurd e (t_nob (by decide +kernel) _)) (fun k hk e => by have := hk.2.1; omega)) (hX.upI (t_inA_ok rfl)) (fun g131 e131 hI hX => ?_)
                refine ev_loc f_X12_does (nx := 11) rfl rfl rfl rfl ?_
                refine ev_alu f_X12_does (nx := 12) rfl rfl rfl rfl ?_
                refine ev_gvI f_X12_does (nx := 15) (w := (gi41 69 22)) rfl (hI.wf.s rfl) rfl rfl ((by rw [e131]; exact x_up2_off (Or.inl (by decide)) : g131 69 22 = gi41 69 22).trans rfl) rfl ?_
                refine ev_ic f_X12_does (nx := 16) (v := 1) rfl (by decide) rfl ?_
                refine ev_addC f_X12_does (nx := 17) (c := 1) (l := 2) (u := 60) rfl (by decide) l81 u132 rfl rfl (by decide) (by decide) rfl (fun z133 e133 l133 u133 => ?_)
                refine ev_putIT f_X12_does (nx := 20) rfl (hI.wf.s rfl) rfl rfl rfl (hI.putB (hI.wf.s rfl) rfl rfl l133 (by decide) u133 (by decide)) (hX.upI rfl) (fun g134 e134 hI hX => ?_)
                refine ev_retK0 f_X12_does rfl rfl rfl ?_
                refine ev_loc f_X12_conditions (nx := 75) rfl rfl rfl rfl ?_
                refine ev_qN f_X12_conditions (nx := 78) (r := []) rfl rfl rfl rfl rfl rfl rfl (c_m_ahead2 hI ) rfl hX rfl (fun gi135 gl135 gr135 hI hX hC135 q135 => ?_)
                have ff136 : (g134 69 14).toInt = (gi30 69 14).toInt := congrArg Int32.toInt ((by rw [e134]; exact x_up2_off (Or.inr (by decide)) : g134 69 14 = g131 69 14).trans ((by rw [e131]; exact x_up2_off (Or.inl (by decide)) : g131 69 14 = gi41 69 14).trans c41_1))
                have q135 : (g134 69 14).toInt ≤ (gi135 69 14).toInt ∧ ((gi135 69 12).toInt ≠ 0 → (g134 69 14).toInt < (gi135 69 14).toInt) ∧ ((gi135 69 12).toInt = 3 → 0 ≤ (gi135 69 15).toInt) := q135
                obtain ⟨l137, u137⟩ := hI.b (hI.wf.s (k := 69) rfl) (t_bdK rfl : t_bd 11 12 = some (0, 4))
                obtain ⟨l138, u138⟩ := hI.b (hI.wf.s (k := 69) rfl) (t_bdK rfl : t_bd 11 14 = some (0, 900))
                refine ev_loc f_X12_conditions (nx := 79) rfl rfl rfl rfl ?_
                refine ev_qI f_X12_conditions (nx := 82) (r := []) rfl rfl rfl rfl rfl rfl rfl (c_m_aOne hI  (b := b) (by have ho := (t_onec (p := (gi41 69 22).toInt.toNat) rfl e131 ((funext (fun j => (hC135.1 77 j rfl).1) : gi135 77 = g134 77).trans ((by rw [e134]; exact x_up2_ne (by decide) : g134 77 = g131 77))) (by have hc := t_clamp (i := (gi41 69 22)) (by omega); omega)); exact t_K_op j41_0 (by omega) (show (gi135 69 22).toInt = (gi41 69 22).toInt + 1 from (by have ff140 : (gi135 69 22).toInt = z133.toInt := congrArg Int32.toInt ((hC135.1 69 22 rfl).1.trans (by rw [e134]; exact x_up2_at _ _ _ _ : g134 69 22 = z133)); omega)) (show (gi135 69 23).toInt = (gi41 69 23).toInt from (by have ff141 : (gi135 69 23).toInt = (gi30 69 23).toInt := congrArg Int32.toInt ((hC135.1 69 23 rfl).1.trans ((by rw [e134]; exact x_up2_off (Or.inr (by decide)) : g134 69 23 = g131 69 23).trans ((by rw [e131]; exact x_up2_off (Or.inl (by decide)) : g131 69 23 = gi41 69 23).trans c41_3))); omega)) (show (gi135 69 24).toInt = (gi41 69 24).toInt from (by have ff142 : (gi135 69 24).toInt = (gi30 69 24).toInt := congrArg Int32.toInt ((hC135.1 69 24 rfl).1.trans ((by rw [e134]; exact x_up2_off (Or.inr (by decide)) : g134 69 24 = g131 69 24).trans ((by rw [e131]; exact x_up2_off (Or.inl (by decide)) : g131 69 24 = gi41 69 24).trans c41_4))); omega)) (show (gi135 69 25).toInt = (gi41 69 25).toInt from (by have ff143 : (gi135 69 25).toInt = (gi41 69 25).toInt := congrArg Int32.toInt ((hC135.1 69 25 rfl).1.trans ((by rw [e134]; exact x_up2_off (Or.inr (by decide)) : g134 69 25 = g131 69 25).trans ((by rw [e131]; exact x_up2_off (Or.inl (by decide)) : g131 69 25 = gi41 69 25).trans rfl))); omega)) ((funext (fun j => (hC135.1 70 j rfl).1) : gi135 70 = g134 70).trans ((by rw [e134]; exact x_up2_ne (by decide) : g134 70 = g131 70).trans ((by rw [e131]; exact x_up2_ne (by decide) : g131 70 = gi41 70)))) ho.1 ho.2)) rfl hX rfl (fun w139 gi139 gl139 gr139 l139 u139 hI hX hC139 q139 => ?_)
                have q139 : (gi135 69 14).toInt ≤ (gi139 69 14).toInt ∧ (w139.toInt = 1 → (gi139 69 12).toInt ≠ 0 → (gi135 69 14).toInt < (gi139 69 14).toInt) ∧ (w139.toInt = 0 → (gi139 69 18).toInt ≠ 0) ∧ (w139.toInt = 1 → t_K (b) gi139 2) := q139
                obtain ⟨l144, u144⟩ := hI.b (hI.wf.s (k := 69) rfl) (t_bdK rfl : t_bd 11 12 = some (0, 4))
                obtain ⟨l145, u145⟩ := hI.b (hI.wf.s (k := 69) rfl) (t_bdK rfl : t_bd 11 14 = some (0, 900))
                have hI147 := hI
                have hI148 := hI
                have hI149 := hI
                have hI150 := hI
                refine ev_if f_X12_conditions (t1 := 85) (t2 := 87) rfl rfl rfl (fun h151 => ?_) (fun h151 => ?_)
                · have u152 : w139.toInt ≤ 0 := t_equ h151 (by decide : (0:Int32).toInt ≤ (0:Int))
                  refine ev_ic f_X12_conditions (nx := 86) (v := 0) rfl (by decide) rfl ?_
                  exact ev_ret f_X12_conditions rfl rfl rfl ⟨_, _, _, rfl, hI, hX, ⟨_, rfl, (by decide : (0:Int) ≤ (0:Int32).toInt), (Int.le_trans (by decide : (0:Int32).toInt ≤ (0:Int)) (by decide : (0:Int) ≤ 1)), (show (gi 69 14).toInt ≤ (gi139 69 14).toInt ∧ (0 = 1 → (gi139 69 12).toInt ≠ 0 → (gi 69 14).toInt < (gi139 69 14).toInt) ∧ (0 = 0 → (gi139 69 18).toInt ≠ 0) ∧ (0 = 1 → (t_em (gi139 70) (t_lo4 b) (gi139 69 25).toInt.toNat 1 ∧ (∀ j : Nat, j < 1540 + t_lo4 b → gi139 70 j = b j) ∧ 0 ≤ (gi139 69 25).toInt ∧ (gi139 69 25).toInt ≤ 8 * (gi139 69 24).toInt)) from ⟨(by omega), (by omega), (by omega), fun h => absurd h (by decide)⟩)⟩⟩
                · have r153 : w139.toInt ≠ 0 := fun e => h151 (Int32.toInt_inj.mp (e.trans (by decide : (0:Int) = (0 : Int32).toInt)))
                  have l154 : 1 ≤ w139.toInt := t_nel h151 l139 rfl rfl
                  refine ev_loc f_X12_conditions (nx := 88) rfl rfl rfl rfl ?_
                  refine ev_heap f_X12_conditions (nx := 90) rfl rfl rfl rfl ?_
                  refine ev_qI f_X12_conditions (nx := 93) (r := []) rfl rfl rfl rfl rfl rfl rfl (c_m_inWords hI ) rfl hX rfl (fun w155 gi155 gl155 gr155 l155 u155 hI hX hC155 q155 => ?_)
                  have q155 : 0 ≤ w155.toInt → (gi139 69 12).toInt = 2 := q155
                  refine ev_loc f_X12_conditions (nx := 94) (lo' := [(1, .int w155), (0, .ref 69)]) rfl rfl rfl rfl ?_
                  refine ev_jmp f_X12_conditions (nx := 26) rfl rfl rfl ?_
                  refine ev_sub (lo := [(1, .int w155), (0, .ref 69)]) rfl (t_sc rfl (t_sc rfl t_sn)) ?_
                  exact ih30 _ (by have ff164 : (gi155 69 14).toInt = (gi139 69 14).toInt := congrArg Int32.toInt ((hC155.1 69 14 rfl).1.trans rfl); have ff165 : (gi155 69 12).toInt = (gi139 69 12).toInt := congrArg Int32.toInt ((hC155.1 69 12 rfl).1.trans rfl); exact t_ms30 hm30 (j30_3 (by omega)) (by have := q139.1; omega) (fun h => by have := q139.2.1 (by omega) h; omega) (by omega) (by omega) ff164 ff165) gi155 gl155 gr155 (w155) hI hX  (t_K_ext (q139.2.2.2 (by omega)) (show (gi155 69 22).toInt = (gi139 69 22).toInt from (by have ff156 : (gi155 69 22).toInt = (gi139 69 22).toInt := congrArg Int32.toInt ((hC155.1 69 22 rfl).1.trans rfl); omega)) (show (gi155 69 23).toInt = (gi139 69 23).toInt from (by have ff157 : (gi155 69 23).toInt = (gi139 69 23).toInt := congrArg Int32.toInt ((hC155.1 69 23 rfl).1.trans rfl); omega)) (show (gi155 69 24).toInt = (gi139 69 24).toInt from (by have ff158 : (gi155 69 24).toInt = (gi139 69 24).toInt := congrArg Int32.toInt ((hC155.1 69 24 rfl).1.trans rfl); omega)) (show (gi155 69 25).toInt = (gi139 69 25).toInt from (by have ff159 : (gi155 69 25).toInt = (gi139 69 25).toInt := congrArg Int32.toInt ((hC155.1 69 25 rfl).1.trans rfl); omega)) ((funext (fun j => (hC155.1 77 j rfl).1) : gi155 77 = gi139 77)) ((funext (fun j => (hC155.1 70 j rfl).1) : gi155 70 = gi139 70))) (by have ff160 : (gi155 69 14).toInt = (gi139 69 14).toInt := congrArg Int32.toInt ((hC155.1 69 14 rfl).1.trans rfl); omega) (by have ff161 : (gi155 69 12).toInt = (gi139 69 12).toInt := congrArg Int32.toInt ((hC155.1 69 12 rfl).1.trans rfl); have ff162 : (gi155 69 14).toInt = (gi139 69 14).toInt := congrArg Int32.toInt ((hC155.1 69 14 rfl).1.trans rfl); omega) (by have ff163 : (gi155 69 12).toInt = (gi139 69 12).toInt := congrArg Int32.toInt ((hC155.1 69 12 rfl).1.trans rfl); omega) rfl
        refine ev_sub (lo := [(1, .int y30_1), (0, .ref 69)]) rfl (t_sc rfl (t_sc rfl t_sn)) ?_
        exact L41 _ gi30 gl30 gr30  hI hX  rfl rfl rfl rfl rfl j30_0 (by omega) (by omega) rfl
      · have r166 : y30_1.toInt ≠ 18 := fun e => h38 (Int32.toInt_inj.mp (e.trans (by decide : (18:Int) = (18 : Int32).toInt)))
        refine ev_loc f_X12_conditions (nx := 33) rfl rfl rfl rfl ?_
        refine ev_bp f_X12_conditions (nx := 35) (v := 19) rfl (by decide) rfl ?_
        refine ev_if f_X12_conditions (t1 := 38) (t2 := 97) rfl rfl rfl (fun h167 => ?_) (fun h167 => ?_)
        · have u168 : y30_1.toInt ≤ 19 := t_equ h167 (by decide : (19:Int32).toInt ≤ (19:Int))
          have l169 : 19 ≤ y30_1.toInt := t_eql h167 (by decide : (19:Int) ≤ (19:Int32).toInt)
          have L170 : ∀ (m170 : Nat) (gi170 : Nat → Nat → Int32) (gl170 : Nat → Nat → Int64) (gr170 : Nat → Nat → Value), t_I sh gi170 gr170 → t_X wl_m_conditions sh gi gl gr gi170 gl170 gr170 → gi170 69 12 = (gi30 69 12) → gi170 69 14 = (gi30 69 14) → gi170 69 18 = (gi30 69 18) → gi170 69 23 = (gi30 69 23) → gi170 69 24 = (gi30 69 24) → t_K b gi170 2 → (gi 69 14).toInt ≤ (gi170 69 14).toInt → ((gi170 69 12).toInt ≠ 0 → (gi 69 14).toInt < (gi170 69 14).toInt) → (gi170 69 22).toInt.toNat = m170 → x_Ev X (d + 7) n_X12_conditions 38 [(1, .int y30_1), (0, .ref 69)] [] (sh, gi170, gl170, gr170) (t_PI wl_m_conditions sh gi gl gr 0 1 (Q_m_conditions gi gl gr b)) := by
            intro m170
            induction m170 using Nat.strongRecOn with
            | _ m170 ih170 =>
            intro gi170 gl170 gr170 hI hX c170_0 c170_1 c170_2 c170_3 c170_4 j170_0 j170_1 j170_2 hm170
            have cf170_0 : (gi170 69 12).toInt = (gi30 69 12).toInt := congrArg Int32.toInt c170_0
            have cf170_1 : (gi170 69 14).toInt = (gi30 69 14).toInt := congrArg Int32.toInt c170_1
            have cf170_2 : (gi170 69 18).toInt = (gi30 69 18).toInt := congrArg Int32.toInt c170_2
            have cf170_3 : (gi170 69 23).toInt = (gi30 69 23).toInt := congrArg Int32.toInt c170_3
            have cf170_4 : (gi170 69 24).toInt = (gi30 69 24).toInt := congrArg Int32.toInt c170_4
            have hI171 := hI
            have hI172 := hI
            refine ev_loc f_X12_conditions (nx := 39) rfl rfl rfl rfl ?_
            refine ev_bp f_X12_conditions (nx := 41) (v := 19) rfl (by decide) rfl ?_
            refine ev_inV2 f_X12_conditions (nx := 44) (lo2 := [(0, .ref 69), (1, .int 19)]) rfl rfl rfl rfl f_X12_isDoing (hI.wf.s rfl) rfl rfl rfl rfl rfl ?_
            refine ev_loc f_X12_isDoing (nx := 1) rfl rfl rfl rfl ?_
            refine ev_gvI f_X12_isDoing (nx := 4) (w := (gi170 69 22)) rfl (hI.wf.s rfl) rfl rfl rfl rfl ?_
            refine ev_if f_X12_isDoing (t1 := 26) (t2 := 7) rfl rfl rfl (fun h173 => ?_) (fun h173 => ?_)
            · have u174 : (gi170 69 22).toInt ≤ 0 := t_leu h173 (by decide : (0:Int32).toInt ≤ (0:Int))
              refine ev_ic f_X12_isDoing (nx := 27) (v := 0) rfl (by decide) rfl ?_
              refine ev_retK1 f_X12_isDoing rfl rfl rfl ?_
              refine ev_t f_X12_conditions (t1 := 47) (t2 := 62) rfl rfl rfl (by decide) ?_
              refine ev_loc f_X12_conditions (nx := 48) rfl rfl rfl rfl ?_
              refine ev_bp f_X12_conditions (nx := 50) (v := 18) rfl (by decide) rfl ?_
              refine ev_f f_X12_conditions (t1 := 53) (t2 := 69) rfl rfl rfl (t_neT' (by decide : (18:Int32).toInt ≤ (18:Int)) l169 (by decide)) ?_
              refine ev_loc f_X12_conditions (nx := 70) rfl rfl rfl rfl ?_
              refine ev_loc f_X12_conditions (nx := 71) rfl rfl rfl rfl ?_
              refine ev_inV2 f_X12_conditions (nx := 74) (lo2 := [(0, .ref 69), (1, .int y30_1)]) rfl rfl rfl rfl f_X12_does (hI.wf.s rfl) rfl rfl rfl rfl rfl ?_
              have kn175 := t_K_num j170_0
              refine ev_loc f_X12_does (nx := 1) rfl rfl rfl rfl ?_
              refine ev_getR f_X12_does (nx := 4) rfl (hI.wf.s rfl) rfl rfl (hI.wf.r rfl) rfl rfl ?_
              refine ev_loc f_X12_does (nx := 5) rfl rfl rfl rfl ?_
              refine ev_gvI f_X12_does (nx := 8) (w := (gi170 69 22)) rfl (hI.wf.s rfl) rfl rfl rfl rfl ?_
              refine ev_loc f_X12_does (nx := 9) rfl rfl rfl rfl ?_
              refine ev_iastT f_X12_does (nx := 10) rfl (hI.wf.s rfl) (hI171.b (hI171.wf.s (k := 69) rfl) (t_bdK rfl : t_bd 11 22 = some (0, 60))).1 (by decide) u174 (by decide) rfl (hI.astG (hI.wf.s rfl) (fun lo hi e => absurd e (t_nob (by decide +kernel) _)) (fun k hk e => by have := hk.2.1; omega)) (hX.upI (t_inA_ok rfl)) (fun g176 e176 hI hX => ?_)
              refine ev_loc f_X12_does (nx := 11) rfl rfl rfl rfl ?_
              refine ev_alu f_X12_does (nx := 12) rfl rfl rfl rfl ?_
              refine ev_gvI f_X12_does (nx := 15) (w := (gi170 69 22)) rfl (hI.wf.s rfl) rfl rfl ((by rw [e176]; exact x_up2_off (Or.inl (by decide)) : g176 69 22 = gi170 69 22).trans rfl) rfl ?_
              refine ev_ic f_X12_does (nx := 16) (v := 1) rfl (by decide) rfl ?_
              refine ev_addC f_X12_does (nx := 17) (c := 1) (l := 1) (u := 1) rfl (by decide) (hI171.b (hI171.wf.s (k := 69) rfl) (t_bdK rfl : t_bd 11 22 = some (0, 60))).1 u174 rfl rfl (by decide) (by decide) rfl (fun z177 e177 l177 u177 => ?_)
              refine ev_putIT f_X12_does (nx := 20) rfl (hI.wf.s rfl) rfl rfl rfl (hI.putB (hI.wf.s rfl) rfl rfl l177 (by decide) u177 (by decide)) (hX.upI rfl) (fun g178 e178 hI hX => ?_)
              refine ev_retK0 f_X12_does rfl rfl rfl ?_
              refine ev_loc f_X12_conditions (nx := 75) rfl rfl rfl rfl ?_
              refine ev_qN f_X12_conditions (nx := 78) (r := []) rfl rfl rfl rfl rfl rfl rfl (c_m_ahead2 hI ) rfl hX rfl (fun gi179 gl179 gr179 hI hX hC179 q179 => ?_)
              have ff180 : (g178 69 14).toInt = (gi30 69 14).toInt := congrArg Int32.toInt ((by rw [e178]; exact x_up2_off (Or.inr (by decide)) : g178 69 14 = g176 69 14).trans ((by rw [e176]; exact x_up2_off (Or.inl (by decide)) : g176 69 14 = gi170 69 14).trans c170_1))
              have q179 : (g178 69 14).toInt ≤ (gi179 69 14).toInt ∧ ((gi179 69 12).toInt ≠ 0 → (g178 69 14).toInt < (gi179 69 14).toInt) ∧ ((gi179 69 12).toInt = 3 → 0 ≤ (gi179 69 15).toInt) := q179
              obtain ⟨l181, u181⟩ := hI.b (hI.wf.s (k := 69) rfl) (t_bdK rfl : t_bd 11 12 = some (0, 4))
              obtain ⟨l182, u182⟩ := hI.b (hI.wf.s (k := 69) rfl) (t_bdK rfl : t_bd 11 14 = some (0, 900))
              refine ev_loc f_X12_conditions (nx := 79) rfl rfl rfl rfl ?_
              refine ev_qI f_X12_conditions (nx := 82) (r := []) rfl rfl rfl rfl rfl rfl rfl (c_m_aOne hI  (b := b) (by have ho := (t_onec (p := (gi170 69 22).toInt.toNat) rfl e176 ((funext (fun j => (hC179.1 77 j rfl).1) : gi179 77 = g178 77).trans ((by rw [e178]; exact x_up2_ne (by decide) : g178 77 = g176 77))) (by have hc := t_clamp (i := (gi170 69 22)) (by omega); omega)); exact t_K_op j170_0 (by omega) (show (gi179 69 22).toInt = (gi170 69 22).toInt + 1 from (by have ff184 : (gi179 69 22).toInt = z177.toInt := congrArg Int32.toInt ((hC179.1 69 22 rfl).1.trans (by rw [e178]; exact x_up2_at _ _ _ _ : g178 69 22 = z177)); omega)) (show (gi179 69 23).toInt = (gi170 69 23).toInt from (by have ff185 : (gi179 69 23).toInt = (gi30 69 23).toInt := congrArg Int32.toInt ((hC179.1 69 23 rfl).1.trans ((by rw [e178]; exact x_up2_off (Or.inr (by decide)) : g178 69 23 = g176 69 23).trans ((by rw [e176]; exact x_up2_off (Or.inl (by decide)) : g176 69 23 = gi170 69 23).trans c170_3))); omega)) (show (gi179 69 24).toInt = (gi170 69 24).toInt from (by have ff186 : (gi179 69 24).toInt = (gi30 69 24).toInt := congrArg Int32.toInt ((hC179.1 69 24 rfl).1.trans ((by rw [e178]; exact x_up2_off (Or.inr (by decide)) : g178 69 24 = g176 69 24).trans ((by rw [e176]; exact x_up2_off (Or.inl (by decide)) : g176 69 24 = gi170 69 24).trans c170_4))); omega)) (show (gi179 69 25).toInt = (gi170 69 25).toInt from (by have ff187 : (gi179 69 25).toInt = (gi170 69 25).toInt := congrArg Int32.toInt ((hC179.1 69 25 rfl).1.trans ((by rw [e178]; exact x_up2_off (Or.inr (by decide)) : g178 69 25 = g176 69 25).trans ((by rw [e176]; exact x_up2_off (Or.inl (by decide)) : g176 69 25 = gi170 69 25).trans rfl))); omega)) ((funext (fun j => (hC179.1 70 j rfl).1) : gi179 70 = g178 70).trans ((by rw [e178]; exact x_up2_ne (by decide) : g178 70 = g176 70).trans ((by rw [e176]; exact x_up2_ne (by decide) : g176 70 = gi170 70)))) ho.1 ho.2)) rfl hX rfl (fun w183 gi183 gl183 gr183 l183 u183 hI hX hC183 q183 => ?_)
              have q183 : (gi179 69 14).toInt ≤ (gi183 69 14).toInt ∧ (w183.toInt = 1 → (gi183 69 12).toInt ≠ 0 → (gi179 69 14).toInt < (gi183 69 14).toInt) ∧ (w183.toInt = 0 → (gi183 69 18).toInt ≠ 0) ∧ (w183.toInt = 1 → t_K (b) gi183 2) := q183
              obtain ⟨l188, u188⟩ := hI.b (hI.wf.s (k := 69) rfl) (t_bdK rfl : t_bd 11 12 = some (0, 4))
              obtain ⟨l189, u189⟩ := hI.b (hI.wf.s (k := 69) rfl) (t_bdK rfl : t_bd 11 14 = some (0, 900))
              have hI191 := hI
              have hI192 := hI
              have hI193 := hI
              have hI194 := hI
              refine ev_if f_X12_conditions (t1 := 85) (t2 := 87) rfl rfl rfl (fun h195 => ?_) (fun h195 => ?_)
              · have u196 : w183.toInt ≤ 0 := t_equ h195 (by decide : (0:Int32).toInt ≤ (0:Int))
                refine ev_ic f_X12_conditions (nx := 86) (v := 0) rfl (by decide) rfl ?_
                exact ev_ret f_X12_conditions rfl rfl rfl ⟨_, _, _, rfl, hI, hX, ⟨_, rfl, (by decide : (0:Int) ≤ (0:Int32).toInt), (Int.le_trans (by decide : (0:Int32).toInt ≤ (0:Int)) (by decide : (0:Int) ≤ 1)), (show (gi 69 14).toInt ≤ (gi183 69 14).toInt ∧ (0 = 1 → (gi183 69 12).toInt ≠ 0 → (gi 69 14).toInt < (gi183 69 14).toInt) ∧ (0 = 0 → (gi183 69 18).toInt ≠ 0) ∧ (0 = 1 → (t_em (gi183 70) (t_lo4 b) (gi183 69 25).toInt.toNat 1 ∧ (∀ j : Nat, j < 1540 + t_lo4 b → gi183 70 j = b j) ∧ 0 ≤ (gi183 69 25).toInt ∧ (gi183 69 25).toInt ≤ 8 * (gi183 69 24).toInt)) from ⟨(by omega), (by omega), (by omega), fun h => absurd h (by decide)⟩)⟩⟩
              · have r197 : w183.toInt ≠ 0 := fun e => h195 (Int32.toInt_inj.mp (e.trans (by decide : (0:Int) = (0 : Int32).toInt)))
                have l198 : 1 ≤ w183.toInt := t_nel h195 l183 rfl rfl
                refine ev_loc f_X12_conditions (nx := 88) rfl rfl rfl rfl ?_
                refine ev_heap f_X12_conditions (nx := 90) rfl rfl rfl rfl ?_
                refine ev_qI f_X12_conditions (nx := 93) (r := []) rfl rfl rfl rfl rfl rfl rfl (c_m_inWords hI ) rfl hX rfl (fun w199 gi199 gl199 gr199 l199 u199 hI hX hC199 q199 => ?_)
                have q199 : 0 ≤ w199.toInt → (gi183 69 12).toInt = 2 := q199
                refine ev_loc f_X12_conditions (nx := 94) (lo' := [(1, .int w199), (0, .ref 69)]) rfl rfl rfl rfl ?_
                refine ev_jmp f_X12_conditions (nx := 26) rfl rfl rfl ?_
                refine ev_sub (lo := [(1, .int w199), (0, .ref 69)]) rfl (t_sc rfl (t_sc rfl t_sn)) ?_
                exact ih30 _ (by have ff208 : (gi199 69 14).toInt = (gi183 69 14).toInt := congrArg Int32.toInt ((hC199.1 69 14 rfl).1.trans rfl); have ff209 : (gi199 69 12).toInt = (gi183 69 12).toInt := congrArg Int32.toInt ((hC199.1 69 12 rfl).1.trans rfl); exact t_ms30 hm30 (j30_3 (by omega)) (by have := q183.1; omega) (fun h => by have := q183.2.1 (by omega) h; omega) (by omega) (by omega) ff208 ff209) gi199 gl199 gr199 (w199) hI hX  (t_K_ext (q183.2.2.2 (by omega)) (show (gi199 69 22).toInt = (gi183 69 22).toInt from (by have ff200 : (gi199 69 22).toInt = (gi183 69 22).toInt := congrArg Int32.toInt ((hC199.1 69 22 rfl).1.trans rfl); omega)) (show (gi199 69 23).toInt = (gi183 69 23).toInt from (by have ff201 : (gi199 69 23).toInt = (gi183 69 23).toInt := congrArg Int32.toInt ((hC199.1 69 23 rfl).1.trans rfl); omega)) (show (gi199 69 24).toInt = (gi183 69 24).toInt from (by have ff202 : (gi199 69 24).toInt = (gi183 69 24).toInt := congrArg Int32.toInt ((hC199.1 69 24 rfl).1.trans rfl); omega)) (show (gi199 69 25).toInt = (gi183 69 25).toInt from (by have ff203 : (gi199 69 25).toInt = (gi183 69 25).toInt := congrArg Int32.toInt ((hC199.1 69 25 rfl).1.trans rfl); omega)) ((funext (fun j => (hC199.1 77 j rfl).1) : gi199 77 = gi183 77)) ((funext (fun j => (hC199.1 70 j rfl).1) : gi199 70 = gi183 70))) (by have ff204 : (gi199 69 14).toInt = (gi183 69 14).toInt := congrArg Int32.toInt ((hC199.1 69 14 rfl).1.trans rfl); omega) (by have ff205 : (gi199 69 12).toInt = (gi183 69 12).toInt := congrArg Int32.toInt ((hC199.1 69 12 rfl).1.trans rfl); have ff206 : (gi199 69 14).toInt = (gi183 69 14).toInt := congrArg Int32.toInt ((hC199.1 69 14 rfl).1.trans rfl); omega) (by have ff207 : (gi199 69 12).toInt = (gi183 69 12).toInt := congrArg Int32.toInt ((hC199.1 69 12 rfl).1.trans rfl); omega) rfl
            · have l210 : 1 ≤ (gi170 69 22).toInt := t_ltl (t_nle h173) (by decide : (0:Int) ≤ (0:Int32).toInt) rfl
              refine ev_loc f_X12_isDoing (nx := 8) rfl rfl rfl rfl ?_
              refine ev_getR f_X12_isDoing (nx := 11) rfl (hI.wf.s rfl) rfl rfl (hI.wf.r rfl) rfl rfl ?_
              refine ev_loc f_X12_isDoing (nx := 12) rfl rfl rfl rfl ?_
              refine ev_gvI f_X12_isDoing (nx := 15) (w := (gi170 69 22)) rfl (hI.wf.s rfl) rfl rfl rfl rfl ?_
              refine ev_ic f_X12_isDoing (nx := 16) (v := 1) rfl (by decide) rfl ?_
              refine ev_subC f_X12_isDoing (nx := 17) (c := 1) (l := 0) (u := 59) rfl (by decide) l210 (hI171.b (hI171.wf.s (k := 69) rfl) (t_bdK rfl : t_bd 11 22 = some (0, 60))).2 rfl rfl (by decide) (by decide) rfl (fun z211 e211 l211 u211 => ?_)
              refine ev_ialdT f_X12_isDoing (nx := 18) rfl (hI.wf.s rfl) l211 (by decide) u211 (by decide) rfl (fun w212 e212 => ?_)
              refine ev_loc f_X12_isDoing (nx := 19) rfl rfl rfl rfl ?_
              refine ev_if f_X12_isDoing (t1 := 22) (t2 := 26) rfl rfl rfl (fun h213 => ?_) (fun h213 => ?_)
              · have u214 : w212.toInt ≤ 19 := t_equ h213 (by decide : (19:Int32).toInt ≤ (19:Int))
                have l215 : 19 ≤ w212.toInt := t_eql h213 (by decide : (19:Int) ≤ (19:Int32).toInt)
                refine ev_ic f_X12_isDoing (nx := 23) (v := 1) rfl (by decide) rfl ?_
                refine ev_jmp f_X12_isDoing (nx := 27) rfl rfl rfl ?_
                refine ev_retK1 f_X12_isDoing rfl rfl rfl ?_
                refine ev_f f_X12_conditions (t1 := 47) (t2 := 62) rfl rfl rfl (by decide) ?_
                refine ev_loc f_X12_conditions (nx := 63) rfl rfl rfl rfl ?_
                refine ev_inV1 f_X12_conditions (nx := 66) (lo2 := [(0, .ref 69)]) rfl rfl rfl rfl f_X12_joins (hI.wf.s rfl) rfl rfl rfl rfl rfl ?_
                have kn216 := t_K_num j170_0
                refine ev_loc f_X12_joins (nx := 1) rfl rfl rfl rfl ?_
                refine ev_alu f_X12_joins (nx := 2) rfl rfl rfl rfl ?_
                refine ev_gvI f_X12_joins (nx := 5) (w := (gi170 69 22)) rfl (hI.wf.s rfl) rfl rfl rfl rfl ?_
                refine ev_ic f_X12_joins (nx := 6) (v := 1) rfl (by decide) rfl ?_
                refine ev_subC f_X12_joins (nx := 7) (c := 1) (l := 0) (u := 59) rfl (by decide) l210 (hI171.b (hI171.wf.s (k := 69) rfl) (t_bdK rfl : t_bd 11 22 = some (0, 60))).2 rfl rfl (by decide) (by decide) rfl (fun z217 e217 l217 u217 => ?_)
                refine ev_putIT f_X12_joins (nx := 10) rfl (hI.wf.s rfl) rfl rfl rfl (hI.putB (hI.wf.s rfl) rfl rfl l217 (by decide) u217 (by decide)) (hX.upI rfl) (fun g218 e218 hI hX => ?_)
                refine ev_loc f_X12_joins (nx := 11) rfl rfl rfl rfl ?_
                refine ev_loc f_X12_joins (nx := 12) rfl rfl rfl rfl ?_
                refine ev_getR f_X12_joins (nx := 15) rfl (hI.wf.s rfl) rfl rfl (hI.wf.r rfl) rfl rfl ?_
                refine ev_loc f_X12_joins (nx := 16) rfl rfl rfl rfl ?_
                refine ev_gvI f_X12_joins (nx := 19) (w := z217) rfl (hI.wf.s rfl) rfl rfl (by rw [e218]; exact x_up2_at _ _ _ _ : g218 69 22 = z217) rfl ?_
                refine ev_ialdT f_X12_joins (nx := 20) rfl (hI.wf.s rfl) l217 (by decide) u217 (by decide) rfl (fun w219 e219 => ?_)
                refine ev_inV2 f_X12_joins (nx := 23) (lo2 := [(0, .ref 69), (1, .int w219)]) rfl rfl rfl rfl f_X12_asksAlso (hI.wf.s rfl) rfl rfl rfl rfl rfl ?_
                have kn220 := t_K_num j170_0
                refine ev_loc f_X12_asksAlso (nx := 1) rfl rfl rfl rfl ?_
                refine ev_getR f_X12_asksAlso (nx := 4) rfl (hI.wf.s rfl) rfl rfl (hI.wf.r rfl) rfl rfl ?_
                refine ev_sp f_X12_asksAlso (nx := 7) (v := 1540) rfl (by decide) rfl ?_
                refine ev_loc f_X12_asksAlso (nx := 8) rfl rfl rfl rfl ?_
                refine ev_gvI f_X12_asksAlso (nx := 11) (w := (gi170 69 25)) rfl (hI.wf.s rfl) rfl rfl ((by rw [e218]; exact x_up2_off (Or.inr (by decide)) : g218 69 25 = gi170 69 25).trans rfl) rfl ?_
                refine ev_addK f_X12_asksAlso (nx := 12) (c := 1540) (l := 1540) (u := 1750) rfl (by decide) (hI172.b (hI172.wf.s (k := 69) rfl) (t_bdK rfl : t_bd 11 25 = some (0, 210))).1 (hI172.b (hI172.wf.s (k := 69) rfl) (t_bdK rfl : t_bd 11 25 = some (0, 210))).2 rfl rfl (by decide) (by decide) rfl (fun z221 e221 l221 u221 => ?_)
                refine ev_loc f_X12_asksAlso (nx := 13) rfl rfl rfl rfl ?_
                refine ev_iastT f_X12_asksAlso (nx := 14) rfl (hI.wf.s rfl) l221 (by decide) u221 (by decide) rfl (hI.astL (hI.wf.s rfl) (by decide +kernel : t_abw 70 1540 1750 (-2147483648) 2147483647 = true) (t_cl1 l221 (by decide)) (t_cl2 l221 u221 (by decide) (by decide)) (t_lo w219) (t_hi w219) rfl) (hX.upI (t_inR (p := 1540) (m := 1750) rfl l221 (by decide) u221 (by decide) (by decide))) (fun g222 e222 hI hX => ?_)
                refine ev_loc f_X12_asksAlso (nx := 15) rfl rfl rfl rfl ?_
                refine ev_alu f_X12_asksAlso (nx := 16) rfl rfl rfl rfl ?_
                refine ev_gvI f_X12_asksAlso (nx := 19) (w := (gi170 69 25)) rfl (hI.wf.s rfl) rfl rfl ((by rw [e222]; exact x_up2_off (Or.inl (by decide)) : g222 69 25 = g218 69 25).trans ((by rw [e218]; exact x_up2_off (Or.inr (by decide)) : g218 69 25 = gi170 69 25).trans rfl)) rfl ?_
                refine ev_ic f_X12_asksAlso (nx := 20) (v := 1) rfl (by decide) rfl ?_
                refine ev_addC f_X12_asksAlso (nx := 21) (c := 1) (l := 1) (u := 211) rfl (by decide) (hI172.b (hI172.wf.s (k := 69) rfl) (t_bdK rfl : t_bd 11 25 = some (0, 210))).1 (hI172.b (hI172.wf.s (k := 69) rfl) (t_bdK rfl : t_bd 11 25 = some (0, 210))).2 rfl rfl (by decide) (by decide) rfl (fun z223 e223 l223 u223 => ?_)
                have u225 : z223.toInt ≤ (210:Int) := (by omega)
                refine ev_putIT f_X12_asksAlso (nx := 24) rfl (hI.wf.s rfl) rfl rfl rfl (hI.putB (hI.wf.s rfl) rfl rfl l223 (by decide) u225 (by decide)) (hX.upI rfl) (fun g224 e224 hI hX => ?_)
                refine ev_retK0 f_X12_asksAlso rfl rfl rfl ?_
                refine ev_retK0 f_X12_joins rfl rfl rfl ?_
                refine ev_jmp f_X12_conditions (nx := 38) rfl rfl rfl ?_
                refine ev_sub (lo := [(1, .int y30_1), (0, .ref 69)]) rfl (t_sc rfl (t_sc rfl t_sn)) ?_
                exact ih170 _ (by have ff233 : (g224 69 22).toInt = z217.toInt := congrArg Int32.toInt ((by rw [e224]; exact x_up2_off (Or.inr (by decide)) : g224 69 22 = g222 69 22).trans ((by rw [e222]; exact x_up2_off (Or.inl (by decide)) : g222 69 22 = g218 69 22).trans (by rw [e218]; exact x_up2_at _ _ _ _ : g218 69 22 = z217))); omega) g224 gl170 gr170  hI hX  ((by rw [e224]; exact x_up2_off (Or.inr (by decide)) : g224 69 12 = g222 69 12).trans ((by rw [e222]; exact x_up2_off (Or.inl (by decide)) : g222 69 12 = g218 69 12).trans ((by rw [e218]; exact x_up2_off (Or.inr (by decide)) : g218 69 12 = gi170 69 12).trans c170_0))) ((by rw [e224]; exact x_up2_off (Or.inr (by decide)) : g224 69 14 = g222 69 14).trans ((by rw [e222]; exact x_up2_off (Or.inl (by decide)) : g222 69 14 = g218 69 14).trans ((by rw [e218]; exact x_up2_off (Or.inr (by decide)) : g218 69 14 = gi170 69 14).trans c170_1))) ((by rw [e224]; exact x_up2_off (Or.inr (by decide)) : g224 69 18 = g222 69 18).trans ((by rw [e222]; exact x_up2_off (Or.inl (by decide)) : g222 69 18 = g218 69 18).trans ((by rw [e218]; exact x_up2_off (Or.inr (by decide)) : g218 69 18 = gi170 69 18).trans c170_2))) ((by rw [e224]; exact x_up2_off (Or.inr (by decide)) : g224 69 23 = g222 69 23).trans ((by rw [e222]; exact x_up2_off (Or.inl (by decide)) : g222 69 23 = g218 69 23).trans ((by rw [e218]; exact x_up2_off (Or.inr (by decide)) : g218 69 23 = gi170 69 23).trans c170_3))) ((by rw [e224]; exact x_up2_off (Or.inr (by decide)) : g224 69 24 = g222 69 24).trans ((by rw [e222]; exact x_up2_off (Or.inl (by decide)) : g222 69 24 = g218 69 24).trans ((by rw [e218]; exact x_up2_off (Or.inr (by decide)) : g218 69 24 = gi170 69 24).trans c170_4))) (by have ht := (by rw [e219]; have hc := t_clamp (i := z217) (by omega); have hx : z217.toNatClampNeg = (gi170 69 22).toInt.toNat - 1 := (by omega); rw [hx]; exact congrFun (((by rw [e218]; exact x_up2_ne (by decide) : g218 77 = gi170 77))) _ : w219 = gi170 77 ((gi170 69 22).toInt.toNat - 1)); have ho := (t_one (p := 1540 + (gi170 69 25).toInt.toNat) ((by rw [e218]; exact x_up2_ne (by decide) : g218 70 = gi170 70)) e222 ((by rw [e224]; exact x_up2_ne (by decide) : g224 70 = g222 70)) (by have hc := t_clamp (i := z221) (by omega); omega)); exact t_K_bin j170_0 (by omega) (by rw [← (by rw [e212]; have hc := t_clamp (i := z211) (by omega); have hx : z211.toNatClampNeg = (gi170 69 22).toInt.toNat - 1 := (by omega); rw [hx] : w212 = gi170 77 ((gi170 69 22).toInt.toNat - 1))]; omega) (show (g224 69 22).toInt = (gi170 69 22).toInt - 1 from (by have ff226 : (g224 69 22).toInt = z217.toInt := congrArg Int32.toInt ((by rw [e224]; exact x_up2_off (Or.inr (by decide)) : g224 69 22 = g222 69 22).trans ((by rw [e222]; exact x_up2_off (Or.inl (by decide)) : g222 69 22 = g218 69 22).trans (by rw [e218]; exact x_up2_at _ _ _ _ : g218 69 22 = z217))); omega)) (show (g224 69 23).toInt = (gi170 69 23).toInt from (by have ff227 : (g224 69 23).toInt = (gi30 69 23).toInt := congrArg Int32.toInt ((by rw [e224]; exact x_up2_off (Or.inr (by decide)) : g224 69 23 = g222 69 23).trans ((by rw [e222]; exact x_up2_off (Or.inl (by decide)) : g222 69 23 = g218 69 23).trans ((by rw [e218]; exact x_up2_off (Or.inr (by decide)) : g218 69 23 = gi170 69 23).trans c170_3))); omega)) (show (g224 69 24).toInt = (gi170 69 24).toInt from (by have ff228 : (g224 69 24).toInt = (gi30 69 24).toInt := congrArg Int32.toInt ((by rw [e224]; exact x_up2_off (Or.inr (by decide)) : g224 69 24 = g222 69 24).trans ((by rw [e222]; exact x_up2_off (Or.inl (by decide)) : g222 69 24 = g218 69 24).trans ((by rw [e218]; exact x_up2_off (Or.inr (by decide)) : g218 69 24 = gi170 69 24).trans c170_4))); omega)) (show (g224 69 25).toInt = (gi170 69 25).toInt + 1 from (by have ff229 : (g224 69 25).toInt = z223.toInt := congrArg Int32.toInt (by rw [e224]; exact x_up2_at _ _ _ _ : g224 69 25 = z223); omega)) ((by rw [e224]; exact x_up2_ne (by decide) : g224 77 = g222 77).trans ((by rw [e222]; exact x_up2_ne (by decide) : g222 77 = g218 77).trans ((by rw [e218]; exact x_up2_ne (by decide) : g218 77 = gi170 77)))) ho.1 (ho.2.trans ht)) (by have ff230 : (g224 69 14).toInt = (gi30 69 14).toInt := congrArg Int32.toInt ((by rw [e224]; exact x_up2_off (Or.inr (by decide)) : g224 69 14 = g222 69 14).trans ((by rw [e222]; exact x_up2_off (Or.inl (by decide)) : g222 69 14 = g218 69 14).trans ((by rw [e218]; exact x_up2_off (Or.inr (by decide)) : g218 69 14 = gi170 69 14).trans c170_1))); omega) (by have ff231 : (g224 69 12).toInt = (gi30 69 12).toInt := congrArg Int32.toInt ((by rw [e224]; exact x_up2_off (Or.inr (by decide)) : g224 69 12 = g222 69 12).trans ((by rw [e222]; exact x_up2_off (Or.inl (by decide)) : g222 69 12 = g218 69 12).trans ((by rw [e218]; exact x_up2_off (Or.inr (by decide)) : g218 69 12 = gi170 69 12).trans c170_0))); have ff232 : (g224 69 14).toInt = (gi30 69 14).toInt := congrArg Int32.toInt ((by rw [e224]; exact x_up2_off (Or.inr (by decide)) : g224 69 14 = g222 69 14).trans ((by rw [e222]; exact x_up2_off (Or.inl (by decide)) : g222 69 14 = g218 69 14).trans ((by rw [e218]; exact x_up2_off (Or.inr (by decide)) : g218 69 14 = gi170 69 14).trans c170_1))); omega) rfl
              · have r234 : w212.toInt ≠ 19 := fun e => h213 (Int32.toInt_inj.mp (e.trans (by decide : (19:Int) = (19 : Int32).toInt)))
                refine ev_ic f_X12_isDoing (nx := 27) (v := 0) rfl (by decide) rfl ?_
                refine ev_retK1 f_X12_isDoing rfl rfl rfl ?_
                refine ev_t f_X12_conditions (t1 := 47) (t2 := 62) rfl rfl rfl (by decide) ?_
                refine ev_loc f_X12_conditions (nx := 48) rfl rfl rfl rfl ?_
                refine ev_bp f_X12_conditions (nx := 50) (v := 18) rfl (by decide) rfl ?_
                refine ev_f f_X12_conditions (t1 := 53) (t2 := 69) rfl rfl rfl (t_neT' (by decide : (18:Int32).toInt ≤ (18:Int)) l169 (by decide)) ?_
                refine ev_loc f_X12_conditions (nx := 70) rfl rfl rfl rfl ?_
                refine ev_loc f_X12_conditions (nx := 71) rfl rfl rfl rfl ?_
                refine ev_inV2 f_X12_conditions (nx := 74) (lo2 := [(0, .ref 69), (1, .int y30_1)]) rfl rfl rfl rfl f_X12_does (hI.wf.s rfl) rfl rfl rfl rfl rfl ?_
                have kn235 := t_K_num j170_0
                refine ev_loc f_X12_does (nx := 1) rfl rfl rfl rfl ?_
                refine ev_getR f_X12_does (nx := 4) rfl (hI.wf.s rfl) rfl rfl (hI.wf.r rfl) rfl rfl ?_
                refine ev_loc f_X12_does (nx := 5) rfl rfl rfl rfl ?_
                refine ev_gvI f_X12_does (nx := 8) (w := (gi170 69 22)) rfl (hI.wf.s rfl) rfl rfl rfl rfl ?_
                refine ev_loc f_X12_does (nx := 9) rfl rfl rfl rfl ?_
                have u237 : (gi170 69 22).toInt ≤ (59:Int) := (by omega)
                refine ev_iastT f_X12_does (nx := 10) rfl (hI.wf.s rfl) l210 (by decide) u237 (by decide) rfl (hI.astG (hI.wf.s rfl) (fun lo hi e => absurd e (t_nob (by decide +kernel) _)) (fun k hk e => by have := hk.2.1; omega)) (hX.upI (t_inA_ok rfl)) (fun g236 e236 hI hX => ?_)
                refine ev_loc f_X12_does (nx := 11) rfl rfl rfl rfl ?_
                refine ev_alu f_X12_does (nx := 12) rfl rfl rfl rfl ?_
                refine ev_gvI f_X12_does (nx := 15) (w := (gi170 69 22)) rfl (hI.wf.s rfl) rfl rfl ((by rw [e236]; exact x_up2_off (Or.inl (by decide)) : g236 69 22 = gi170 69 22).trans rfl) rfl ?_
                refine ev_ic f_X12_does (nx := 16) (v := 1) rfl (by decide) rfl ?_
                refine ev_addC f_X12_does (nx := 17) (c := 1) (l := 2) (u := 60) rfl (by decide) l210 u237 rfl rfl (by decide) (by decide) rfl (fun z238 e238 l238 u238 => ?_)
                refine ev_putIT f_X12_does (nx := 20) rfl (hI.wf.s rfl) rfl rfl rfl (hI.putB (hI.wf.s rfl) rfl rfl l238 (by decide) u238 (by decide)) (hX.upI rfl) (fun g239 e239 hI hX => ?_)
                refine ev_retK0 f_X12_does rfl rfl rfl ?_
                refine ev_loc f_X12_conditions (nx := 75) rfl rfl rfl rfl ?_
                refine ev_qN f_X12_conditions (nx := 78) (r := []) rfl rfl rfl rfl rfl rfl rfl (c_m_ahead2 hI ) rfl hX rfl (fun gi240 gl240 gr240 hI hX hC240 q240 => ?_)
                have ff241 : (g239 69 14).toInt = (gi30 69 14).toInt := congrArg Int32.toInt ((by rw [e239]; exact x_up2_off (Or.inr (by decide)) : g239 69 14 = g236 69 14).trans ((by rw [e236]; exact x_up2_off (Or.inl (by decide)) : g236 69 14 = gi170 69 14).trans c170_1))
                have q240 : (g239 69 14).toInt ≤ (gi240 69 14).toInt ∧ ((gi240 69 12).toInt ≠ 0 → (g239 69 14).toInt < (gi240 69 14).toInt) ∧ ((gi240 69 12).toInt = 3 → 0 ≤ (gi240 69 15).toInt) := q240
                obtain ⟨l242, u242⟩ := hI.b (hI.wf.s (k := 69) rfl) (t_bdK rfl : t_bd 11 12 = some (0, 4))
                obtain ⟨l243, u243⟩ := hI.b (hI.wf.s (k := 69) rfl) (t_bdK rfl : t_bd 11 14 = some (0, 900))
                refine ev_loc f_X12_conditions (nx := 79) rfl rfl rfl rfl ?_
                refine ev_qI f_X12_conditions (nx := 82) (r := []) rfl rfl rfl rfl rfl rfl rfl (c_m_aOne hI  (b := b) (by have ho := (t_onec (p := (gi170 69 22).toInt.toNat) rfl e236 ((funext (fun j => (hC240.1 77 j rfl).1) : gi240 77 = g239 77).trans ((by rw [e239]; exact x_up2_ne (by decide) : g239 77 = g236 77))) (by have hc := t_clamp (i := (gi170 69 22)) (by omega); omega)); exact t_K_op j170_0 (by omega) (show (gi240 69 22).toInt = (gi170 69 22).toInt + 1 from (by have ff245 : (gi240 69 22).toInt = z238.toInt := congrArg Int32.toInt ((hC240.1 69 22 rfl).1.trans (by rw [e239]; exact x_up2_at _ _ _ _ : g239 69 22 = z238)); omega)) (show (gi240 69 23).toInt = (gi170 69 23).toInt from (by have ff246 : (gi240 69 23).toInt = (gi30 69 23).toInt := congrArg Int32.toInt ((hC240.1 69 23 rfl).1.trans ((by rw [e239]; exact x_up2_off (Or.inr (by decide)) : g239 69 23 = g236 69 23).trans ((by rw [e236]; exact x_up2_off (Or.inl (by decide)) : g236 69 23 = gi170 69 23).trans c170_3))); omega)) (show (gi240 69 24).toInt = (gi170 69 24).toInt from (by have ff247 : (gi240 69 24).toInt = (gi30 69 24).toInt := congrArg Int32.toInt ((hC240.1 69 24 rfl).1.trans ((by rw [e239]; exact x_up2_off (Or.inr (by decide)) : g239 69 24 = g236 69 24).trans ((by rw [e236]; exact x_up2_off (Or.inl (by decide)) : g236 69 24 = gi170 69 24).trans c170_4))); omega)) (show (gi240 69 25).toInt = (gi170 69 25).toInt from (by have ff248 : (gi240 69 25).toInt = (gi170 69 25).toInt := congrArg Int32.toInt ((hC240.1 69 25 rfl).1.trans ((by rw [e239]; exact x_up2_off (Or.inr (by decide)) : g239 69 25 = g236 69 25).trans ((by rw [e236]; exact x_up2_off (Or.inl (by decide)) : g236 69 25 = gi170 69 25).trans rfl))); omega)) ((funext (fun j => (hC240.1 70 j rfl).1) : gi240 70 = g239 70).trans ((by rw [e239]; exact x_up2_ne (by decide) : g239 70 = g236 70).trans ((by rw [e236]; exact x_up2_ne (by decide) : g236 70 = gi170 70)))) ho.1 ho.2)) rfl hX rfl (fun w244 gi244 gl244 gr244 l244 u244 hI hX hC244 q244 => ?_)
                have q244 : (gi240 69 14).toInt ≤ (gi244 69 14).toInt ∧ (w244.toInt = 1 → (gi244 69 12).toInt ≠ 0 → (gi240 69 14).toInt < (gi244 69 14).toInt) ∧ (w244.toInt = 0 → (gi244 69 18).toInt ≠ 0) ∧ (w244.toInt = 1 → t_K (b) gi244 2) := q244
                obtain ⟨l249, u249⟩ := hI.b (hI.wf.s (k := 69) rfl) (t_bdK rfl : t_bd 11 12 = some (0, 4))
                obtain ⟨l250, u250⟩ := hI.b (hI.wf.s (k := 69) rfl) (t_bdK rfl : t_bd 11 14 = some (0, 900))
                have hI252 := hI
                have hI253 := hI
                have hI254 := hI
                have hI255 := hI
                refine ev_if f_X12_conditions (t1 := 85) (t2 := 87) rfl rfl rfl (fun h256 => ?_) (fun h256 => ?_)
                · have u257 : w244.toInt ≤ 0 := t_equ h256 (by decide : (0:Int32).toInt ≤ (0:Int))
                  refine ev_ic f_X12_conditions (nx := 86) (v := 0) rfl (by decide) rfl ?_
                  exact ev_ret f_X12_conditions rfl rfl rfl ⟨_, _, _, rfl, hI, hX, ⟨_, rfl, (by decide : (0:Int) ≤ (0:Int32).toInt), (Int.le_trans (by decide : (0:Int32).toInt ≤ (0:Int)) (by decide : (0:Int) ≤ 1)), (show (gi 69 14).toInt ≤ (gi244 69 14).toInt ∧ (0 = 1 → (gi244 69 12).toInt ≠ 0 → (gi 69 14).toInt < (gi244 69 14).toInt) ∧ (0 = 0 → (gi244 69 18).toInt ≠ 0) ∧ (0 = 1 → (t_em (gi244 70) (t_lo4 b) (gi244 69 25).toInt.toNat 1 ∧ (∀ j : Nat, j < 1540 + t_lo4 b → gi244 70 j = b j) ∧ 0 ≤ (gi244 69 25).toInt ∧ (gi244 69 25).toInt ≤ 8 * (gi244 69 24).toInt)) from ⟨(by omega), (by omega), (by omega), fun h => absurd h (by decide)⟩)⟩⟩
                · have r258 : w244.toInt ≠ 0 := fun e => h256 (Int32.toInt_inj.mp (e.trans (by decide : (0:Int) = (0 : Int32).toInt)))
                  have l259 : 1 ≤ w244.toInt := t_nel h256 l244 rfl rfl
                  refine ev_loc f_X12_conditions (nx := 88) rfl rfl rfl rfl ?_
                  refine ev_heap f_X12_conditions (nx := 90) rfl rfl rfl rfl ?_
                  refine ev_qI f_X12_conditions (nx := 93) (r := []) rfl rfl rfl rfl rfl rfl rfl (c_m_inWords hI ) rfl hX rfl (fun w260 gi260 gl260 gr260 l260 u260 hI hX hC260 q260 => ?_)
                  have q260 : 0 ≤ w260.toInt → (gi244 69 12).toInt = 2 := q260
                  refine ev_loc f_X12_conditions (nx := 94) (lo' := [(1, .int w260), (0, .ref 69)]) rfl rfl rfl rfl ?_
                  refine ev_jmp f_X12_conditions (nx := 26) rfl rfl rfl ?_
                  refine ev_sub (lo := [(1, .int w260), (0, .ref 69)]) rfl (t_sc rfl (t_sc rfl t_sn)) ?_
                  exact ih30 _ (by have ff269 : (gi260 69 14).toInt = (gi244 69 14).toInt := congrArg Int32.toInt ((hC260.1 69 14 rfl).1.trans rfl); have ff270 : (gi260 69 12).toInt = (gi244 69 12).toInt := congrArg Int32.toInt ((hC260.1 69 12 rfl).1.trans rfl); exact t_ms30 hm30 (j30_3 (by omega)) (by have := q244.1; omega) (fun h => by have := q244.2.1 (by omega) h; omega) (by omega) (by omega) ff269 ff270) gi260 gl260 gr260 (w260) hI hX  (t_K_ext (q244.2.2.2 (by omega)) (show (gi260 69 22).toInt = (gi244 69 22).toInt from (by have ff261 : (gi260 69 22).toInt = (gi244 69 22).toInt := congrArg Int32.toInt ((hC260.1 69 22 rfl).1.trans rfl); omega)) (show (gi260 69 23).toInt = (gi244 69 23).toInt from (by have ff262 : (gi260 69 23).toInt = (gi244 69 23).toInt := congrArg Int32.toInt ((hC260.1 69 23 rfl).1.trans rfl); omega)) (show (gi260 69 24).toInt = (gi244 69 24).toInt from (by have ff263 : (gi260 69 24).toInt = (gi244 69 24).toInt := congrArg Int32.toInt ((hC260.1 69 24 rfl).1.trans rfl); omega)) (show (gi260 69 25).toInt = (gi244 69 25).toInt from (by have ff264 : (gi260 69 25).toInt = (gi244 69 25).toInt := congrArg Int32.toInt ((hC260.1 69 25 rfl).1.trans rfl); omega)) ((funext (fun j => (hC260.1 77 j rfl).1) : gi260 77 = gi244 77)) ((funext (fun j => (hC260.1 70 j rfl).1) : gi260 70 = gi244 70))) (by have ff265 : (gi260 69 14).toInt = (gi244 69 14).toInt := congrArg Int32.toInt ((hC260.1 69 14 rfl).1.trans rfl); omega) (by have ff266 : (gi260 69 12).toInt = (gi244 69 12).toInt := congrArg Int32.toInt ((hC260.1 69 12 rfl).1.trans rfl); have ff267 : (gi260 69 14).toInt = (gi244 69 14).toInt := congrArg Int32.toInt ((hC260.1 69 14 rfl).1.trans rfl); omega) (by have ff268 : (gi260 69 12).toInt = (gi244 69 12).toInt := congrArg Int32.toInt ((hC260.1 69 12 rfl).1.trans rfl); omega) rfl
          refine ev_sub (lo := [(1, .int y30_1), (0, .ref 69)]) rfl (t_sc rfl (t_sc rfl t_sn)) ?_
          exact L170 _ gi30 gl30 gr30  hI hX  rfl rfl rfl rfl rfl j30_0 (by omega) (by omega) rfl
        · have r271 : y30_1.toInt ≠ 19 := fun e => h167 (Int32.toInt_inj.mp (e.trans (by decide : (19:Int) = (19 : Int32).toInt)))
          refine ev_loc f_X12_conditions (nx := 98) rfl rfl rfl rfl ?_
          refine ev_qI f_X12_conditions (nx := 101) (r := []) rfl rfl rfl rfl rfl rfl rfl (c_m_isWithin hI ) rfl hX rfl (fun w272 gi272 gl272 gr272 l272 u272 hI hX hC272 q272 => ?_)
          have q272 : (w272.toInt = 1 → t_ex gi272) ∧ (w272.toInt = 0 → t_n40 gi272) := q272
          refine ev_if f_X12_conditions (t1 := 110) (t2 := 104) rfl rfl rfl (fun h273 => ?_) (fun h273 => ?_)
          · have u274 : w272.toInt ≤ 0 := t_equ h273 (by decide : (0:Int32).toInt ≤ (0:Int))
            have L275 : ∀ (m275 : Nat) (gi275 : Nat → Nat → Int32) (gl275 : Nat → Nat → Int64) (gr275 : Nat → Nat → Value), t_I sh gi275 gr275 → t_X wl_m_conditions sh gi gl gr gi275 gl275 gr275 → gi275 69 12 = (gi30 69 12) → gi275 69 14 = (gi30 69 14) → gi275 69 18 = (gi30 69 18) → gi275 69 23 = (gi30 69 23) → gi275 69 24 = (gi30 69 24) → t_K b gi275 2 → t_n40 gi275 → (gi 69 14).toInt ≤ (gi275 69 14).toInt → ((gi275 69 12).toInt ≠ 0 → (gi 69 14).toInt < (gi275 69 14).toInt) → (gi275 69 22).toInt.toNat = m275 → x_Ev X (d + 7) n_X12_conditions 110 [(1, .int y30_1), (0, .ref 69)] [] (sh, gi275, gl275, gr275) (t_PI wl_m_conditions sh gi gl gr 0 1 (Q_m_conditions gi gl gr b)) := by
              intro m275
              induction m275 using Nat.strongRecOn with
              | _ m275 ih275 =>
              intro gi275 gl275 gr275 hI hX c275_0 c275_1 c275_2 c275_3 c275_4 j275_0 j275_1 j275_2 j275_3 hm275
              have cf275_0 : (gi275 69 12).toInt = (gi30 69 12).toInt := congrArg Int32.toInt c275_0
              have cf275_1 : (gi275 69 14).toInt = (gi30 69 14).toInt := congrArg Int32.toInt c275_1
              have cf275_2 : (gi275 69 18).toInt = (gi30 69 18).toInt := congrArg Int32.toInt c275_2
              have cf275_3 : (gi275 69 23).toInt = (gi30 69 23).toInt := congrArg Int32.toInt c275_3
              have cf275_4 : (gi275 69 24).toInt = (gi30 69 24).toInt := congrArg Int32.toInt c275_4
              have hI276 := hI
              have hI277 := hI
              refine ev_loc f_X12_conditions (nx := 111) rfl rfl rfl rfl ?_
              refine ev_gvI f_X12_conditions (nx := 114) (w := (gi275 69 22)) rfl (hI.wf.s rfl) rfl rfl rfl rfl ?_
              refine ev_if f_X12_conditions (t1 := 124) (t2 := 117) rfl rfl rfl (fun h278 => ?_) (fun h278 => ?_)
              · have u279 : (gi275 69 22).toInt ≤ 0 := t_leu h278 (by decide : (0:Int32).toInt ≤ (0:Int))
                refine ev_ic f_X12_conditions (nx := 125) (v := 1) rfl (by decide) rfl ?_
                exact ev_ret f_X12_conditions rfl rfl rfl ⟨_, _, _, rfl, hI, hX, ⟨_, rfl, (Int.le_trans (by decide : (0:Int) ≤ 1) (by decide : (1:Int) ≤ (1:Int32).toInt)), (by decide : (1:Int32).toInt ≤ (1:Int)), (show (gi 69 14).toInt ≤ (gi275 69 14).toInt ∧ (1 = 1 → (gi275 69 12).toInt ≠ 0 → (gi 69 14).toInt < (gi275 69 14).toInt) ∧ (1 = 0 → (gi275 69 18).toInt ≠ 0) ∧ (1 = 1 → (t_em (gi275 70) (t_lo4 b) (gi275 69 25).toInt.toNat 1 ∧ (∀ j : Nat, j < 1540 + t_lo4 b → gi275 70 j = b j) ∧ 0 ≤ (gi275 69 25).toInt ∧ (gi275 69 25).toInt ≤ 8 * (gi275 69 24).toInt)) from ⟨(by have ff280 : (gi275 69 14).toInt = (gi30 69 14).toInt := congrArg Int32.toInt c275_1; omega), (by have ff281 : (gi275 69 12).toInt = (gi30 69 12).toInt := congrArg Int32.toInt c275_0; have ff282 : (gi275 69 14).toInt = (gi30 69 14).toInt := congrArg Int32.toInt c275_1; omega), (by have ff283 : (gi275 69 18).toInt = (gi30 69 18).toInt := congrArg Int32.toInt c275_2; omega), fun _ => t_K_end j275_0 (by omega)⟩)⟩⟩
              · have l284 : 1 ≤ (gi275 69 22).toInt := t_ltl (t_nle h278) (by decide : (0:Int) ≤ (0:Int32).toInt) rfl
                refine ev_loc f_X12_conditions (nx := 118) rfl rfl rfl rfl ?_
                refine ev_inV1 f_X12_conditions (nx := 121) (lo2 := [(0, .ref 69)]) rfl rfl rfl rfl f_X12_joins (hI.wf.s rfl) rfl rfl rfl rfl rfl ?_
                have kn285 := t_K_num j275_0
                refine ev_loc f_X12_joins (nx := 1) rfl rfl rfl rfl ?_
                refine ev_alu f_X12_joins (nx := 2) rfl rfl rfl rfl ?_
                refine ev_gvI f_X12_joins (nx := 5) (w := (gi275 69 22)) rfl (hI.wf.s rfl) rfl rfl rfl rfl ?_
                refine ev_ic f_X12_joins (nx := 6) (v := 1) rfl (by decide) rfl ?_
                refine ev_subC f_X12_joins (nx := 7) (c := 1) (l := 0) (u := 59) rfl (by decide) l284 (hI276.b (hI276.wf.s (k := 69) rfl) (t_bdK rfl : t_bd 11 22 = some (0, 60))).2 rfl rfl (by decide) (by decide) rfl (fun z286 e286 l286 u286 => ?_)
                refine ev_putIT f_X12_joins (nx := 10) rfl (hI.wf.s rfl) rfl rfl rfl (hI.putB (hI.wf.s rfl) rfl rfl l286 (by decide) u286 (by decide)) (hX.upI rfl) (fun g287 e287 hI hX => ?_)
                refine ev_loc f_X12_joins (nx := 11) rfl rfl rfl rfl ?_
                refine ev_loc f_X12_joins (nx := 12) rfl rfl rfl rfl ?_
                refine ev_getR f_X12_joins (nx := 15) rfl (hI.wf.s rfl) rfl rfl (hI.wf.r rfl) rfl rfl ?_
                refine ev_loc f_X12_joins (nx := 16) rfl rfl rfl rfl ?_
                refine ev_gvI f_X12_joins (nx := 19) (w := z286) rfl (hI.wf.s rfl) rfl rfl (by rw [e287]; exact x_up2_at _ _ _ _ : g287 69 22 = z286) rfl ?_
                refine ev_ialdT f_X12_joins (nx := 20) rfl (hI.wf.s rfl) l286 (by decide) u286 (by decide) rfl (fun w288 e288 => ?_)
                refine ev_inV2 f_X12_joins (nx := 23) (lo2 := [(0, .ref 69), (1, .int w288)]) rfl rfl rfl rfl f_X12_asksAlso (hI.wf.s rfl) rfl rfl rfl rfl rfl ?_
                have kn289 := t_K_num j275_0
                refine ev_loc f_X12_asksAlso (nx := 1) rfl rfl rfl rfl ?_
                refine ev_getR f_X12_asksAlso (nx := 4) rfl (hI.wf.s rfl) rfl rfl (hI.wf.r rfl) rfl rfl ?_
                refine ev_sp f_X12_asksAlso (nx := 7) (v := 1540) rfl (by decide) rfl ?_
                refine ev_loc f_X12_asksAlso (nx := 8) rfl rfl rfl rfl ?_
                refine ev_gvI f_X12_asksAlso (nx := 11) (w := (gi275 69 25)) rfl (hI.wf.s rfl) rfl rfl ((by rw [e287]; exact x_up2_off (Or.inr (by decide)) : g287 69 25 = gi275 69 25).trans rfl) rfl ?_
                refine ev_addK f_X12_asksAlso (nx := 12) (c := 1540) (l := 1540) (u := 1750) rfl (by decide) (hI277.b (hI277.wf.s (k := 69) rfl) (t_bdK rfl : t_bd 11 25 = some (0, 210))).1 (hI277.b (hI277.wf.s (k := 69) rfl) (t_bdK rfl : t_bd 11 25 = some (0, 210))).2 rfl rfl (by decide) (by decide) rfl (fun z290 e290 l290 u290 => ?_)
                refine ev_loc f_X12_asksAlso (nx := 13) rfl rfl rfl rfl ?_
                refine ev_iastT f_X12_asksAlso (nx := 14) rfl (hI.wf.s rfl) l290 (by decide) u290 (by decide) rfl (hI.astL (hI.wf.s rfl) (by decide +kernel : t_abw 70 1540 1750 (-2147483648) 2147483647 = true) (t_cl1 l290 (by decide)) (t_cl2 l290 u290 (by decide) (by decide)) (t_lo w288) (t_hi w288) rfl) (hX.upI (t_inR (p := 1540) (m := 1750) rfl l290 (by decide) u290 (by decide) (by decide))) (fun g291 e291 hI hX => ?_)
                refine ev_loc f_X12_asksAlso (nx := 15) rfl rfl rfl rfl ?_
                refine ev_alu f_X12_asksAlso (nx := 16) rfl rfl rfl rfl ?_
                refine ev_gvI f_X12_asksAlso (nx := 19) (w := (gi275 69 25)) rfl (hI.wf.s rfl) rfl rfl ((by rw [e291]; exact x_up2_off (Or.inl (by decide)) : g291 69 25 = g287 69 25).trans ((by rw [e287]; exact x_up2_off (Or.inr (by decide)) : g287 69 25 = gi275 69 25).trans rfl)) rfl ?_
                refine ev_ic f_X12_asksAlso (nx := 20) (v := 1) rfl (by decide) rfl ?_
                refine ev_addC f_X12_asksAlso (nx := 21) (c := 1) (l := 1) (u := 211) rfl (by decide) (hI277.b (hI277.wf.s (k := 69) rfl) (t_bdK rfl : t_bd 11 25 = some (0, 210))).1 (hI277.b (hI277.wf.s (k := 69) rfl) (t_bdK rfl : t_bd 11 25 = some (0, 210))).2 rfl rfl (by decide) (by decide) rfl (fun z292 e292 l292 u292 => ?_)
                have u294 : z292.toInt ≤ (210:Int) := (by omega)
                refine ev_putIT f_X12_asksAlso (nx := 24) rfl (hI.wf.s rfl) rfl rfl rfl (hI.putB (hI.wf.s rfl) rfl rfl l292 (by decide) u294 (by decide)) (hX.upI rfl) (fun g293 e293 hI hX => ?_)
                refine ev_retK0 f_X12_asksAlso rfl rfl rfl ?_
                refine ev_retK0 f_X12_joins rfl rfl rfl ?_
                refine ev_jmp f_X12_conditions (nx := 110) rfl rfl rfl ?_
                refine ev_sub (lo := [(1, .int y30_1), (0, .ref 69)]) rfl (t_sc rfl (t_sc rfl t_sn)) ?_
                exact ih275 _ (by have ff303 : (g293 69 22).toInt = z286.toInt := congrArg Int32.toInt ((by rw [e293]; exact x_up2_off (Or.inr (by decide)) : g293 69 22 = g291 69 22).trans ((by rw [e291]; exact x_up2_off (Or.inl (by decide)) : g291 69 22 = g287 69 22).trans (by rw [e287]; exact x_up2_at _ _ _ _ : g287 69 22 = z286))); omega) g293 gl275 gr275  hI hX  ((by rw [e293]; exact x_up2_off (Or.inr (by decide)) : g293 69 12 = g291 69 12).trans ((by rw [e291]; exact x_up2_off (Or.inl (by decide)) : g291 69 12 = g287 69 12).trans ((by rw [e287]; exact x_up2_off (Or.inr (by decide)) : g287 69 12 = gi275 69 12).trans c275_0))) ((by rw [e293]; exact x_up2_off (Or.inr (by decide)) : g293 69 14 = g291 69 14).trans ((by rw [e291]; exact x_up2_off (Or.inl (by decide)) : g291 69 14 = g287 69 14).trans ((by rw [e287]; exact x_up2_off (Or.inr (by decide)) : g287 69 14 = gi275 69 14).trans c275_1))) ((by rw [e293]; exact x_up2_off (Or.inr (by decide)) : g293 69 18 = g291 69 18).trans ((by rw [e291]; exact x_up2_off (Or.inl (by decide)) : g291 69 18 = g287 69 18).trans ((by rw [e287]; exact x_up2_off (Or.inr (by decide)) : g287 69 18 = gi275 69 18).trans c275_2))) ((by rw [e293]; exact x_up2_off (Or.inr (by decide)) : g293 69 23 = g291 69 23).trans ((by rw [e291]; exact x_up2_off (Or.inl (by decide)) : g291 69 23 = g287 69 23).trans ((by rw [e287]; exact x_up2_off (Or.inr (by decide)) : g287 69 23 = gi275 69 23).trans c275_3))) ((by rw [e293]; exact x_up2_off (Or.inr (by decide)) : g293 69 24 = g291 69 24).trans ((by rw [e291]; exact x_up2_off (Or.inl (by decide)) : g291 69 24 = g287 69 24).trans ((by rw [e287]; exact x_up2_off (Or.inr (by decide)) : g287 69 24 = gi275 69 24).trans c275_4))) (by have ht := (by rw [e288]; have hc := t_clamp (i := z286) (by omega); have hx : z286.toNatClampNeg = (gi275 69 22).toInt.toNat - 1 := (by omega); rw [hx]; exact congrFun (((by rw [e287]; exact x_up2_ne (by decide) : g287 77 = gi275 77))) _ : w288 = gi275 77 ((gi275 69 22).toInt.toNat - 1)); have ho := (t_one (p := 1540 + (gi275 69 25).toInt.toNat) ((by rw [e287]; exact x_up2_ne (by decide) : g287 70 = gi275 70)) e291 ((by rw [e293]; exact x_up2_ne (by decide) : g293 70 = g291 70)) (by have hc := t_clamp (i := z290) (by omega); omega)); exact t_K_bin j275_0 (by omega) (t_K_top j275_0 (by omega) (j275_1 _ (by omega))) (show (g293 69 22).toInt = (gi275 69 22).toInt - 1 from (by have ff295 : (g293 69 22).toInt = z286.toInt := congrArg Int32.toInt ((by rw [e293]; exact x_up2_off (Or.inr (by decide)) : g293 69 22 = g291 69 22).trans ((by rw [e291]; exact x_up2_off (Or.inl (by decide)) : g291 69 22 = g287 69 22).trans (by rw [e287]; exact x_up2_at _ _ _ _ : g287 69 22 = z286))); omega)) (show (g293 69 23).toInt = (gi275 69 23).toInt from (by have ff296 : (g293 69 23).toInt = (gi30 69 23).toInt := congrArg Int32.toInt ((by rw [e293]; exact x_up2_off (Or.inr (by decide)) : g293 69 23 = g291 69 23).trans ((by rw [e291]; exact x_up2_off (Or.inl (by decide)) : g291 69 23 = g287 69 23).trans ((by rw [e287]; exact x_up2_off (Or.inr (by decide)) : g287 69 23 = gi275 69 23).trans c275_3))); omega)) (show (g293 69 24).toInt = (gi275 69 24).toInt from (by have ff297 : (g293 69 24).toInt = (gi30 69 24).toInt := congrArg Int32.toInt ((by rw [e293]; exact x_up2_off (Or.inr (by decide)) : g293 69 24 = g291 69 24).trans ((by rw [e291]; exact x_up2_off (Or.inl (by decide)) : g291 69 24 = g287 69 24).trans ((by rw [e287]; exact x_up2_off (Or.inr (by decide)) : g287 69 24 = gi275 69 24).trans c275_4))); omega)) (show (g293 69 25).toInt = (gi275 69 25).toInt + 1 from (by have ff298 : (g293 69 25).toInt = z292.toInt := congrArg Int32.toInt (by rw [e293]; exact x_up2_at _ _ _ _ : g293 69 25 = z292); omega)) ((by rw [e293]; exact x_up2_ne (by decide) : g293 77 = g291 77).trans ((by rw [e291]; exact x_up2_ne (by decide) : g291 77 = g287 77).trans ((by rw [e287]; exact x_up2_ne (by decide) : g287 77 = gi275 77)))) ho.1 (ho.2.trans ht)) (fun j hj => by rw [congrFun ((by rw [e293]; exact x_up2_ne (by decide) : g293 77 = g291 77).trans ((by rw [e291]; exact x_up2_ne (by decide) : g291 77 = g287 77).trans ((by rw [e287]; exact x_up2_ne (by decide) : g287 77 = gi275 77)))) j]; exact j275_1 j (by have ff299 : (g293 69 22).toInt = z286.toInt := congrArg Int32.toInt ((by rw [e293]; exact x_up2_off (Or.inr (by decide)) : g293 69 22 = g291 69 22).trans ((by rw [e291]; exact x_up2_off (Or.inl (by decide)) : g291 69 22 = g287 69 22).trans (by rw [e287]; exact x_up2_at _ _ _ _ : g287 69 22 = z286))); omega)) (by have ff300 : (g293 69 14).toInt = (gi30 69 14).toInt := congrArg Int32.toInt ((by rw [e293]; exact x_up2_off (Or.inr (by decide)) : g293 69 14 = g291 69 14).trans ((by rw [e291]; exact x_up2_off (Or.inl (by decide)) : g291 69 14 = g287 69 14).trans ((by rw [e287]; exact x_up2_off (Or.inr (by decide)) : g287 69 14 = gi275 69 14).trans c275_1))); omega) (by have ff301 : (g293 69 12).toInt = (gi30 69 12).toInt := congrArg Int32.toInt ((by rw [e293]; exact x_up2_off (Or.inr (by decide)) : g293 69 12 = g291 69 12).trans ((by rw [e291]; exact x_up2_off (Or.inl (by decide)) : g291 69 12 = g287 69 12).trans ((by rw [e287]; exact x_up2_off (Or.inr (by decide)) : g287 69 12 = gi275 69 12).trans c275_0))); have ff302 : (g293 69 14).toInt = (gi30 69 14).toInt := congrArg Int32.toInt ((by rw [e293]; exact x_up2_off (Or.inr (by decide)) : g293 69 14 = g291 69 14).trans ((by rw [e291]; exact x_up2_off (Or.inl (by decide)) : g291 69 14 = g287 69 14).trans ((by rw [e287]; exact x_up2_off (Or.inr (by decide)) : g287 69 14 = gi275 69 14).trans c275_1))); omega) rfl
            refine ev_sub (lo := [(1, .int y30_1), (0, .ref 69)]) rfl (t_sc rfl (t_sc rfl t_sn)) ?_
            exact L275 _ gi272 gl272 gr272  hI hX  ((hC272.1 69 12 rfl).1.trans rfl) ((hC272.1 69 14 rfl).1.trans rfl) ((hC272.1 69 18 rfl).1.trans rfl) ((hC272.1 69 23 rfl).1.trans rfl) ((hC272.1 69 24 rfl).1.trans rfl) (t_K_ext j30_0 (show (gi272 69 22).toInt = (gi30 69 22).toInt from (by have ff304 : (gi272 69 22).toInt = (gi30 69 22).toInt := congrArg Int32.toInt ((hC272.1 69 22 rfl).1.trans rfl); omega)) (show (gi272 69 23).toInt = (gi30 69 23).toInt from (by have ff305 : (gi272 69 23).toInt = (gi30 69 23).toInt := congrArg Int32.toInt ((hC272.1 69 23 rfl).1.trans rfl); omega)) (show (gi272 69 24).toInt = (gi30 69 24).toInt from (by have ff306 : (gi272 69 24).toInt = (gi30 69 24).toInt := congrArg Int32.toInt ((hC272.1 69 24 rfl).1.trans rfl); omega)) (show (gi272 69 25).toInt = (gi30 69 25).toInt from (by have ff307 : (gi272 69 25).toInt = (gi30 69 25).toInt := congrArg Int32.toInt ((hC272.1 69 25 rfl).1.trans rfl); omega)) ((funext (fun j => (hC272.1 77 j rfl).1) : gi272 77 = gi30 77)) ((funext (fun j => (hC272.1 70 j rfl).1) : gi272 70 = gi30 70))) (q272.2 (by omega)) (by have ff308 : (gi272 69 14).toInt = (gi30 69 14).toInt := congrArg Int32.toInt ((hC272.1 69 14 rfl).1.trans rfl); omega) (by have ff309 : (gi272 69 12).toInt = (gi30 69 12).toInt := congrArg Int32.toInt ((hC272.1 69 12 rfl).1.trans rfl); have ff310 : (gi272 69 14).toInt = (gi30 69 14).toInt := congrArg Int32.toInt ((hC272.1 69 14 rfl).1.trans rfl); omega) rfl
          · have r311 : w272.toInt ≠ 0 := fun e => h273 (Int32.toInt_inj.mp (e.trans (by decide : (0:Int) = (0 : Int32).toInt)))
            have l312 : 1 ≤ w272.toInt := t_nel h273 l272 rfl rfl
            refine ev_loc f_X12_conditions (nx := 105) rfl rfl rfl rfl ?_
            refine ev_ic f_X12_conditions (nx := 106) (v := 2) rfl (by decide) rfl ?_
            refine ev_inV2 f_X12_conditions (nx := 109) (lo2 := [(0, .ref 69), (1, .int 2)]) rfl rfl rfl rfl f_X12_fails (hI.wf.s rfl) rfl rfl rfl rfl rfl ?_
            refine ev_loc f_X12_fails (nx := 1) rfl rfl rfl rfl ?_
            refine ev_gvI f_X12_fails (nx := 4) (w := (gi30 69 18)) rfl (hI.wf.s rfl) rfl rfl ((hC272.1 69 18 rfl).1.trans rfl) rfl ?_
            refine ev_if f_X12_fails (t1 := 7) (t2 := 32) rfl rfl rfl (fun h313 => ?_) (fun h313 => ?_)
            · have u314 : (gi30 69 18).toInt ≤ 0 := t_equ h313 (by decide : (0:Int32).toInt ≤ (0:Int))
              have l315 : 0 ≤ (gi30 69 18).toInt := t_eql h313 (by decide : (0:Int) ≤ (0:Int32).toInt)
              refine ev_loc f_X12_fails (nx := 8) rfl rfl rfl rfl ?_
              refine ev_loc f_X12_fails (nx := 9) rfl rfl rfl rfl ?_
              refine ev_gvI f_X12_fails (nx := 12) (w := (gi30 69 12)) rfl (hI.wf.s rfl) rfl rfl ((hC272.1 69 12 rfl).1.trans rfl) rfl ?_
              refine ev_ic f_X12_fails (nx := 13) (v := 1) rfl (by decide) rfl ?_
              refine ev_if f_X12_fails (t1 := 16) (t2 := 20) rfl rfl rfl (fun h316 => ?_) (fun h316 => ?_)
              · have u317 : (gi30 69 12).toInt ≤ 1 := t_equ h316 (by decide : (1:Int32).toInt ≤ (1:Int))
                have l318 : 1 ≤ (gi30 69 12).toInt := t_eql h316 (by decide : (1:Int) ≤ (1:Int32).toInt)
                refine ev_ic f_X12_fails (nx := 17) (v := 1) rfl (by decide) rfl ?_
                refine ev_jmp f_X12_fails (nx := 21) rfl rfl rfl ?_
                refine ev_putIT f_X12_fails (nx := 24) rfl (hI.wf.s rfl) rfl rfl rfl (hI.put0 (hI.wf.s rfl) rfl rfl) (hX.upI rfl) (fun g319 e319 hI hX => ?_)
                refine ev_loc f_X12_fails (nx := 25) rfl rfl rfl rfl ?_
                refine ev_loc f_X12_fails (nx := 26) rfl rfl rfl rfl ?_
                refine ev_getI f_X12_fails (nx := 29) rfl (hI.wf.s rfl) rfl rfl rfl ?_
                obtain ⟨l320, u320⟩ := hI.b (hI.wf.s (k := 69) rfl) (t_bdK rfl : t_bd 11 13 = some (0, 900))
                refine ev_putIT f_X12_fails (nx := 32) rfl (hI.wf.s rfl) rfl rfl rfl (hI.put0 (hI.wf.s rfl) rfl rfl) (hX.upI rfl) (fun g321 e321 hI hX => ?_)
                refine ev_ic f_X12_fails (nx := 33) (v := 0) rfl (by decide) rfl ?_
                refine ev_retK1 f_X12_fails rfl rfl rfl ?_
                exact ev_ret f_X12_conditions rfl rfl rfl ⟨_, _, _, rfl, hI, hX, ⟨_, rfl, (by decide : (0:Int) ≤ (0:Int32).toInt), (Int.le_trans (by decide : (0:Int32).toInt ≤ (0:Int)) (by decide : (0:Int) ≤ 1)), (show (gi 69 14).toInt ≤ (g321 69 14).toInt ∧ (0 = 1 → (g321 69 12).toInt ≠ 0 → (gi 69 14).toInt < (g321 69 14).toInt) ∧ (0 = 0 → (g321 69 18).toInt ≠ 0) ∧ (0 = 1 → (t_em (g321 70) (t_lo4 b) (g321 69 25).toInt.toNat 1 ∧ (∀ j : Nat, j < 1540 + t_lo4 b → g321 70 j = b j) ∧ 0 ≤ (g321 69 25).toInt ∧ (g321 69 25).toInt ≤ 8 * (g321 69 24).toInt)) from ⟨(by have ff322 : (g321 69 14).toInt = (gi30 69 14).toInt := congrArg Int32.toInt ((by rw [e321]; exact x_up2_off (Or.inr (by decide)) : g321 69 14 = g319 69 14).trans ((by rw [e319]; exact x_up2_off (Or.inr (by decide)) : g319 69 14 = gi272 69 14).trans ((hC272.1 69 14 rfl).1.trans rfl))); omega), (by have ff323 : (g321 69 12).toInt = (gi30 69 12).toInt := congrArg Int32.toInt ((by rw [e321]; exact x_up2_off (Or.inr (by decide)) : g321 69 12 = g319 69 12).trans ((by rw [e319]; exact x_up2_off (Or.inr (by decide)) : g319 69 12 = gi272 69 12).trans ((hC272.1 69 12 rfl).1.trans rfl))); have ff324 : (g321 69 14).toInt = (gi30 69 14).toInt := congrArg Int32.toInt ((by rw [e321]; exact x_up2_off (Or.inr (by decide)) : g321 69 14 = g319 69 14).trans ((by rw [e319]; exact x_up2_off (Or.inr (by decide)) : g319 69 14 = gi272 69 14).trans ((hC272.1 69 14 rfl).1.trans rfl))); omega), (by have ff325 : (g321 69 18).toInt = 1 := (congrArg Int32.toInt ((by rw [e321]; exact x_up2_off (Or.inr (by decide)) : g321 69 18 = g319 69 18).trans (by rw [e319]; exact x_up2_at _ _ _ _ : g319 69 18 = 1))).trans (by decide); omega), fun h => absurd h (by decide)⟩)⟩⟩
              · have r326 : (gi30 69 12).toInt ≠ 1 := fun e => h316 (Int32.toInt_inj.mp (e.trans (by decide : (1:Int) = (1 : Int32).toInt)))
                refine ev_loc f_X12_fails (nx := 21) rfl rfl rfl rfl ?_
                refine ev_putIT f_X12_fails (nx := 24) rfl (hI.wf.s rfl) rfl rfl rfl (hI.put0 (hI.wf.s rfl) rfl rfl) (hX.upI rfl) (fun g327 e327 hI hX => ?_)
                refine ev_loc f_X12_fails (nx := 25) rfl rfl rfl rfl ?_
                refine ev_loc f_X12_fails (nx := 26) rfl rfl rfl rfl ?_
                refine ev_getI f_X12_fails (nx := 29) rfl (hI.wf.s rfl) rfl rfl rfl ?_
                obtain ⟨l328, u328⟩ := hI.b (hI.wf.s (k := 69) rfl) (t_bdK rfl : t_bd 11 13 = some (0, 900))
                refine ev_putIT f_X12_fails (nx := 32) rfl (hI.wf.s rfl) rfl rfl rfl (hI.put0 (hI.wf.s rfl) rfl rfl) (hX.upI rfl) (fun g329 e329 hI hX => ?_)
                refine ev_ic f_X12_fails (nx := 33) (v := 0) rfl (by decide) rfl ?_
                refine ev_retK1 f_X12_fails rfl rfl rfl ?_
                exact ev_ret f_X12_conditions rfl rfl rfl ⟨_, _, _, rfl, hI, hX, ⟨_, rfl, (by decide : (0:Int) ≤ (0:Int32).toInt), (Int.le_trans (by decide : (0:Int32).toInt ≤ (0:Int)) (by decide : (0:Int) ≤ 1)), (show (gi 69 14).toInt ≤ (g329 69 14).toInt ∧ (0 = 1 → (g329 69 12).toInt ≠ 0 → (gi 69 14).toInt < (g329 69 14).toInt) ∧ (0 = 0 → (g329 69 18).toInt ≠ 0) ∧ (0 = 1 → (t_em (g329 70) (t_lo4 b) (g329 69 25).toInt.toNat 1 ∧ (∀ j : Nat, j < 1540 + t_lo4 b → g329 70 j = b j) ∧ 0 ≤ (g329 69 25).toInt ∧ (g329 69 25).toInt ≤ 8 * (g329 69 24).toInt)) from ⟨(by have ff330 : (g329 69 14).toInt = (gi30 69 14).toInt := congrArg Int32.toInt ((by rw [e329]; exact x_up2_off (Or.inr (by decide)) : g329 69 14 = g327 69 14).trans ((by rw [e327]; exact x_up2_off (Or.inr (by decide)) : g327 69 14 = gi272 69 14).trans ((hC272.1 69 14 rfl).1.trans rfl))); omega), (by have ff331 : (g329 69 12).toInt = (gi30 69 12).toInt := congrArg Int32.toInt ((by rw [e329]; exact x_up2_off (Or.inr (by decide)) : g329 69 12 = g327 69 12).trans ((by rw [e327]; exact x_up2_off (Or.inr (by decide)) : g327 69 12 = gi272 69 12).trans ((hC272.1 69 12 rfl).1.trans rfl))); have ff332 : (g329 69 14).toInt = (gi30 69 14).toInt := congrArg Int32.toInt ((by rw [e329]; exact x_up2_off (Or.inr (by decide)) : g329 69 14 = g327 69 14).trans ((by rw [e327]; exact x_up2_off (Or.inr (by decide)) : g327 69 14 = gi272 69 14).trans ((hC272.1 69 14 rfl).1.trans rfl))); omega), (by have ff333 : (g329 69 18).toInt = 2 := (congrArg Int32.toInt ((by rw [e329]; exact x_up2_off (Or.inr (by decide)) : g329 69 18 = g327 69 18).trans (by rw [e327]; exact x_up2_at _ _ _ _ : g327 69 18 = 2))).trans (by decide); omega), fun h => absurd h (by decide)⟩)⟩⟩
            · have r334 : (gi30 69 18).toInt ≠ 0 := fun e => h313 (Int32.toInt_inj.mp (e.trans (by decide : (0:Int) = (0 : Int32).toInt)))
              refine ev_ic f_X12_fails (nx := 33) (v := 0) rfl (by decide) rfl ?_
              refine ev_retK1 f_X12_fails rfl rfl rfl ?_
              exact ev_ret f_X12_conditions rfl rfl rfl ⟨_, _, _, rfl, hI, hX, ⟨_, rfl, (by decide : (0:Int) ≤ (0:Int32).toInt), (Int.le_trans (by decide : (0:Int32).toInt ≤ (0:Int)) (by decide : (0:Int) ≤ 1)), (show (gi 69 14).toInt ≤ (gi272 69 14).toInt ∧ (0 = 1 → (gi272 69 12).toInt ≠ 0 → (gi 69 14).toInt < (gi272 69 14).toInt) ∧ (0 = 0 → (gi272 69 18).toInt ≠ 0) ∧ (0 = 1 → (t_em (gi272 70) (t_lo4 b) (gi272 69 25).toInt.toNat 1 ∧ (∀ j : Nat, j < 1540 + t_lo4 b → gi272 70 j = b j) ∧ 0 ≤ (gi272 69 25).toInt ∧ (gi272 69 25).toInt ≤ 8 * (gi272 69 24).toInt)) from ⟨(by have ff335 : (gi272 69 14).toInt = (gi30 69 14).toInt := congrArg Int32.toInt ((hC272.1 69 14 rfl).1.trans rfl); omega), (by have ff336 : (gi272 69 12).toInt = (gi30 69 12).toInt := congrArg Int32.toInt ((hC272.1 69 12 rfl).1.trans rfl); have ff337 : (gi272 69 14).toInt = (gi30 69 14).toInt := congrArg Int32.toInt ((hC272.1 69 14 rfl).1.trans rfl); omega), (by have ff338 : (gi272 69 18).toInt = (gi30 69 18).toInt := congrArg Int32.toInt ((hC272.1 69 18 rfl).1.trans rfl); omega), fun h => absurd h (by decide)⟩)⟩⟩
    refine ev_sub (lo := [(1, .int w29), (0, .ref 69)]) rfl (t_sc rfl (t_sc rfl t_sn)) ?_
    exact L30 _ gi29 gl29 gr29 (w29) hI hX  (t_K_ext (q10.2.2.2 (by omega)) (show (gi29 69 22).toInt = (gi10 69 22).toInt from (by have ff339 : (gi29 69 22).toInt = (gi10 69 22).toInt := congrArg Int32.toInt ((hC29.1 69 22 rfl).1.trans rfl); omega)) (show (gi29 69 23).toInt = (gi10 69 23).toInt from (by have ff340 : (gi29 69 23).toInt = (gi10 69 23).toInt := congrArg Int32.toInt ((hC29.1 69 23 rfl).1.trans rfl); omega)) (show (gi29 69 24).toInt = (gi10 69 24).toInt from (by have ff341 : (gi29 69 24).toInt = (gi10 69 24).toInt := congrArg Int32.toInt ((hC29.1 69 24 rfl).1.trans rfl); omega)) (show (gi29 69 25).toInt = (gi10 69 25).toInt from (by have ff342 : (gi29 69 25).toInt = (gi10 69 25).toInt := congrArg Int32.toInt ((hC29.1 69 25 rfl).1.trans rfl); omega)) ((funext (fun j => (hC29.1 77 j rfl).1) : gi29 77 = gi10 77)) ((funext (fun j => (hC29.1 70 j rfl).1) : gi29 70 = gi10 70))) (by have ff343 : (gi29 69 14).toInt = (gi10 69 14).toInt := congrArg Int32.toInt ((hC29.1 69 14 rfl).1.trans rfl); omega) (by have ff344 : (gi29 69 12).toInt = (gi10 69 12).toInt := congrArg Int32.toInt ((hC29.1 69 12 rfl).1.trans rfl); have ff345 : (gi29 69 14).toInt = (gi10 69 14).toInt := congrArg Int32.toInt ((hC29.1 69 14 rfl).1.trans rfl); omega) (by have ff346 : (gi29 69 12).toInt = (gi10 69 12).toInt := congrArg Int32.toInt ((hC29.1 69 12 rfl).1.trans rfl); omega) rfl
