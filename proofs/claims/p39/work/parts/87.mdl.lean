/-! ===== printed by mdl4.py: contracts of the model ===== -/
theorem ev_shl1E {X : x_Ext} {d mi pc nx a b q len ml : Nat} {z : Int} {lo : x_Lo} {r : List Value} {G : x_G} {P : Option Value → x_G → Prop} {T : List (Nat × x_Row)} {rt : Option FieldType} {y : Int32} {ly uy : Int} (F : x_F mi T ml rt) (hr : x_lk T pc = some (.ishl, len, a, b, q, z)) (b1 : ly ≤ y.toInt) (b2 : y.toInt ≤ uy) (h0 : decide (0 ≤ ly) = true) (h6 : decide (uy ≤ 6) = true) (hn : pc + len = nx) (kk : ∀ w : Int32, ((y.toInt = 0 ∧ w.toInt = 1) ∨ (y.toInt = 1 ∧ w.toInt = 2) ∨ (y.toInt = 2 ∧ w.toInt = 4) ∨ (y.toInt = 3 ∧ w.toInt = 8) ∨ (y.toInt = 4 ∧ w.toInt = 16) ∨ (y.toInt = 5 ∧ w.toInt = 32) ∨ (y.toInt = 6 ∧ w.toInt = 64)) → x_Ev X d mi nx lo (.int w :: r) G P) : x_Ev X d mi pc lo (.int y :: .int 1 :: r) G P := by
  have h0 := of_decide_eq_true h0
  have h6 := of_decide_eq_true h6
  refine ev_alu F hr rfl rfl hn (kk _ ?_)
  have h : y.toInt = 0 ∨ y.toInt = 1 ∨ y.toInt = 2 ∨ y.toInt = 3 ∨ y.toInt = 4 ∨ y.toInt = 5 ∨ y.toInt = 6 := by omega
  rcases h with h | h | h | h | h | h | h
  · rw [show y = 0 from Int32.toInt_inj.mp h]; decide
  · rw [show y = 1 from Int32.toInt_inj.mp h]; decide
  · rw [show y = 2 from Int32.toInt_inj.mp h]; decide
  · rw [show y = 3 from Int32.toInt_inj.mp h]; decide
  · rw [show y = 4 from Int32.toInt_inj.mp h]; decide
  · rw [show y = 5 from Int32.toInt_inj.mp h]; decide
  · rw [show y = 6 from Int32.toInt_inj.mp h]; decide
/-- the row of the search for a code: what is left to go through -/
noncomputable def t_cm (n : Int) (r : Nat → Int32) : Nat := (if n < 0 then 0 else if n = 0 then (31 - (r 0).toInt) * 35937 else if n = 1 then (31 - (r 0).toInt) * 35937 + (31 - (r 1).toInt) * 1089 else if n = 2 then (31 - (r 0).toInt) * 35937 + (31 - (r 1).toInt) * 1089 + (31 - (r 2).toInt) * 33 else (31 - (r 0).toInt) * 35937 + (31 - (r 1).toInt) * 1089 + (31 - (r 2).toInt) * 33 + (31 - (r 3).toInt)).toNat
noncomputable def t_rw (n : Int) (r : Nat → Int32) : Prop := ∀ j : Nat, ((j : Int) < n → 0 ≤ (r j).toInt ∧ (r j).toInt ≤ 29) ∧ ((j : Int) = n → n ≤ 3 → -1 ≤ (r j).toInt ∧ (r j).toInt ≤ 29)
/-- one more at n -/
theorem t_cmB {n z w : Int32} {g g1 : Nat → Nat → Int32} (h : t_rw n.toInt (g 88)) (h0 : 0 ≤ n.toInt) (h3 : n.toInt ≤ 3) (ew : w = g 88 n.toNatClampNeg) (ez : z.toInt = w.toInt + 1) (e : g1 = x_up2 g 88 n.toNatClampNeg z) : t_cm n.toInt (g1 88) < t_cm n.toInt (g 88) ∧ t_cm (n.toInt - 1) (g1 88) < t_cm n.toInt (g 88) ∧ 0 ≤ z.toInt ∧ z.toInt ≤ 30 ∧ (z.toInt ≤ 29 → t_rw n.toInt (g1 88)) ∧ t_rw (n.toInt - 1) (g1 88) ∧ (∀ j : Nat, (j : Int) < n.toInt + 1 → z.toInt ≤ 29 → 0 ≤ (g1 88 j).toInt ∧ (g1 88 j).toInt ≤ 29) := by
  have hc := t_clamp h0
  have hw := (h n.toNatClampNeg).2 hc h3
  rw [← ew] at hw
  have hat : g1 88 n.toNatClampNeg = z := by rw [e]; exact x_up2_at _ _ _ _
  have hof : ∀ j, j ≠ n.toNatClampNeg → g1 88 j = g 88 j := fun j hj => by rw [e]; exact x_up2_off (Or.inr hj)
  have hall : ∀ j : Nat, (j : Int) < n.toInt + 1 → z.toInt ≤ 29 → 0 ≤ (g1 88 j).toInt ∧ (g1 88 j).toInt ≤ 29 := by
    intro j hj hz
    by_cases hjn : j = n.toNatClampNeg
    · rw [hjn, hat]; omega
    · rw [hof j hjn]; exact (h j).1 (by omega)
  have hn : n.toInt = 0 ∨ n.toInt = 1 ∨ n.toInt = 2 ∨ n.toInt = 3 := by omega
  have h4 := h 0
  have h5 := h 1
  have h6 := h 2
  have h7 := h 3
  have g0 := hof 0
  have g1' := hof 1
  have g2 := hof 2
  refine ⟨?_, ?_, by omega, by omega, ?_, ?_, hall⟩
  · rcases hn with hn | hn | hn | hn
    · have e0 : n.toNatClampNeg = 0 := by omega
      rw [e0] at hat ew
      rw [hn]; unfold t_cm; simp only [hat]; rw [← ew]; simp; omega
    · have e0 : n.toNatClampNeg = 1 := by omega
      rw [e0] at hat ew
      rw [hn]; unfold t_cm; rw [g0 (by omega)]; simp only [hat]; rw [← ew]; simp; omega
    · have e0 : n.toNatClampNeg = 2 := by omega
      rw [e0] at hat ew
      rw [hn]; unfold t_cm; rw [g0 (by omega), g1' (by omega)]; simp only [hat]; rw [← ew]; simp; omega
    · have e0 : n.toNatClampNeg = 3 := by omega
      rw [e0] at hat ew
      rw [hn]; unfold t_cm; rw [g0 (by omega), g1' (by omega), g2 (by omega)]; simp only [hat]; rw [← ew]; simp; omega
  · rcases hn with hn | hn | hn | hn
    · have e0 : n.toNatClampNeg = 0 := by omega
      rw [e0] at hat ew
      rw [hn]; unfold t_cm; rw [← ew]; simp; omega
    · have e0 : n.toNatClampNeg = 1 := by omega
      rw [e0] at hat ew
      rw [hn]; unfold t_cm; rw [g0 (by omega), ← ew]; simp; omega
    · have e0 : n.toNatClampNeg = 2 := by omega
      rw [e0] at hat ew
      rw [hn]; unfold t_cm; rw [g0 (by omega), g1' (by omega), ← ew]; simp; omega
    · have e0 : n.toNatClampNeg = 3 := by omega
      rw [e0] at hat ew
      rw [hn]; unfold t_cm; rw [g0 (by omega), g1' (by omega), g2 (by omega), ← ew]; simp; omega
  · intro hz j
    exact ⟨fun hj => hall j (by omega) hz, fun hj _ => by have := hall j (by omega) hz; omega⟩
  · intro j
    refine ⟨fun hj => ?_, fun hj _ => ?_⟩
    · rw [hof j (by omega)]; exact (h j).1 (by omega)
    · rw [hof j (by omega)]; have := (h j).1 (by omega); omega
/-- and a place more, with the same call -/
theorem t_cmC {n z w i m : Int32} {g g1 g2 g3 : Nat → Nat → Int32} (h : t_rw n.toInt (g 88)) (h0 : 0 ≤ n.toInt) (h3 : n.toInt ≤ 3) (ew : w = g 88 n.toNatClampNeg) (ez : z.toInt = w.toInt + 1) (e : g1 = x_up2 g 88 n.toNatClampNeg z) (hz : z.toInt ≤ 29) (ei : i.toInt = n.toInt + 1) (em : m.toInt = n.toInt + 1) (hf : g3 88 = g1 88) (e2 : g2 = x_up2 g3 88 i.toNatClampNeg z) : t_cm m.toInt (g2 88) < t_cm n.toInt (g 88) ∧ t_rw m.toInt (g2 88) := by
  obtain ⟨k1, -, k2, k3, -, -, k4⟩ := t_cmB h h0 h3 ew ez e
  have hc := t_clamp h0
  have hci := t_clamp (i := i) (by omega)
  have hat : g2 88 i.toNatClampNeg = z := by rw [e2]; exact x_up2_at _ _ _ _
  have hof : ∀ j, j ≠ i.toNatClampNeg → g2 88 j = g1 88 j := fun j hj => by rw [e2, x_up2_off (Or.inr hj), hf]
  have hat1 : g1 88 n.toNatClampNeg = z := by rw [e]; exact x_up2_at _ _ _ _
  have hof1 : ∀ j, j ≠ n.toNatClampNeg → g1 88 j = g 88 j := fun j hj => by rw [e]; exact x_up2_off (Or.inr hj)
  have hw := (h n.toNatClampNeg).2 hc h3
  rw [← ew] at hw
  have h4 := h 0
  have h5 := h 1
  have h6 := h 2
  have h7 := h 3
  refine ⟨?_, fun j => ⟨fun hj => ?_, fun hj _ => ?_⟩⟩
  · have hn : n.toInt = 0 ∨ n.toInt = 1 ∨ n.toInt = 2 ∨ n.toInt = 3 := by omega
    rcases hn with hn | hn | hn | hn
    · have e0 : n.toNatClampNeg = 0 := by omega
      have e1 : i.toNatClampNeg = 1 := by omega
      rw [e0] at hat1 ew
      rw [e1] at hat
      rw [em, hn]; unfold t_cm; rw [hof 0 (by omega), hat1, hat, ← ew]; simp; omega
    · have e0 : n.toNatClampNeg = 1 := by omega
      have e1 : i.toNatClampNeg = 2 := by omega
      rw [e0] at hat1 ew
      rw [e1] at hat
      rw [em, hn]; unfold t_cm; rw [hof 0 (by omega), hof 1 (by omega), hof1 0 (by omega), hat1, hat, ← ew]; simp; omega
    · have e0 : n.toNatClampNeg = 2 := by omega
      have e1 : i.toNatClampNeg = 3 := by omega
      rw [e0] at hat1 ew
      rw [e1] at hat
      rw [em, hn]; unfold t_cm; rw [hof 0 (by omega), hof 1 (by omega), hof 2 (by omega), hof1 0 (by omega), hof1 1 (by omega), hat1, hat, ← ew]; simp; omega
    · have e0 : n.toNatClampNeg = 3 := by omega
      have e1 : i.toNatClampNeg = 4 := by omega
      rw [e0] at hat1 ew
      rw [em, hn]; unfold t_cm; rw [hof 0 (by omega), hof 1 (by omega), hof 2 (by omega), hof 3 (by omega), hof1 0 (by omega), hof1 1 (by omega), hof1 2 (by omega), hat1, ← ew]; simp; omega
  · rw [hof j (by omega)]; exact k4 j (by omega) hz
  · rw [show j = i.toNatClampNeg by omega, hat]; omega
theorem t_rw0 {g g1 : Nat → Nat → Int32} (e : g1 = x_up2 g 88 (0 : Int32).toNatClampNeg (-1)) : t_rw 0 (g1 88) := fun j => ⟨fun hj => by omega, fun hj _ => by
  have : j = 0 := by omega
  subst this
  have : g1 88 0 = -1 := by rw [e]; exact x_up2_at _ _ _ _
  rw [this]; decide⟩
/-- the ints of a cell are as they were -/
theorem t_rw.ext {n : Int} {r r' : Nat → Int32} (h : t_rw n r) (e : ∀ j, r' j = r j) : t_rw n r' := fun j => by rw [e j]; exact h j
noncomputable def wl_m_tellsBy : List (Nat × Nat) := [(69, 2), (69, 3), (69, 4)]
theorem c_m_tellsBy {X : x_Ext} {d : Nat} {sh : List (Nat ⊕ (Nat × Nat))} {gi : Nat → Nat → Int32} {gl : Nat → Nat → Int64} {gr : Nat → Nat → Value} (hI : t_I sh gi gr) (ar1 : Int64) (ar2 : Int64) (e_p0 : 0 ≤ ar1.toInt) (e_p1 : 0 < ar2.toInt) : x_Me X (d + 2) n_X12_tellsBy [.ref 69, .long ar1, .long ar2] (sh, gi, gl, gr) (t_P wl_m_tellsBy sh gi gl gr (t_Ri 1 1)) := by
  have hX : t_X wl_m_tellsBy sh gi gl gr gi gl gr := t_X.rf
  refine me_i f_X12_tellsBy (hI.wf.s rfl) rfl rfl rfl ?_
  refine ev_loc f_X12_tellsBy (nx := 1) rfl rfl rfl rfl ?_
  refine ev_loc f_X12_tellsBy (nx := 3) (lo' := [(5, .long ar1), (0, .ref 69), (1, .long ar1), (3, .long ar2)]) rfl rfl rfl rfl ?_
  refine ev_loc f_X12_tellsBy (nx := 4) rfl rfl rfl rfl ?_
  refine ev_loc f_X12_tellsBy (nx := 6) (lo' := [(7, .long ar2), (5, .long ar1), (0, .ref 69), (1, .long ar1), (3, .long ar2)]) rfl rfl rfl rfl ?_
  have L1 : ∀ (m1 : Nat) (gi1 : Nat → Nat → Int32) (gl1 : Nat → Nat → Int64) (gr1 : Nat → Nat → Value) (y1_7 : Int64) (y1_5 : Int64), t_I sh gi1 gr1 → t_X wl_m_tellsBy sh gi gl gr gi1 gl1 gr1 → 0 ≤ y1_5.toInt → 0 ≤ y1_7.toInt → (0 < y1_5.toInt ∨ 0 < y1_7.toInt) → y1_7.toInt.toNat = m1 → x_Ev X (d + 2) n_X12_tellsBy 6 [(7, .long y1_7), (5, .long y1_5), (0, .ref 69), (1, .long ar1), (3, .long ar2)] [] (sh, gi1, gl1, gr1) (t_P wl_m_tellsBy sh gi gl gr (t_Ri 1 1)) := by
    intro m1
    induction m1 using Nat.strongRecOn with
    | _ m1 ih1 =>
    intro gi1 gl1 gr1 y1_7 y1_5 hI hX j1_0 j1_1 j1_2 hm1
    refine ev_loc f_X12_tellsBy (nx := 8) rfl rfl rfl rfl ?_
    refine ev_lc f_X12_tellsBy (nx := 9) (v := 0) rfl (by decide) rfl ?_
    refine ev_anyIE f_X12_tellsBy (nx := 10) rfl rfl rfl rfl (fun z2 e2 => ?_)
    refine ev_if f_X12_tellsBy (t1 := 31) (t2 := 13) rfl rfl rfl (fun h3 => ?_) (fun h3 => ?_)
    · have u4 : z2.toInt ≤ 0 := t_equ h3 (by decide : (0:Int32).toInt ≤ (0:Int))
      have l5 : 0 ≤ z2.toInt := t_eql h3 (by decide : (0:Int) ≤ (0:Int32).toInt)
      refine ev_loc f_X12_tellsBy (nx := 32) rfl rfl rfl rfl ?_
      refine ev_loc f_X12_tellsBy (nx := 33) rfl rfl rfl rfl ?_
      refine ev_loc f_X12_tellsBy (nx := 35) rfl rfl rfl rfl ?_
      refine ev_ldivN f_X12_tellsBy (nx := 36) rfl (t_lne (by have := t_lz e2 h3; omega)) rfl (fun z6 e6 => ?_)
      refine ev_putLT f_X12_tellsBy (nx := 39) rfl (hI.wf.s rfl) rfl rfl rfl (hX.upL rfl) (fun g7 e7 hX => ?_)
      refine ev_loc f_X12_tellsBy (nx := 40) rfl rfl rfl rfl ?_
      refine ev_loc f_X12_tellsBy (nx := 41) rfl rfl rfl rfl ?_
      refine ev_loc f_X12_tellsBy (nx := 43) rfl rfl rfl rfl ?_
      refine ev_ldivN f_X12_tellsBy (nx := 44) rfl (t_lne (by have := t_lz e2 h3; omega)) rfl (fun z8 e8 => ?_)
      refine ev_putLT f_X12_tellsBy (nx := 47) rfl (hI.wf.s rfl) rfl rfl rfl (hX.upL rfl) (fun g9 e9 hX => ?_)
      refine ev_loc f_X12_tellsBy (nx := 48) rfl rfl rfl rfl ?_
      refine ev_ic f_X12_tellsBy (nx := 49) (v := 0) rfl (by decide) rfl ?_
      refine ev_inV2 f_X12_tellsBy (nx := 52) (lo2 := [(0, .ref 69), (1, .int 0)]) rfl rfl rfl rfl f_X12_is (hI.wf.s rfl) rfl rfl rfl rfl rfl ?_
      refine ev_loc f_X12_is (nx := 1) rfl rfl rfl rfl ?_
      refine ev_loc f_X12_is (nx := 2) rfl rfl rfl rfl ?_
      refine ev_putIT f_X12_is (nx := 5) rfl (hI.wf.s rfl) rfl rfl rfl (hI.put0 (hI.wf.s rfl) rfl rfl) (hX.upI rfl) (fun g10 e10 hI hX => ?_)
      refine ev_loc f_X12_is (nx := 6) rfl rfl rfl rfl ?_
      refine ev_t f_X12_is (t1 := 9) (t2 := 13) rfl rfl rfl (by decide) ?_
      refine ev_ic f_X12_is (nx := 10) (v := 1) rfl (by decide) rfl ?_
      refine ev_jmp f_X12_is (nx := 14) rfl rfl rfl ?_
      refine ev_retK1 f_X12_is rfl rfl rfl ?_
      exact ev_ret f_X12_tellsBy rfl rfl rfl ⟨_, _, _, rfl, hI, hX, ⟨_, rfl, (by decide : (1:Int) ≤ (1:Int32).toInt), (by decide : (1:Int32).toInt ≤ (1:Int))⟩⟩
    · have r11 : z2.toInt ≠ 0 := fun e => h3 (Int32.toInt_inj.mp (e.trans (by decide : (0:Int) = (0 : Int32).toInt)))
      refine ev_loc f_X12_tellsBy (nx := 15) rfl rfl rfl rfl ?_
      refine ev_loc f_X12_tellsBy (nx := 17) rfl rfl rfl rfl ?_
      refine ev_lremN f_X12_tellsBy (nx := 18) rfl (t_lne (t_lnz e2 h3 (by omega))) rfl (fun z12 e12 => ?_)
      refine ev_loc f_X12_tellsBy (nx := 20) (lo' := [(9, .long z12), (7, .long y1_7), (5, .long y1_5), (0, .ref 69), (1, .long ar1), (3, .long ar2)]) rfl rfl rfl rfl ?_
      refine ev_loc f_X12_tellsBy (nx := 22) rfl rfl rfl rfl ?_
      refine ev_loc f_X12_tellsBy (nx := 24) (lo' := [(5, .long y1_7), (9, .long z12), (7, .long y1_7), (0, .ref 69), (1, .long ar1), (3, .long ar2)]) rfl rfl rfl rfl ?_
      refine ev_loc f_X12_tellsBy (nx := 26) rfl rfl rfl rfl ?_
      refine ev_loc f_X12_tellsBy (nx := 28) (lo' := [(7, .long z12), (5, .long y1_7), (9, .long z12), (0, .ref 69), (1, .long ar1), (3, .long ar2)]) rfl rfl rfl rfl ?_
      refine ev_jmp f_X12_tellsBy (nx := 6) rfl rfl rfl ?_
      refine ev_sub (lo := [(7, .long z12), (5, .long y1_7), (0, .ref 69), (1, .long ar1), (3, .long ar2)]) rfl (t_sc rfl (t_sc rfl (t_sc rfl (t_sc rfl (t_sc rfl t_sn))))) ?_
      exact ih1 _ (by have hb := t_lnz e2 h3 (by omega); have hr := t_lrem e12 (by omega) hb; omega) gi1 gl1 gr1 (z12) (y1_7) hI hX  (by have hb := t_lnz e2 h3 (by omega); have hr := t_lrem e12 (by omega) hb; omega) (by have hb := t_lnz e2 h3 (by omega); have hr := t_lrem e12 (by omega) hb; omega) (by have hb := t_lnz e2 h3 (by omega); have hr := t_lrem e12 (by omega) hb; omega) rfl
  refine ev_sub (lo := [(7, .long ar2), (5, .long ar1), (0, .ref 69), (1, .long ar1), (3, .long ar2)]) rfl (t_sc rfl (t_sc rfl (t_sc rfl (t_sc rfl (t_sc rfl t_sn))))) ?_
  exact L1 _ gi gl gr (ar2) (ar1) hI hX  (by omega) (by omega) (by omega) rfl
noncomputable def wl_m_doubt : List (Nat × Nat) := [(69, 2), (69, 3), (69, 4), (69, 29), (78, 9999), (79, 9999), (80, 9999)]
theorem c_m_doubt {X : x_Ext} {d : Nat} {sh : List (Nat ⊕ (Nat × Nat))} {gi : Nat → Nat → Int32} {gl : Nat → Nat → Int64} {gr : Nat → Nat → Value} (hI : t_I sh gi gr) (ar1 : Int64) (ar2 : Int32) : x_Me X (d + 5) n_X12_doubt [.ref 69, .long ar1, .int ar2] (sh, gi, gl, gr) (t_P wl_m_doubt sh gi gl gr (t_Ri 0 1)) := by
  have hX : t_X wl_m_doubt sh gi gl gr gi gl gr := t_X.rf
  refine me_i f_X12_doubt (hI.wf.s rfl) rfl rfl rfl ?_
  refine ev_loc f_X12_doubt (nx := 1) rfl rfl rfl rfl ?_
  refine ev_lc f_X12_doubt (nx := 2) (v := 1) rfl (by decide) rfl ?_
  refine ev_anyIE f_X12_doubt (nx := 3) rfl rfl rfl rfl (fun z1 e1 => ?_)
  refine ev_if f_X12_doubt (t1 := 14) (t2 := 6) rfl rfl rfl (fun h2 => ?_) (fun h2 => ?_)
  · have u3 : z1.toInt ≤ (-1) := t_ltu h2 (by decide : (0:Int32).toInt ≤ (0:Int)) rfl
    refine ev_loc f_X12_doubt (nx := 15) rfl rfl rfl rfl ?_
    refine ev_ic f_X12_doubt (nx := 16) (v := 1) rfl (by decide) rfl ?_
    refine ev_inV2 f_X12_doubt (nx := 19) (lo2 := [(0, .ref 69), (1, .int 1)]) rfl rfl rfl rfl f_X12_is (hI.wf.s rfl) rfl rfl rfl rfl rfl ?_
    refine ev_loc f_X12_is (nx := 1) rfl rfl rfl rfl ?_
    refine ev_loc f_X12_is (nx := 2) rfl rfl rfl rfl ?_
    refine ev_putIT f_X12_is (nx := 5) rfl (hI.wf.s rfl) rfl rfl rfl (hI.put0 (hI.wf.s rfl) rfl rfl) (hX.upI rfl) (fun g4 e4 hI hX => ?_)
    refine ev_loc f_X12_is (nx := 6) rfl rfl rfl rfl ?_
    refine ev_f f_X12_is (t1 := 9) (t2 := 13) rfl rfl rfl (by decide) ?_
    refine ev_ic f_X12_is (nx := 14) (v := 0) rfl (by decide) rfl ?_
    refine ev_retK1 f_X12_is rfl rfl rfl ?_
    exact ev_ret f_X12_doubt rfl rfl rfl ⟨_, _, _, rfl, hI, hX, ⟨_, rfl, (by decide : (0:Int) ≤ (0:Int32).toInt), (Int.le_trans (by decide : (0:Int32).toInt ≤ (0:Int)) (by decide : (0:Int) ≤ 1))⟩⟩
  · have l5 : 0 ≤ z1.toInt := t_lel (t_nlt h2) (by decide : (0:Int) ≤ (0:Int32).toInt)
    refine ev_loc f_X12_doubt (nx := 7) rfl rfl rfl rfl ?_
    refine ev_loc f_X12_doubt (nx := 8) rfl rfl rfl rfl ?_
    refine ev_inV2 f_X12_doubt (nx := 11) (lo2 := [(0, .ref 69), (1, .int ar2)]) rfl rfl rfl rfl f_X12_isPort (hI.wf.s rfl) rfl rfl rfl rfl rfl ?_
    refine ev_loc f_X12_isPort (nx := 1) rfl rfl rfl rfl ?_
    refine ev_if f_X12_isPort (t1 := 18) (t2 := 4) rfl rfl rfl (fun h6 => ?_) (fun h6 => ?_)
    · have u7 : ar2.toInt ≤ (-1) := t_ltu h6 (by decide : (0:Int32).toInt ≤ (0:Int)) rfl
      refine ev_ic f_X12_isPort (nx := 19) (v := 0) rfl (by decide) rfl ?_
      refine ev_retK1 f_X12_isPort rfl rfl rfl ?_
      refine ev_t f_X12_doubt (t1 := 14) (t2 := 20) rfl rfl rfl (by decide) ?_
      refine ev_loc f_X12_doubt (nx := 15) rfl rfl rfl rfl ?_
      refine ev_ic f_X12_doubt (nx := 16) (v := 1) rfl (by decide) rfl ?_
      refine ev_inV2 f_X12_doubt (nx := 19) (lo2 := [(0, .ref 69), (1, .int 1)]) rfl rfl rfl rfl f_X12_is (hI.wf.s rfl) rfl rfl rfl rfl rfl ?_
      refine ev_loc f_X12_is (nx := 1) rfl rfl rfl rfl ?_
      refine ev_loc f_X12_is (nx := 2) rfl rfl rfl rfl ?_
      refine ev_putIT f_X12_is (nx := 5) rfl (hI.wf.s rfl) rfl rfl rfl (hI.put0 (hI.wf.s rfl) rfl rfl) (hX.upI rfl) (fun g8 e8 hI hX => ?_)
      refine ev_loc f_X12_is (nx := 6) rfl rfl rfl rfl ?_
      refine ev_f f_X12_is (t1 := 9) (t2 := 13) rfl rfl rfl (by decide) ?_
      refine ev_ic f_X12_is (nx := 14) (v := 0) rfl (by decide) rfl ?_
      refine ev_retK1 f_X12_is rfl rfl rfl ?_
      exact ev_ret f_X12_doubt rfl rfl rfl ⟨_, _, _, rfl, hI, hX, ⟨_, rfl, (by decide : (0:Int) ≤ (0:Int32).toInt), (Int.le_trans (by decide : (0:Int32).toInt ≤ (0:Int)) (by decide : (0:Int) ≤ 1))⟩⟩
    · have l9 : 0 ≤ ar2.toInt := t_lel (t_nlt h6) (by decide : (0:Int) ≤ (0:Int32).toInt)
      refine ev_loc f_X12_isPort (nx := 5) rfl rfl rfl rfl ?_
      refine ev_loc f_X12_isPort (nx := 6) rfl rfl rfl rfl ?_
      refine ev_getR f_X12_isPort (nx := 9) rfl (hI.wf.s rfl) rfl rfl (hI.wf.r rfl) rfl rfl ?_
      refine ev_ic f_X12_isPort (nx := 10) (v := 0) rfl (by decide) rfl ?_
      obtain ⟨l10, u10⟩ := hI.ab (by decide +kernel : t_abr 70 0 0 0 6 = true) (Nat.le_refl _) (Nat.le_refl _)
      refine ev_ialdv f_X12_isPort (nx := 11) (w := (gi 70 0)) rfl (hI.wf.s rfl) (by decide) (rfl : (0 : Int32).toNatClampNeg = 0) (by decide) rfl rfl ?_
      refine ev_if f_X12_isPort (t1 := 18) (t2 := 14) rfl rfl rfl (fun h11 => ?_) (fun h11 => ?_)
      · have r12 : (gi 70 0).toInt ≤ ar2.toInt := Int32.le_iff_toInt_le.mp h11
        refine ev_ic f_X12_isPort (nx := 19) (v := 0) rfl (by decide) rfl ?_
        refine ev_retK1 f_X12_isPort rfl rfl rfl ?_
        refine ev_t f_X12_doubt (t1 := 14) (t2 := 20) rfl rfl rfl (by decide) ?_
        refine ev_loc f_X12_doubt (nx := 15) rfl rfl rfl rfl ?_
        refine ev_ic f_X12_doubt (nx := 16) (v := 1) rfl (by decide) rfl ?_
        refine ev_inV2 f_X12_doubt (nx := 19) (lo2 := [(0, .ref 69), (1, .int 1)]) rfl rfl rfl rfl f_X12_is (hI.wf.s rfl) rfl rfl rfl rfl rfl ?_
        refine ev_loc f_X12_is (nx := 1) rfl rfl rfl rfl ?_
        refine ev_loc f_X12_is (nx := 2) rfl rfl rfl rfl ?_
        refine ev_putIT f_X12_is (nx := 5) rfl (hI.wf.s rfl) rfl rfl rfl (hI.put0 (hI.wf.s rfl) rfl rfl) (hX.upI rfl) (fun g13 e13 hI hX => ?_)
        refine ev_loc f_X12_is (nx := 6) rfl rfl rfl rfl ?_
        refine ev_f f_X12_is (t1 := 9) (t2 := 13) rfl rfl rfl (by decide) ?_
        refine ev_ic f_X12_is (nx := 14) (v := 0) rfl (by decide) rfl ?_
        refine ev_retK1 f_X12_is rfl rfl rfl ?_
        exact ev_ret f_X12_doubt rfl rfl rfl ⟨_, _, _, rfl, hI, hX, ⟨_, rfl, (by decide : (0:Int) ≤ (0:Int32).toInt), (Int.le_trans (by decide : (0:Int32).toInt ≤ (0:Int)) (by decide : (0:Int) ≤ 1))⟩⟩
      · have r14 : ar2.toInt < (gi 70 0).toInt := Int32.lt_iff_toInt_lt.mp (t_nle h11)
        have u15 : ar2.toInt ≤ 5 := t_ltu (t_nle h11) u10 rfl
        have l16 : 1 ≤ (gi 70 0).toInt := t_ltl (t_nle h11) l9 rfl
        refine ev_ic f_X12_isPort (nx := 15) (v := 1) rfl (by decide) rfl ?_
        refine ev_jmp f_X12_isPort (nx := 19) rfl rfl rfl ?_
        refine ev_retK1 f_X12_isPort rfl rfl rfl ?_
        refine ev_f f_X12_doubt (t1 := 14) (t2 := 20) rfl rfl rfl (by decide) ?_
        refine ev_loc f_X12_doubt (nx := 21) rfl rfl rfl rfl ?_
        refine ev_loc f_X12_doubt (nx := 22) rfl rfl rfl rfl ?_
        refine ev_qN f_X12_doubt (nx := 25) (r := []) rfl rfl rfl rfl rfl rfl rfl (c_m_findsReadings hI (ar1)) rfl hX rfl (fun gi17 gl17 gr17 hI hX hC17 q17 => ?_)
        have q17 : (gi17 69 29).toInt ≤ 474 := q17
        refine ev_loc f_X12_doubt (nx := 26) rfl rfl rfl rfl ?_
        refine ev_getI f_X12_doubt (nx := 29) rfl (hI.wf.s rfl) rfl rfl rfl ?_
        obtain ⟨l18, u18⟩ := hI.b (hI.wf.s (k := 69) rfl) (t_bdK rfl : t_bd 11 29 = some (0, 500))
        refine ev_if f_X12_doubt (t1 := 32) (t2 := 39) rfl rfl rfl (fun h19 => ?_) (fun h19 => ?_)
        · have u20 : (gi17 69 29).toInt ≤ 0 := t_equ h19 (by decide : (0:Int32).toInt ≤ (0:Int))
          refine ev_loc f_X12_doubt (nx := 33) rfl rfl rfl rfl ?_
          refine ev_bp f_X12_doubt (nx := 35) (v := 6) rfl (by decide) rfl ?_
          refine ev_inV2 f_X12_doubt (nx := 38) (lo2 := [(0, .ref 69), (1, .int 6)]) rfl rfl rfl rfl f_X12_is (hI.wf.s rfl) rfl rfl rfl rfl rfl ?_
          refine ev_loc f_X12_is (nx := 1) rfl rfl rfl rfl ?_
          refine ev_loc f_X12_is (nx := 2) rfl rfl rfl rfl ?_
          refine ev_putIT f_X12_is (nx := 5) rfl (hI.wf.s rfl) rfl rfl rfl (hI.put0 (hI.wf.s rfl) rfl rfl) (hX.upI rfl) (fun g21 e21 hI hX => ?_)
          refine ev_loc f_X12_is (nx := 6) rfl rfl rfl rfl ?_
          refine ev_f f_X12_is (t1 := 9) (t2 := 13) rfl rfl rfl (by decide) ?_
          refine ev_ic f_X12_is (nx := 14) (v := 0) rfl (by decide) rfl ?_
          refine ev_retK1 f_X12_is rfl rfl rfl ?_
          exact ev_ret f_X12_doubt rfl rfl rfl ⟨_, _, _, rfl, hI, hX, ⟨_, rfl, (by decide : (0:Int) ≤ (0:Int32).toInt), (Int.le_trans (by decide : (0:Int32).toInt ≤ (0:Int)) (by decide : (0:Int) ≤ 1))⟩⟩
        · have r22 : (gi17 69 29).toInt ≠ 0 := fun e => h19 (Int32.toInt_inj.mp (e.trans (by decide : (0:Int) = (0 : Int32).toInt)))
          have l23 : 1 ≤ (gi17 69 29).toInt := t_nel h19 l18 rfl rfl
          refine ev_ic f_X12_doubt (nx := 40) (v := 0) rfl (by decide) rfl ?_
          refine ev_loc f_X12_doubt (nx := 42) (lo' := [(4, .int 0), (0, .ref 69), (1, .long ar1), (3, .int ar2)]) rfl rfl rfl rfl ?_
          refine ev_ic f_X12_doubt (nx := 43) (v := 0) rfl (by decide) rfl ?_
          refine ev_loc f_X12_doubt (nx := 45) (lo' := [(5, .int 0), (4, .int 0), (0, .ref 69), (1, .long ar1), (3, .int ar2)]) rfl rfl rfl rfl ?_
          have L24 : ∀ (m24 : Nat) (gi24 : Nat → Nat → Int32) (gl24 : Nat → Nat → Int64) (gr24 : Nat → Nat → Value) (y24_5 : Int32) (y24_4 : Int32), t_I sh gi24 gr24 → t_X wl_m_doubt sh gi gl gr gi24 gl24 gr24 → 0 ≤ y24_5.toInt → y24_5.toInt ≤ 500 → 0 ≤ y24_4.toInt → y24_4.toInt ≤ 500 → gi24 69 29 = (gi17 69 29) → gi24 70 0 = (gi 70 0) → 0 ≤ y24_4.toInt → y24_4.toInt ≤ y24_5.toInt → (500 - y24_5.toInt).toNat = m24 → x_Ev X (d + 5) n_X12_doubt 45 [(5, .int y24_5), (4, .int y24_4), (0, .ref 69), (1, .long ar1), (3, .int ar2)] [] (sh, gi24, gl24, gr24) (t_P wl_m_doubt sh gi gl gr (t_Ri 0 1)) := by
            intro m24
            induction m24 using Nat.strongRecOn with
            | _ m24 ih24 =>
            intro gi24 gl24 gr24 y24_5 y24_4 hI hX l24_5 u24_5 l24_4 u24_4 c24_0 c24_1 j24_0 j24_1 hm24
            refine ev_loc f_X12_doubt (nx := 47) rfl rfl rfl rfl ?_
            refine ev_loc f_X12_doubt (nx := 48) rfl rfl rfl rfl ?_
            refine ev_gvI f_X12_doubt (nx := 51) (w := (gi17 69 29)) rfl (hI.wf.s rfl) rfl rfl c24_0 rfl ?_
            refine ev_if f_X12_doubt (t1 := 92) (t2 := 54) rfl rfl rfl (fun h25 => ?_) (fun h25 => ?_)
            · have r26 : (gi17 69 29).toInt ≤ y24_5.toInt := Int32.le_iff_toInt_le.mp h25
              have l27 : 1 ≤ y24_5.toInt := t_lel h25 l23
              refine ev_loc f_X12_doubt (nx := 93) rfl rfl rfl rfl ?_
              refine ev_loc f_X12_doubt (nx := 95) rfl rfl rfl rfl ?_
              refine ev_anyLE f_X12_doubt (nx := 96) rfl rfl rfl rfl (fun z28 e28 => ?_)
              have i28 : z28.toInt = y24_4.toInt := by rw [e28]; exact Int32.toInt_toInt64 _
              refine ev_loc f_X12_doubt (nx := 97) rfl rfl rfl rfl ?_
              refine ev_gvI f_X12_doubt (nx := 100) (w := (gi17 69 29)) rfl (hI.wf.s rfl) rfl rfl c24_0 rfl ?_
              refine ev_anyLE f_X12_doubt (nx := 101) rfl rfl rfl rfl (fun z29 e29 => ?_)
              have i29 : z29.toInt = (gi17 69 29).toInt := by rw [e29]; exact Int32.toInt_toInt64 _
              refine ev_cI f_X12_doubt (nx := 104) (r := []) rfl rfl rfl rfl rfl rfl rfl (c_m_tellsBy hI (z28) (z29) (by omega) (by omega)) rfl hX rfl (fun w30 gi30 gl30 gr30 l30 u30 hI hX hC30 => ?_)
              exact ev_retZ f_X12_doubt rfl (Int.le_trans (by decide : (0:Int) ≤ 1) l30) u30 ⟨_, _, _, rfl, hI, hX, ⟨_, rfl, (Int.le_trans (by decide : (0:Int) ≤ 1) l30), u30⟩⟩
            · have r31 : y24_5.toInt < (gi17 69 29).toInt := Int32.lt_iff_toInt_lt.mp (t_nle h25)
              have u32 : y24_5.toInt ≤ 499 := t_ltu (t_nle h25) u18 rfl
              refine ev_loc f_X12_doubt (nx := 56) rfl rfl rfl rfl ?_
              refine ev_loc f_X12_doubt (nx := 57) rfl rfl rfl rfl ?_
              refine ev_getR f_X12_doubt (nx := 60) rfl (hI.wf.s rfl) rfl rfl (hI.wf.r rfl) rfl rfl ?_
              refine ev_loc f_X12_doubt (nx := 62) rfl rfl rfl rfl ?_
              refine ev_ialdT f_X12_doubt (nx := 63) rfl (hI.wf.s rfl) l24_5 (by decide) u32 (by decide) rfl (fun w33 e33 => ?_)
              refine ev_loc f_X12_doubt (nx := 64) rfl rfl rfl rfl ?_
              refine ev_if f_X12_doubt (t1 := 78) (t2 := 67) rfl rfl rfl (fun h34 => ?_) (fun h34 => ?_)
              · have r35 : w33.toInt = ar2.toInt := t_eqi h34
                have u36 : w33.toInt ≤ 5 := t_equ h34 u15
                have l37 : 0 ≤ w33.toInt := t_eql h34 l9
                refine ev_ic f_X12_doubt (nx := 79) (v := 1) rfl (by decide) rfl ?_
                refine ev_jmp f_X12_doubt (nx := 83) rfl rfl rfl ?_
                refine ev_addC f_X12_doubt (nx := 84) (c := 1) (l := 1) (u := 501) rfl (by decide) l24_4 u24_4 rfl rfl (by decide) (by decide) rfl (fun z38 e38 l38 u38 => ?_)
                refine ev_loc f_X12_doubt (nx := 86) (lo' := [(4, .int z38), (5, .int y24_5), (0, .ref 69), (1, .long ar1), (3, .int ar2)]) rfl rfl rfl rfl ?_
                refine ev_incR f_X12_doubt (nx := 89) (c := 1) (l := 1) (u := 500) rfl rfl (by decide) (by decide) l24_5 u32 rfl rfl (by decide) (by decide) rfl (fun z39 e39 l39 u39 => ?_)
                refine ev_jmp f_X12_doubt (nx := 45) rfl rfl rfl ?_
                refine ev_sub (lo := [(5, .int z39), (4, .int z38), (0, .ref 69), (1, .long ar1), (3, .int ar2)]) rfl (t_sc rfl (t_sc rfl (t_sc rfl (t_sc rfl (t_sc rfl t_sn))))) ?_
                exact ih24 _ (by omega) gi24 gl24 gr24 (z39) (z38) hI hX  (Int.le_trans (by decide : (0:Int) ≤ 1) l39) u39 (Int.le_trans (by decide : (0:Int) ≤ 1) l38) (by omega : z38.toInt ≤ (500:Int)) c24_0 c24_1 (by omega) (by omega) rfl
              · have r40 : w33.toInt ≠ ar2.toInt := t_nei h34
                refine ev_loc f_X12_doubt (nx := 68) rfl rfl rfl rfl ?_
                refine ev_getR f_X12_doubt (nx := 71) rfl (hI.wf.s rfl) rfl rfl (hI.wf.r rfl) rfl rfl ?_
                refine ev_loc f_X12_doubt (nx := 73) rfl rfl rfl rfl ?_
                refine ev_ialdT f_X12_doubt (nx := 74) rfl (hI.wf.s rfl) l24_5 (by decide) u32 (by decide) rfl (fun w41 e41 => ?_)
                refine ev_loc f_X12_doubt (nx := 75) rfl rfl rfl rfl ?_
                refine ev_if f_X12_doubt (t1 := 78) (t2 := 82) rfl rfl rfl (fun h42 => ?_) (fun h42 => ?_)
                · have r43 : w41.toInt = ar2.toInt := t_eqi h42
                  have u44 : w41.toInt ≤ 5 := t_equ h42 u15
                  have l45 : 0 ≤ w41.toInt := t_eql h42 l9
                  refine ev_ic f_X12_doubt (nx := 79) (v := 1) rfl (by decide) rfl ?_
                  refine ev_jmp f_X12_doubt (nx := 83) rfl rfl rfl ?_
                  refine ev_addC f_X12_doubt (nx := 84) (c := 1) (l := 1) (u := 501) rfl (by decide) l24_4 u24_4 rfl rfl (by decide) (by decide) rfl (fun z46 e46 l46 u46 => ?_)
                  refine ev_loc f_X12_doubt (nx := 86) (lo' := [(4, .int z46), (5, .int y24_5), (0, .ref 69), (1, .long ar1), (3, .int ar2)]) rfl rfl rfl rfl ?_
                  refine ev_incR f_X12_doubt (nx := 89) (c := 1) (l := 1) (u := 500) rfl rfl (by decide) (by decide) l24_5 u32 rfl rfl (by decide) (by decide) rfl (fun z47 e47 l47 u47 => ?_)
                  refine ev_jmp f_X12_doubt (nx := 45) rfl rfl rfl ?_
                  refine ev_sub (lo := [(5, .int z47), (4, .int z46), (0, .ref 69), (1, .long ar1), (3, .int ar2)]) rfl (t_sc rfl (t_sc rfl (t_sc rfl (t_sc rfl (t_sc rfl t_sn))))) ?_
                  exact ih24 _ (by omega) gi24 gl24 gr24 (z47) (z46) hI hX  (Int.le_trans (by decide : (0:Int) ≤ 1) l47) u47 (Int.le_trans (by decide : (0:Int) ≤ 1) l46) (by omega : z46.toInt ≤ (500:Int)) c24_0 c24_1 (by omega) (by omega) rfl
                · have r48 : w41.toInt ≠ ar2.toInt := t_nei h42
                  refine ev_ic f_X12_doubt (nx := 83) (v := 0) rfl (by decide) rfl ?_
                  refine ev_addC f_X12_doubt (nx := 84) (c := 0) (l := 0) (u := 500) rfl (by decide) l24_4 u24_4 rfl rfl (by decide) (by decide) rfl (fun z49 e49 l49 u49 => ?_)
                  refine ev_loc f_X12_doubt (nx := 86) (lo' := [(4, .int z49), (5, .int y24_5), (0, .ref 69), (1, .long ar1), (3, .int ar2)]) rfl rfl rfl rfl ?_
                  refine ev_incR f_X12_doubt (nx := 89) (c := 1) (l := 1) (u := 500) rfl rfl (by decide) (by decide) l24_5 u32 rfl rfl (by decide) (by decide) rfl (fun z50 e50 l50 u50 => ?_)
                  refine ev_jmp f_X12_doubt (nx := 45) rfl rfl rfl ?_
                  refine ev_sub (lo := [(5, .int z50), (4, .int z49), (0, .ref 69), (1, .long ar1), (3, .int ar2)]) rfl (t_sc rfl (t_sc rfl (t_sc rfl (t_sc rfl (t_sc rfl t_sn))))) ?_
                  exact ih24 _ (by omega) gi24 gl24 gr24 (z50) (z49) hI hX  (Int.le_trans (by decide : (0:Int) ≤ 1) l50) u50 l49 u49 c24_0 c24_1 (by omega) (by omega) rfl
          refine ev_sub (lo := [(5, .int 0), (4, .int 0), (0, .ref 69), (1, .long ar1), (3, .int ar2)]) rfl (t_sc rfl (t_sc rfl (t_sc rfl (t_sc rfl (t_sc rfl t_sn))))) ?_
          exact L24 _ gi17 gl17 gr17 (0) (0) hI hX  (by decide : (0:Int) ≤ (0:Int32).toInt) (Int.le_trans (by decide : (0:Int32).toInt ≤ (0:Int)) (by decide : (0:Int) ≤ 500)) (by decide : (0:Int) ≤ (0:Int32).toInt) (Int.le_trans (by decide : (0:Int32).toInt ≤ (0:Int)) (by decide : (0:Int) ≤ 500)) rfl ((hC17.1 70 0 rfl).1.trans rfl) (by have kf51 : (0 : Int32).toInt = 0 := (by decide); omega) (by have kf52 : (0 : Int32).toInt = 0 := (by decide); omega) rfl
noncomputable def wl_m_laysCalls : List (Nat × Nat) := [(69, 39), (70, 175211755), (84, 9999), (85, 9999), (87, 9999)]
noncomputable def Q_m_laysCalls (gi : Nat → Nat → Int32) (gl : Nat → Nat → Int64) (gr : Nat → Nat → Value) (ar1 : Int32) (ar2 : Int32) : (Nat → Nat → Int32) → (Nat → Nat → Int64) → (Nat → Nat → Value) → Prop := fun (gi2 : Nat → Nat → Int32) (gl2 : Nat → Nat → Int64) (gr2 : Nat → Nat → Value) => 2 ≤ (gi2 69 39).toInt ∧ (gi2 69 39).toInt ≤ 30
theorem c_m_laysCalls {X : x_Ext} {d : Nat} {sh : List (Nat ⊕ (Nat × Nat))} {gi : Nat → Nat → Int32} {gl : Nat → Nat → Int64} {gr : Nat → Nat → Value} (hI : t_I sh gi gr) (ar1 : Int32) (l_a1 : 1 ≤ ar1.toInt) (u_a1 : ar1.toInt ≤ 4) (ar2 : Int32) (l_a2 : 0 ≤ ar2.toInt) (u_a2 : ar2.toInt ≤ 9) : x_Me X (d + 2) n_X12_laysCalls [.ref 69, .int ar1, .int ar2] (sh, gi, gl, gr) (t_PN wl_m_laysCalls sh gi gl gr (Q_m_laysCalls gi gl gr ar1 ar2)) := by
  have hX : t_X wl_m_laysCalls sh gi gl gr gi gl gr := t_X.rf
  refine me_i f_X12_laysCalls (hI.wf.s rfl) rfl rfl rfl ?_
  obtain ⟨l1, u1⟩ := hI.b (hI.wf.s (k := 69) rfl) (t_bdK rfl : t_bd 11 39 = some (0, 30))
  refine ev_loc f_X12_laysCalls (nx := 1) rfl rfl rfl rfl ?_
  refine ev_ic f_X12_laysCalls (nx := 2) (v := 0) rfl (by decide) rfl ?_
  refine ev_putIT f_X12_laysCalls (nx := 5) rfl (hI.wf.s rfl) rfl rfl rfl (hI.putB (hI.wf.s rfl) rfl rfl (by decide : (0:Int) ≤ (0:Int32).toInt) (by decide) (by decide : (0:Int32).toInt ≤ (0:Int)) (by decide)) (hX.upI rfl) (fun g2 e2 hI hX => ?_)
  refine ev_ic f_X12_laysCalls (nx := 6) (v := 1) rfl (by decide) rfl ?_
  refine ev_loc f_X12_laysCalls (nx := 7) (lo' := [(3, .int 1), (0, .ref 69), (1, .int ar1), (2, .int ar2)]) rfl rfl rfl rfl ?_
  have L3 : ∀ (m3 : Nat) (gi3 : Nat → Nat → Int32) (gl3 : Nat → Nat → Int64) (gr3 : Nat → Nat → Value) (y3_3 : Int32), t_I sh gi3 gr3 → t_X wl_m_laysCalls sh gi gl gr gi3 gl3 gr3 → 1 ≤ y3_3.toInt → y3_3.toInt ≤ 5 → ((y3_3.toInt = 1 ∧ (gi3 69 39).toInt = 0) ∨ (y3_3.toInt = 2 ∧ (gi3 69 39).toInt = 2) ∨ (y3_3.toInt = 3 ∧ (gi3 69 39).toInt = 6) ∨ (y3_3.toInt = 4 ∧ (gi3 69 39).toInt = 14) ∨ (y3_3.toInt = 5 ∧ (gi3 69 39).toInt = 30)) → (5 - y3_3.toInt).toNat = m3 → x_Ev X (d + 2) n_X12_laysCalls 7 [(3, .int y3_3), (0, .ref 69), (1, .int ar1), (2, .int ar2)] [] (sh, gi3, gl3, gr3) (t_PN wl_m_laysCalls sh gi gl gr (Q_m_laysCalls gi gl gr ar1 ar2)) := by
    intro m3
    induction m3 using Nat.strongRecOn with
    | _ m3 ih3 =>
    intro gi3 gl3 gr3 y3_3 hI hX l3_3 u3_3 j3_0 hm3
    obtain ⟨l4, u4⟩ := hI.b (hI.wf.s (k := 69) rfl) (t_bdK rfl : t_bd 11 39 = some (0, 30))
    refine ev_loc f_X12_laysCalls (nx := 8) rfl rfl rfl rfl ?_
    refine ev_loc f_X12_laysCalls (nx := 9) rfl rfl rfl rfl ?_
    refine ev_if f_X12_laysCalls (t1 := 172) (t2 := 12) rfl rfl rfl (fun h5 => ?_) (fun h5 => ?_)
    · have r6 : ar1.toInt < y3_3.toInt := Int32.lt_iff_toInt_lt.mp h5
      have l7 : 2 ≤ y3_3.toInt := t_ltl h5 l_a1 rfl
      exact ev_ret f_X12_laysCalls rfl rfl rfl ⟨_, _, _, rfl, hI, hX, ⟨rfl, (show 2 ≤ (gi3 69 39).toInt ∧ (gi3 69 39).toInt ≤ 30 from (by omega))⟩⟩
    · have r8 : y3_3.toInt ≤ ar1.toInt := Int32.le_iff_toInt_le.mp (t_nlt h5)
      have u9 : y3_3.toInt ≤ 4 := t_leu (t_nlt h5) u_a1
      refine ev_ic f_X12_laysCalls (nx := 13) (v := 0) rfl (by decide) rfl ?_
      refine ev_loc f_X12_laysCalls (nx := 15) (lo' := [(4, .int 0), (3, .int y3_3), (0, .ref 69), (1, .int ar1), (2, .int ar2)]) rfl rfl rfl rfl ?_
      have L10 : ∀ (m10 : Nat) (gi10 : Nat → Nat → Int32) (gl10 : Nat → Nat → Int64) (gr10 : Nat → Nat → Value) (y10_4 : Int32), t_I sh gi10 gr10 → t_X wl_m_laysCalls sh gi gl gr gi10 gl10 gr10 → 0 ≤ y10_4.toInt → y10_4.toInt ≤ 16 → ((y3_3.toInt = 1 ∧ (gi10 69 39).toInt = y10_4.toInt ∧ y10_4.toInt ≤ 2) ∨ (y3_3.toInt = 2 ∧ (gi10 69 39).toInt = 2 + y10_4.toInt ∧ y10_4.toInt ≤ 4) ∨ (y3_3.toInt = 3 ∧ (gi10 69 39).toInt = 6 + y10_4.toInt ∧ y10_4.toInt ≤ 8) ∨ (y3_3.toInt = 4 ∧ (gi10 69 39).toInt = 14 + y10_4.toInt ∧ y10_4.toInt ≤ 16)) → (16 - y10_4.toInt).toNat = m10 → x_Ev X (d + 2) n_X12_laysCalls 15 [(4, .int y10_4), (3, .int y3_3), (0, .ref 69), (1, .int ar1), (2, .int ar2)] [] (sh, gi10, gl10, gr10) (t_PN wl_m_laysCalls sh gi gl gr (Q_m_laysCalls gi gl gr ar1 ar2)) := by
        intro m10
        induction m10 using Nat.strongRecOn with
        | _ m10 ih10 =>
        intro gi10 gl10 gr10 y10_4 hI hX l10_4 u10_4 j10_0 hm10
        clear j3_0
        obtain ⟨l11, u11⟩ := hI.b (hI.wf.s (k := 69) rfl) (t_bdK rfl : t_bd 11 39 = some (0, 30))
        refine ev_loc f_X12_laysCalls (nx := 17) rfl rfl rfl rfl ?_
        refine ev_ic f_X12_laysCalls (nx := 18) (v := 1) rfl (by decide) rfl ?_
        refine ev_loc f_X12_laysCalls (nx := 19) rfl rfl rfl rfl ?_
        refine ev_shl1E f_X12_laysCalls (nx := 20) rfl l3_3 u9 (by decide) (by decide) rfl (fun z12 s12 => ?_)
        have l12 : 2 ≤ z12.toInt := by have := l3_3; have := u9; omega
        have u12 : z12.toInt ≤ 16 := by have := l3_3; have := u9; omega
        refine ev_if f_X12_laysCalls (t1 := 166) (t2 := 23) rfl rfl rfl (fun h13 => ?_) (fun h13 => ?_)
        · have r14 : z12.toInt ≤ y10_4.toInt := Int32.le_iff_toInt_le.mp h13
          have l15 : 2 ≤ y10_4.toInt := t_lel h13 l12
          refine ev_incR f_X12_laysCalls (nx := 169) (c := 1) (l := 2) (u := 5) rfl rfl (by decide) (by decide) l3_3 u9 rfl rfl (by decide) (by decide) rfl (fun z16 e16 l16 u16 => ?_)
          refine ev_jmp f_X12_laysCalls (nx := 7) rfl rfl rfl ?_
          refine ev_sub (lo := [(3, .int z16), (0, .ref 69), (1, .int ar1), (2, .int ar2)]) rfl (t_sc rfl (t_sc rfl (t_sc rfl (t_sc rfl t_sn)))) ?_
          exact ih3 _ (by omega) gi10 gl10 gr10 (z16) hI hX  (Int.le_trans (by decide : (1:Int) ≤ 2) l16) u16 (by rcases j10_0 with hh | hh | hh | hh; exact Or.inr (Or.inl ⟨by omega, by omega⟩); exact Or.inr (Or.inr (Or.inl ⟨by omega, by omega⟩)); exact Or.inr (Or.inr (Or.inr (Or.inl ⟨by omega, by omega⟩))); exact Or.inr (Or.inr (Or.inr (Or.inr ⟨by omega, by omega⟩)))) rfl
        · have r17 : y10_4.toInt < z12.toInt := Int32.lt_iff_toInt_lt.mp (t_nle h13)
          have u18 : y10_4.toInt ≤ 15 := t_ltu (t_nle h13) u12 rfl
          refine ev_lc f_X12_laysCalls (nx := 24) (v := 0) rfl (by decide) rfl ?_
          refine ev_loc f_X12_laysCalls (nx := 26) (lo' := [(5, .long 0), (4, .int y10_4), (3, .int y3_3), (0, .ref 69), (1, .int ar1), (2, .int ar2)]) rfl rfl rfl rfl ?_
          refine ev_ic f_X12_laysCalls (nx := 27) (v := 0) rfl (by decide) rfl ?_
          refine ev_loc f_X12_laysCalls (nx := 29) (lo' := [(7, .int 0), (5, .long 0), (4, .int y10_4), (3, .int y3_3), (0, .ref 69), (1, .int ar1), (2, .int ar2)]) rfl rfl rfl rfl ?_
          have L19 : ∀ (m19 : Nat) (gi19 : Nat → Nat → Int32) (gl19 : Nat → Nat → Int64) (gr19 : Nat → Nat → Value) (y19_7 : Int32) (y19_5 : Int64), t_I sh gi19 gr19 → t_X wl_m_laysCalls sh gi gl gr gi19 gl19 gr19 → 0 ≤ y19_7.toInt → y19_7.toInt ≤ 4 → ((y3_3.toInt = 1 ∧ (gi19 69 39).toInt = y10_4.toInt ∧ y10_4.toInt < 2) ∨ (y3_3.toInt = 2 ∧ (gi19 69 39).toInt = 2 + y10_4.toInt ∧ y10_4.toInt < 4) ∨ (y3_3.toInt = 3 ∧ (gi19 69 39).toInt = 6 + y10_4.toInt ∧ y10_4.toInt < 8) ∨ (y3_3.toInt = 4 ∧ (gi19 69 39).toInt = 14 + y10_4.toInt ∧ y10_4.toInt < 16)) → (4 - y19_7.toInt).toNat = m19 → x_Ev X (d + 2) n_X12_laysCalls 29 [(7, .int y19_7), (5, .long y19_5), (4, .int y10_4), (3, .int y3_3), (0, .ref 69), (1, .int ar1), (2, .int ar2)] [] (sh, gi19, gl19, gr19) (t_PN wl_m_laysCalls sh gi gl gr (Q_m_laysCalls gi gl gr ar1 ar2)) := by
            intro m19
            induction m19 using Nat.strongRecOn with
            | _ m19 ih19 =>
            intro gi19 gl19 gr19 y19_7 y19_5 hI hX l19_7 u19_7 j19_0 hm19
            clear j10_0 s12
            obtain ⟨l20, u20⟩ := hI.b (hI.wf.s (k := 69) rfl) (t_bdK rfl : t_bd 11 39 = some (0, 30))
            refine ev_loc f_X12_laysCalls (nx := 31) rfl rfl rfl rfl ?_
            refine ev_loc f_X12_laysCalls (nx := 32) rfl rfl rfl rfl ?_
            refine ev_if f_X12_laysCalls (t1 := 108) (t2 := 35) rfl rfl rfl (fun h21 => ?_) (fun h21 => ?_)
            · have r22 : y3_3.toInt ≤ y19_7.toInt := Int32.le_iff_toInt_le.mp h21
              have l23 : 1 ≤ y19_7.toInt := t_lel h21 l3_3
              refine ev_loc f_X12_laysCalls (nx := 109) rfl rfl rfl rfl ?_
              refine ev_getR f_X12_laysCalls (nx := 112) rfl (hI.wf.s rfl) rfl rfl (hI.wf.r rfl) rfl rfl ?_
              refine ev_loc f_X12_laysCalls (nx := 113) rfl rfl rfl rfl ?_
              refine ev_gvI f_X12_laysCalls (nx := 116) (w := (gi19 69 39)) rfl (hI.wf.s rfl) rfl rfl rfl rfl ?_
              refine ev_loc f_X12_laysCalls (nx := 117) rfl rfl rfl rfl ?_
              refine ev_sp f_X12_laysCalls (nx := 120) (v := 1752) rfl (by decide) rfl ?_
              refine ev_loc f_X12_laysCalls (nx := 121) rfl rfl rfl rfl ?_
              refine ev_qL f_X12_laysCalls (nx := 124) (r := [.int (gi19 69 39), .ref 84]) rfl rfl rfl rfl rfl rfl rfl (c_m_beatsOf hI (1752) (Int.le_trans (by decide : (11:Int) ≤ 1752) (by decide : (1752:Int) ≤ (1752:Int32).toInt)) (by decide : (1752:Int32).toInt ≤ (1752:Int)) (y3_3) (Int.le_trans u9 (by decide : (4:Int) ≤ 6))) rfl hX rfl (fun w24 gi24 gl24 gr24 hI hX hC24 q24 => ?_)
              have q24 : 0 ≤ w24.toInt ∧ w24.toInt < 16777216 := q24
              refine ev_loc f_X12_laysCalls (nx := 125) rfl rfl rfl rfl ?_
              refine ev_inS2 f_X12_laysCalls (nx := 128) (lo2 := [(0, .long w24), (2, .int ar2)]) rfl rfl rfl rfl f_X12_echoed rfl rfl rfl rfl ?_
              refine ev_loc f_X12_echoed (nx := 1) rfl rfl rfl rfl ?_
              refine ev_if f_X12_echoed (t1 := 4) (t2 := 8) rfl rfl rfl (fun h25 => ?_) (fun h25 => ?_)
              · have u26 : ar2.toInt ≤ 0 := t_equ h25 (by decide : (0:Int32).toInt ≤ (0:Int))
                refine ev_loc f_X12_echoed (nx := 5) rfl rfl rfl rfl ?_
                refine ev_jmp f_X12_echoed (nx := 13) rfl rfl rfl ?_
                refine ev_retK1 f_X12_echoed rfl rfl rfl ?_
                have u28 : (gi19 69 39).toInt ≤ (29:Int) := (by omega)
                refine ev_lastT f_X12_laysCalls (nx := 129) rfl (hI.wf.s rfl) l20 (by decide) u28 (by decide) rfl (hX.upL (t_inA_ok rfl)) (fun g27 e27 hX => ?_)
                refine ev_loc f_X12_laysCalls (nx := 130) rfl rfl rfl rfl ?_
                refine ev_getR f_X12_laysCalls (nx := 133) rfl (hI.wf.s rfl) rfl rfl (hI.wf.r rfl) rfl rfl ?_
                refine ev_loc f_X12_laysCalls (nx := 134) rfl rfl rfl rfl ?_
                refine ev_gvI f_X12_laysCalls (nx := 137) (w := (gi19 69 39)) rfl (hI.wf.s rfl) rfl rfl ((hC24.1 69 39 rfl).1.trans rfl) rfl ?_
                refine ev_loc f_X12_laysCalls (nx := 139) rfl rfl rfl rfl ?_
                refine ev_lastT f_X12_laysCalls (nx := 140) rfl (hI.wf.s rfl) l20 (by decide) u28 (by decide) rfl (hX.upL (t_inA_ok rfl)) (fun g29 e29 hX => ?_)
                refine ev_loc f_X12_laysCalls (nx := 141) rfl rfl rfl rfl ?_
                refine ev_getR f_X12_laysCalls (nx := 144) rfl (hI.wf.s rfl) rfl rfl (hI.wf.r rfl) rfl rfl ?_
                refine ev_loc f_X12_laysCalls (nx := 145) rfl rfl rfl rfl ?_
                refine ev_gvI f_X12_laysCalls (nx := 148) (w := (gi19 69 39)) rfl (hI.wf.s rfl) rfl rfl ((hC24.1 69 39 rfl).1.trans rfl) rfl ?_
                refine ev_loc f_X12_laysCalls (nx := 149) rfl rfl rfl rfl ?_
                refine ev_iastT f_X12_laysCalls (nx := 150) rfl (hI.wf.s rfl) l20 (by decide) u28 (by decide) rfl (hI.astG (hI.wf.s rfl) (fun lo hi e => absurd e (t_nob (by decide +kernel) _)) (fun k hk e => by have := hk.2.1; omega)) (hX.upI (t_inA_ok rfl)) (fun g30 e30 hI hX => ?_)
                refine ev_loc f_X12_laysCalls (nx := 151) rfl rfl rfl rfl ?_
                refine ev_alu f_X12_laysCalls (nx := 152) rfl rfl rfl rfl ?_
                refine ev_gvI f_X12_laysCalls (nx := 155) (w := (gi19 69 39)) rfl (hI.wf.s rfl) rfl rfl ((by rw [e30]; exact x_up2_off (Or.inl (by decide)) : g30 69 39 = gi24 69 39).trans ((hC24.1 69 39 rfl).1.trans rfl)) rfl ?_
                refine ev_ic f_X12_laysCalls (nx := 156) (v := 1) rfl (by decide) rfl ?_
                refine ev_addC f_X12_laysCalls (nx := 157) (c := 1) (l := 1) (u := 30) rfl (by decide) l20 u28 rfl rfl (by decide) (by decide) rfl (fun z31 e31 l31 u31 => ?_)
                refine ev_putIT f_X12_laysCalls (nx := 160) rfl (hI.wf.s rfl) rfl rfl rfl (hI.putB (hI.wf.s rfl) rfl rfl l31 (by decide) u31 (by decide)) (hX.upI rfl) (fun g32 e32 hI hX => ?_)
                refine ev_incR f_X12_laysCalls (nx := 163) (c := 1) (l := 1) (u := 16) rfl rfl (by decide) (by decide) l10_4 u18 rfl rfl (by decide) (by decide) rfl (fun z33 e33 l33 u33 => ?_)
                refine ev_jmp f_X12_laysCalls (nx := 15) rfl rfl rfl ?_
                refine ev_sub (lo := [(4, .int z33), (3, .int y3_3), (0, .ref 69), (1, .int ar1), (2, .int ar2)]) rfl (t_sc rfl (t_sc rfl (t_sc rfl (t_sc rfl (t_sc rfl t_sn))))) ?_
                exact ih10 _ (by omega) g32 g29 gr24 (z33) hI hX  (Int.le_trans (by decide : (0:Int) ≤ 1) l33) u33 (by have ff34 : (g32 69 39).toInt = z31.toInt := congrArg Int32.toInt (by rw [e32]; exact x_up2_at _ _ _ _ : g32 69 39 = z31); rcases j19_0 with hh | hh | hh | hh; exact Or.inl ⟨hh.1, by omega, by omega⟩; exact Or.inr (Or.inl ⟨hh.1, by omega, by omega⟩); exact Or.inr (Or.inr (Or.inl ⟨hh.1, by omega, by omega⟩)); exact Or.inr (Or.inr (Or.inr ⟨hh.1, by omega, by omega⟩))) rfl
              · have r35 : ar2.toInt ≠ 0 := fun e => h25 (Int32.toInt_inj.mp (e.trans (by decide : (0:Int) = (0 : Int32).toInt)))
                have l36 : 1 ≤ ar2.toInt := t_nel h25 l_a2 rfl rfl
                refine ev_loc f_X12_echoed (nx := 9) rfl rfl rfl rfl ?_
                refine ev_loc f_X12_echoed (nx := 10) rfl rfl rfl rfl ?_
                refine ev_loc f_X12_echoed (nx := 11) rfl rfl rfl rfl ?_
                refine ev_anyL f_X12_echoed (nx := 12) rfl rfl rfl rfl (fun z37 => ?_)
                refine ev_anyL f_X12_echoed (nx := 13) rfl rfl rfl rfl (fun z38 => ?_)
                refine ev_retK1 f_X12_echoed rfl rfl rfl ?_
                have u40 : (gi19 69 39).toInt ≤ (29:Int) := (by omega)
                refine ev_lastT f_X12_laysCalls (nx := 129) rfl (hI.wf.s rfl) l20 (by decide) u40 (by decide) rfl (hX.upL (t_inA_ok rfl)) (fun g39 e39 hX => ?_)
                refine ev_loc f_X12_laysCalls (nx := 130) rfl rfl rfl rfl ?_
                refine ev_getR f_X12_laysCalls (nx := 133) rfl (hI.wf.s rfl) rfl rfl (hI.wf.r rfl) rfl rfl ?_
                refine ev_loc f_X12_laysCalls (nx := 134) rfl rfl rfl rfl ?_
                refine ev_gvI f_X12_laysCalls (nx := 137) (w := (gi19 69 39)) rfl (hI.wf.s rfl) rfl rfl ((hC24.1 69 39 rfl).1.trans rfl) rfl ?_
                refine ev_loc f_X12_laysCalls (nx := 139) rfl rfl rfl rfl ?_
                refine ev_lastT f_X12_laysCalls (nx := 140) rfl (hI.wf.s rfl) l20 (by decide) u40 (by decide) rfl (hX.upL (t_inA_ok rfl)) (fun g41 e41 hX => ?_)
                refine ev_loc f_X12_laysCalls (nx := 141) rfl rfl rfl rfl ?_
                refine ev_getR f_X12_laysCalls (nx := 144) rfl (hI.wf.s rfl) rfl rfl (hI.wf.r rfl) rfl rfl ?_
                refine ev_loc f_X12_laysCalls (nx := 145) rfl rfl rfl rfl ?_
                refine ev_gvI f_X12_laysCalls (nx := 148) (w := (gi19 69 39)) rfl (hI.wf.s rfl) rfl rfl ((hC24.1 69 39 rfl).1.trans rfl) rfl ?_
                refine ev_loc f_X12_laysCalls (nx := 149) rfl rfl rfl rfl ?_
                refine ev_iastT f_X12_laysCalls (nx := 150) rfl (hI.wf.s rfl) l20 (by decide) u40 (by decide) rfl (hI.astG (hI.wf.s rfl) (fun lo hi e => absurd e (t_nob (by decide +kernel) _)) (fun k hk e => by have := hk.2.1; omega)) (hX.upI (t_inA_ok rfl)) (fun g42 e42 hI hX => ?_)
                refine ev_loc f_X12_laysCalls (nx := 151) rfl rfl rfl rfl ?_
                refine ev_alu f_X12_laysCalls (nx := 152) rfl rfl rfl rfl ?_
                refine ev_gvI f_X12_laysCalls (nx := 155) (w := (gi19 69 39)) rfl (hI.wf.s rfl) rfl rfl ((by rw [e42]; exact x_up2_off (Or.inl (by decide)) : g42 69 39 = gi24 69 39).trans ((hC24.1 69 39 rfl).1.trans rfl)) rfl ?_
                refine ev_ic f_X12_laysCalls (nx := 156) (v := 1) rfl (by decide) rfl ?_
                refine ev_addC f_X12_laysCalls (nx := 157) (c := 1) (l := 1) (u := 30) rfl (by decide) l20 u40 rfl rfl (by decide) (by decide) rfl (fun z43 e43 l43 u43 => ?_)
                refine ev_putIT f_X12_laysCalls (nx := 160) rfl (hI.wf.s rfl) rfl rfl rfl (hI.putB (hI.wf.s rfl) rfl rfl l43 (by decide) u43 (by decide)) (hX.upI rfl) (fun g44 e44 hI hX => ?_)
                refine ev_incR f_X12_laysCalls (nx := 163) (c := 1) (l := 1) (u := 16) rfl rfl (by decide) (by decide) l10_4 u18 rfl rfl (by decide) (by decide) rfl (fun z45 e45 l45 u45 => ?_)
                refine ev_jmp f_X12_laysCalls (nx := 15) rfl rfl rfl ?_
                refine ev_sub (lo := [(4, .int z45), (3, .int y3_3), (0, .ref 69), (1, .int ar1), (2, .int ar2)]) rfl (t_sc rfl (t_sc rfl (t_sc rfl (t_sc rfl (t_sc rfl t_sn))))) ?_
                exact ih10 _ (by omega) g44 g41 gr24 (z45) hI hX  (Int.le_trans (by decide : (0:Int) ≤ 1) l45) u45 (by have ff46 : (g44 69 39).toInt = z43.toInt := congrArg Int32.toInt (by rw [e44]; exact x_up2_at _ _ _ _ : g44 69 39 = z43); rcases j19_0 with hh | hh | hh | hh; exact Or.inl ⟨hh.1, by omega, by omega⟩; exact Or.inr (Or.inl ⟨hh.1, by omega, by omega⟩); exact Or.inr (Or.inr (Or.inl ⟨hh.1, by omega, by omega⟩)); exact Or.inr (Or.inr (Or.inr ⟨hh.1, by omega, by omega⟩))) rfl
            · have r47 : y19_7.toInt < y3_3.toInt := Int32.lt_iff_toInt_lt.mp (t_nle h21)
              have u48 : y19_7.toInt ≤ 3 := t_ltu (t_nle h21) u9 rfl
              refine ev_loc f_X12_laysCalls (nx := 37) rfl rfl rfl rfl ?_
              refine ev_loc f_X12_laysCalls (nx := 38) rfl rfl rfl rfl ?_
              refine ev_ic f_X12_laysCalls (nx := 39) (v := 1) rfl (by decide) rfl ?_
              refine ev_subC f_X12_laysCalls (nx := 40) (c := 1) (l := 0) (u := 3) rfl (by decide) l3_3 u9 rfl rfl (by decide) (by decide) rfl (fun z49 e49 l49 u49 => ?_)
              refine ev_loc f_X12_laysCalls (nx := 42) rfl rfl rfl rfl ?_
              refine ev_subR f_X12_laysCalls (nx := 43) (l := (-3)) (u := 3) rfl l49 u49 l19_7 u48 rfl rfl (by decide) (by decide) rfl (fun z50 e50 l50 u50 => ?_)
              refine ev_anyI f_X12_laysCalls (nx := 44) rfl rfl rfl rfl (fun z51 => ?_)
              refine ev_ic f_X12_laysCalls (nx := 45) (v := 1) rfl (by decide) rfl ?_
              refine ev_andE f_X12_laysCalls (nx := 46) (c := 1) rfl (by decide) (by decide) rfl (fun z52 e52 l52 u52 => ?_)
              refine ev_ic f_X12_laysCalls (nx := 47) (v := 1) rfl (by decide) rfl ?_
              refine ev_if f_X12_laysCalls (t1 := 50) (t2 := 54) rfl rfl rfl (fun h53 => ?_) (fun h53 => ?_)
              · have l54 : 1 ≤ z52.toInt := t_eql h53 (by decide : (1:Int) ≤ (1:Int32).toInt)
                refine ev_ic f_X12_laysCalls (nx := 51) (v := 1) rfl (by decide) rfl ?_
                refine ev_jmp f_X12_laysCalls (nx := 55) rfl rfl rfl ?_
                refine ev_loc f_X12_laysCalls (nx := 57) (lo' := [(8, .int 1), (7, .int y19_7), (5, .long y19_5), (4, .int y10_4), (3, .int y3_3), (0, .ref 69), (1, .int ar1), (2, .int ar2)]) rfl rfl rfl rfl ?_
                refine ev_loc f_X12_laysCalls (nx := 58) rfl rfl rfl rfl ?_
                refine ev_getR f_X12_laysCalls (nx := 61) rfl (hI.wf.s rfl) rfl rfl (hI.wf.r rfl) rfl rfl ?_
                refine ev_sp f_X12_laysCalls (nx := 64) (v := 1752) rfl (by decide) rfl ?_
                refine ev_loc f_X12_laysCalls (nx := 66) rfl rfl rfl rfl ?_
                refine ev_addK f_X12_laysCalls (nx := 67) (c := 1752) (l := 1752) (u := 1755) rfl (by decide) l19_7 u48 rfl rfl (by decide) (by decide) rfl (fun z55 e55 l55 u55 => ?_)
                refine ev_loc f_X12_laysCalls (nx := 69) rfl rfl rfl rfl ?_
                refine ev_f f_X12_laysCalls (t1 := 77) (t2 := 72) rfl rfl rfl (by decide) ?_
                refine ev_bp f_X12_laysCalls (nx := 74) (v := 115) rfl (by decide) rfl ?_
                refine ev_jmp f_X12_laysCalls (nx := 79) rfl rfl rfl ?_
                refine ev_iastT f_X12_laysCalls (nx := 80) rfl (hI.wf.s rfl) l55 (by decide) u55 (by decide) rfl (hI.astL (hI.wf.s rfl) (by decide +kernel : t_abw 70 1752 1755 115 115 = true) (t_cl1 l55 (by decide)) (t_cl2 l55 u55 (by decide) (by decide)) (by decide : (115:Int) ≤ (115:Int32).toInt) (by decide : (115:Int32).toInt ≤ (115:Int)) rfl) (hX.upI (t_inR (p := 1752) (m := 1755) rfl l55 (by decide) u55 (by decide) (by decide))) (fun g56 e56 hI hX => ?_)
                refine ev_ldL f_X12_laysCalls (nx := 83) (v := 32) rfl (by decide) rfl ?_
                refine ev_loc f_X12_laysCalls (nx := 85) rfl rfl rfl rfl ?_
                refine ev_anyL f_X12_laysCalls (nx := 86) rfl rfl rfl rfl (fun z57 => ?_)
                refine ev_loc f_X12_laysCalls (nx := 88) rfl rfl rfl rfl ?_
                refine ev_f f_X12_laysCalls (t1 := 96) (t2 := 91) rfl rfl rfl (by decide) ?_
                refine ev_bp f_X12_laysCalls (nx := 93) (v := 19) rfl (by decide) rfl ?_
                refine ev_jmp f_X12_laysCalls (nx := 98) rfl rfl rfl ?_
                refine ev_aluvL f_X12_laysCalls (nx := 99) (w := 19) rfl rfl rfl (by decide) rfl ?_
                refine ev_anyL f_X12_laysCalls (nx := 100) rfl rfl rfl rfl (fun z58 => ?_)
                refine ev_loc f_X12_laysCalls (nx := 102) (lo' := [(5, .long z58), (8, .int 1), (7, .int y19_7), (4, .int y10_4), (3, .int y3_3), (0, .ref 69), (1, .int ar1), (2, .int ar2)]) rfl rfl rfl rfl ?_
                refine ev_incR f_X12_laysCalls (nx := 105) (c := 1) (l := 1) (u := 4) rfl rfl (by decide) (by decide) l19_7 u48 rfl rfl (by decide) (by decide) rfl (fun z59 e59 l59 u59 => ?_)
                refine ev_jmp f_X12_laysCalls (nx := 29) rfl rfl rfl ?_
                refine ev_sub (lo := [(7, .int z59), (5, .long z58), (4, .int y10_4), (3, .int y3_3), (0, .ref 69), (1, .int ar1), (2, .int ar2)]) rfl (t_sc rfl (t_sc rfl (t_sc rfl (t_sc rfl (t_sc rfl (t_sc rfl (t_sc rfl t_sn))))))) ?_
                exact ih19 _ (by omega) g56 gl19 gr19 (z59) (z58) hI hX  (Int.le_trans (by decide : (0:Int) ≤ 1) l59) u59 (by have ff60 : (g56 69 39).toInt = (gi19 69 39).toInt := congrArg Int32.toInt ((by rw [e56]; exact x_up2_off (Or.inl (by decide)) : g56 69 39 = gi19 69 39).trans rfl); rw [ff60]; exact j19_0) rfl
              · have r61 : z52.toInt ≠ 1 := fun e => h53 (Int32.toInt_inj.mp (e.trans (by decide : (1:Int) = (1 : Int32).toInt)))
                have u62 : z52.toInt ≤ 0 := t_neu h53 u52 rfl rfl
                refine ev_ic f_X12_laysCalls (nx := 55) (v := 0) rfl (by decide) rfl ?_
                refine ev_loc f_X12_laysCalls (nx := 57) (lo' := [(8, .int 0), (7, .int y19_7), (5, .long y19_5), (4, .int y10_4), (3, .int y3_3), (0, .ref 69), (1, .int ar1), (2, .int ar2)]) rfl rfl rfl rfl ?_
                refine ev_loc f_X12_laysCalls (nx := 58) rfl rfl rfl rfl ?_
                refine ev_getR f_X12_laysCalls (nx := 61) rfl (hI.wf.s rfl) rfl rfl (hI.wf.r rfl) rfl rfl ?_
                refine ev_sp f_X12_laysCalls (nx := 64) (v := 1752) rfl (by decide) rfl ?_
                refine ev_loc f_X12_laysCalls (nx := 66) rfl rfl rfl rfl ?_
                refine ev_addK f_X12_laysCalls (nx := 67) (c := 1752) (l := 1752) (u := 1755) rfl (by decide) l19_7 u48 rfl rfl (by decide) (by decide) rfl (fun z63 e63 l63 u63 => ?_)
                refine ev_loc f_X12_laysCalls (nx := 69) rfl rfl rfl rfl ?_
                refine ev_t f_X12_laysCalls (t1 := 77) (t2 := 72) rfl rfl rfl (by decide) ?_
                refine ev_bp f_X12_laysCalls (nx := 79) (v := 108) rfl (by decide) rfl ?_
                refine ev_iastT f_X12_laysCalls (nx := 80) rfl (hI.wf.s rfl) l63 (by decide) u63 (by decide) rfl (hI.astL (hI.wf.s rfl) (by decide +kernel : t_abw 70 1752 1755 108 108 = true) (t_cl1 l63 (by decide)) (t_cl2 l63 u63 (by decide) (by decide)) (by decide : (108:Int) ≤ (108:Int32).toInt) (by decide : (108:Int32).toInt ≤ (108:Int)) rfl) (hX.upI (t_inR (p := 1752) (m := 1755) rfl l63 (by decide) u63 (by decide) (by decide))) (fun g64 e64 hI hX => ?_)
                refine ev_ldL f_X12_laysCalls (nx := 83) (v := 32) rfl (by decide) rfl ?_
                refine ev_loc f_X12_laysCalls (nx := 85) rfl rfl rfl rfl ?_
                refine ev_anyL f_X12_laysCalls (nx := 86) rfl rfl rfl rfl (fun z65 => ?_)
                refine ev_loc f_X12_laysCalls (nx := 88) rfl rfl rfl rfl ?_
                refine ev_t f_X12_laysCalls (t1 := 96) (t2 := 91) rfl rfl rfl (by decide) ?_
                refine ev_bp f_X12_laysCalls (nx := 98) (v := 12) rfl (by decide) rfl ?_
                refine ev_aluvL f_X12_laysCalls (nx := 99) (w := 12) rfl rfl rfl (by decide) rfl ?_
                refine ev_anyL f_X12_laysCalls (nx := 100) rfl rfl rfl rfl (fun z66 => ?_)
                refine ev_loc f_X12_laysCalls (nx := 102) (lo' := [(5, .long z66), (8, .int 0), (7, .int y19_7), (4, .int y10_4), (3, .int y3_3), (0, .ref 69), (1, .int ar1), (2, .int ar2)]) rfl rfl rfl rfl ?_
                refine ev_incR f_X12_laysCalls (nx := 105) (c := 1) (l := 1) (u := 4) rfl rfl (by decide) (by decide) l19_7 u48 rfl rfl (by decide) (by decide) rfl (fun z67 e67 l67 u67 => ?_)
                refine ev_jmp f_X12_laysCalls (nx := 29) rfl rfl rfl ?_
                refine ev_sub (lo := [(7, .int z67), (5, .long z66), (4, .int y10_4), (3, .int y3_3), (0, .ref 69), (1, .int ar1), (2, .int ar2)]) rfl (t_sc rfl (t_sc rfl (t_sc rfl (t_sc rfl (t_sc rfl (t_sc rfl (t_sc rfl t_sn))))))) ?_
                exact ih19 _ (by omega) g64 gl19 gr19 (z67) (z66) hI hX  (Int.le_trans (by decide : (0:Int) ≤ 1) l67) u67 (by have ff68 : (g64 69 39).toInt = (gi19 69 39).toInt := congrArg Int32.toInt ((by rw [e64]; exact x_up2_off (Or.inl (by decide)) : g64 69 39 = gi19 69 39).trans rfl); rw [ff68]; exact j19_0) rfl
          refine ev_sub (lo := [(7, .int 0), (5, .long 0), (4, .int y10_4), (3, .int y3_3), (0, .ref 69), (1, .int ar1), (2, .int ar2)]) rfl (t_sc rfl (t_sc rfl (t_sc rfl (t_sc rfl (t_sc rfl (t_sc rfl (t_sc rfl t_sn))))))) ?_
          exact L19 _ gi10 gl10 gr10 (0) (0) hI hX  (by decide : (0:Int) ≤ (0:Int32).toInt) (Int.le_trans (by decide : (0:Int32).toInt ≤ (0:Int)) (by decide : (0:Int) ≤ 4)) (by rcases j10_0 with hh | hh | hh | hh; exact Or.inl ⟨hh.1, hh.2.1, by omega⟩; exact Or.inr (Or.inl ⟨hh.1, hh.2.1, by omega⟩); exact Or.inr (Or.inr (Or.inl ⟨hh.1, hh.2.1, by omega⟩)); exact Or.inr (Or.inr (Or.inr ⟨hh.1, hh.2.1, by omega⟩))) rfl
      refine ev_sub (lo := [(4, .int 0), (3, .int y3_3), (0, .ref 69), (1, .int ar1), (2, .int ar2)]) rfl (t_sc rfl (t_sc rfl (t_sc rfl (t_sc rfl (t_sc rfl t_sn))))) ?_
      exact L10 _ gi3 gl3 gr3 (0) hI hX  (by decide : (0:Int) ≤ (0:Int32).toInt) (Int.le_trans (by decide : (0:Int32).toInt ≤ (0:Int)) (by decide : (0:Int) ≤ 16)) (by have kf69 : (0 : Int32).toInt = 0 := (by decide); rcases j3_0 with hh | hh | hh | hh | hh; exact Or.inl ⟨hh.1, by omega, by omega⟩; exact Or.inr (Or.inl ⟨hh.1, by omega, by omega⟩); exact Or.inr (Or.inr (Or.inl ⟨hh.1, by omega, by omega⟩)); exact Or.inr (Or.inr (Or.inr ⟨hh.1, by omega, by omega⟩)); exact absurd hh.1 (by omega)) rfl
  refine ev_sub (lo := [(3, .int 1), (0, .ref 69), (1, .int ar1), (2, .int ar2)]) rfl (t_sc rfl (t_sc rfl (t_sc rfl (t_sc rfl t_sn)))) ?_
  exact L3 _ g2 gl gr (1) hI hX  (by decide : (1:Int) ≤ (1:Int32).toInt) (Int.le_trans (by decide : (1:Int32).toInt ≤ (1:Int)) (by decide : (1:Int) ≤ 5)) (by have kf70 : (1 : Int32).toInt = 1 := (by decide); have ff71 : (g2 69 39).toInt = 0 := (congrArg Int32.toInt (by rw [e2]; exact x_up2_at _ _ _ _ : g2 69 39 = 0)).trans (by decide); exact Or.inl ⟨by omega, by omega⟩) rfl
noncomputable def wl_m_isCode : List (Nat × Nat) := []
theorem c_m_isCode {X : x_Ext} {d : Nat} {sh : List (Nat ⊕ (Nat × Nat))} {gi : Nat → Nat → Int32} {gl : Nat → Nat → Int64} {gr : Nat → Nat → Value} (hI : t_I sh gi gr) (ar1 : Int32) (l_a1 : 1 ≤ ar1.toInt) (u_a1 : ar1.toInt ≤ 4) (e_p0 : (∀ j : Nat, (j : Int) < ar1.toInt → 0 ≤ (gi 88 j).toInt ∧ (gi 88 j).toInt ≤ 29)) : x_Me X (d + 1) n_X12_isCode [.ref 69, .int ar1] (sh, gi, gl, gr) (t_P wl_m_isCode sh gi gl gr (t_Ri 0 1)) := by
  have hX : t_X wl_m_isCode sh gi gl gr gi gl gr := t_X.rf
  refine me_i f_X12_isCode (hI.wf.s rfl) rfl rfl rfl ?_
  refine ev_ic f_X12_isCode (nx := 1) (v := 0) rfl (by decide) rfl ?_
  refine ev_loc f_X12_isCode (nx := 2) (lo' := [(2, .int 0), (0, .ref 69), (1, .int ar1)]) rfl rfl rfl rfl ?_
  have L1 : ∀ (m1 : Nat) (gi1 : Nat → Nat → Int32) (gl1 : Nat → Nat → Int64) (gr1 : Nat → Nat → Value) (y1_2 : Int32), t_I sh gi1 gr1 → t_X wl_m_isCode sh gi gl gr gi1 gl1 gr1 → 0 ≤ y1_2.toInt → y1_2.toInt ≤ 4 → (∀ j : Nat, (j : Int) < ar1.toInt → 0 ≤ (gi1 88 j).toInt ∧ (gi1 88 j).toInt ≤ 29) → (4 - y1_2.toInt).toNat = m1 → x_Ev X (d + 1) n_X12_isCode 2 [(2, .int y1_2), (0, .ref 69), (1, .int ar1)] [] (sh, gi1, gl1, gr1) (t_P wl_m_isCode sh gi gl gr (t_Ri 0 1)) := by
    intro m1
    induction m1 using Nat.strongRecOn with
    | _ m1 ih1 =>
    intro gi1 gl1 gr1 y1_2 hI hX l1_2 u1_2 j1_0 hm1
    refine ev_loc f_X12_isCode (nx := 3) rfl rfl rfl rfl ?_
    refine ev_loc f_X12_isCode (nx := 4) rfl rfl rfl rfl ?_
    refine ev_if f_X12_isCode (t1 := 122) (t2 := 7) rfl rfl rfl (fun h2 => ?_) (fun h2 => ?_)
    · have r3 : ar1.toInt ≤ y1_2.toInt := Int32.le_iff_toInt_le.mp h2
      have l4 : 1 ≤ y1_2.toInt := t_lel h2 l_a1
      refine ev_ic f_X12_isCode (nx := 123) (v := 1) rfl (by decide) rfl ?_
      exact ev_ret f_X12_isCode rfl rfl rfl ⟨_, _, _, rfl, hI, hX, ⟨_, rfl, (Int.le_trans (by decide : (0:Int) ≤ 1) (by decide : (1:Int) ≤ (1:Int32).toInt)), (by decide : (1:Int32).toInt ≤ (1:Int))⟩⟩
    · have r5 : y1_2.toInt < ar1.toInt := Int32.lt_iff_toInt_lt.mp (t_nle h2)
      have u6 : y1_2.toInt ≤ 3 := t_ltu (t_nle h2) u_a1 rfl
      refine ev_ic f_X12_isCode (nx := 8) (v := 0) rfl (by decide) rfl ?_
      refine ev_loc f_X12_isCode (nx := 9) (lo' := [(3, .int 0), (2, .int y1_2), (0, .ref 69), (1, .int ar1)]) rfl rfl rfl rfl ?_
      have L7 : ∀ (m7 : Nat) (gi7 : Nat → Nat → Int32) (gl7 : Nat → Nat → Int64) (gr7 : Nat → Nat → Value) (y7_3 : Int32), t_I sh gi7 gr7 → t_X wl_m_isCode sh gi gl gr gi7 gl7 gr7 → 0 ≤ y7_3.toInt → y7_3.toInt ≤ 3 → (∀ j : Nat, (j : Int) < ar1.toInt → 0 ≤ (gi7 88 j).toInt ∧ (gi7 88 j).toInt ≤ 29) → (3 - y7_3.toInt).toNat = m7 → x_Ev X (d + 1) n_X12_isCode 9 [(3, .int y7_3), (2, .int y1_2), (0, .ref 69), (1, .int ar1)] [] (sh, gi7, gl7, gr7) (t_P wl_m_isCode sh gi gl gr (t_Ri 0 1)) := by
        intro m7
        induction m7 using Nat.strongRecOn with
        | _ m7 ih7 =>
        intro gi7 gl7 gr7 y7_3 hI hX l7_3 u7_3 j7_0 hm7
        refine ev_loc f_X12_isCode (nx := 10) rfl rfl rfl rfl ?_
        refine ev_loc f_X12_isCode (nx := 11) rfl rfl rfl rfl ?_
        refine ev_if f_X12_isCode (t1 := 116) (t2 := 14) rfl rfl rfl (fun h8 => ?_) (fun h8 => ?_)
        · have r9 : y1_2.toInt ≤ y7_3.toInt := Int32.le_iff_toInt_le.mp h8
          refine ev_incR f_X12_isCode (nx := 119) (c := 1) (l := 1) (u := 4) rfl rfl (by decide) (by decide) l1_2 u6 rfl rfl (by decide) (by decide) rfl (fun z10 e10 l10 u10 => ?_)
          refine ev_jmp f_X12_isCode (nx := 2) rfl rfl rfl ?_
          refine ev_sub (lo := [(2, .int z10), (0, .ref 69), (1, .int ar1)]) rfl (t_sc rfl (t_sc rfl (t_sc rfl t_sn))) ?_
          exact ih1 _ (by omega) gi7 gl7 gr7 (z10) hI hX  (Int.le_trans (by decide : (0:Int) ≤ 1) l10) u10 j7_0 rfl
        · have r11 : y7_3.toInt < y1_2.toInt := Int32.lt_iff_toInt_lt.mp (t_nle h8)
          have u12 : y7_3.toInt ≤ 2 := t_ltu (t_nle h8) u6 rfl
          have l13 : 1 ≤ y1_2.toInt := t_ltl (t_nle h8) l7_3 rfl
          refine ev_loc f_X12_isCode (nx := 15) rfl rfl rfl rfl ?_
          refine ev_getR f_X12_isCode (nx := 18) rfl (hI.wf.s rfl) rfl rfl (hI.wf.r rfl) rfl rfl ?_
          refine ev_loc f_X12_isCode (nx := 19) rfl rfl rfl rfl ?_
          refine ev_getR f_X12_isCode (nx := 22) rfl (hI.wf.s rfl) rfl rfl (hI.wf.r rfl) rfl rfl ?_
          refine ev_loc f_X12_isCode (nx := 23) rfl rfl rfl rfl ?_
          refine ev_ialdT f_X12_isCode (nx := 24) rfl (hI.wf.s rfl) l13 (by decide) u6 (by decide) rfl (fun w14 e14 => ?_)
          obtain ⟨l14, u14⟩ := hI.abi e14 (by decide +kernel : t_abr 88 1 3 (-1) 30 = true) l13 (by decide) u6 (by decide)
          have l16 : (0:Int) ≤ w14.toInt := (by have hc := t_clamp (i := y1_2) (by omega); have hj := j7_0 y1_2.toNatClampNeg (by omega); rw [← e14] at hj; omega)
          have u16 : w14.toInt ≤ (29:Int) := (by have hc := t_clamp (i := y1_2) (by omega); have hj := j7_0 y1_2.toNatClampNeg (by omega); rw [← e14] at hj; omega)
          refine ev_laldT f_X12_isCode (nx := 25) rfl (hI.wf.s rfl) l16 (by decide) u16 (by decide) rfl (fun w15 e15 => ?_)
          refine ev_loc f_X12_isCode (nx := 26) rfl rfl rfl rfl ?_
          refine ev_getR f_X12_isCode (nx := 29) rfl (hI.wf.s rfl) rfl rfl (hI.wf.r rfl) rfl rfl ?_
          refine ev_loc f_X12_isCode (nx := 30) rfl rfl rfl rfl ?_
          refine ev_getR f_X12_isCode (nx := 33) rfl (hI.wf.s rfl) rfl rfl (hI.wf.r rfl) rfl rfl ?_
          refine ev_loc f_X12_isCode (nx := 34) rfl rfl rfl rfl ?_
          refine ev_ialdT f_X12_isCode (nx := 35) rfl (hI.wf.s rfl) l7_3 (by decide) u12 (by decide) rfl (fun w17 e17 => ?_)
          obtain ⟨l17, u17⟩ := hI.abi e17 (by decide +kernel : t_abr 88 0 2 (-1) 30 = true) l7_3 (by decide) u12 (by decide)
          have l19 : (0:Int) ≤ w17.toInt := (by have hc := t_clamp (i := y7_3) (by omega); have hj := j7_0 y7_3.toNatClampNeg (by omega); rw [← e17] at hj; omega)
          have u19 : w17.toInt ≤ (29:Int) := (by have hc := t_clamp (i := y7_3) (by omega); have hj := j7_0 y7_3.toNatClampNeg (by omega); rw [← e17] at hj; omega)
          refine ev_laldT f_X12_isCode (nx := 36) rfl (hI.wf.s rfl) l19 (by decide) u19 (by decide) rfl (fun w18 e18 => ?_)
          refine ev_anyI f_X12_isCode (nx := 37) rfl rfl rfl rfl (fun z20 => ?_)
          refine ev_if f_X12_isCode (t1 := 40) (t2 := 42) rfl rfl rfl (fun h21 => ?_) (fun h21 => ?_)
          · have u22 : z20.toInt ≤ 0 := t_equ h21 (by decide : (0:Int32).toInt ≤ (0:Int))
            have l23 : 0 ≤ z20.toInt := t_eql h21 (by decide : (0:Int) ≤ (0:Int32).toInt)
            refine ev_ic f_X12_isCode (nx := 41) (v := 0) rfl (by decide) rfl ?_
            exact ev_ret f_X12_isCode rfl rfl rfl ⟨_, _, _, rfl, hI, hX, ⟨_, rfl, (by decide : (0:Int) ≤ (0:Int32).toInt), (Int.le_trans (by decide : (0:Int32).toInt ≤ (0:Int)) (by decide : (0:Int) ≤ 1))⟩⟩
          · have r24 : z20.toInt ≠ 0 := fun e => h21 (Int32.toInt_inj.mp (e.trans (by decide : (0:Int) = (0 : Int32).toInt)))
            refine ev_ic f_X12_isCode (nx := 43) (v := 0) rfl (by decide) rfl ?_
            refine ev_loc f_X12_isCode (nx := 45) (lo' := [(4, .int 0), (3, .int y7_3), (2, .int y1_2), (0, .ref 69), (1, .int ar1)]) rfl rfl rfl rfl ?_
            have L25 : ∀ (m25 : Nat) (gi25 : Nat → Nat → Int32) (gl25 : Nat → Nat → Int64) (gr25 : Nat → Nat → Value) (y25_4 : Int32), t_I sh gi25 gr25 → t_X wl_m_isCode sh gi gl gr gi25 gl25 gr25 → 0 ≤ y25_4.toInt → y25_4.toInt ≤ 4 → (∀ j : Nat, (j : Int) < ar1.toInt → 0 ≤ (gi25 88 j).toInt ∧ (gi25 88 j).toInt ≤ 29) → (4 - y25_4.toInt).toNat = m25 → x_Ev X (d + 1) n_X12_isCode 45 [(4, .int y25_4), (3, .int y7_3), (2, .int y1_2), (0, .ref 69), (1, .int ar1)] [] (sh, gi25, gl25, gr25) (t_P wl_m_isCode sh gi gl gr (t_Ri 0 1)) := by
              intro m25
              induction m25 using Nat.strongRecOn with
              | _ m25 ih25 =>
              intro gi25 gl25 gr25 y25_4 hI hX l25_4 u25_4 j25_0 hm25
              refine ev_loc f_X12_isCode (nx := 47) rfl rfl rfl rfl ?_
              refine ev_loc f_X12_isCode (nx := 48) rfl rfl rfl rfl ?_
              refine ev_if f_X12_isCode (t1 := 110) (t2 := 51) rfl rfl rfl (fun h26 => ?_) (fun h26 => ?_)
              · have r27 : ar1.toInt ≤ y25_4.toInt := Int32.le_iff_toInt_le.mp h26
                have l28 : 1 ≤ y25_4.toInt := t_lel h26 l_a1
                refine ev_incR f_X12_isCode (nx := 113) (c := 1) (l := 1) (u := 3) rfl rfl (by decide) (by decide) l7_3 u12 rfl rfl (by decide) (by decide) rfl (fun z29 e29 l29 u29 => ?_)
                refine ev_jmp f_X12_isCode (nx := 9) rfl rfl rfl ?_
                refine ev_sub (lo := [(3, .int z29), (2, .int y1_2), (0, .ref 69), (1, .int ar1)]) rfl (t_sc rfl (t_sc rfl (t_sc rfl (t_sc rfl t_sn)))) ?_
                exact ih7 _ (by omega) gi25 gl25 gr25 (z29) hI hX  (Int.le_trans (by decide : (0:Int) ≤ 1) l29) u29 j25_0 rfl
              · have r30 : y25_4.toInt < ar1.toInt := Int32.lt_iff_toInt_lt.mp (t_nle h26)
                have u31 : y25_4.toInt ≤ 3 := t_ltu (t_nle h26) u_a1 rfl
                refine ev_loc f_X12_isCode (nx := 53) rfl rfl rfl rfl ?_
                refine ev_loc f_X12_isCode (nx := 54) rfl rfl rfl rfl ?_
                refine ev_if f_X12_isCode (t1 := 104) (t2 := 57) rfl rfl rfl (fun h32 => ?_) (fun h32 => ?_)
                · have r33 : y25_4.toInt = y1_2.toInt := t_eqi h32
                  have l34 : 1 ≤ y25_4.toInt := t_eql h32 l13
                  refine ev_incR f_X12_isCode (nx := 107) (c := 1) (l := 2) (u := 4) rfl rfl (by decide) (by decide) l34 u31 rfl rfl (by decide) (by decide) rfl (fun z35 e35 l35 u35 => ?_)
                  refine ev_jmp f_X12_isCode (nx := 45) rfl rfl rfl ?_
                  refine ev_sub (lo := [(4, .int z35), (3, .int y7_3), (2, .int y1_2), (0, .ref 69), (1, .int ar1)]) rfl (t_sc rfl (t_sc rfl (t_sc rfl (t_sc rfl (t_sc rfl t_sn))))) ?_
                  exact ih25 _ (by omega) gi25 gl25 gr25 (z35) hI hX  (Int.le_trans (by decide : (0:Int) ≤ 2) l35) u35 j25_0 rfl
                · have r36 : y25_4.toInt ≠ y1_2.toInt := t_nei h32
                  refine ev_loc f_X12_isCode (nx := 59) rfl rfl rfl rfl ?_
                  refine ev_loc f_X12_isCode (nx := 60) rfl rfl rfl rfl ?_
                  refine ev_if f_X12_isCode (t1 := 104) (t2 := 63) rfl rfl rfl (fun h37 => ?_) (fun h37 => ?_)
                  · have r38 : y25_4.toInt = y7_3.toInt := t_eqi h37
                    have u39 : y25_4.toInt ≤ 2 := t_equ h37 u12
                    refine ev_incR f_X12_isCode (nx := 107) (c := 1) (l := 1) (u := 3) rfl rfl (by decide) (by decide) l25_4 u39 rfl rfl (by decide) (by decide) rfl (fun z40 e40 l40 u40 => ?_)
                    refine ev_jmp f_X12_isCode (nx := 45) rfl rfl rfl ?_
                    refine ev_sub (lo := [(4, .int z40), (3, .int y7_3), (2, .int y1_2), (0, .ref 69), (1, .int ar1)]) rfl (t_sc rfl (t_sc rfl (t_sc rfl (t_sc rfl (t_sc rfl t_sn))))) ?_
                    exact ih25 _ (by omega) gi25 gl25 gr25 (z40) hI hX  (Int.le_trans (by decide : (0:Int) ≤ 1) l40) (Int.le_trans u40 (by decide : (3:Int) ≤ 4)) j25_0 rfl
                  · have r41 : y25_4.toInt ≠ y7_3.toInt := t_nei h37
                    refine ev_loc f_X12_isCode (nx := 64) rfl rfl rfl rfl ?_
                    refine ev_getR f_X12_isCode (nx := 67) rfl (hI.wf.s rfl) rfl rfl (hI.wf.r rfl) rfl rfl ?_
                    refine ev_loc f_X12_isCode (nx := 68) rfl rfl rfl rfl ?_
                    refine ev_getR f_X12_isCode (nx := 71) rfl (hI.wf.s rfl) rfl rfl (hI.wf.r rfl) rfl rfl ?_
                    refine ev_loc f_X12_isCode (nx := 72) rfl rfl rfl rfl ?_
                    refine ev_ialdT f_X12_isCode (nx := 73) rfl (hI.wf.s rfl) l13 (by decide) u6 (by decide) rfl (fun w42 e42 => ?_)
                    obtain ⟨l42, u42⟩ := hI.abi e42 (by decide +kernel : t_abr 88 1 3 (-1) 30 = true) l13 (by decide) u6 (by decide)
                    have l44 : (0:Int) ≤ w42.toInt := (by have hc := t_clamp (i := y1_2) (by omega); have hj := j25_0 y1_2.toNatClampNeg (by omega); rw [← e42] at hj; omega)
                    have u44 : w42.toInt ≤ (29:Int) := (by have hc := t_clamp (i := y1_2) (by omega); have hj := j25_0 y1_2.toNatClampNeg (by omega); rw [← e42] at hj; omega)
                    refine ev_laldT f_X12_isCode (nx := 74) rfl (hI.wf.s rfl) l44 (by decide) u44 (by decide) rfl (fun w43 e43 => ?_)
                    refine ev_loc f_X12_isCode (nx := 75) rfl rfl rfl rfl ?_
                    refine ev_getR f_X12_isCode (nx := 78) rfl (hI.wf.s rfl) rfl rfl (hI.wf.r rfl) rfl rfl ?_
                    refine ev_loc f_X12_isCode (nx := 79) rfl rfl rfl rfl ?_
                    refine ev_getR f_X12_isCode (nx := 82) rfl (hI.wf.s rfl) rfl rfl (hI.wf.r rfl) rfl rfl ?_
                    refine ev_loc f_X12_isCode (nx := 83) rfl rfl rfl rfl ?_
                    refine ev_ialdT f_X12_isCode (nx := 84) rfl (hI.wf.s rfl) l7_3 (by decide) u12 (by decide) rfl (fun w45 e45 => ?_)
                    obtain ⟨l45, u45⟩ := hI.abi e45 (by decide +kernel : t_abr 88 0 2 (-1) 30 = true) l7_3 (by decide) u12 (by decide)
                    have l47 : (0:Int) ≤ w45.toInt := (by have hc := t_clamp (i := y7_3) (by omega); have hj := j25_0 y7_3.toNatClampNeg (by omega); rw [← e45] at hj; omega)
                    have u47 : w45.toInt ≤ (29:Int) := (by have hc := t_clamp (i := y7_3) (by omega); have hj := j25_0 y7_3.toNatClampNeg (by omega); rw [← e45] at hj; omega)
                    refine ev_laldT f_X12_isCode (nx := 85) rfl (hI.wf.s rfl) l47 (by decide) u47 (by decide) rfl (fun w46 e46 => ?_)
                    refine ev_anyL f_X12_isCode (nx := 86) rfl rfl rfl rfl (fun z48 => ?_)
                    refine ev_loc f_X12_isCode (nx := 87) rfl rfl rfl rfl ?_
                    refine ev_getR f_X12_isCode (nx := 90) rfl (hI.wf.s rfl) rfl rfl (hI.wf.r rfl) rfl rfl ?_
                    refine ev_loc f_X12_isCode (nx := 91) rfl rfl rfl rfl ?_
                    refine ev_getR f_X12_isCode (nx := 94) rfl (hI.wf.s rfl) rfl rfl (hI.wf.r rfl) rfl rfl ?_
                    refine ev_loc f_X12_isCode (nx := 96) rfl rfl rfl rfl ?_
                    refine ev_ialdT f_X12_isCode (nx := 97) rfl (hI.wf.s rfl) l25_4 (by decide) u31 (by decide) rfl (fun w49 e49 => ?_)
                    obtain ⟨l49, u49⟩ := hI.abi e49 (by decide +kernel : t_abr 88 0 3 (-1) 30 = true) l25_4 (by decide) u31 (by decide)
                    have l51 : (0:Int) ≤ w49.toInt := (by have hc := t_clamp (i := y25_4) (by omega); have hj := j25_0 y25_4.toNatClampNeg (by omega); rw [← e49] at hj; omega)
                    have u51 : w49.toInt ≤ (29:Int) := (by have hc := t_clamp (i := y25_4) (by omega); have hj := j25_0 y25_4.toNatClampNeg (by omega); rw [← e49] at hj; omega)
                    refine ev_laldT f_X12_isCode (nx := 98) rfl (hI.wf.s rfl) l51 (by decide) u51 (by decide) rfl (fun w50 e50 => ?_)
                    refine ev_anyI f_X12_isCode (nx := 99) rfl rfl rfl rfl (fun z52 => ?_)
                    refine ev_if f_X12_isCode (t1 := 102) (t2 := 104) rfl rfl rfl (fun h53 => ?_) (fun h53 => ?_)
                    · have u54 : z52.toInt ≤ 0 := t_equ h53 (by decide : (0:Int32).toInt ≤ (0:Int))
                      have l55 : 0 ≤ z52.toInt := t_eql h53 (by decide : (0:Int) ≤ (0:Int32).toInt)
                      refine ev_ic f_X12_isCode (nx := 103) (v := 0) rfl (by decide) rfl ?_
                      exact ev_ret f_X12_isCode rfl rfl rfl ⟨_, _, _, rfl, hI, hX, ⟨_, rfl, (by decide : (0:Int) ≤ (0:Int32).toInt), (Int.le_trans (by decide : (0:Int32).toInt ≤ (0:Int)) (by decide : (0:Int) ≤ 1))⟩⟩
                    · have r56 : z52.toInt ≠ 0 := fun e => h53 (Int32.toInt_inj.mp (e.trans (by decide : (0:Int) = (0 : Int32).toInt)))
                      refine ev_incR f_X12_isCode (nx := 107) (c := 1) (l := 1) (u := 4) rfl rfl (by decide) (by decide) l25_4 u31 rfl rfl (by decide) (by decide) rfl (fun z57 e57 l57 u57 => ?_)
                      refine ev_jmp f_X12_isCode (nx := 45) rfl rfl rfl ?_
                      refine ev_sub (lo := [(4, .int z57), (3, .int y7_3), (2, .int y1_2), (0, .ref 69), (1, .int ar1)]) rfl (t_sc rfl (t_sc rfl (t_sc rfl (t_sc rfl (t_sc rfl t_sn))))) ?_
                      exact ih25 _ (by omega) gi25 gl25 gr25 (z57) hI hX  (Int.le_trans (by decide : (0:Int) ≤ 1) l57) u57 j25_0 rfl
            refine ev_sub (lo := [(4, .int 0), (3, .int y7_3), (2, .int y1_2), (0, .ref 69), (1, .int ar1)]) rfl (t_sc rfl (t_sc rfl (t_sc rfl (t_sc rfl (t_sc rfl t_sn))))) ?_
            exact L25 _ gi7 gl7 gr7 (0) hI hX  (by decide : (0:Int) ≤ (0:Int32).toInt) (Int.le_trans (by decide : (0:Int32).toInt ≤ (0:Int)) (by decide : (0:Int) ≤ 4)) j7_0 rfl
      refine ev_sub (lo := [(3, .int 0), (2, .int y1_2), (0, .ref 69), (1, .int ar1)]) rfl (t_sc rfl (t_sc rfl (t_sc rfl (t_sc rfl t_sn)))) ?_
      exact L7 _ gi1 gl1 gr1 (0) hI hX  (by decide : (0:Int) ≤ (0:Int32).toInt) (Int.le_trans (by decide : (0:Int32).toInt ≤ (0:Int)) (by decide : (0:Int) ≤ 3)) j1_0 rfl
  refine ev_sub (lo := [(2, .int 0), (0, .ref 69), (1, .int ar1)]) rfl (t_sc rfl (t_sc rfl (t_sc rfl t_sn))) ?_
  exact L1 _ gi gl gr (0) hI hX  (by decide : (0:Int) ≤ (0:Int32).toInt) (Int.le_trans (by decide : (0:Int32).toInt ≤ (0:Int)) (by decide : (0:Int) ≤ 4)) e_p0 rfl
noncomputable def wl_m_code : List (Nat × Nat) := [(69, 2), (69, 39), (69, 40), (70, 175211755), (84, 9999), (85, 9999), (86, 9999), (87, 9999), (88, 10000), (88, 10003), (88, 110004)]
theorem c_m_code {X : x_Ext} {d : Nat} {sh : List (Nat ⊕ (Nat × Nat))} {gi : Nat → Nat → Int32} {gl : Nat → Nat → Int64} {gr : Nat → Nat → Value} (hI : t_I sh gi gr) (ar1 : Int32) (ar2 : Int32) (ar3 : Int32) : x_Me X (d + 3) n_X12_code [.ref 69, .int ar1, .int ar2, .int ar3] (sh, gi, gl, gr) (t_P wl_m_code sh gi gl gr (t_Ri (-2147483648) 2147483647)) := by
  have hX : t_X wl_m_code sh gi gl gr gi gl gr := t_X.rf
  refine me_i f_X12_code (hI.wf.s rfl) rfl rfl rfl ?_
  refine ev_loc f_X12_code (nx := 1) rfl rfl rfl rfl ?_
  refine ev_anyLE f_X12_code (nx := 2) rfl rfl rfl rfl (fun z1 e1 => ?_)
  have i1 : z1.toInt = ar1.toInt := by rw [e1]; exact Int32.toInt_toInt64 _
  refine ev_lc f_X12_code (nx := 3) (v := 1) rfl (by decide) rfl ?_
  refine ev_ldL f_X12_code (nx := 6) (v := 4) rfl (by decide) rfl ?_
  refine ev_inS3 f_X12_code (nx := 9) (lo2 := [(0, .long z1), (2, .long 1), (4, .long 4)]) rfl rfl rfl rfl f_X12_isFrom rfl rfl rfl rfl ?_
  refine ev_loc f_X12_isFrom (nx := 1) rfl rfl rfl rfl ?_
  refine ev_loc f_X12_isFrom (nx := 2) rfl rfl rfl rfl ?_
  refine ev_anyIE f_X12_isFrom (nx := 3) rfl rfl rfl rfl (fun z2 e2 => ?_)
  refine ev_if f_X12_isFrom (t1 := 17) (t2 := 6) rfl rfl rfl (fun h3 => ?_) (fun h3 => ?_)
  · have u4 : ar1.toInt ≤ (0:Int) := Int.le_sub_one_of_lt ((lgc_lt (by decide : (1 : Int64).toInt = 1)).mp (by have hh := h3; rw [e2, e1] at hh; exact hh))
    have u5 : z2.toInt ≤ (-1) := t_ltu h3 (by decide : (0:Int32).toInt ≤ (0:Int)) rfl
    refine ev_ic f_X12_isFrom (nx := 18) (v := 0) rfl (by decide) rfl ?_
    refine ev_retK1 f_X12_isFrom rfl rfl rfl ?_
    refine ev_t f_X12_code (t1 := 36) (t2 := 12) rfl rfl rfl (by decide) ?_
    refine ev_loc f_X12_code (nx := 37) rfl rfl rfl rfl ?_
    refine ev_ic f_X12_code (nx := 38) (v := 1) rfl (by decide) rfl ?_
    refine ev_inV2 f_X12_code (nx := 41) (lo2 := [(0, .ref 69), (1, .int 1)]) rfl rfl rfl rfl f_X12_refuse (hI.wf.s rfl) rfl rfl rfl rfl rfl ?_
    refine ev_loc f_X12_refuse (nx := 1) rfl rfl rfl rfl ?_
    refine ev_loc f_X12_refuse (nx := 2) rfl rfl rfl rfl ?_
    refine ev_putIT f_X12_refuse (nx := 5) rfl (hI.wf.s rfl) rfl rfl rfl (hI.put0 (hI.wf.s rfl) rfl rfl) (hX.upI rfl) (fun g6 e6 hI hX => ?_)
    refine ev_ic f_X12_refuse (nx := 6) (v := -1) rfl (by decide) rfl ?_
    refine ev_retK1 f_X12_refuse rfl rfl rfl ?_
    exact ev_ret f_X12_code rfl rfl rfl ⟨_, _, _, rfl, hI, hX, ⟨_, rfl, (Int.le_trans (by decide : ((-2147483648):Int) ≤ (-1)) (by decide : ((-1):Int) ≤ ((-1):Int32).toInt)), (Int.le_trans (by decide : ((-1):Int32).toInt ≤ ((-1):Int)) (by decide : ((-1):Int) ≤ 2147483647))⟩⟩
  · have l7 : (1:Int) ≤ ar1.toInt := (lgc_ge (by decide : (1 : Int64).toInt = 1)).mp (by have hh := (t_nlt h3); rw [e2, e1] at hh; exact hh)
    have l8 : 0 ≤ z2.toInt := t_lel (t_nlt h3) (by decide : (0:Int) ≤ (0:Int32).toInt)
    refine ev_loc f_X12_isFrom (nx := 7) rfl rfl rfl rfl ?_
    refine ev_loc f_X12_isFrom (nx := 9) rfl rfl rfl rfl ?_
    refine ev_anyIE f_X12_isFrom (nx := 10) rfl rfl rfl rfl (fun z9 e9 => ?_)
    refine ev_if f_X12_isFrom (t1 := 17) (t2 := 13) rfl rfl rfl (fun h10 => ?_) (fun h10 => ?_)
    · have l11 : (5:Int) ≤ ar1.toInt := Int.add_one_le_of_lt ((lgc_gt (by decide : (4 : Int64).toInt = 4)).mp (by have hh := h10; rw [e9, e1] at hh; exact hh))
      have l12 : 1 ≤ z9.toInt := t_ltl h10 (by decide : (0:Int) ≤ (0:Int32).toInt) rfl
      refine ev_ic f_X12_isFrom (nx := 18) (v := 0) rfl (by decide) rfl ?_
      refine ev_retK1 f_X12_isFrom rfl rfl rfl ?_
      refine ev_t f_X12_code (t1 := 36) (t2 := 12) rfl rfl rfl (by decide) ?_
      refine ev_loc f_X12_code (nx := 37) rfl rfl rfl rfl ?_
      refine ev_ic f_X12_code (nx := 38) (v := 1) rfl (by decide) rfl ?_
      refine ev_inV2 f_X12_code (nx := 41) (lo2 := [(0, .ref 69), (1, .int 1)]) rfl rfl rfl rfl f_X12_refuse (hI.wf.s rfl) rfl rfl rfl rfl rfl ?_
      refine ev_loc f_X12_refuse (nx := 1) rfl rfl rfl rfl ?_
      refine ev_loc f_X12_refuse (nx := 2) rfl rfl rfl rfl ?_
      refine ev_putIT f_X12_refuse (nx := 5) rfl (hI.wf.s rfl) rfl rfl rfl (hI.put0 (hI.wf.s rfl) rfl rfl) (hX.upI rfl) (fun g13 e13 hI hX => ?_)
      refine ev_ic f_X12_refuse (nx := 6) (v := -1) rfl (by decide) rfl ?_
      refine ev_retK1 f_X12_refuse rfl rfl rfl ?_
      exact ev_ret f_X12_code rfl rfl rfl ⟨_, _, _, rfl, hI, hX, ⟨_, rfl, (Int.le_trans (by decide : ((-2147483648):Int) ≤ (-1)) (by decide : ((-1):Int) ≤ ((-1):Int32).toInt)), (Int.le_trans (by decide : ((-1):Int32).toInt ≤ ((-1):Int)) (by decide : ((-1):Int) ≤ 2147483647))⟩⟩
    · have u14 : ar1.toInt ≤ (4:Int) := (lgc_le (by decide : (4 : Int64).toInt = 4)).mp (by have hh := (t_nlt h10); rw [e9, e1] at hh; exact hh)
      have u15 : z9.toInt ≤ 0 := t_leu (t_nlt h10) (by decide : (0:Int32).toInt ≤ (0:Int))
      refine ev_ic f_X12_isFrom (nx := 14) (v := 1) rfl (by decide) rfl ?_
      refine ev_jmp f_X12_isFrom (nx := 18) rfl rfl rfl ?_
      refine ev_retK1 f_X12_isFrom rfl rfl rfl ?_
      refine ev_f f_X12_code (t1 := 36) (t2 := 12) rfl rfl rfl (by decide) ?_
      refine ev_loc f_X12_code (nx := 13) rfl rfl rfl rfl ?_
      refine ev_anyLE f_X12_code (nx := 14) rfl rfl rfl rfl (fun z16 e16 => ?_)
      have i16 : z16.toInt = ar2.toInt := by rw [e16]; exact Int32.toInt_toInt64 _
      refine ev_lc f_X12_code (nx := 15) (v := 1) rfl (by decide) rfl ?_
      refine ev_ldL f_X12_code (nx := 18) (v := 4) rfl (by decide) rfl ?_
      refine ev_inS3 f_X12_code (nx := 21) (lo2 := [(0, .long z16), (2, .long 1), (4, .long 4)]) rfl rfl rfl rfl f_X12_isFrom rfl rfl rfl rfl ?_
      refine ev_loc f_X12_isFrom (nx := 1) rfl rfl rfl rfl ?_
      refine ev_loc f_X12_isFrom (nx := 2) rfl rfl rfl rfl ?_
      refine ev_anyIE f_X12_isFrom (nx := 3) rfl rfl rfl rfl (fun z17 e17 => ?_)
      refine ev_if f_X12_isFrom (t1 := 17) (t2 := 6) rfl rfl rfl (fun h18 => ?_) (fun h18 => ?_)
      · have u19 : ar2.toInt ≤ (0:Int) := Int.le_sub_one_of_lt ((lgc_lt (by decide : (1 : Int64).toInt = 1)).mp (by have hh := h18; rw [e17, e16] at hh; exact hh))
        have u20 : z17.toInt ≤ (-1) := t_ltu h18 (by decide : (0:Int32).toInt ≤ (0:Int)) rfl
        refine ev_ic f_X12_isFrom (nx := 18) (v := 0) rfl (by decide) rfl ?_
        refine ev_retK1 f_X12_isFrom rfl rfl rfl ?_
        refine ev_t f_X12_code (t1 := 36) (t2 := 24) rfl rfl rfl (by decide) ?_
        refine ev_loc f_X12_code (nx := 37) rfl rfl rfl rfl ?_
        refine ev_ic f_X12_code (nx := 38) (v := 1) rfl (by decide) rfl ?_
        refine ev_inV2 f_X12_code (nx := 41) (lo2 := [(0, .ref 69), (1, .int 1)]) rfl rfl rfl rfl f_X12_refuse (hI.wf.s rfl) rfl rfl rfl rfl rfl ?_
        refine ev_loc f_X12_refuse (nx := 1) rfl rfl rfl rfl ?_
        refine ev_loc f_X12_refuse (nx := 2) rfl rfl rfl rfl ?_
        refine ev_putIT f_X12_refuse (nx := 5) rfl (hI.wf.s rfl) rfl rfl rfl (hI.put0 (hI.wf.s rfl) rfl rfl) (hX.upI rfl) (fun g21 e21 hI hX => ?_)
        refine ev_ic f_X12_refuse (nx := 6) (v := -1) rfl (by decide) rfl ?_
        refine ev_retK1 f_X12_refuse rfl rfl rfl ?_
        exact ev_ret f_X12_code rfl rfl rfl ⟨_, _, _, rfl, hI, hX, ⟨_, rfl, (Int.le_trans (by decide : ((-2147483648):Int) ≤ (-1)) (by decide : ((-1):Int) ≤ ((-1):Int32).toInt)), (Int.le_trans (by decide : ((-1):Int32).toInt ≤ ((-1):Int)) (by decide : ((-1):Int) ≤ 2147483647))⟩⟩
      · have l22 : (1:Int) ≤ ar2.toInt := (lgc_ge (by decide : (1 : Int64).toInt = 1)).mp (by have hh := (t_nlt h18); rw [e17, e16] at hh; exact hh)
        have l23 : 0 ≤ z17.toInt := t_lel (t_nlt h18) (by decide : (0:Int) ≤ (0:Int32).toInt)
        refine ev_loc f_X12_isFrom (nx := 7) rfl rfl rfl rfl ?_
        refine ev_loc f_X12_isFrom (nx := 9) rfl rfl rfl rfl ?_
        refine ev_anyIE f_X12_isFrom (nx := 10) rfl rfl rfl rfl (fun z24 e24 => ?_)
        refine ev_if f_X12_isFrom (t1 := 17) (t2 := 13) rfl rfl rfl (fun h25 => ?_) (fun h25 => ?_)
        · have l26 : (5:Int) ≤ ar2.toInt := Int.add_one_le_of_lt ((lgc_gt (by decide : (4 : Int64).toInt = 4)).mp (by have hh := h25; rw [e24, e16] at hh; exact hh))
          have l27 : 1 ≤ z24.toInt := t_ltl h25 (by decide : (0:Int) ≤ (0:Int32).toInt) rfl
          refine ev_ic f_X12_isFrom (nx := 18) (v := 0) rfl (by decide) rfl ?_
          refine ev_retK1 f_X12_isFrom rfl rfl rfl ?_
          refine ev_t f_X12_code (t1 := 36) (t2 := 24) rfl rfl rfl (by decide) ?_
          refine ev_loc f_X12_code (nx := 37) rfl rfl rfl rfl ?_
          refine ev_ic f_X12_code (nx := 38) (v := 1) rfl (by decide) rfl ?_
          refine ev_inV2 f_X12_code (nx := 41) (lo2 := [(0, .ref 69), (1, .int 1)]) rfl rfl rfl rfl f_X12_refuse (hI.wf.s rfl) rfl rfl rfl rfl rfl ?_
          refine ev_loc f_X12_refuse (nx := 1) rfl rfl rfl rfl ?_
          refine ev_loc f_X12_refuse (nx := 2) rfl rfl rfl rfl ?_
          refine ev_putIT f_X12_refuse (nx := 5) rfl (hI.wf.s rfl) rfl rfl rfl (hI.put0 (hI.wf.s rfl) rfl rfl) (hX.upI rfl) (fun g28 e28 hI hX => ?_)
          refine ev_ic f_X12_refuse (nx := 6) (v := -1) rfl (by decide) rfl ?_
          refine ev_retK1 f_X12_refuse rfl rfl rfl ?_
          exact ev_ret f_X12_code rfl rfl rfl ⟨_, _, _, rfl, hI, hX, ⟨_, rfl, (Int.le_trans (by decide : ((-2147483648):Int) ≤ (-1)) (by decide : ((-1):Int) ≤ ((-1):Int32).toInt)), (Int.le_trans (by decide : ((-1):Int32).toInt ≤ ((-1):Int)) (by decide : ((-1):Int) ≤ 2147483647))⟩⟩
        · have u29 : ar2.toInt ≤ (4:Int) := (lgc_le (by decide : (4 : Int64).toInt = 4)).mp (by have hh := (t_nlt h25); rw [e24, e16] at hh; exact hh)
          have u30 : z24.toInt ≤ 0 := t_leu (t_nlt h25) (by decide : (0:Int32).toInt ≤ (0:Int))
          refine ev_ic f_X12_isFrom (nx := 14) (v := 1) rfl (by decide) rfl ?_
          refine ev_jmp f_X12_isFrom (nx := 18) rfl rfl rfl ?_
          refine ev_retK1 f_X12_isFrom rfl rfl rfl ?_
          refine ev_f f_X12_code (t1 := 36) (t2 := 24) rfl rfl rfl (by decide) ?_
          refine ev_loc f_X12_code (nx := 25) rfl rfl rfl rfl ?_
          refine ev_anyLE f_X12_code (nx := 26) rfl rfl rfl rfl (fun z31 e31 => ?_)
          have i31 : z31.toInt = ar3.toInt := by rw [e31]; exact Int32.toInt_toInt64 _
          refine ev_lc f_X12_code (nx := 27) (v := 0) rfl (by decide) rfl ?_
          refine ev_ldL f_X12_code (nx := 30) (v := 9) rfl (by decide) rfl ?_
          refine ev_inS3 f_X12_code (nx := 33) (lo2 := [(0, .long z31), (2, .long 0), (4, .long 9)]) rfl rfl rfl rfl f_X12_isFrom rfl rfl rfl rfl ?_
          refine ev_loc f_X12_isFrom (nx := 1) rfl rfl rfl rfl ?_
          refine ev_loc f_X12_isFrom (nx := 2) rfl rfl rfl rfl ?_
          refine ev_anyIE f_X12_isFrom (nx := 3) rfl rfl rfl rfl (fun z32 e32 => ?_)
          refine ev_if f_X12_isFrom (t1 := 17) (t2 := 6) rfl rfl rfl (fun h33 => ?_) (fun h33 => ?_)
          · have u34 : ar3.toInt ≤ ((-1):Int) := Int.le_sub_one_of_lt ((lgc_lt (by decide : (0 : Int64).toInt = 0)).mp (by have hh := h33; rw [e32, e31] at hh; exact hh))
            have u35 : z32.toInt ≤ (-1) := t_ltu h33 (by decide : (0:Int32).toInt ≤ (0:Int)) rfl
            refine ev_ic f_X12_isFrom (nx := 18) (v := 0) rfl (by decide) rfl ?_
            refine ev_retK1 f_X12_isFrom rfl rfl rfl ?_
            refine ev_t f_X12_code (t1 := 36) (t2 := 42) rfl rfl rfl (by decide) ?_
            refine ev_loc f_X12_code (nx := 37) rfl rfl rfl rfl ?_
            refine ev_ic f_X12_code (nx := 38) (v := 1) rfl (by decide) rfl ?_
            refine ev_inV2 f_X12_code (nx := 41) (lo2 := [(0, .ref 69), (1, .int 1)]) rfl rfl rfl rfl f_X12_refuse (hI.wf.s rfl) rfl rfl rfl rfl rfl ?_
            refine ev_loc f_X12_refuse (nx := 1) rfl rfl rfl rfl ?_
            refine ev_loc f_X12_refuse (nx := 2) rfl rfl rfl rfl ?_
            refine ev_putIT f_X12_refuse (nx := 5) rfl (hI.wf.s rfl) rfl rfl rfl (hI.put0 (hI.wf.s rfl) rfl rfl) (hX.upI rfl) (fun g36 e36 hI hX => ?_)
            refine ev_ic f_X12_refuse (nx := 6) (v := -1) rfl (by decide) rfl ?_
            refine ev_retK1 f_X12_refuse rfl rfl rfl ?_
            exact ev_ret f_X12_code rfl rfl rfl ⟨_, _, _, rfl, hI, hX, ⟨_, rfl, (Int.le_trans (by decide : ((-2147483648):Int) ≤ (-1)) (by decide : ((-1):Int) ≤ ((-1):Int32).toInt)), (Int.le_trans (by decide : ((-1):Int32).toInt ≤ ((-1):Int)) (by decide : ((-1):Int) ≤ 2147483647))⟩⟩
          · have l37 : (0:Int) ≤ ar3.toInt := (lgc_ge (by decide : (0 : Int64).toInt = 0)).mp (by have hh := (t_nlt h33); rw [e32, e31] at hh; exact hh)
            have l38 : 0 ≤ z32.toInt := t_lel (t_nlt h33) (by decide : (0:Int) ≤ (0:Int32).toInt)
            refine ev_loc f_X12_isFrom (nx := 7) rfl rfl rfl rfl ?_
            refine ev_loc f_X12_isFrom (nx := 9) rfl rfl rfl rfl ?_
            refine ev_anyIE f_X12_isFrom (nx := 10) rfl rfl rfl rfl (fun z39 e39 => ?_)
            refine ev_if f_X12_isFrom (t1 := 17) (t2 := 13) rfl rfl rfl (fun h40 => ?_) (fun h40 => ?_)
            · have l41 : (10:Int) ≤ ar3.toInt := Int.add_one_le_of_lt ((lgc_gt (by decide : (9 : Int64).toInt = 9)).mp (by have hh := h40; rw [e39, e31] at hh; exact hh))
              have l42 : 1 ≤ z39.toInt := t_ltl h40 (by decide : (0:Int) ≤ (0:Int32).toInt) rfl
              refine ev_ic f_X12_isFrom (nx := 18) (v := 0) rfl (by decide) rfl ?_
              refine ev_retK1 f_X12_isFrom rfl rfl rfl ?_
              refine ev_t f_X12_code (t1 := 36) (t2 := 42) rfl rfl rfl (by decide) ?_
              refine ev_loc f_X12_code (nx := 37) rfl rfl rfl rfl ?_
              refine ev_ic f_X12_code (nx := 38) (v := 1) rfl (by decide) rfl ?_
              refine ev_inV2 f_X12_code (nx := 41) (lo2 := [(0, .ref 69), (1, .int 1)]) rfl rfl rfl rfl f_X12_refuse (hI.wf.s rfl) rfl rfl rfl rfl rfl ?_
              refine ev_loc f_X12_refuse (nx := 1) rfl rfl rfl rfl ?_
              refine ev_loc f_X12_refuse (nx := 2) rfl rfl rfl rfl ?_
              refine ev_putIT f_X12_refuse (nx := 5) rfl (hI.wf.s rfl) rfl rfl rfl (hI.put0 (hI.wf.s rfl) rfl rfl) (hX.upI rfl) (fun g43 e43 hI hX => ?_)
              refine ev_ic f_X12_refuse (nx := 6) (v := -1) rfl (by decide) rfl ?_
              refine ev_retK1 f_X12_refuse rfl rfl rfl ?_
              exact ev_ret f_X12_code rfl rfl rfl ⟨_, _, _, rfl, hI, hX, ⟨_, rfl, (Int.le_trans (by decide : ((-2147483648):Int) ≤ (-1)) (by decide : ((-1):Int) ≤ ((-1):Int32).toInt)), (Int.le_trans (by decide : ((-1):Int32).toInt ≤ ((-1):Int)) (by decide : ((-1):Int) ≤ 2147483647))⟩⟩
            · have u44 : ar3.toInt ≤ (9:Int) := (lgc_le (by decide : (9 : Int64).toInt = 9)).mp (by have hh := (t_nlt h40); rw [e39, e31] at hh; exact hh)
              have u45 : z39.toInt ≤ 0 := t_leu (t_nlt h40) (by decide : (0:Int32).toInt ≤ (0:Int))
              refine ev_ic f_X12_isFrom (nx := 14) (v := 1) rfl (by decide) rfl ?_
              refine ev_jmp f_X12_isFrom (nx := 18) rfl rfl rfl ?_
              refine ev_retK1 f_X12_isFrom rfl rfl rfl ?_
              refine ev_f f_X12_code (t1 := 36) (t2 := 42) rfl rfl rfl (by decide) ?_
              refine ev_loc f_X12_code (nx := 43) rfl rfl rfl rfl ?_
              refine ev_loc f_X12_code (nx := 44) rfl rfl rfl rfl ?_
              refine ev_loc f_X12_code (nx := 45) rfl rfl rfl rfl ?_
              refine ev_qN f_X12_code (nx := 48) (r := []) rfl rfl rfl rfl rfl rfl rfl (c_m_laysCalls hI (ar2) l22 u29 (ar3) l37 u44) rfl hX rfl (fun gi46 gl46 gr46 hI hX hC46 q46 => ?_)
              have q46 : 2 ≤ (gi46 69 39).toInt ∧ (gi46 69 39).toInt ≤ 30 := q46
              refine ev_ic f_X12_code (nx := 49) (v := 0) rfl (by decide) rfl ?_
              refine ev_loc f_X12_code (nx := 51) (lo' := [(4, .int 0), (0, .ref 69), (1, .int ar1), (2, .int ar2), (3, .int ar3)]) rfl rfl rfl rfl ?_
              refine ev_loc f_X12_code (nx := 52) rfl rfl rfl rfl ?_
              refine ev_getR f_X12_code (nx := 55) rfl (hI.wf.s rfl) rfl rfl (hI.wf.r rfl) rfl rfl ?_
              refine ev_ic f_X12_code (nx := 56) (v := 0) rfl (by decide) rfl ?_
              refine ev_ic f_X12_code (nx := 57) (v := -1) rfl (by decide) rfl ?_
              refine ev_iastT f_X12_code (nx := 58) rfl (hI.wf.s rfl) (by decide : (0:Int) ≤ (0:Int32).toInt) (by decide) (by decide : (0:Int32).toInt ≤ (0:Int)) (by decide) rfl (hI.astL (hI.wf.s rfl) (by decide +kernel : t_abw 88 0 0 (-1) (-1) = true) (t_cl1 (by decide : (0:Int) ≤ (0:Int32).toInt) (by decide)) (t_cl2 (by decide : (0:Int) ≤ (0:Int32).toInt) (by decide : (0:Int32).toInt ≤ (0:Int)) (by decide) (by decide)) (by decide : ((-1):Int) ≤ ((-1):Int32).toInt) (by decide : ((-1):Int32).toInt ≤ ((-1):Int)) rfl) (hX.upI (t_inR (p := 0) (m := 0) rfl (by decide : (0:Int) ≤ (0:Int32).toInt) (by decide) (by decide : (0:Int32).toInt ≤ (0:Int)) (by decide) (by decide))) (fun g47 e47 hI hX => ?_)
              have L48 : ∀ (m48 : Nat) (gi48 : Nat → Nat → Int32) (gl48 : Nat → Nat → Int64) (gr48 : Nat → Nat → Value) (y48_4 : Int32), t_I sh gi48 gr48 → t_X wl_m_code sh gi gl gr gi48 gl48 gr48 → (-1) ≤ y48_4.toInt → y48_4.toInt ≤ 4 → t_rw y48_4.toInt (gi48 88) → y48_4.toInt ≤ ar1.toInt → t_cm y48_4.toInt (gi48 88) = m48 → x_Ev X (d + 3) n_X12_code 58 [(4, .int y48_4), (0, .ref 69), (1, .int ar1), (2, .int ar2), (3, .int ar3)] [] (sh, gi48, gl48, gr48) (t_P wl_m_code sh gi gl gr (t_Ri (-2147483648) 2147483647)) := by
                intro m48
                induction m48 using Nat.strongRecOn with
                | _ m48 ih48 =>
                intro gi48 gl48 gr48 y48_4 hI hX l48_4 u48_4 j48_0 j48_1 hm48
                refine ev_loc f_X12_code (nx := 60) rfl rfl rfl rfl ?_
                refine ev_if f_X12_code (t1 := 133) (t2 := 63) rfl rfl rfl (fun h49 => ?_) (fun h49 => ?_)
                · have u50 : y48_4.toInt ≤ (-1) := t_ltu h49 (by decide : (0:Int32).toInt ≤ (0:Int)) rfl
                  refine ev_loc f_X12_code (nx := 135) rfl rfl rfl rfl ?_
                  refine ev_f f_X12_code (t1 := 145) (t2 := 138) rfl rfl rfl (t_leF u50 (by decide : (0:Int) ≤ (0:Int32).toInt) (by decide)) ?_
                  refine ev_loc f_X12_code (nx := 139) rfl rfl rfl rfl ?_
                  refine ev_bp f_X12_code (nx := 141) (v := 6) rfl (by decide) rfl ?_
                  refine ev_inV2 f_X12_code (nx := 144) (lo2 := [(0, .ref 69), (1, .int 6)]) rfl rfl rfl rfl f_X12_refuse (hI.wf.s rfl) rfl rfl rfl rfl rfl ?_
                  refine ev_loc f_X12_refuse (nx := 1) rfl rfl rfl rfl ?_
                  refine ev_loc f_X12_refuse (nx := 2) rfl rfl rfl rfl ?_
                  refine ev_putIT f_X12_refuse (nx := 5) rfl (hI.wf.s rfl) rfl rfl rfl (hI.put0 (hI.wf.s rfl) rfl rfl) (hX.upI rfl) (fun g51 e51 hI hX => ?_)
                  refine ev_ic f_X12_refuse (nx := 6) (v := -1) rfl (by decide) rfl ?_
                  refine ev_retK1 f_X12_refuse rfl rfl rfl ?_
                  exact ev_ret f_X12_code rfl rfl rfl ⟨_, _, _, rfl, hI, hX, ⟨_, rfl, (Int.le_trans (by decide : ((-2147483648):Int) ≤ (-1)) (by decide : ((-1):Int) ≤ ((-1):Int32).toInt)), (Int.le_trans (by decide : ((-1):Int32).toInt ≤ ((-1):Int)) (by decide : ((-1):Int) ≤ 2147483647))⟩⟩
                · have l52 : 0 ≤ y48_4.toInt := t_lel (t_nlt h49) (by decide : (0:Int) ≤ (0:Int32).toInt)
                  refine ev_loc f_X12_code (nx := 65) rfl rfl rfl rfl ?_
                  refine ev_loc f_X12_code (nx := 66) rfl rfl rfl rfl ?_
                  refine ev_if f_X12_code (t1 := 133) (t2 := 69) rfl rfl rfl (fun h53 => ?_) (fun h53 => ?_)
                  · have r54 : ar1.toInt ≤ y48_4.toInt := Int32.le_iff_toInt_le.mp h53
                    have l55 : 1 ≤ y48_4.toInt := t_lel h53 l7
                    refine ev_loc f_X12_code (nx := 135) rfl rfl rfl rfl ?_
                    refine ev_t f_X12_code (t1 := 145) (t2 := 138) rfl rfl rfl (t_leT (by decide : (0:Int32).toInt ≤ (0:Int)) l55 (by decide)) ?_
                    refine ev_ic f_X12_code (nx := 146) (v := 0) rfl (by decide) rfl ?_
                    refine ev_loc f_X12_code (nx := 148) (lo' := [(5, .int 0), (4, .int y48_4), (0, .ref 69), (1, .int ar1), (2, .int ar2), (3, .int ar3)]) rfl rfl rfl rfl ?_
                    refine ev_ic f_X12_code (nx := 149) (v := 0) rfl (by decide) rfl ?_
                    refine ev_loc f_X12_code (nx := 151) (lo' := [(6, .int 0), (5, .int 0), (4, .int y48_4), (0, .ref 69), (1, .int ar1), (2, .int ar2), (3, .int ar3)]) rfl rfl rfl rfl ?_
                    have L56 : ∀ (m56 : Nat) (gi56 : Nat → Nat → Int32) (gl56 : Nat → Nat → Int64) (gr56 : Nat → Nat → Value) (y56_6 : Int32) (y56_5 : Int32), t_I sh gi56 gr56 → t_X wl_m_code sh gi gl gr gi56 gl56 gr56 → 0 ≤ y56_6.toInt → y56_6.toInt ≤ 4 → t_rw ar1.toInt (gi56 88) → (4 - y56_6.toInt).toNat = m56 → x_Ev X (d + 3) n_X12_code 151 [(6, .int y56_6), (5, .int y56_5), (4, .int y48_4), (0, .ref 69), (1, .int ar1), (2, .int ar2), (3, .int ar3)] [] (sh, gi56, gl56, gr56) (t_P wl_m_code sh gi gl gr (t_Ri (-2147483648) 2147483647)) := by
                      intro m56
                      induction m56 using Nat.strongRecOn with
                      | _ m56 ih56 =>
                      intro gi56 gl56 gr56 y56_6 y56_5 hI hX l56_6 u56_6 j56_0 hm56
                      refine ev_loc f_X12_code (nx := 153) rfl rfl rfl rfl ?_
                      refine ev_loc f_X12_code (nx := 154) rfl rfl rfl rfl ?_
                      refine ev_if f_X12_code (t1 := 199) (t2 := 157) rfl rfl rfl (fun h57 => ?_) (fun h57 => ?_)
                      · have r58 : ar1.toInt ≤ y56_6.toInt := Int32.le_iff_toInt_le.mp h57
                        have l59 : 1 ≤ y56_6.toInt := t_lel h57 l7
                        refine ev_loc f_X12_code (nx := 200) rfl rfl rfl rfl ?_
                        refine ev_loc f_X12_code (nx := 201) rfl rfl rfl rfl ?_
                        refine ev_putIT f_X12_code (nx := 204) rfl (hI.wf.s rfl) rfl rfl rfl (hI.putB (hI.wf.s rfl) rfl rfl l7 (by decide) u14 (by decide)) (hX.upI rfl) (fun g60 e60 hI hX => ?_)
                        refine ev_loc f_X12_code (nx := 205) rfl rfl rfl rfl ?_
                        refine ev_loc f_X12_code (nx := 207) rfl rfl rfl rfl ?_
                        refine ev_inV2 f_X12_code (nx := 210) (lo2 := [(0, .ref 69), (1, .int y56_5)]) rfl rfl rfl rfl f_X12_gives (hI.wf.s rfl) rfl rfl rfl rfl rfl ?_
                        refine ev_loc f_X12_gives (nx := 1) rfl rfl rfl rfl ?_
                        refine ev_ic f_X12_gives (nx := 2) (v := 0) rfl (by decide) rfl ?_
                        refine ev_putIT f_X12_gives (nx := 5) rfl (hI.wf.s rfl) rfl rfl rfl (hI.put0 (hI.wf.s rfl) rfl rfl) (hX.upI rfl) (fun g61 e61 hI hX => ?_)
                        refine ev_loc f_X12_gives (nx := 6) rfl rfl rfl rfl ?_
                        refine ev_retK1 f_X12_gives rfl rfl rfl ?_
                        exact ev_ret f_X12_code rfl rfl rfl ⟨_, _, _, rfl, hI, hX, ⟨_, rfl, (t_lo y56_5), (t_hi y56_5)⟩⟩
                      · have r62 : y56_6.toInt < ar1.toInt := Int32.lt_iff_toInt_lt.mp (t_nle h57)
                        have u63 : y56_6.toInt ≤ 3 := t_ltu (t_nle h57) u14 rfl
                        refine ev_loc f_X12_code (nx := 158) rfl rfl rfl rfl ?_
                        refine ev_getR f_X12_code (nx := 161) rfl (hI.wf.s rfl) rfl rfl (hI.wf.r rfl) rfl rfl ?_
                        refine ev_loc f_X12_code (nx := 163) rfl rfl rfl rfl ?_
                        refine ev_loc f_X12_code (nx := 164) rfl rfl rfl rfl ?_
                        refine ev_getR f_X12_code (nx := 167) rfl (hI.wf.s rfl) rfl rfl (hI.wf.r rfl) rfl rfl ?_
                        refine ev_loc f_X12_code (nx := 168) rfl rfl rfl rfl ?_
                        refine ev_getR f_X12_code (nx := 171) rfl (hI.wf.s rfl) rfl rfl (hI.wf.r rfl) rfl rfl ?_
                        refine ev_loc f_X12_code (nx := 173) rfl rfl rfl rfl ?_
                        refine ev_ialdT f_X12_code (nx := 174) rfl (hI.wf.s rfl) l56_6 (by decide) u63 (by decide) rfl (fun w64 e64 => ?_)
                        obtain ⟨l64, u64⟩ := hI.abi e64 (by decide +kernel : t_abr 88 0 3 (-1) 30 = true) l56_6 (by decide) u63 (by decide)
                        have l66 : (0:Int) ≤ w64.toInt := (by have hc := t_clamp (i := y56_6) (by omega); have hj := (j56_0 y56_6.toNatClampNeg).1 (by omega); rw [← e64] at hj; omega)
                        have u66 : w64.toInt ≤ (29:Int) := (by have hc := t_clamp (i := y56_6) (by omega); have hj := (j56_0 y56_6.toNatClampNeg).1 (by omega); rw [← e64] at hj; omega)
                        refine ev_laldT f_X12_code (nx := 175) rfl (hI.wf.s rfl) l66 (by decide) u66 (by decide) rfl (fun w65 e65 => ?_)
                        refine ev_lastT f_X12_code (nx := 176) rfl (hI.wf.s rfl) l56_6 (by decide) u63 (by decide) rfl (hX.upL (t_inA_ok rfl)) (fun g67 e67 hX => ?_)
                        refine ev_loc f_X12_code (nx := 178) rfl rfl rfl rfl ?_
                        refine ev_loc f_X12_code (nx := 179) rfl rfl rfl rfl ?_
                        refine ev_getR f_X12_code (nx := 182) rfl (hI.wf.s rfl) rfl rfl (hI.wf.r rfl) rfl rfl ?_
                        refine ev_loc f_X12_code (nx := 183) rfl rfl rfl rfl ?_
                        refine ev_getR f_X12_code (nx := 186) rfl (hI.wf.s rfl) rfl rfl (hI.wf.r rfl) rfl rfl ?_
                        refine ev_loc f_X12_code (nx := 188) rfl rfl rfl rfl ?_
                        refine ev_ialdT f_X12_code (nx := 189) rfl (hI.wf.s rfl) l56_6 (by decide) u63 (by decide) rfl (fun w68 e68 => ?_)
                        rw [e68.trans e64.symm]
                        refine ev_ialdT f_X12_code (nx := 190) rfl (hI.wf.s rfl) l66 (by decide) u66 (by decide) rfl (fun w69 e69 => ?_)
                        refine ev_anyIE f_X12_code (nx := 191) rfl rfl rfl rfl (fun z70 e70 => ?_)
                        refine ev_loc f_X12_code (nx := 193) (lo' := [(5, .int z70), (6, .int y56_6), (4, .int y48_4), (0, .ref 69), (1, .int ar1), (2, .int ar2), (3, .int ar3)]) rfl rfl rfl rfl ?_
                        refine ev_incR f_X12_code (nx := 196) (c := 1) (l := 1) (u := 4) rfl rfl (by decide) (by decide) l56_6 u63 rfl rfl (by decide) (by decide) rfl (fun z71 e71 l71 u71 => ?_)
                        refine ev_jmp f_X12_code (nx := 151) rfl rfl rfl ?_
                        refine ev_sub (lo := [(6, .int z71), (5, .int z70), (4, .int y48_4), (0, .ref 69), (1, .int ar1), (2, .int ar2), (3, .int ar3)]) rfl (t_sc rfl (t_sc rfl (t_sc rfl (t_sc rfl (t_sc rfl (t_sc rfl (t_sc rfl t_sn))))))) ?_
                        exact ih56 _ (by omega) gi56 g67 gr56 (z71) (z70) hI hX  (Int.le_trans (by decide : (0:Int) ≤ 1) l71) u71 j56_0 rfl
                    refine ev_sub (lo := [(6, .int 0), (5, .int 0), (4, .int y48_4), (0, .ref 69), (1, .int ar1), (2, .int ar2), (3, .int ar3)]) rfl (t_sc rfl (t_sc rfl (t_sc rfl (t_sc rfl (t_sc rfl (t_sc rfl (t_sc rfl t_sn))))))) ?_
                    exact L56 _ gi48 gl48 gr48 (0) (0) hI hX  (by decide : (0:Int) ≤ (0:Int32).toInt) (Int.le_trans (by decide : (0:Int32).toInt ≤ (0:Int)) (by decide : (0:Int) ≤ 4)) (by have he : ar1.toInt = y48_4.toInt := (by omega); rw [he]; exact j48_0) rfl
                  · have r72 : y48_4.toInt < ar1.toInt := Int32.lt_iff_toInt_lt.mp (t_nle h53)
                    have u73 : y48_4.toInt ≤ 3 := t_ltu (t_nle h53) u14 rfl
                    refine ev_loc f_X12_code (nx := 70) rfl rfl rfl rfl ?_
                    refine ev_getR f_X12_code (nx := 73) rfl (hI.wf.s rfl) rfl rfl (hI.wf.r rfl) rfl rfl ?_
                    refine ev_loc f_X12_code (nx := 75) rfl rfl rfl rfl ?_
                    refine ev_alu f_X12_code (nx := 76) rfl rfl rfl rfl ?_
                    refine ev_ialdT f_X12_code (nx := 77) rfl (hI.wf.s rfl) l52 (by decide) u73 (by decide) rfl (fun w74 e74 => ?_)
                    obtain ⟨l74, u74⟩ := hI.abi e74 (by decide +kernel : t_abr 88 0 3 (-1) 30 = true) l52 (by decide) u73 (by decide)
                    refine ev_ic f_X12_code (nx := 78) (v := 1) rfl (by decide) rfl ?_
                    refine ev_addC f_X12_code (nx := 79) (c := 1) (l := 0) (u := 31) rfl (by decide) l74 u74 rfl rfl (by decide) (by decide) rfl (fun z75 e75 l75 u75 => ?_)
                    have u77 : z75.toInt ≤ (30:Int) := (by have hc := t_clamp (i := y48_4) (by omega); have hw := (j48_0 y48_4.toNatClampNeg).2 hc (by omega); rw [← e74] at hw; omega)
                    refine ev_iastT f_X12_code (nx := 80) rfl (hI.wf.s rfl) l52 (by decide) u73 (by decide) rfl (hI.astL (hI.wf.s rfl) (by decide +kernel : t_abw 88 0 3 0 30 = true) (t_cl1 l52 (by decide)) (t_cl2 l52 u73 (by decide) (by decide)) l75 u77 rfl) (hX.upI (t_inR (p := 0) (m := 3) rfl l52 (by decide) u73 (by decide) (by decide))) (fun g76 e76 hI hX => ?_)
                    refine ev_loc f_X12_code (nx := 81) rfl rfl rfl rfl ?_
                    refine ev_getR f_X12_code (nx := 84) rfl (hI.wf.s rfl) rfl rfl (hI.wf.r rfl) rfl rfl ?_
                    refine ev_loc f_X12_code (nx := 86) rfl rfl rfl rfl ?_
                    refine ev_ialdT f_X12_code (nx := 87) rfl (hI.wf.s rfl) l52 (by decide) u73 (by decide) rfl (fun w78 e78 => ?_)
                    rw [e78.trans (by rw [e76]; exact x_up2_at _ _ _ _ : g76 88 y48_4.toNatClampNeg = z75)]
                    refine ev_loc f_X12_code (nx := 88) rfl rfl rfl rfl ?_
                    refine ev_getI f_X12_code (nx := 91) rfl (hI.wf.s rfl) rfl rfl rfl ?_
                    obtain ⟨l79, u79⟩ := hI.b (hI.wf.s (k := 69) rfl) (t_bdK rfl : t_bd 11 39 = some (0, 30))
                    refine ev_if f_X12_code (t1 := 100) (t2 := 94) rfl rfl rfl (fun h80 => ?_) (fun h80 => ?_)
                    · have r81 : z75.toInt < (g76 69 39).toInt := Int32.lt_iff_toInt_lt.mp h80
                      have u82 : z75.toInt ≤ 29 := t_ltu h80 u79 rfl
                      have l83 : 1 ≤ (g76 69 39).toInt := t_ltl h80 l75 rfl
                      refine ev_loc f_X12_code (nx := 101) rfl rfl rfl rfl ?_
                      refine ev_loc f_X12_code (nx := 103) rfl rfl rfl rfl ?_
                      refine ev_ic f_X12_code (nx := 104) (v := 1) rfl (by decide) rfl ?_
                      refine ev_addC f_X12_code (nx := 105) (c := 1) (l := 1) (u := 4) rfl (by decide) l52 u73 rfl rfl (by decide) (by decide) rfl (fun z84 e84 l84 u84 => ?_)
                      refine ev_cI f_X12_code (nx := 108) (r := []) rfl rfl rfl rfl rfl rfl rfl (c_m_isCode hI (z84) l84 u84 (fun j hj => ((t_cmB j48_0 (by omega) (by omega) e74 e75 e76)).2.2.2.2.2.2 j (by omega) (by omega))) rfl hX rfl (fun w85 gi85 gl85 gr85 l85 u85 hI hX hC85 => ?_)
                      refine ev_if f_X12_code (t1 := 58) (t2 := 111) rfl rfl rfl (fun h86 => ?_) (fun h86 => ?_)
                      · have u87 : w85.toInt ≤ 0 := t_equ h86 (by decide : (0:Int32).toInt ≤ (0:Int))
                        refine ev_sub (lo := [(4, .int y48_4), (0, .ref 69), (1, .int ar1), (2, .int ar2), (3, .int ar3)]) rfl (t_sc rfl (t_sc rfl (t_sc rfl (t_sc rfl (t_sc rfl t_sn))))) ?_
                        exact ih48 _ (by have hf : gi85 88 = g76 88 := funext (fun j => (hC85.1 88 j rfl).1); have hh := (t_cmB j48_0 (by omega) (by omega) e74 e75 e76); rw [hf]; omega) gi85 gl85 gr85 (y48_4) hI hX  (Int.le_trans (by decide : ((-1):Int) ≤ 0) l52) (Int.le_trans u73 (by decide : (3:Int) ≤ 4)) (by have hf : gi85 88 = g76 88 := funext (fun j => (hC85.1 88 j rfl).1); have hh := (t_cmB j48_0 (by omega) (by omega) e74 e75 e76); rw [hf]; exact hh.2.2.2.2.1 (by omega)) (by omega) rfl
                      · have r88 : w85.toInt ≠ 0 := fun e => h86 (Int32.toInt_inj.mp (e.trans (by decide : (0:Int) = (0 : Int32).toInt)))
                        have l89 : 1 ≤ w85.toInt := t_nel h86 l85 rfl rfl
                        refine ev_loc f_X12_code (nx := 112) rfl rfl rfl rfl ?_
                        refine ev_getR f_X12_code (nx := 115) rfl (hI.wf.s rfl) rfl rfl (hI.wf.r rfl) rfl rfl ?_
                        refine ev_loc f_X12_code (nx := 117) rfl rfl rfl rfl ?_
                        refine ev_ic f_X12_code (nx := 118) (v := 1) rfl (by decide) rfl ?_
                        refine ev_addC f_X12_code (nx := 119) (c := 1) (l := 1) (u := 4) rfl (by decide) l52 u73 rfl rfl (by decide) (by decide) rfl (fun z90 e90 l90 u90 => ?_)
                        refine ev_loc f_X12_code (nx := 120) rfl rfl rfl rfl ?_
                        refine ev_getR f_X12_code (nx := 123) rfl (hI.wf.s rfl) rfl rfl (hI.wf.r rfl) rfl rfl ?_
                        refine ev_loc f_X12_code (nx := 125) rfl rfl rfl rfl ?_
                        refine ev_ialdT f_X12_code (nx := 126) rfl (hI.wf.s rfl) l52 (by decide) u73 (by decide) rfl (fun w91 e91 => ?_)
                        rw [e91.trans ((hC85.1 88 y48_4.toNatClampNeg rfl).1.trans (by rw [e76]; exact x_up2_at _ _ _ _ : g76 88 y48_4.toNatClampNeg = z75))]
                        refine ev_iastT f_X12_code (nx := 127) rfl (hI.wf.s rfl) l90 (by decide) u90 (by decide) rfl (hI.astL (hI.wf.s rfl) (by decide +kernel : t_abw 88 1 4 0 29 = true) (t_cl1 l90 (by decide)) (t_cl2 l90 u90 (by decide) (by decide)) l75 u82 rfl) (hX.upI (t_inR (p := 1) (m := 4) rfl l90 (by decide) u90 (by decide) (by decide))) (fun g92 e92 hI hX => ?_)
                        refine ev_incR f_X12_code (nx := 130) (c := 1) (l := 1) (u := 4) rfl rfl (by decide) (by decide) l52 u73 rfl rfl (by decide) (by decide) rfl (fun z93 e93 l93 u93 => ?_)
                        refine ev_jmp f_X12_code (nx := 58) rfl rfl rfl ?_
                        refine ev_sub (lo := [(4, .int z93), (0, .ref 69), (1, .int ar1), (2, .int ar2), (3, .int ar3)]) rfl (t_sc rfl (t_sc rfl (t_sc rfl (t_sc rfl (t_sc rfl t_sn))))) ?_
                        exact ih48 _ (by have hf : gi85 88 = g76 88 := funext (fun j => (hC85.1 88 j rfl).1); have hh := t_cmC (m := z93) j48_0 (by omega) (by omega) e74 e75 e76 (by omega) (by omega) (by omega) hf e92; omega) g92 gl85 gr85 (z93) hI hX  (Int.le_trans (by decide : ((-1):Int) ≤ 1) l93) u93 (by have hf : gi85 88 = g76 88 := funext (fun j => (hC85.1 88 j rfl).1); have hh := t_cmC (m := z93) j48_0 (by omega) (by omega) e74 e75 e76 (by omega) (by omega) (by omega) hf e92; exact hh.2) (by omega) rfl
                    · have r94 : (g76 69 39).toInt ≤ z75.toInt := Int32.le_iff_toInt_le.mp (t_nlt h80)
                      refine ev_incR f_X12_code (nx := 97) (c := (-1)) (l := (-1)) (u := 2) rfl rfl (by decide) (by decide) l52 u73 rfl rfl (by decide) (by decide) rfl (fun z95 e95 l95 u95 => ?_)
                      refine ev_jmp f_X12_code (nx := 58) rfl rfl rfl ?_
                      refine ev_sub (lo := [(4, .int z95), (0, .ref 69), (1, .int ar1), (2, .int ar2), (3, .int ar3)]) rfl (t_sc rfl (t_sc rfl (t_sc rfl (t_sc rfl (t_sc rfl t_sn))))) ?_
                      exact ih48 _ (by have hh := (t_cmB j48_0 (by omega) (by omega) e74 e75 e76); have he : z95.toInt = y48_4.toInt - 1 := (by omega); rw [he]; omega) g76 gl48 gr48 (z95) hI hX  l95 (Int.le_trans u95 (by decide : (2:Int) ≤ 4)) (by have hh := (t_cmB j48_0 (by omega) (by omega) e74 e75 e76); have he : z95.toInt = y48_4.toInt - 1 := (by omega); rw [he]; exact hh.2.2.2.2.2.1) (by omega) rfl
              refine ev_sub (lo := [(4, .int 0), (0, .ref 69), (1, .int ar1), (2, .int ar2), (3, .int ar3)]) rfl (t_sc rfl (t_sc rfl (t_sc rfl (t_sc rfl (t_sc rfl t_sn))))) ?_
              exact L48 _ g47 gl46 gr46 (0) hI hX  (Int.le_trans (by decide : ((-1):Int) ≤ 0) (by decide : (0:Int) ≤ (0:Int32).toInt)) (Int.le_trans (by decide : (0:Int32).toInt ≤ (0:Int)) (by decide : (0:Int) ≤ 4)) (t_rw0 e47) (by have kf96 : (0 : Int32).toInt = 0 := (by decide); omega) rfl
noncomputable def wl_m_codeAt : List (Nat × Nat) := [(69, 2)]
theorem c_m_codeAt {X : x_Ext} {d : Nat} {sh : List (Nat ⊕ (Nat × Nat))} {gi : Nat → Nat → Int32} {gl : Nat → Nat → Int64} {gr : Nat → Nat → Value} (hI : t_I sh gi gr) (ar1 : Int32) : x_Me X (d + 2) n_X12_codeAt [.ref 69, .int ar1] (sh, gi, gl, gr) (t_P wl_m_codeAt sh gi gl gr t_Rl) := by
  have hX : t_X wl_m_codeAt sh gi gl gr gi gl gr := t_X.rf
  refine me_i f_X12_codeAt (hI.wf.s rfl) rfl rfl rfl ?_
  refine ev_loc f_X12_codeAt (nx := 1) rfl rfl rfl rfl ?_
  refine ev_if f_X12_codeAt (t1 := 12) (t2 := 4) rfl rfl rfl (fun h1 => ?_) (fun h1 => ?_)
  · have u2 : ar1.toInt ≤ (-1) := t_ltu h1 (by decide : (0:Int32).toInt ≤ (0:Int)) rfl
    refine ev_loc f_X12_codeAt (nx := 13) rfl rfl rfl rfl ?_
    refine ev_bp f_X12_codeAt (nx := 15) (v := 6) rfl (by decide) rfl ?_
    refine ev_inV2 f_X12_codeAt (nx := 18) (lo2 := [(0, .ref 69), (1, .int 6)]) rfl rfl rfl rfl f_X12_refuse (hI.wf.s rfl) rfl rfl rfl rfl rfl ?_
    refine ev_loc f_X12_refuse (nx := 1) rfl rfl rfl rfl ?_
    refine ev_loc f_X12_refuse (nx := 2) rfl rfl rfl rfl ?_
    refine ev_putIT f_X12_refuse (nx := 5) rfl (hI.wf.s rfl) rfl rfl rfl (hI.put0 (hI.wf.s rfl) rfl rfl) (hX.upI rfl) (fun g3 e3 hI hX => ?_)
    refine ev_ic f_X12_refuse (nx := 6) (v := -1) rfl (by decide) rfl ?_
    refine ev_retK1 f_X12_refuse rfl rfl rfl ?_
    refine ev_aluvL f_X12_codeAt (nx := 19) (w := -1) rfl rfl rfl (by decide) rfl ?_
    refine ev_jmp f_X12_codeAt (nx := 32) rfl rfl rfl ?_
    exact ev_ret f_X12_codeAt rfl rfl rfl ⟨_, _, _, rfl, hI, hX, ⟨_, rfl⟩⟩
  · have l4 : 0 ≤ ar1.toInt := t_lel (t_nlt h1) (by decide : (0:Int) ≤ (0:Int32).toInt)
    refine ev_loc f_X12_codeAt (nx := 5) rfl rfl rfl rfl ?_
    refine ev_loc f_X12_codeAt (nx := 6) rfl rfl rfl rfl ?_
    refine ev_getI f_X12_codeAt (nx := 9) rfl (hI.wf.s rfl) rfl rfl rfl ?_
    obtain ⟨l5, u5⟩ := hI.b (hI.wf.s (k := 69) rfl) (t_bdK rfl : t_bd 11 40 = some (0, 4))
    refine ev_if f_X12_codeAt (t1 := 22) (t2 := 12) rfl rfl rfl (fun h6 => ?_) (fun h6 => ?_)
    · have r7 : ar1.toInt < (gi 69 40).toInt := Int32.lt_iff_toInt_lt.mp h6
      have u8 : ar1.toInt ≤ 3 := t_ltu h6 u5 rfl
      have l9 : 1 ≤ (gi 69 40).toInt := t_ltl h6 l4 rfl
      refine ev_loc f_X12_codeAt (nx := 23) rfl rfl rfl rfl ?_
      refine ev_loc f_X12_codeAt (nx := 24) rfl rfl rfl rfl ?_
      refine ev_getR f_X12_codeAt (nx := 27) rfl (hI.wf.s rfl) rfl rfl (hI.wf.r rfl) rfl rfl ?_
      refine ev_loc f_X12_codeAt (nx := 28) rfl rfl rfl rfl ?_
      refine ev_laldT f_X12_codeAt (nx := 29) rfl (hI.wf.s rfl) l4 (by decide) u8 (by decide) rfl (fun w10 e10 => ?_)
      refine ev_inV2 f_X12_codeAt (nx := 32) (lo2 := [(0, .ref 69), (1, .long w10)]) rfl rfl rfl rfl f_X12_givesLong (hI.wf.s rfl) rfl rfl rfl rfl rfl ?_
      refine ev_loc f_X12_givesLong (nx := 1) rfl rfl rfl rfl ?_
      refine ev_ic f_X12_givesLong (nx := 2) (v := 0) rfl (by decide) rfl ?_
      refine ev_putIT f_X12_givesLong (nx := 5) rfl (hI.wf.s rfl) rfl rfl rfl (hI.put0 (hI.wf.s rfl) rfl rfl) (hX.upI rfl) (fun g11 e11 hI hX => ?_)
      refine ev_loc f_X12_givesLong (nx := 6) rfl rfl rfl rfl ?_
      refine ev_retK1 f_X12_givesLong rfl rfl rfl ?_
      exact ev_ret f_X12_codeAt rfl rfl rfl ⟨_, _, _, rfl, hI, hX, ⟨_, rfl⟩⟩
    · have r12 : (gi 69 40).toInt ≤ ar1.toInt := Int32.le_iff_toInt_le.mp (t_nlt h6)
      refine ev_loc f_X12_codeAt (nx := 13) rfl rfl rfl rfl ?_
      refine ev_bp f_X12_codeAt (nx := 15) (v := 6) rfl (by decide) rfl ?_
      refine ev_inV2 f_X12_codeAt (nx := 18) (lo2 := [(0, .ref 69), (1, .int 6)]) rfl rfl rfl rfl f_X12_refuse (hI.wf.s rfl) rfl rfl rfl rfl rfl ?_
      refine ev_loc f_X12_refuse (nx := 1) rfl rfl rfl rfl ?_
      refine ev_loc f_X12_refuse (nx := 2) rfl rfl rfl rfl ?_
      refine ev_putIT f_X12_refuse (nx := 5) rfl (hI.wf.s rfl) rfl rfl rfl (hI.put0 (hI.wf.s rfl) rfl rfl) (hX.upI rfl) (fun g13 e13 hI hX => ?_)
      refine ev_ic f_X12_refuse (nx := 6) (v := -1) rfl (by decide) rfl ?_
      refine ev_retK1 f_X12_refuse rfl rfl rfl ?_
      refine ev_aluvL f_X12_codeAt (nx := 19) (w := -1) rfl rfl rfl (by decide) rfl ?_
      refine ev_jmp f_X12_codeAt (nx := 32) rfl rfl rfl ?_
      exact ev_ret f_X12_codeAt rfl rfl rfl ⟨_, _, _, rfl, hI, hX, ⟨_, rfl⟩⟩
noncomputable def wl_m_orders : List (Nat × Nat) := [(69, 44), (69, 45), (90, 9999), (91, 9999)]
theorem c_m_orders {X : x_Ext} {d : Nat} {sh : List (Nat ⊕ (Nat × Nat))} {gi : Nat → Nat → Int32} {gl : Nat → Nat → Int64} {gr : Nat → Nat → Value} (hI : t_I sh gi gr) (ar1 : Int32) : x_Me X (d + 1) n_X12_orders [.ref 69, .int ar1] (sh, gi, gl, gr) (t_P wl_m_orders sh gi gl gr t_Rn) := by
  have hX : t_X wl_m_orders sh gi gl gr gi gl gr := t_X.rf
  refine me_i f_X12_orders (hI.wf.s rfl) rfl rfl rfl ?_
  obtain ⟨l1, u1⟩ := hI.b (hI.wf.s (k := 69) rfl) (t_bdK rfl : t_bd 11 44 = some (0, 6))
  obtain ⟨l2, u2⟩ := hI.b (hI.wf.s (k := 69) rfl) (t_bdK rfl : t_bd 11 45 = some (0, 6))
  refine ev_loc f_X12_orders (nx := 1) rfl rfl rfl rfl ?_
  refine ev_ic f_X12_orders (nx := 2) (v := 0) rfl (by decide) rfl ?_
  refine ev_putIT f_X12_orders (nx := 5) rfl (hI.wf.s rfl) rfl rfl rfl (hI.putB (hI.wf.s rfl) rfl rfl (by decide : (0:Int) ≤ (0:Int32).toInt) (by decide) (by decide : (0:Int32).toInt ≤ (0:Int)) (by decide)) (hX.upI rfl) (fun g3 e3 hI hX => ?_)
  refine ev_loc f_X12_orders (nx := 6) rfl rfl rfl rfl ?_
  refine ev_ic f_X12_orders (nx := 7) (v := 0) rfl (by decide) rfl ?_
  refine ev_putIT f_X12_orders (nx := 10) rfl (hI.wf.s rfl) rfl rfl rfl (hI.putB (hI.wf.s rfl) rfl rfl (by decide : (0:Int) ≤ (0:Int32).toInt) (by decide) (by decide : (0:Int32).toInt ≤ (0:Int)) (by decide)) (hX.upI rfl) (fun g4 e4 hI hX => ?_)
  refine ev_ic f_X12_orders (nx := 11) (v := 0) rfl (by decide) rfl ?_
  refine ev_loc f_X12_orders (nx := 12) (lo' := [(2, .int 0), (0, .ref 69), (1, .int ar1)]) rfl rfl rfl rfl ?_
  have L5 : ∀ (m5 : Nat) (gi5 : Nat → Nat → Int32) (gl5 : Nat → Nat → Int64) (gr5 : Nat → Nat → Value) (y5_2 : Int32), t_I sh gi5 gr5 → t_X wl_m_orders sh gi gl gr gi5 gl5 gr5 → 0 ≤ y5_2.toInt → y5_2.toInt ≤ 6 → gi5 69 45 = 0 → (gi5 69 44).toInt ≤ y5_2.toInt → (6 - y5_2.toInt).toNat = m5 → x_Ev X (d + 1) n_X12_orders 12 [(2, .int y5_2), (0, .ref 69), (1, .int ar1)] [] (sh, gi5, gl5, gr5) (t_P wl_m_orders sh gi gl gr t_Rn) := by
    intro m5
    induction m5 using Nat.strongRecOn with
    | _ m5 ih5 =>
    intro gi5 gl5 gr5 y5_2 hI hX l5_2 u5_2 c5_0 j5_0 hm5
    obtain ⟨l6, u6⟩ := hI.b (hI.wf.s (k := 69) rfl) (t_bdK rfl : t_bd 11 44 = some (0, 6))
    refine ev_loc f_X12_orders (nx := 13) rfl rfl rfl rfl ?_
    refine ev_loc f_X12_orders (nx := 14) rfl rfl rfl rfl ?_
    refine ev_getR f_X12_orders (nx := 17) rfl (hI.wf.s rfl) rfl rfl (hI.wf.r rfl) rfl rfl ?_
    refine ev_ic f_X12_orders (nx := 18) (v := 1) rfl (by decide) rfl ?_
    obtain ⟨l7, u7⟩ := hI.ab (by decide +kernel : t_abr 70 1 1 0 6 = true) (Nat.le_refl _) (Nat.le_refl _)
    refine ev_ialdv f_X12_orders (nx := 19) (w := (gi5 70 1)) rfl (hI.wf.s rfl) (by decide) (rfl : (1 : Int32).toNatClampNeg = 1) (by decide) rfl rfl ?_
    refine ev_if f_X12_orders (t1 := 108) (t2 := 22) rfl rfl rfl (fun h8 => ?_) (fun h8 => ?_)
    · have r9 : (gi5 70 1).toInt ≤ y5_2.toInt := Int32.le_iff_toInt_le.mp h8
      refine ev_ic f_X12_orders (nx := 109) (v := 0) rfl (by decide) rfl ?_
      refine ev_loc f_X12_orders (nx := 110) (lo' := [(2, .int 0), (0, .ref 69), (1, .int ar1)]) rfl rfl rfl rfl ?_
      have L10 : ∀ (m10 : Nat) (gi10 : Nat → Nat → Int32) (gl10 : Nat → Nat → Int64) (gr10 : Nat → Nat → Value) (y10_2 : Int32), t_I sh gi10 gr10 → t_X wl_m_orders sh gi gl gr gi10 gl10 gr10 → 0 ≤ y10_2.toInt → y10_2.toInt ≤ 6 → gi10 70 1 = (gi5 70 1) → (gi10 69 45).toInt ≤ y10_2.toInt → (6 - y10_2.toInt).toNat = m10 → x_Ev X (d + 1) n_X12_orders 110 [(2, .int y10_2), (0, .ref 69), (1, .int ar1)] [] (sh, gi10, gl10, gr10) (t_P wl_m_orders sh gi gl gr t_Rn) := by
        intro m10
        induction m10 using Nat.strongRecOn with
        | _ m10 ih10 =>
        intro gi10 gl10 gr10 y10_2 hI hX l10_2 u10_2 c10_0 j10_0 hm10
        obtain ⟨l11, u11⟩ := hI.b (hI.wf.s (k := 69) rfl) (t_bdK rfl : t_bd 11 44 = some (0, 6))
        obtain ⟨l12, u12⟩ := hI.b (hI.wf.s (k := 69) rfl) (t_bdK rfl : t_bd 11 45 = some (0, 6))
        refine ev_loc f_X12_orders (nx := 111) rfl rfl rfl rfl ?_
        refine ev_loc f_X12_orders (nx := 112) rfl rfl rfl rfl ?_
        refine ev_getR f_X12_orders (nx := 115) rfl (hI.wf.s rfl) rfl rfl (hI.wf.r rfl) rfl rfl ?_
        refine ev_ic f_X12_orders (nx := 116) (v := 2) rfl (by decide) rfl ?_
        obtain ⟨l13, u13⟩ := hI.ab (by decide +kernel : t_abr 70 2 2 0 6 = true) (Nat.le_refl _) (Nat.le_refl _)
        refine ev_ialdv f_X12_orders (nx := 117) (w := (gi10 70 2)) rfl (hI.wf.s rfl) (by decide) (rfl : (2 : Int32).toNatClampNeg = 2) (by decide) rfl rfl ?_
        refine ev_if f_X12_orders (t1 := 211) (t2 := 120) rfl rfl rfl (fun h14 => ?_) (fun h14 => ?_)
        · have r15 : (gi10 70 2).toInt ≤ y10_2.toInt := Int32.le_iff_toInt_le.mp h14
          exact ev_ret f_X12_orders rfl rfl rfl ⟨_, _, _, rfl, hI, hX, rfl⟩
        · have r16 : y10_2.toInt < (gi10 70 2).toInt := Int32.lt_iff_toInt_lt.mp (t_nle h14)
          have u17 : y10_2.toInt ≤ 5 := t_ltu (t_nle h14) u13 rfl
          have l18 : 1 ≤ (gi10 70 2).toInt := t_ltl (t_nle h14) l10_2 rfl
          refine ev_loc f_X12_orders (nx := 121) rfl rfl rfl rfl ?_
          refine ev_loc f_X12_orders (nx := 122) rfl rfl rfl rfl ?_
          refine ev_getI f_X12_orders (nx := 125) rfl (hI.wf.s rfl) rfl rfl rfl ?_
          refine ev_if f_X12_orders (t1 := 128) (t2 := 131) rfl rfl rfl (fun h19 => ?_) (fun h19 => ?_)
          · have r20 : y10_2.toInt = (gi10 69 46).toInt := t_eqi h19
            have u21 : (gi10 69 46).toInt ≤ 5 := t_equ (Eq.symm h19) u17
            have l22 : 0 ≤ (gi10 69 46).toInt := t_eql (Eq.symm h19) l10_2
            refine ev_jmp f_X12_orders (nx := 205) rfl rfl rfl ?_
            refine ev_incR f_X12_orders (nx := 208) (c := 1) (l := 1) (u := 6) rfl rfl (by decide) (by decide) l10_2 u17 rfl rfl (by decide) (by decide) rfl (fun z23 e23 l23 u23 => ?_)
            refine ev_jmp f_X12_orders (nx := 110) rfl rfl rfl ?_
            refine ev_sub (lo := [(2, .int z23), (0, .ref 69), (1, .int ar1)]) rfl (t_sc rfl (t_sc rfl (t_sc rfl t_sn))) ?_
            exact ih10 _ (by omega) gi10 gl10 gr10 (z23) hI hX  (Int.le_trans (by decide : (0:Int) ≤ 1) l23) u23 c10_0 (by omega) rfl
          · have r24 : y10_2.toInt ≠ (gi10 69 46).toInt := t_nei h19
            refine ev_loc f_X12_orders (nx := 132) rfl rfl rfl rfl ?_
            refine ev_gvI f_X12_orders (nx := 135) (w := (gi10 69 45)) rfl (hI.wf.s rfl) rfl rfl rfl rfl ?_
            refine ev_loc f_X12_orders (nx := 136) (lo' := [(3, .int (gi10 69 45)), (2, .int y10_2), (0, .ref 69), (1, .int ar1)]) rfl rfl rfl rfl ?_
            have L25 : ∀ (m25 : Nat) (gi25 : Nat → Nat → Int32) (gl25 : Nat → Nat → Int64) (gr25 : Nat → Nat → Value) (y25_3 : Int32), t_I sh gi25 gr25 → t_X wl_m_orders sh gi gl gr gi25 gl25 gr25 → 0 ≤ y25_3.toInt → y25_3.toInt ≤ 6 → gi25 69 46 = (gi10 69 46) → gi25 70 1 = (gi5 70 1) → gi25 70 2 = (gi10 70 2) → y25_3.toInt ≤ (gi25 69 45).toInt → (gi25 69 45).toInt ≤ y10_2.toInt → (y25_3.toInt - 0).toNat = m25 → x_Ev X (d + 1) n_X12_orders 136 [(3, .int y25_3), (2, .int y10_2), (0, .ref 69), (1, .int ar1)] [] (sh, gi25, gl25, gr25) (t_P wl_m_orders sh gi gl gr t_Rn) := by
              intro m25
              induction m25 using Nat.strongRecOn with
              | _ m25 ih25 =>
              intro gi25 gl25 gr25 y25_3 hI hX l25_3 u25_3 c25_0 c25_1 c25_2 j25_0 j25_1 hm25
              obtain ⟨l26, u26⟩ := hI.b (hI.wf.s (k := 69) rfl) (t_bdK rfl : t_bd 11 44 = some (0, 6))
              obtain ⟨l27, u27⟩ := hI.b (hI.wf.s (k := 69) rfl) (t_bdK rfl : t_bd 11 45 = some (0, 6))
              refine ev_loc f_X12_orders (nx := 137) rfl rfl rfl rfl ?_
              refine ev_if f_X12_orders (t1 := 188) (t2 := 140) rfl rfl rfl (fun h28 => ?_) (fun h28 => ?_)
              · have u29 : y25_3.toInt ≤ 0 := t_leu h28 (by decide : (0:Int32).toInt ≤ (0:Int))
                refine ev_loc f_X12_orders (nx := 189) rfl rfl rfl rfl ?_
                refine ev_getR f_X12_orders (nx := 192) rfl (hI.wf.s rfl) rfl rfl (hI.wf.r rfl) rfl rfl ?_
                refine ev_loc f_X12_orders (nx := 193) rfl rfl rfl rfl ?_
                refine ev_loc f_X12_orders (nx := 194) rfl rfl rfl rfl ?_
                refine ev_iastT f_X12_orders (nx := 195) rfl (hI.wf.s rfl) l25_3 (by decide) u29 (by decide) rfl (hI.astL (hI.wf.s rfl) (by decide +kernel : t_abw 91 0 0 0 5 = true) (t_cl1 l25_3 (by decide)) (t_cl2 l25_3 u29 (by decide) (by decide)) l10_2 u17 rfl) (hX.upI (t_inA_ok rfl)) (fun g30 e30 hI hX => ?_)
                refine ev_loc f_X12_orders (nx := 196) rfl rfl rfl rfl ?_
                refine ev_alu f_X12_orders (nx := 197) rfl rfl rfl rfl ?_
                refine ev_gvI f_X12_orders (nx := 200) (w := (gi25 69 45)) rfl (hI.wf.s rfl) rfl rfl ((by rw [e30]; exact x_up2_off (Or.inl (by decide)) : g30 69 45 = gi25 69 45).trans rfl) rfl ?_
                refine ev_ic f_X12_orders (nx := 201) (v := 1) rfl (by decide) rfl ?_
                refine ev_addC f_X12_orders (nx := 202) (c := 1) (l := 1) (u := 7) rfl (by decide) l27 u27 rfl rfl (by decide) (by decide) rfl (fun z31 e31 l31 u31 => ?_)
                have u33 : z31.toInt ≤ (6:Int) := (by omega)
                refine ev_putIT f_X12_orders (nx := 205) rfl (hI.wf.s rfl) rfl rfl rfl (hI.putB (hI.wf.s rfl) rfl rfl l31 (by decide) u33 (by decide)) (hX.upI rfl) (fun g32 e32 hI hX => ?_)
                refine ev_incR f_X12_orders (nx := 208) (c := 1) (l := 1) (u := 6) rfl rfl (by decide) (by decide) l10_2 u17 rfl rfl (by decide) (by decide) rfl (fun z34 e34 l34 u34 => ?_)
                refine ev_jmp f_X12_orders (nx := 110) rfl rfl rfl ?_
                refine ev_sub (lo := [(2, .int z34), (0, .ref 69), (1, .int ar1)]) rfl (t_sc rfl (t_sc rfl (t_sc rfl t_sn))) ?_
                exact ih10 _ (by omega) g32 gl25 gr25 (z34) hI hX  (Int.le_trans (by decide : (0:Int) ≤ 1) l34) u34 ((by rw [e32]; exact x_up2_off (Or.inr (by decide)) : g32 70 1 = g30 70 1).trans ((by rw [e30]; exact x_up2_off (Or.inl (by decide)) : g30 70 1 = gi25 70 1).trans c25_1)) (by have ff35 : (g32 69 45).toInt = z31.toInt := congrArg Int32.toInt (by rw [e32]; exact x_up2_at _ _ _ _ : g32 69 45 = z31); omega) rfl
              · have l36 : 1 ≤ y25_3.toInt := t_ltl (t_nle h28) (by decide : (0:Int) ≤ (0:Int32).toInt) rfl
                refine ev_loc f_X12_orders (nx := 141) rfl rfl rfl rfl ?_
                refine ev_getR f_X12_orders (nx := 144) rfl (hI.wf.s rfl) rfl rfl (hI.wf.r rfl) rfl rfl ?_
                refine ev_bp f_X12_orders (nx := 146) (v := 6) rfl (by decide) rfl ?_
                refine ev_loc f_X12_orders (nx := 147) rfl rfl rfl rfl ?_
                refine ev_getR f_X12_orders (nx := 150) rfl (hI.wf.s rfl) rfl rfl (hI.wf.r rfl) rfl rfl ?_
                refine ev_loc f_X12_orders (nx := 151) rfl rfl rfl rfl ?_
                refine ev_ic f_X12_orders (nx := 152) (v := 1) rfl (by decide) rfl ?_
                refine ev_subC f_X12_orders (nx := 153) (c := 1) (l := 0) (u := 5) rfl (by decide) l36 u25_3 rfl rfl (by decide) (by decide) rfl (fun z37 e37 l37 u37 => ?_)
                refine ev_ialdT f_X12_orders (nx := 154) rfl (hI.wf.s rfl) l37 (by decide) u37 (by decide) rfl (fun w38 e38 => ?_)
                obtain ⟨l38, u38⟩ := hI.abi e38 (by decide +kernel : t_abr 91 0 5 0 5 = true) l37 (by decide) u37 (by decide)
                refine ev_addK f_X12_orders (nx := 155) (c := 6) (l := 6) (u := 11) rfl (by decide) l38 u38 rfl rfl (by decide) (by decide) rfl (fun z39 e39 l39 u39 => ?_)
                refine ev_ialdT f_X12_orders (nx := 156) rfl (hI.wf.s rfl) l39 (by decide) u39 (by decide) rfl (fun w40 e40 => ?_)
                refine ev_loc f_X12_orders (nx := 157) rfl rfl rfl rfl ?_
                refine ev_getR f_X12_orders (nx := 160) rfl (hI.wf.s rfl) rfl rfl (hI.wf.r rfl) rfl rfl ?_
                refine ev_bp f_X12_orders (nx := 162) (v := 6) rfl (by decide) rfl ?_
                refine ev_loc f_X12_orders (nx := 163) rfl rfl rfl rfl ?_
                refine ev_addK f_X12_orders (nx := 164) (c := 6) (l := 6) (u := 11) rfl (by decide) l10_2 u17 rfl rfl (by decide) (by decide) rfl (fun z41 e41 l41 u41 => ?_)
                refine ev_ialdT f_X12_orders (nx := 165) rfl (hI.wf.s rfl) l41 (by decide) u41 (by decide) rfl (fun w42 e42 => ?_)
                refine ev_if f_X12_orders (t1 := 188) (t2 := 168) rfl rfl rfl (fun h43 => ?_) (fun h43 => ?_)
                · have r44 : w40.toInt ≤ w42.toInt := Int32.le_iff_toInt_le.mp h43
                  refine ev_loc f_X12_orders (nx := 189) rfl rfl rfl rfl ?_
                  refine ev_getR f_X12_orders (nx := 192) rfl (hI.wf.s rfl) rfl rfl (hI.wf.r rfl) rfl rfl ?_
                  refine ev_loc f_X12_orders (nx := 193) rfl rfl rfl rfl ?_
                  refine ev_loc f_X12_orders (nx := 194) rfl rfl rfl rfl ?_
                  have u46 : y25_3.toInt ≤ (5:Int) := (by omega)
                  refine ev_iastT f_X12_orders (nx := 195) rfl (hI.wf.s rfl) l36 (by decide) u46 (by decide) rfl (hI.astL (hI.wf.s rfl) (by decide +kernel : t_abw 91 1 5 0 5 = true) (t_cl1 l36 (by decide)) (t_cl2 l36 u46 (by decide) (by decide)) l10_2 u17 rfl) (hX.upI (t_inA_ok rfl)) (fun g45 e45 hI hX => ?_)
                  refine ev_loc f_X12_orders (nx := 196) rfl rfl rfl rfl ?_
                  refine ev_alu f_X12_orders (nx := 197) rfl rfl rfl rfl ?_
                  refine ev_gvI f_X12_orders (nx := 200) (w := (gi25 69 45)) rfl (hI.wf.s rfl) rfl rfl ((by rw [e45]; exact x_up2_off (Or.inl (by decide)) : g45 69 45 = gi25 69 45).trans rfl) rfl ?_
                  refine ev_ic f_X12_orders (nx := 201) (v := 1) rfl (by decide) rfl ?_
                  refine ev_addC f_X12_orders (nx := 202) (c := 1) (l := 1) (u := 7) rfl (by decide) l27 u27 rfl rfl (by decide) (by decide) rfl (fun z47 e47 l47 u47 => ?_)
                  have u49 : z47.toInt ≤ (6:Int) := (by omega)
                  refine ev_putIT f_X12_orders (nx := 205) rfl (hI.wf.s rfl) rfl rfl rfl (hI.putB (hI.wf.s rfl) rfl rfl l47 (by decide) u49 (by decide)) (hX.upI rfl) (fun g48 e48 hI hX => ?_)
                  refine ev_incR f_X12_orders (nx := 208) (c := 1) (l := 1) (u := 6) rfl rfl (by decide) (by decide) l10_2 u17 rfl rfl (by decide) (by decide) rfl (fun z50 e50 l50 u50 => ?_)
                  refine ev_jmp f_X12_orders (nx := 110) rfl rfl rfl ?_
                  refine ev_sub (lo := [(2, .int z50), (0, .ref 69), (1, .int ar1)]) rfl (t_sc rfl (t_sc rfl (t_sc rfl t_sn))) ?_
                  exact ih10 _ (by omega) g48 gl25 gr25 (z50) hI hX  (Int.le_trans (by decide : (0:Int) ≤ 1) l50) u50 ((by rw [e48]; exact x_up2_off (Or.inr (by decide)) : g48 70 1 = g45 70 1).trans ((by rw [e45]; exact x_up2_off (Or.inl (by decide)) : g45 70 1 = gi25 70 1).trans c25_1)) (by have ff51 : (g48 69 45).toInt = z47.toInt := congrArg Int32.toInt (by rw [e48]; exact x_up2_at _ _ _ _ : g48 69 45 = z47); omega) rfl
                · have r52 : w42.toInt < w40.toInt := Int32.lt_iff_toInt_lt.mp (t_nle h43)
                  have u53 : w42.toInt ≤ 2147483646 := t_ltu (t_nle h43) (t_hi w40) rfl
                  have l54 : (-2147483647) ≤ w40.toInt := t_ltl (t_nle h43) (t_lo w42) rfl
                  refine ev_loc f_X12_orders (nx := 169) rfl rfl rfl rfl ?_
                  refine ev_getR f_X12_orders (nx := 172) rfl (hI.wf.s rfl) rfl rfl (hI.wf.r rfl) rfl rfl ?_
                  refine ev_loc f_X12_orders (nx := 173) rfl rfl rfl rfl ?_
                  refine ev_loc f_X12_orders (nx := 174) rfl rfl rfl rfl ?_
                  refine ev_getR f_X12_orders (nx := 177) rfl (hI.wf.s rfl) rfl rfl (hI.wf.r rfl) rfl rfl ?_
                  refine ev_loc f_X12_orders (nx := 178) rfl rfl rfl rfl ?_
                  refine ev_ic f_X12_orders (nx := 179) (v := 1) rfl (by decide) rfl ?_
                  refine ev_subC f_X12_orders (nx := 180) (c := 1) (l := 0) (u := 5) rfl (by decide) l36 u25_3 rfl rfl (by decide) (by decide) rfl (fun z55 e55 l55 u55 => ?_)
                  refine ev_ialdT f_X12_orders (nx := 181) rfl (hI.wf.s rfl) l55 (by decide) u55 (by decide) rfl (fun w56 e56 => ?_)
                  obtain ⟨l56, u56⟩ := hI.abi e56 (by decide +kernel : t_abr 91 0 5 0 5 = true) l55 (by decide) u55 (by decide)
                  have u58 : y25_3.toInt ≤ (5:Int) := (by omega)
                  refine ev_iastT f_X12_orders (nx := 182) rfl (hI.wf.s rfl) l36 (by decide) u58 (by decide) rfl (hI.astL (hI.wf.s rfl) (by decide +kernel : t_abw 91 1 5 0 5 = true) (t_cl1 l36 (by decide)) (t_cl2 l36 u58 (by decide) (by decide)) l56 u56 rfl) (hX.upI (t_inA_ok rfl)) (fun g57 e57 hI hX => ?_)
                  refine ev_incR f_X12_orders (nx := 185) (c := (-1)) (l := 0) (u := 4) rfl rfl (by decide) (by decide) l36 u58 rfl rfl (by decide) (by decide) rfl (fun z59 e59 l59 u59 => ?_)
                  refine ev_jmp f_X12_orders (nx := 136) rfl rfl rfl ?_
                  refine ev_sub (lo := [(3, .int z59), (2, .int y10_2), (0, .ref 69), (1, .int ar1)]) rfl (t_sc rfl (t_sc rfl (t_sc rfl (t_sc rfl t_sn)))) ?_
                  exact ih25 _ (by omega) g57 gl25 gr25 (z59) hI hX  l59 (Int.le_trans u59 (by decide : (4:Int) ≤ 6)) ((by rw [e57]; exact x_up2_off (Or.inl (by decide)) : g57 69 46 = gi25 69 46).trans c25_0) ((by rw [e57]; exact x_up2_off (Or.inl (by decide)) : g57 70 1 = gi25 70 1).trans c25_1) ((by rw [e57]; exact x_up2_off (Or.inl (by decide)) : g57 70 2 = gi25 70 2).trans c25_2) (by have ff60 : (g57 69 45).toInt = (gi25 69 45).toInt := congrArg Int32.toInt ((by rw [e57]; exact x_up2_off (Or.inl (by decide)) : g57 69 45 = gi25 69 45).trans rfl); omega) (by have ff61 : (g57 69 45).toInt = (gi25 69 45).toInt := congrArg Int32.toInt ((by rw [e57]; exact x_up2_off (Or.inl (by decide)) : g57 69 45 = gi25 69 45).trans rfl); omega) rfl
            refine ev_sub (lo := [(3, .int (gi10 69 45)), (2, .int y10_2), (0, .ref 69), (1, .int ar1)]) rfl (t_sc rfl (t_sc rfl (t_sc rfl (t_sc rfl t_sn)))) ?_
            exact L25 _ gi10 gl10 gr10 ((gi10 69 45)) hI hX  l12 u12 rfl c10_0 rfl (by omega) (by omega) rfl
      refine ev_sub (lo := [(2, .int 0), (0, .ref 69), (1, .int ar1)]) rfl (t_sc rfl (t_sc rfl (t_sc rfl t_sn))) ?_
      exact L10 _ gi5 gl5 gr5 (0) hI hX  (by decide : (0:Int) ≤ (0:Int32).toInt) (Int.le_trans (by decide : (0:Int32).toInt ≤ (0:Int)) (by decide : (0:Int) ≤ 6)) rfl (by have kf62 : (0 : Int32).toInt = 0 := (by decide); have ff63 : (gi5 69 45).toInt = 0 := (congrArg Int32.toInt c5_0).trans (by decide); omega) rfl
    · have r64 : y5_2.toInt < (gi5 70 1).toInt := Int32.lt_iff_toInt_lt.mp (t_nle h8)
      have u65 : y5_2.toInt ≤ 5 := t_ltu (t_nle h8) u7 rfl
      have l66 : 1 ≤ (gi5 70 1).toInt := t_ltl (t_nle h8) l5_2 rfl
      refine ev_loc f_X12_orders (nx := 23) rfl rfl rfl rfl ?_
      refine ev_loc f_X12_orders (nx := 24) rfl rfl rfl rfl ?_
      refine ev_anyI f_X12_orders (nx := 25) rfl rfl rfl rfl (fun z67 => ?_)
      refine ev_ic f_X12_orders (nx := 26) (v := 1) rfl (by decide) rfl ?_
      refine ev_andE f_X12_orders (nx := 27) (c := 1) rfl (by decide) (by decide) rfl (fun z68 e68 l68 u68 => ?_)
      refine ev_ic f_X12_orders (nx := 28) (v := 1) rfl (by decide) rfl ?_
      refine ev_if f_X12_orders (t1 := 31) (t2 := 34) rfl rfl rfl (fun h69 => ?_) (fun h69 => ?_)
      · have l70 : 1 ≤ z68.toInt := t_eql h69 (by decide : (1:Int) ≤ (1:Int32).toInt)
        refine ev_jmp f_X12_orders (nx := 102) rfl rfl rfl ?_
        refine ev_incR f_X12_orders (nx := 105) (c := 1) (l := 1) (u := 6) rfl rfl (by decide) (by decide) l5_2 u65 rfl rfl (by decide) (by decide) rfl (fun z71 e71 l71 u71 => ?_)
        refine ev_jmp f_X12_orders (nx := 12) rfl rfl rfl ?_
        refine ev_sub (lo := [(2, .int z71), (0, .ref 69), (1, .int ar1)]) rfl (t_sc rfl (t_sc rfl (t_sc rfl t_sn))) ?_
        exact ih5 _ (by omega) gi5 gl5 gr5 (z71) hI hX  (Int.le_trans (by decide : (0:Int) ≤ 1) l71) u71 c5_0 (by omega) rfl
      · have r72 : z68.toInt ≠ 1 := fun e => h69 (Int32.toInt_inj.mp (e.trans (by decide : (1:Int) = (1 : Int32).toInt)))
        have u73 : z68.toInt ≤ 0 := t_neu h69 u68 rfl rfl
        refine ev_loc f_X12_orders (nx := 35) rfl rfl rfl rfl ?_
        refine ev_gvI f_X12_orders (nx := 38) (w := (gi5 69 44)) rfl (hI.wf.s rfl) rfl rfl rfl rfl ?_
        refine ev_loc f_X12_orders (nx := 39) (lo' := [(3, .int (gi5 69 44)), (2, .int y5_2), (0, .ref 69), (1, .int ar1)]) rfl rfl rfl rfl ?_
        have L74 : ∀ (m74 : Nat) (gi74 : Nat → Nat → Int32) (gl74 : Nat → Nat → Int64) (gr74 : Nat → Nat → Value) (y74_3 : Int32), t_I sh gi74 gr74 → t_X wl_m_orders sh gi gl gr gi74 gl74 gr74 → 0 ≤ y74_3.toInt → y74_3.toInt ≤ 6 → gi74 69 45 = 0 → gi74 70 1 = (gi5 70 1) → y74_3.toInt ≤ (gi74 69 44).toInt → (gi74 69 44).toInt ≤ y5_2.toInt → (y74_3.toInt - 0).toNat = m74 → x_Ev X (d + 1) n_X12_orders 39 [(3, .int y74_3), (2, .int y5_2), (0, .ref 69), (1, .int ar1)] [] (sh, gi74, gl74, gr74) (t_P wl_m_orders sh gi gl gr t_Rn) := by
          intro m74
          induction m74 using Nat.strongRecOn with
          | _ m74 ih74 =>
          intro gi74 gl74 gr74 y74_3 hI hX l74_3 u74_3 c74_0 c74_1 j74_0 j74_1 hm74
          obtain ⟨l75, u75⟩ := hI.b (hI.wf.s (k := 69) rfl) (t_bdK rfl : t_bd 11 44 = some (0, 6))
          refine ev_loc f_X12_orders (nx := 40) rfl rfl rfl rfl ?_
          refine ev_if f_X12_orders (t1 := 85) (t2 := 43) rfl rfl rfl (fun h76 => ?_) (fun h76 => ?_)
          · have u77 : y74_3.toInt ≤ 0 := t_leu h76 (by decide : (0:Int32).toInt ≤ (0:Int))
            refine ev_loc f_X12_orders (nx := 86) rfl rfl rfl rfl ?_
            refine ev_getR f_X12_orders (nx := 89) rfl (hI.wf.s rfl) rfl rfl (hI.wf.r rfl) rfl rfl ?_
            refine ev_loc f_X12_orders (nx := 90) rfl rfl rfl rfl ?_
            refine ev_loc f_X12_orders (nx := 91) rfl rfl rfl rfl ?_
            refine ev_iastT f_X12_orders (nx := 92) rfl (hI.wf.s rfl) l74_3 (by decide) u77 (by decide) rfl (hI.astL (hI.wf.s rfl) (by decide +kernel : t_abw 90 0 0 0 5 = true) (t_cl1 l74_3 (by decide)) (t_cl2 l74_3 u77 (by decide) (by decide)) l5_2 u65 rfl) (hX.upI (t_inA_ok rfl)) (fun g78 e78 hI hX => ?_)
            refine ev_loc f_X12_orders (nx := 93) rfl rfl rfl rfl ?_
            refine ev_alu f_X12_orders (nx := 94) rfl rfl rfl rfl ?_
            refine ev_gvI f_X12_orders (nx := 97) (w := (gi74 69 44)) rfl (hI.wf.s rfl) rfl rfl ((by rw [e78]; exact x_up2_off (Or.inl (by decide)) : g78 69 44 = gi74 69 44).trans rfl) rfl ?_
            refine ev_ic f_X12_orders (nx := 98) (v := 1) rfl (by decide) rfl ?_
            refine ev_addC f_X12_orders (nx := 99) (c := 1) (l := 1) (u := 7) rfl (by decide) l75 u75 rfl rfl (by decide) (by decide) rfl (fun z79 e79 l79 u79 => ?_)
            have u81 : z79.toInt ≤ (6:Int) := (by omega)
            refine ev_putIT f_X12_orders (nx := 102) rfl (hI.wf.s rfl) rfl rfl rfl (hI.putB (hI.wf.s rfl) rfl rfl l79 (by decide) u81 (by decide)) (hX.upI rfl) (fun g80 e80 hI hX => ?_)
            refine ev_incR f_X12_orders (nx := 105) (c := 1) (l := 1) (u := 6) rfl rfl (by decide) (by decide) l5_2 u65 rfl rfl (by decide) (by decide) rfl (fun z82 e82 l82 u82 => ?_)
            refine ev_jmp f_X12_orders (nx := 12) rfl rfl rfl ?_
            refine ev_sub (lo := [(2, .int z82), (0, .ref 69), (1, .int ar1)]) rfl (t_sc rfl (t_sc rfl (t_sc rfl t_sn))) ?_
            exact ih5 _ (by omega) g80 gl74 gr74 (z82) hI hX  (Int.le_trans (by decide : (0:Int) ≤ 1) l82) u82 ((by rw [e80]; exact x_up2_off (Or.inr (by decide)) : g80 69 45 = g78 69 45).trans ((by rw [e78]; exact x_up2_off (Or.inl (by decide)) : g78 69 45 = gi74 69 45).trans c74_0)) (by have ff83 : (g80 69 44).toInt = z79.toInt := congrArg Int32.toInt (by rw [e80]; exact x_up2_at _ _ _ _ : g80 69 44 = z79); omega) rfl
          · have l84 : 1 ≤ y74_3.toInt := t_ltl (t_nle h76) (by decide : (0:Int) ≤ (0:Int32).toInt) rfl
            refine ev_loc f_X12_orders (nx := 44) rfl rfl rfl rfl ?_
            refine ev_getR f_X12_orders (nx := 47) rfl (hI.wf.s rfl) rfl rfl (hI.wf.r rfl) rfl rfl ?_
            refine ev_loc f_X12_orders (nx := 48) rfl rfl rfl rfl ?_
            refine ev_getR f_X12_orders (nx := 51) rfl (hI.wf.s rfl) rfl rfl (hI.wf.r rfl) rfl rfl ?_
            refine ev_loc f_X12_orders (nx := 52) rfl rfl rfl rfl ?_
            refine ev_ic f_X12_orders (nx := 53) (v := 1) rfl (by decide) rfl ?_
            refine ev_subC f_X12_orders (nx := 54) (c := 1) (l := 0) (u := 5) rfl (by decide) l84 u74_3 rfl rfl (by decide) (by decide) rfl (fun z85 e85 l85 u85 => ?_)
            refine ev_ialdT f_X12_orders (nx := 55) rfl (hI.wf.s rfl) l85 (by decide) u85 (by decide) rfl (fun w86 e86 => ?_)
            obtain ⟨l86, u86⟩ := hI.abi e86 (by decide +kernel : t_abr 90 0 5 0 5 = true) l85 (by decide) u85 (by decide)
            refine ev_ialdT f_X12_orders (nx := 56) rfl (hI.wf.s rfl) l86 (by decide) u86 (by decide) rfl (fun w87 e87 => ?_)
            refine ev_loc f_X12_orders (nx := 57) rfl rfl rfl rfl ?_
            refine ev_getR f_X12_orders (nx := 60) rfl (hI.wf.s rfl) rfl rfl (hI.wf.r rfl) rfl rfl ?_
            refine ev_loc f_X12_orders (nx := 61) rfl rfl rfl rfl ?_
            refine ev_ialdT f_X12_orders (nx := 62) rfl (hI.wf.s rfl) l5_2 (by decide) u65 (by decide) rfl (fun w88 e88 => ?_)
            refine ev_if f_X12_orders (t1 := 85) (t2 := 65) rfl rfl rfl (fun h89 => ?_) (fun h89 => ?_)
            · have r90 : w87.toInt ≤ w88.toInt := Int32.le_iff_toInt_le.mp h89
              refine ev_loc f_X12_orders (nx := 86) rfl rfl rfl rfl ?_
              refine ev_getR f_X12_orders (nx := 89) rfl (hI.wf.s rfl) rfl rfl (hI.wf.r rfl) rfl rfl ?_
              refine ev_loc f_X12_orders (nx := 90) rfl rfl rfl rfl ?_
              refine ev_loc f_X12_orders (nx := 91) rfl rfl rfl rfl ?_
              have u92 : y74_3.toInt ≤ (5:Int) := (by omega)
              refine ev_iastT f_X12_orders (nx := 92) rfl (hI.wf.s rfl) l84 (by decide) u92 (by decide) rfl (hI.astL (hI.wf.s rfl) (by decide +kernel : t_abw 90 1 5 0 5 = true) (t_cl1 l84 (by decide)) (t_cl2 l84 u92 (by decide) (by decide)) l5_2 u65 rfl) (hX.upI (t_inA_ok rfl)) (fun g91 e91 hI hX => ?_)
              refine ev_loc f_X12_orders (nx := 93) rfl rfl rfl rfl ?_
              refine ev_alu f_X12_orders (nx := 94) rfl rfl rfl rfl ?_
              refine ev_gvI f_X12_orders (nx := 97) (w := (gi74 69 44)) rfl (hI.wf.s rfl) rfl rfl ((by rw [e91]; exact x_up2_off (Or.inl (by decide)) : g91 69 44 = gi74 69 44).trans rfl) rfl ?_
              refine ev_ic f_X12_orders (nx := 98) (v := 1) rfl (by decide) rfl ?_
              refine ev_addC f_X12_orders (nx := 99) (c := 1) (l := 1) (u := 7) rfl (by decide) l75 u75 rfl rfl (by decide) (by decide) rfl (fun z93 e93 l93 u93 => ?_)
              have u95 : z93.toInt ≤ (6:Int) := (by omega)
              refine ev_putIT f_X12_orders (nx := 102) rfl (hI.wf.s rfl) rfl rfl rfl (hI.putB (hI.wf.s rfl) rfl rfl l93 (by decide) u95 (by decide)) (hX.upI rfl) (fun g94 e94 hI hX => ?_)
              refine ev_incR f_X12_orders (nx := 105) (c := 1) (l := 1) (u := 6) rfl rfl (by decide) (by decide) l5_2 u65 rfl rfl (by decide) (by decide) rfl (fun z96 e96 l96 u96 => ?_)
              refine ev_jmp f_X12_orders (nx := 12) rfl rfl rfl ?_
              refine ev_sub (lo := [(2, .int z96), (0, .ref 69), (1, .int ar1)]) rfl (t_sc rfl (t_sc rfl (t_sc rfl t_sn))) ?_
              exact ih5 _ (by omega) g94 gl74 gr74 (z96) hI hX  (Int.le_trans (by decide : (0:Int) ≤ 1) l96) u96 ((by rw [e94]; exact x_up2_off (Or.inr (by decide)) : g94 69 45 = g91 69 45).trans ((by rw [e91]; exact x_up2_off (Or.inl (by decide)) : g91 69 45 = gi74 69 45).trans c74_0)) (by have ff97 : (g94 69 44).toInt = z93.toInt := congrArg Int32.toInt (by rw [e94]; exact x_up2_at _ _ _ _ : g94 69 44 = z93); omega) rfl
            · have r98 : w88.toInt < w87.toInt := Int32.lt_iff_toInt_lt.mp (t_nle h89)
              have u99 : w88.toInt ≤ 2147483646 := t_ltu (t_nle h89) (t_hi w87) rfl
              have l100 : (-2147483647) ≤ w87.toInt := t_ltl (t_nle h89) (t_lo w88) rfl
              refine ev_loc f_X12_orders (nx := 66) rfl rfl rfl rfl ?_
              refine ev_getR f_X12_orders (nx := 69) rfl (hI.wf.s rfl) rfl rfl (hI.wf.r rfl) rfl rfl ?_
              refine ev_loc f_X12_orders (nx := 70) rfl rfl rfl rfl ?_
              refine ev_loc f_X12_orders (nx := 71) rfl rfl rfl rfl ?_
              refine ev_getR f_X12_orders (nx := 74) rfl (hI.wf.s rfl) rfl rfl (hI.wf.r rfl) rfl rfl ?_
              refine ev_loc f_X12_orders (nx := 75) rfl rfl rfl rfl ?_
              refine ev_ic f_X12_orders (nx := 76) (v := 1) rfl (by decide) rfl ?_
              refine ev_subC f_X12_orders (nx := 77) (c := 1) (l := 0) (u := 5) rfl (by decide) l84 u74_3 rfl rfl (by decide) (by decide) rfl (fun z101 e101 l101 u101 => ?_)
              refine ev_ialdT f_X12_orders (nx := 78) rfl (hI.wf.s rfl) l101 (by decide) u101 (by decide) rfl (fun w102 e102 => ?_)
              obtain ⟨l102, u102⟩ := hI.abi e102 (by decide +kernel : t_abr 90 0 5 0 5 = true) l101 (by decide) u101 (by decide)
              have u104 : y74_3.toInt ≤ (5:Int) := (by omega)
              refine ev_iastT f_X12_orders (nx := 79) rfl (hI.wf.s rfl) l84 (by decide) u104 (by decide) rfl (hI.astL (hI.wf.s rfl) (by decide +kernel : t_abw 90 1 5 0 5 = true) (t_cl1 l84 (by decide)) (t_cl2 l84 u104 (by decide) (by decide)) l102 u102 rfl) (hX.upI (t_inA_ok rfl)) (fun g103 e103 hI hX => ?_)
              refine ev_incR f_X12_orders (nx := 82) (c := (-1)) (l := 0) (u := 4) rfl rfl (by decide) (by decide) l84 u104 rfl rfl (by decide) (by decide) rfl (fun z105 e105 l105 u105 => ?_)
              refine ev_jmp f_X12_orders (nx := 39) rfl rfl rfl ?_
              refine ev_sub (lo := [(3, .int z105), (2, .int y5_2), (0, .ref 69), (1, .int ar1)]) rfl (t_sc rfl (t_sc rfl (t_sc rfl (t_sc rfl t_sn)))) ?_
              exact ih74 _ (by omega) g103 gl74 gr74 (z105) hI hX  l105 (Int.le_trans u105 (by decide : (4:Int) ≤ 6)) ((by rw [e103]; exact x_up2_off (Or.inl (by decide)) : g103 69 45 = gi74 69 45).trans c74_0) ((by rw [e103]; exact x_up2_off (Or.inl (by decide)) : g103 70 1 = gi74 70 1).trans c74_1) (by have ff106 : (g103 69 44).toInt = (gi74 69 44).toInt := congrArg Int32.toInt ((by rw [e103]; exact x_up2_off (Or.inl (by decide)) : g103 69 44 = gi74 69 44).trans rfl); omega) (by have ff107 : (g103 69 44).toInt = (gi74 69 44).toInt := congrArg Int32.toInt ((by rw [e103]; exact x_up2_off (Or.inl (by decide)) : g103 69 44 = gi74 69 44).trans rfl); omega) rfl
        refine ev_sub (lo := [(3, .int (gi5 69 44)), (2, .int y5_2), (0, .ref 69), (1, .int ar1)]) rfl (t_sc rfl (t_sc rfl (t_sc rfl (t_sc rfl t_sn)))) ?_
        exact L74 _ gi5 gl5 gr5 ((gi5 69 44)) hI hX  l6 u6 c5_0 rfl (by omega) (by omega) rfl
  refine ev_sub (lo := [(2, .int 0), (0, .ref 69), (1, .int ar1)]) rfl (t_sc rfl (t_sc rfl (t_sc rfl t_sn))) ?_
  exact L5 _ g4 gl gr (0) hI hX  (by decide : (0:Int) ≤ (0:Int32).toInt) (Int.le_trans (by decide : (0:Int32).toInt ≤ (0:Int)) (by decide : (0:Int) ≤ 6)) (by rw [e4]; exact x_up2_at _ _ _ _ : g4 69 45 = 0) (by have kf108 : (0 : Int32).toInt = 0 := (by decide); have ff109 : (g4 69 44).toInt = 0 := (congrArg Int32.toInt ((by rw [e4]; exact x_up2_off (Or.inr (by decide)) : g4 69 44 = g3 69 44).trans (by rw [e3]; exact x_up2_at _ _ _ _ : g3 69 44 = 0))).trans (by decide); omega) rfl
noncomputable def wl_m_nextShip : List (Nat × Nat) := [(69, 2), (69, 44), (69, 45), (89, 10005), (89, 610011), (90, 9999), (91, 9999)]
theorem c_m_nextShip {X : x_Ext} {d : Nat} {sh : List (Nat ⊕ (Nat × Nat))} {gi : Nat → Nat → Int32} {gl : Nat → Nat → Int64} {gr : Nat → Nat → Value} (hI : t_I sh gi gr) (ar1 : Int32) : x_Me X (d + 2) n_X12_nextShip [.ref 69, .int ar1] (sh, gi, gl, gr) (t_P wl_m_nextShip sh gi gl gr (t_Ri (-1) 5)) := by
  have hX : t_X wl_m_nextShip sh gi gl gr gi gl gr := t_X.rf
  refine me_i f_X12_nextShip (hI.wf.s rfl) rfl rfl rfl ?_
  refine ev_loc f_X12_nextShip (nx := 1) rfl rfl rfl rfl ?_
  refine ev_c0 f_X12_nextShip (nx := 4) (r := []) rfl rfl rfl rfl rfl rfl rfl (c_m_tellsMinutes hI ) rfl hX rfl (fun gi1 gl1 gr1 hI hX hC1 => ?_)
  refine ev_loc f_X12_nextShip (nx := 5) rfl rfl rfl rfl ?_
  refine ev_ic f_X12_nextShip (nx := 6) (v := 0) rfl (by decide) rfl ?_
  refine ev_c0 f_X12_nextShip (nx := 9) (r := []) rfl rfl rfl rfl rfl rfl rfl (c_m_orders hI (0)) rfl hX rfl (fun gi2 gl2 gr2 hI hX hC2 => ?_)
  refine ev_loc f_X12_nextShip (nx := 10) rfl rfl rfl rfl ?_
  refine ev_if f_X12_nextShip (t1 := 21) (t2 := 13) rfl rfl rfl (fun h3 => ?_) (fun h3 => ?_)
  · have u4 : ar1.toInt ≤ (-1) := t_ltu h3 (by decide : (0:Int32).toInt ≤ (0:Int)) rfl
    refine ev_loc f_X12_nextShip (nx := 22) rfl rfl rfl rfl ?_
    refine ev_bp f_X12_nextShip (nx := 24) (v := 6) rfl (by decide) rfl ?_
    refine ev_inV2 f_X12_nextShip (nx := 27) (lo2 := [(0, .ref 69), (1, .int 6)]) rfl rfl rfl rfl f_X12_refuse (hI.wf.s rfl) rfl rfl rfl rfl rfl ?_
    refine ev_loc f_X12_refuse (nx := 1) rfl rfl rfl rfl ?_
    refine ev_loc f_X12_refuse (nx := 2) rfl rfl rfl rfl ?_
    refine ev_putIT f_X12_refuse (nx := 5) rfl (hI.wf.s rfl) rfl rfl rfl (hI.put0 (hI.wf.s rfl) rfl rfl) (hX.upI rfl) (fun g5 e5 hI hX => ?_)
    refine ev_ic f_X12_refuse (nx := 6) (v := -1) rfl (by decide) rfl ?_
    refine ev_retK1 f_X12_refuse rfl rfl rfl ?_
    refine ev_jmp f_X12_nextShip (nx := 40) rfl rfl rfl ?_
    exact ev_ret f_X12_nextShip rfl rfl rfl ⟨_, _, _, rfl, hI, hX, ⟨_, rfl, (by decide : ((-1):Int) ≤ ((-1):Int32).toInt), (Int.le_trans (by decide : ((-1):Int32).toInt ≤ ((-1):Int)) (by decide : ((-1):Int) ≤ 5))⟩⟩
  · have l6 : 0 ≤ ar1.toInt := t_lel (t_nlt h3) (by decide : (0:Int) ≤ (0:Int32).toInt)
    refine ev_loc f_X12_nextShip (nx := 14) rfl rfl rfl rfl ?_
    refine ev_loc f_X12_nextShip (nx := 15) rfl rfl rfl rfl ?_
    refine ev_getI f_X12_nextShip (nx := 18) rfl (hI.wf.s rfl) rfl rfl rfl ?_
    obtain ⟨l7, u7⟩ := hI.b (hI.wf.s (k := 69) rfl) (t_bdK rfl : t_bd 11 44 = some (0, 6))
    refine ev_if f_X12_nextShip (t1 := 30) (t2 := 21) rfl rfl rfl (fun h8 => ?_) (fun h8 => ?_)
    · have r9 : ar1.toInt < (gi2 69 44).toInt := Int32.lt_iff_toInt_lt.mp h8
      have u10 : ar1.toInt ≤ 5 := t_ltu h8 u7 rfl
      have l11 : 1 ≤ (gi2 69 44).toInt := t_ltl h8 l6 rfl
      refine ev_loc f_X12_nextShip (nx := 31) rfl rfl rfl rfl ?_
      refine ev_loc f_X12_nextShip (nx := 32) rfl rfl rfl rfl ?_
      refine ev_getR f_X12_nextShip (nx := 35) rfl (hI.wf.s rfl) rfl rfl (hI.wf.r rfl) rfl rfl ?_
      refine ev_loc f_X12_nextShip (nx := 36) rfl rfl rfl rfl ?_
      refine ev_ialdT f_X12_nextShip (nx := 37) rfl (hI.wf.s rfl) l6 (by decide) u10 (by decide) rfl (fun w12 e12 => ?_)
      obtain ⟨l12, u12⟩ := hI.abi e12 (by decide +kernel : t_abr 90 0 5 0 5 = true) l6 (by decide) u10 (by decide)
      refine ev_inV2 f_X12_nextShip (nx := 40) (lo2 := [(0, .ref 69), (1, .int w12)]) rfl rfl rfl rfl f_X12_gives (hI.wf.s rfl) rfl rfl rfl rfl rfl ?_
      refine ev_loc f_X12_gives (nx := 1) rfl rfl rfl rfl ?_
      refine ev_ic f_X12_gives (nx := 2) (v := 0) rfl (by decide) rfl ?_
      refine ev_putIT f_X12_gives (nx := 5) rfl (hI.wf.s rfl) rfl rfl rfl (hI.put0 (hI.wf.s rfl) rfl rfl) (hX.upI rfl) (fun g13 e13 hI hX => ?_)
      refine ev_loc f_X12_gives (nx := 6) rfl rfl rfl rfl ?_
      refine ev_retK1 f_X12_gives rfl rfl rfl ?_
      exact ev_ret f_X12_nextShip rfl rfl rfl ⟨_, _, _, rfl, hI, hX, ⟨_, rfl, (Int.le_trans (by decide : ((-1):Int) ≤ 0) l12), u12⟩⟩
    · have r14 : (gi2 69 44).toInt ≤ ar1.toInt := Int32.le_iff_toInt_le.mp (t_nlt h8)
      refine ev_loc f_X12_nextShip (nx := 22) rfl rfl rfl rfl ?_
      refine ev_bp f_X12_nextShip (nx := 24) (v := 6) rfl (by decide) rfl ?_
      refine ev_inV2 f_X12_nextShip (nx := 27) (lo2 := [(0, .ref 69), (1, .int 6)]) rfl rfl rfl rfl f_X12_refuse (hI.wf.s rfl) rfl rfl rfl rfl rfl ?_
      refine ev_loc f_X12_refuse (nx := 1) rfl rfl rfl rfl ?_
      refine ev_loc f_X12_refuse (nx := 2) rfl rfl rfl rfl ?_
      refine ev_putIT f_X12_refuse (nx := 5) rfl (hI.wf.s rfl) rfl rfl rfl (hI.put0 (hI.wf.s rfl) rfl rfl) (hX.upI rfl) (fun g15 e15 hI hX => ?_)
      refine ev_ic f_X12_refuse (nx := 6) (v := -1) rfl (by decide) rfl ?_
      refine ev_retK1 f_X12_refuse rfl rfl rfl ?_
      refine ev_jmp f_X12_nextShip (nx := 40) rfl rfl rfl ?_
      exact ev_ret f_X12_nextShip rfl rfl rfl ⟨_, _, _, rfl, hI, hX, ⟨_, rfl, (by decide : ((-1):Int) ≤ ((-1):Int32).toInt), (Int.le_trans (by decide : ((-1):Int32).toInt ≤ ((-1):Int)) (by decide : ((-1):Int) ≤ 5))⟩⟩
noncomputable def wl_m_nextCart : List (Nat × Nat) := [(69, 2), (69, 44), (69, 45), (89, 10005), (89, 610011), (90, 9999), (91, 9999)]
theorem c_m_nextCart {X : x_Ext} {d : Nat} {sh : List (Nat ⊕ (Nat × Nat))} {gi : Nat → Nat → Int32} {gl : Nat → Nat → Int64} {gr : Nat → Nat → Value} (hI : t_I sh gi gr) (ar1 : Int32) : x_Me X (d + 2) n_X12_nextCart [.ref 69, .int ar1] (sh, gi, gl, gr) (t_P wl_m_nextCart sh gi gl gr (t_Ri (-1) 5)) := by
  have hX : t_X wl_m_nextCart sh gi gl gr gi gl gr := t_X.rf
  refine me_i f_X12_nextCart (hI.wf.s rfl) rfl rfl rfl ?_
  refine ev_loc f_X12_nextCart (nx := 1) rfl rfl rfl rfl ?_
  refine ev_c0 f_X12_nextCart (nx := 4) (r := []) rfl rfl rfl rfl rfl rfl rfl (c_m_tellsMinutes hI ) rfl hX rfl (fun gi1 gl1 gr1 hI hX hC1 => ?_)
  refine ev_loc f_X12_nextCart (nx := 5) rfl rfl rfl rfl ?_
  refine ev_ic f_X12_nextCart (nx := 6) (v := 0) rfl (by decide) rfl ?_
  refine ev_c0 f_X12_nextCart (nx := 9) (r := []) rfl rfl rfl rfl rfl rfl rfl (c_m_orders hI (0)) rfl hX rfl (fun gi2 gl2 gr2 hI hX hC2 => ?_)
  refine ev_loc f_X12_nextCart (nx := 10) rfl rfl rfl rfl ?_
  refine ev_if f_X12_nextCart (t1 := 21) (t2 := 13) rfl rfl rfl (fun h3 => ?_) (fun h3 => ?_)
  · have u4 : ar1.toInt ≤ (-1) := t_ltu h3 (by decide : (0:Int32).toInt ≤ (0:Int)) rfl
    refine ev_loc f_X12_nextCart (nx := 22) rfl rfl rfl rfl ?_
    refine ev_bp f_X12_nextCart (nx := 24) (v := 6) rfl (by decide) rfl ?_
    refine ev_inV2 f_X12_nextCart (nx := 27) (lo2 := [(0, .ref 69), (1, .int 6)]) rfl rfl rfl rfl f_X12_refuse (hI.wf.s rfl) rfl rfl rfl rfl rfl ?_
    refine ev_loc f_X12_refuse (nx := 1) rfl rfl rfl rfl ?_
    refine ev_loc f_X12_refuse (nx := 2) rfl rfl rfl rfl ?_
    refine ev_putIT f_X12_refuse (nx := 5) rfl (hI.wf.s rfl) rfl rfl rfl (hI.put0 (hI.wf.s rfl) rfl rfl) (hX.upI rfl) (fun g5 e5 hI hX => ?_)
    refine ev_ic f_X12_refuse (nx := 6) (v := -1) rfl (by decide) rfl ?_
    refine ev_retK1 f_X12_refuse rfl rfl rfl ?_
    refine ev_jmp f_X12_nextCart (nx := 40) rfl rfl rfl ?_
    exact ev_ret f_X12_nextCart rfl rfl rfl ⟨_, _, _, rfl, hI, hX, ⟨_, rfl, (by decide : ((-1):Int) ≤ ((-1):Int32).toInt), (Int.le_trans (by decide : ((-1):Int32).toInt ≤ ((-1):Int)) (by decide : ((-1):Int) ≤ 5))⟩⟩
  · have l6 : 0 ≤ ar1.toInt := t_lel (t_nlt h3) (by decide : (0:Int) ≤ (0:Int32).toInt)
    refine ev_loc f_X12_nextCart (nx := 14) rfl rfl rfl rfl ?_
    refine ev_loc f_X12_nextCart (nx := 15) rfl rfl rfl rfl ?_
    refine ev_getI f_X12_nextCart (nx := 18) rfl (hI.wf.s rfl) rfl rfl rfl ?_
    obtain ⟨l7, u7⟩ := hI.b (hI.wf.s (k := 69) rfl) (t_bdK rfl : t_bd 11 45 = some (0, 6))
    refine ev_if f_X12_nextCart (t1 := 30) (t2 := 21) rfl rfl rfl (fun h8 => ?_) (fun h8 => ?_)
    · have r9 : ar1.toInt < (gi2 69 45).toInt := Int32.lt_iff_toInt_lt.mp h8
      have u10 : ar1.toInt ≤ 5 := t_ltu h8 u7 rfl
      have l11 : 1 ≤ (gi2 69 45).toInt := t_ltl h8 l6 rfl
      refine ev_loc f_X12_nextCart (nx := 31) rfl rfl rfl rfl ?_
      refine ev_loc f_X12_nextCart (nx := 32) rfl rfl rfl rfl ?_
      refine ev_getR f_X12_nextCart (nx := 35) rfl (hI.wf.s rfl) rfl rfl (hI.wf.r rfl) rfl rfl ?_
      refine ev_loc f_X12_nextCart (nx := 36) rfl rfl rfl rfl ?_
      refine ev_ialdT f_X12_nextCart (nx := 37) rfl (hI.wf.s rfl) l6 (by decide) u10 (by decide) rfl (fun w12 e12 => ?_)
      obtain ⟨l12, u12⟩ := hI.abi e12 (by decide +kernel : t_abr 91 0 5 0 5 = true) l6 (by decide) u10 (by decide)
      refine ev_inV2 f_X12_nextCart (nx := 40) (lo2 := [(0, .ref 69), (1, .int w12)]) rfl rfl rfl rfl f_X12_gives (hI.wf.s rfl) rfl rfl rfl rfl rfl ?_
      refine ev_loc f_X12_gives (nx := 1) rfl rfl rfl rfl ?_
      refine ev_ic f_X12_gives (nx := 2) (v := 0) rfl (by decide) rfl ?_
      refine ev_putIT f_X12_gives (nx := 5) rfl (hI.wf.s rfl) rfl rfl rfl (hI.put0 (hI.wf.s rfl) rfl rfl) (hX.upI rfl) (fun g13 e13 hI hX => ?_)
      refine ev_loc f_X12_gives (nx := 6) rfl rfl rfl rfl ?_
      refine ev_retK1 f_X12_gives rfl rfl rfl ?_
      exact ev_ret f_X12_nextCart rfl rfl rfl ⟨_, _, _, rfl, hI, hX, ⟨_, rfl, (Int.le_trans (by decide : ((-1):Int) ≤ 0) l12), u12⟩⟩
    · have r14 : (gi2 69 45).toInt ≤ ar1.toInt := Int32.le_iff_toInt_le.mp (t_nlt h8)
      refine ev_loc f_X12_nextCart (nx := 22) rfl rfl rfl rfl ?_
      refine ev_bp f_X12_nextCart (nx := 24) (v := 6) rfl (by decide) rfl ?_
      refine ev_inV2 f_X12_nextCart (nx := 27) (lo2 := [(0, .ref 69), (1, .int 6)]) rfl rfl rfl rfl f_X12_refuse (hI.wf.s rfl) rfl rfl rfl rfl rfl ?_
      refine ev_loc f_X12_refuse (nx := 1) rfl rfl rfl rfl ?_
      refine ev_loc f_X12_refuse (nx := 2) rfl rfl rfl rfl ?_
      refine ev_putIT f_X12_refuse (nx := 5) rfl (hI.wf.s rfl) rfl rfl rfl (hI.put0 (hI.wf.s rfl) rfl rfl) (hX.upI rfl) (fun g15 e15 hI hX => ?_)
      refine ev_ic f_X12_refuse (nx := 6) (v := -1) rfl (by decide) rfl ?_
      refine ev_retK1 f_X12_refuse rfl rfl rfl ?_
      refine ev_jmp f_X12_nextCart (nx := 40) rfl rfl rfl ?_
      exact ev_ret f_X12_nextCart rfl rfl rfl ⟨_, _, _, rfl, hI, hX, ⟨_, rfl, (by decide : ((-1):Int) ≤ ((-1):Int32).toInt), (Int.le_trans (by decide : ((-1):Int32).toInt ≤ ((-1):Int)) (by decide : ((-1):Int) ≤ 5))⟩⟩
noncomputable def wl_m_told : List (Nat × Nat) := [(69, 2)]
theorem c_m_told {X : x_Ext} {d : Nat} {sh : List (Nat ⊕ (Nat × Nat))} {gi : Nat → Nat → Int32} {gl : Nat → Nat → Int64} {gr : Nat → Nat → Value} (hI : t_I sh gi gr) (ar1 : Int32) : x_Me X (d + 2) n_X12_told [.ref 69, .int ar1] (sh, gi, gl, gr) (t_P wl_m_told sh gi gl gr (t_Ri (-1) 200)) := by
  have hX : t_X wl_m_told sh gi gl gr gi gl gr := t_X.rf
  refine me_i f_X12_told (hI.wf.s rfl) rfl rfl rfl ?_
  refine ev_loc f_X12_told (nx := 1) rfl rfl rfl rfl ?_
  refine ev_if f_X12_told (t1 := 10) (t2 := 4) rfl rfl rfl (fun h1 => ?_) (fun h1 => ?_)
  · have u2 : ar1.toInt ≤ (-1) := t_ltu h1 (by decide : (0:Int32).toInt ≤ (0:Int)) rfl
    refine ev_loc f_X12_told (nx := 11) rfl rfl rfl rfl ?_
    refine ev_ic f_X12_told (nx := 12) (v := 1) rfl (by decide) rfl ?_
    refine ev_inV2 f_X12_told (nx := 15) (lo2 := [(0, .ref 69), (1, .int 1)]) rfl rfl rfl rfl f_X12_refuse (hI.wf.s rfl) rfl rfl rfl rfl rfl ?_
    refine ev_loc f_X12_refuse (nx := 1) rfl rfl rfl rfl ?_
    refine ev_loc f_X12_refuse (nx := 2) rfl rfl rfl rfl ?_
    refine ev_putIT f_X12_refuse (nx := 5) rfl (hI.wf.s rfl) rfl rfl rfl (hI.put0 (hI.wf.s rfl) rfl rfl) (hX.upI rfl) (fun g3 e3 hI hX => ?_)
    refine ev_ic f_X12_refuse (nx := 6) (v := -1) rfl (by decide) rfl ?_
    refine ev_retK1 f_X12_refuse rfl rfl rfl ?_
    refine ev_jmp f_X12_told (nx := 28) rfl rfl rfl ?_
    exact ev_ret f_X12_told rfl rfl rfl ⟨_, _, _, rfl, hI, hX, ⟨_, rfl, (by decide : ((-1):Int) ≤ ((-1):Int32).toInt), (Int.le_trans (by decide : ((-1):Int32).toInt ≤ ((-1):Int)) (by decide : ((-1):Int) ≤ 200))⟩⟩
  · have l4 : 0 ≤ ar1.toInt := t_lel (t_nlt h1) (by decide : (0:Int) ≤ (0:Int32).toInt)
    refine ev_loc f_X12_told (nx := 5) rfl rfl rfl rfl ?_
    refine ev_bp f_X12_told (nx := 7) (v := 7) rfl (by decide) rfl ?_
    refine ev_if f_X12_told (t1 := 18) (t2 := 10) rfl rfl rfl (fun h5 => ?_) (fun h5 => ?_)
    · have u6 : ar1.toInt ≤ 7 := t_leu h5 (by decide : (7:Int32).toInt ≤ (7:Int))
      refine ev_loc f_X12_told (nx := 19) rfl rfl rfl rfl ?_
      refine ev_loc f_X12_told (nx := 20) rfl rfl rfl rfl ?_
      refine ev_getR f_X12_told (nx := 23) rfl (hI.wf.s rfl) rfl rfl (hI.wf.r rfl) rfl rfl ?_
      refine ev_loc f_X12_told (nx := 24) rfl rfl rfl rfl ?_
      refine ev_ialdT f_X12_told (nx := 25) rfl (hI.wf.s rfl) l4 (by decide) u6 (by decide) rfl (fun w7 e7 => ?_)
      obtain ⟨l7, u7⟩ := hI.abi e7 (by decide +kernel : t_abr 70 0 7 0 200 = true) l4 (by decide) u6 (by decide)
      refine ev_inV2 f_X12_told (nx := 28) (lo2 := [(0, .ref 69), (1, .int w7)]) rfl rfl rfl rfl f_X12_gives (hI.wf.s rfl) rfl rfl rfl rfl rfl ?_
      refine ev_loc f_X12_gives (nx := 1) rfl rfl rfl rfl ?_
      refine ev_ic f_X12_gives (nx := 2) (v := 0) rfl (by decide) rfl ?_
      refine ev_putIT f_X12_gives (nx := 5) rfl (hI.wf.s rfl) rfl rfl rfl (hI.put0 (hI.wf.s rfl) rfl rfl) (hX.upI rfl) (fun g8 e8 hI hX => ?_)
      refine ev_loc f_X12_gives (nx := 6) rfl rfl rfl rfl ?_
      refine ev_retK1 f_X12_gives rfl rfl rfl ?_
      exact ev_ret f_X12_told rfl rfl rfl ⟨_, _, _, rfl, hI, hX, ⟨_, rfl, (Int.le_trans (by decide : ((-1):Int) ≤ 0) l7), u7⟩⟩
    · have l9 : 8 ≤ ar1.toInt := t_ltl (t_nle h5) (by decide : (7:Int) ≤ (7:Int32).toInt) rfl
      refine ev_loc f_X12_told (nx := 11) rfl rfl rfl rfl ?_
      refine ev_ic f_X12_told (nx := 12) (v := 1) rfl (by decide) rfl ?_
      refine ev_inV2 f_X12_told (nx := 15) (lo2 := [(0, .ref 69), (1, .int 1)]) rfl rfl rfl rfl f_X12_refuse (hI.wf.s rfl) rfl rfl rfl rfl rfl ?_
      refine ev_loc f_X12_refuse (nx := 1) rfl rfl rfl rfl ?_
      refine ev_loc f_X12_refuse (nx := 2) rfl rfl rfl rfl ?_
      refine ev_putIT f_X12_refuse (nx := 5) rfl (hI.wf.s rfl) rfl rfl rfl (hI.put0 (hI.wf.s rfl) rfl rfl) (hX.upI rfl) (fun g10 e10 hI hX => ?_)
      refine ev_ic f_X12_refuse (nx := 6) (v := -1) rfl (by decide) rfl ?_
      refine ev_retK1 f_X12_refuse rfl rfl rfl ?_
      refine ev_jmp f_X12_told (nx := 28) rfl rfl rfl ?_
      exact ev_ret f_X12_told rfl rfl rfl ⟨_, _, _, rfl, hI, hX, ⟨_, rfl, (by decide : ((-1):Int) ≤ ((-1):Int32).toInt), (Int.le_trans (by decide : ((-1):Int32).toInt ≤ ((-1):Int)) (by decide : ((-1):Int) ≤ 200))⟩⟩
noncomputable def wl_m_ship : List (Nat × Nat) := [(69, 2)]
theorem c_m_ship {X : x_Ext} {d : Nat} {sh : List (Nat ⊕ (Nat × Nat))} {gi : Nat → Nat → Int32} {gl : Nat → Nat → Int64} {gr : Nat → Nat → Value} (hI : t_I sh gi gr) (ar1 : Int32) (ar2 : Int32) : x_Me X (d + 2) n_X12_ship [.ref 69, .int ar1, .int ar2] (sh, gi, gl, gr) (t_P wl_m_ship sh gi gl gr (t_Ri (-1) 120)) := by
  have hX : t_X wl_m_ship sh gi gl gr gi gl gr := t_X.rf
  refine me_i f_X12_ship (hI.wf.s rfl) rfl rfl rfl ?_
  refine ev_loc f_X12_ship (nx := 1) rfl rfl rfl rfl ?_
  refine ev_loc f_X12_ship (nx := 2) rfl rfl rfl rfl ?_
  refine ev_inV2 f_X12_ship (nx := 5) (lo2 := [(0, .ref 69), (1, .int ar1)]) rfl rfl rfl rfl f_X12_isShip (hI.wf.s rfl) rfl rfl rfl rfl rfl ?_
  refine ev_loc f_X12_isShip (nx := 1) rfl rfl rfl rfl ?_
  refine ev_if f_X12_isShip (t1 := 18) (t2 := 4) rfl rfl rfl (fun h1 => ?_) (fun h1 => ?_)
  · have u2 : ar1.toInt ≤ (-1) := t_ltu h1 (by decide : (0:Int32).toInt ≤ (0:Int)) rfl
    refine ev_ic f_X12_isShip (nx := 19) (v := 0) rfl (by decide) rfl ?_
    refine ev_retK1 f_X12_isShip rfl rfl rfl ?_
    refine ev_t f_X12_ship (t1 := 37) (t2 := 8) rfl rfl rfl (by decide) ?_
    refine ev_loc f_X12_ship (nx := 38) rfl rfl rfl rfl ?_
    refine ev_ic f_X12_ship (nx := 39) (v := 1) rfl (by decide) rfl ?_
    refine ev_inV2 f_X12_ship (nx := 42) (lo2 := [(0, .ref 69), (1, .int 1)]) rfl rfl rfl rfl f_X12_refuse (hI.wf.s rfl) rfl rfl rfl rfl rfl ?_
    refine ev_loc f_X12_refuse (nx := 1) rfl rfl rfl rfl ?_
    refine ev_loc f_X12_refuse (nx := 2) rfl rfl rfl rfl ?_
    refine ev_putIT f_X12_refuse (nx := 5) rfl (hI.wf.s rfl) rfl rfl rfl (hI.put0 (hI.wf.s rfl) rfl rfl) (hX.upI rfl) (fun g3 e3 hI hX => ?_)
    refine ev_ic f_X12_refuse (nx := 6) (v := -1) rfl (by decide) rfl ?_
    refine ev_retK1 f_X12_refuse rfl rfl rfl ?_
    exact ev_ret f_X12_ship rfl rfl rfl ⟨_, _, _, rfl, hI, hX, ⟨_, rfl, (by decide : ((-1):Int) ≤ ((-1):Int32).toInt), (Int.le_trans (by decide : ((-1):Int32).toInt ≤ ((-1):Int)) (by decide : ((-1):Int) ≤ 120))⟩⟩
  · have l4 : 0 ≤ ar1.toInt := t_lel (t_nlt h1) (by decide : (0:Int) ≤ (0:Int32).toInt)
    refine ev_loc f_X12_isShip (nx := 5) rfl rfl rfl rfl ?_
    refine ev_loc f_X12_isShip (nx := 6) rfl rfl rfl rfl ?_
    refine ev_getR f_X12_isShip (nx := 9) rfl (hI.wf.s rfl) rfl rfl (hI.wf.r rfl) rfl rfl ?_
    refine ev_ic f_X12_isShip (nx := 10) (v := 1) rfl (by decide) rfl ?_
    obtain ⟨l5, u5⟩ := hI.ab (by decide +kernel : t_abr 70 1 1 0 6 = true) (Nat.le_refl _) (Nat.le_refl _)
    refine ev_ialdv f_X12_isShip (nx := 11) (w := (gi 70 1)) rfl (hI.wf.s rfl) (by decide) (rfl : (1 : Int32).toNatClampNeg = 1) (by decide) rfl rfl ?_
    refine ev_if f_X12_isShip (t1 := 18) (t2 := 14) rfl rfl rfl (fun h6 => ?_) (fun h6 => ?_)
    · have r7 : (gi 70 1).toInt ≤ ar1.toInt := Int32.le_iff_toInt_le.mp h6
      refine ev_ic f_X12_isShip (nx := 19) (v := 0) rfl (by decide) rfl ?_
      refine ev_retK1 f_X12_isShip rfl rfl rfl ?_
      refine ev_t f_X12_ship (t1 := 37) (t2 := 8) rfl rfl rfl (by decide) ?_
      refine ev_loc f_X12_ship (nx := 38) rfl rfl rfl rfl ?_
      refine ev_ic f_X12_ship (nx := 39) (v := 1) rfl (by decide) rfl ?_
      refine ev_inV2 f_X12_ship (nx := 42) (lo2 := [(0, .ref 69), (1, .int 1)]) rfl rfl rfl rfl f_X12_refuse (hI.wf.s rfl) rfl rfl rfl rfl rfl ?_
      refine ev_loc f_X12_refuse (nx := 1) rfl rfl rfl rfl ?_
      refine ev_loc f_X12_refuse (nx := 2) rfl rfl rfl rfl ?_
      refine ev_putIT f_X12_refuse (nx := 5) rfl (hI.wf.s rfl) rfl rfl rfl (hI.put0 (hI.wf.s rfl) rfl rfl) (hX.upI rfl) (fun g8 e8 hI hX => ?_)
      refine ev_ic f_X12_refuse (nx := 6) (v := -1) rfl (by decide) rfl ?_
      refine ev_retK1 f_X12_refuse rfl rfl rfl ?_
      exact ev_ret f_X12_ship rfl rfl rfl ⟨_, _, _, rfl, hI, hX, ⟨_, rfl, (by decide : ((-1):Int) ≤ ((-1):Int32).toInt), (Int.le_trans (by decide : ((-1):Int32).toInt ≤ ((-1):Int)) (by decide : ((-1):Int) ≤ 120))⟩⟩
    · have r9 : ar1.toInt < (gi 70 1).toInt := Int32.lt_iff_toInt_lt.mp (t_nle h6)
      have u10 : ar1.toInt ≤ 5 := t_ltu (t_nle h6) u5 rfl
      have l11 : 1 ≤ (gi 70 1).toInt := t_ltl (t_nle h6) l4 rfl
      refine ev_ic f_X12_isShip (nx := 15) (v := 1) rfl (by decide) rfl ?_
      refine ev_jmp f_X12_isShip (nx := 19) rfl rfl rfl ?_
      refine ev_retK1 f_X12_isShip rfl rfl rfl ?_
      refine ev_f f_X12_ship (t1 := 37) (t2 := 8) rfl rfl rfl (by decide) ?_
      refine ev_loc f_X12_ship (nx := 9) rfl rfl rfl rfl ?_
      refine ev_if f_X12_ship (t1 := 37) (t2 := 12) rfl rfl rfl (fun h12 => ?_) (fun h12 => ?_)
      · have u13 : ar2.toInt ≤ (-1) := t_ltu h12 (by decide : (0:Int32).toInt ≤ (0:Int)) rfl
        refine ev_loc f_X12_ship (nx := 38) rfl rfl rfl rfl ?_
        refine ev_ic f_X12_ship (nx := 39) (v := 1) rfl (by decide) rfl ?_
        refine ev_inV2 f_X12_ship (nx := 42) (lo2 := [(0, .ref 69), (1, .int 1)]) rfl rfl rfl rfl f_X12_refuse (hI.wf.s rfl) rfl rfl rfl rfl rfl ?_
        refine ev_loc f_X12_refuse (nx := 1) rfl rfl rfl rfl ?_
        refine ev_loc f_X12_refuse (nx := 2) rfl rfl rfl rfl ?_
        refine ev_putIT f_X12_refuse (nx := 5) rfl (hI.wf.s rfl) rfl rfl rfl (hI.put0 (hI.wf.s rfl) rfl rfl) (hX.upI rfl) (fun g14 e14 hI hX => ?_)
        refine ev_ic f_X12_refuse (nx := 6) (v := -1) rfl (by decide) rfl ?_
        refine ev_retK1 f_X12_refuse rfl rfl rfl ?_
        exact ev_ret f_X12_ship rfl rfl rfl ⟨_, _, _, rfl, hI, hX, ⟨_, rfl, (by decide : ((-1):Int) ≤ ((-1):Int32).toInt), (Int.le_trans (by decide : ((-1):Int32).toInt ≤ ((-1):Int)) (by decide : ((-1):Int) ≤ 120))⟩⟩
      · have l15 : 0 ≤ ar2.toInt := t_lel (t_nlt h12) (by decide : (0:Int) ≤ (0:Int32).toInt)
        refine ev_loc f_X12_ship (nx := 13) rfl rfl rfl rfl ?_
        refine ev_ic f_X12_ship (nx := 14) (v := 4) rfl (by decide) rfl ?_
        refine ev_if f_X12_ship (t1 := 37) (t2 := 17) rfl rfl rfl (fun h16 => ?_) (fun h16 => ?_)
        · have l17 : 5 ≤ ar2.toInt := t_ltl h16 (by decide : (4:Int) ≤ (4:Int32).toInt) rfl
          refine ev_loc f_X12_ship (nx := 38) rfl rfl rfl rfl ?_
          refine ev_ic f_X12_ship (nx := 39) (v := 1) rfl (by decide) rfl ?_
          refine ev_inV2 f_X12_ship (nx := 42) (lo2 := [(0, .ref 69), (1, .int 1)]) rfl rfl rfl rfl f_X12_refuse (hI.wf.s rfl) rfl rfl rfl rfl rfl ?_
          refine ev_loc f_X12_refuse (nx := 1) rfl rfl rfl rfl ?_
          refine ev_loc f_X12_refuse (nx := 2) rfl rfl rfl rfl ?_
          refine ev_putIT f_X12_refuse (nx := 5) rfl (hI.wf.s rfl) rfl rfl rfl (hI.put0 (hI.wf.s rfl) rfl rfl) (hX.upI rfl) (fun g18 e18 hI hX => ?_)
          refine ev_ic f_X12_refuse (nx := 6) (v := -1) rfl (by decide) rfl ?_
          refine ev_retK1 f_X12_refuse rfl rfl rfl ?_
          exact ev_ret f_X12_ship rfl rfl rfl ⟨_, _, _, rfl, hI, hX, ⟨_, rfl, (by decide : ((-1):Int) ≤ ((-1):Int32).toInt), (Int.le_trans (by decide : ((-1):Int32).toInt ≤ ((-1):Int)) (by decide : ((-1):Int) ≤ 120))⟩⟩
        · have u19 : ar2.toInt ≤ 4 := t_leu (t_nlt h16) (by decide : (4:Int32).toInt ≤ (4:Int))
          refine ev_loc f_X12_ship (nx := 18) rfl rfl rfl rfl ?_
          refine ev_loc f_X12_ship (nx := 19) rfl rfl rfl rfl ?_
          refine ev_getR f_X12_ship (nx := 22) rfl (hI.wf.s rfl) rfl rfl (hI.wf.r rfl) rfl rfl ?_
          refine ev_bp f_X12_ship (nx := 24) (v := 52) rfl (by decide) rfl ?_
          refine ev_ic f_X12_ship (nx := 25) (v := 5) rfl (by decide) rfl ?_
          refine ev_loc f_X12_ship (nx := 26) rfl rfl rfl rfl ?_
          refine ev_mulL f_X12_ship (nx := 27) (c := 5) (l := 0) (u := 25) rfl (by decide) (by decide) l4 u10 rfl rfl (by decide) (by decide) rfl (fun z20 e20 l20 u20 => ?_)
          refine ev_addK f_X12_ship (nx := 28) (c := 52) (l := 52) (u := 77) rfl (by decide) l20 u20 rfl rfl (by decide) (by decide) rfl (fun z21 e21 l21 u21 => ?_)
          refine ev_loc f_X12_ship (nx := 29) rfl rfl rfl rfl ?_
          refine ev_addR f_X12_ship (nx := 30) (l := 52) (u := 81) rfl l21 u21 l15 u19 rfl rfl (by decide) (by decide) rfl (fun z22 e22 l22 u22 => ?_)
          refine ev_ialdT f_X12_ship (nx := 31) rfl (hI.wf.s rfl) l22 (by decide) u22 (by decide) rfl (fun w23 e23 => ?_)
          obtain ⟨l23, u23⟩ := hI.abi e23 (by decide +kernel : t_abr 70 52 81 (-1) 120 = true) l22 (by decide) u22 (by decide)
          refine ev_inV2 f_X12_ship (nx := 34) (lo2 := [(0, .ref 69), (1, .int w23)]) rfl rfl rfl rfl f_X12_gives (hI.wf.s rfl) rfl rfl rfl rfl rfl ?_
          refine ev_loc f_X12_gives (nx := 1) rfl rfl rfl rfl ?_
          refine ev_ic f_X12_gives (nx := 2) (v := 0) rfl (by decide) rfl ?_
          refine ev_putIT f_X12_gives (nx := 5) rfl (hI.wf.s rfl) rfl rfl rfl (hI.put0 (hI.wf.s rfl) rfl rfl) (hX.upI rfl) (fun g24 e24 hI hX => ?_)
          refine ev_loc f_X12_gives (nx := 6) rfl rfl rfl rfl ?_
          refine ev_retK1 f_X12_gives rfl rfl rfl ?_
          refine ev_jmp f_X12_ship (nx := 42) rfl rfl rfl ?_
          exact ev_ret f_X12_ship rfl rfl rfl ⟨_, _, _, rfl, hI, hX, ⟨_, rfl, l23, u23⟩⟩
noncomputable def wl_m_cart : List (Nat × Nat) := [(69, 2)]
theorem c_m_cart {X : x_Ext} {d : Nat} {sh : List (Nat ⊕ (Nat × Nat))} {gi : Nat → Nat → Int32} {gl : Nat → Nat → Int64} {gr : Nat → Nat → Value} (hI : t_I sh gi gr) (ar1 : Int32) (ar2 : Int32) : x_Me X (d + 2) n_X12_cart [.ref 69, .int ar1, .int ar2] (sh, gi, gl, gr) (t_P wl_m_cart sh gi gl gr (t_Ri (-1) 120)) := by
  have hX : t_X wl_m_cart sh gi gl gr gi gl gr := t_X.rf
  refine me_i f_X12_cart (hI.wf.s rfl) rfl rfl rfl ?_
  refine ev_loc f_X12_cart (nx := 1) rfl rfl rfl rfl ?_
  refine ev_loc f_X12_cart (nx := 2) rfl rfl rfl rfl ?_
  refine ev_inV2 f_X12_cart (nx := 5) (lo2 := [(0, .ref 69), (1, .int ar1)]) rfl rfl rfl rfl f_X12_isCart (hI.wf.s rfl) rfl rfl rfl rfl rfl ?_
  refine ev_loc f_X12_isCart (nx := 1) rfl rfl rfl rfl ?_
  refine ev_if f_X12_isCart (t1 := 18) (t2 := 4) rfl rfl rfl (fun h1 => ?_) (fun h1 => ?_)
  · have u2 : ar1.toInt ≤ (-1) := t_ltu h1 (by decide : (0:Int32).toInt ≤ (0:Int)) rfl
    refine ev_ic f_X12_isCart (nx := 19) (v := 0) rfl (by decide) rfl ?_
    refine ev_retK1 f_X12_isCart rfl rfl rfl ?_
    refine ev_t f_X12_cart (t1 := 37) (t2 := 8) rfl rfl rfl (by decide) ?_
    refine ev_loc f_X12_cart (nx := 38) rfl rfl rfl rfl ?_
    refine ev_ic f_X12_cart (nx := 39) (v := 1) rfl (by decide) rfl ?_
    refine ev_inV2 f_X12_cart (nx := 42) (lo2 := [(0, .ref 69), (1, .int 1)]) rfl rfl rfl rfl f_X12_refuse (hI.wf.s rfl) rfl rfl rfl rfl rfl ?_
    refine ev_loc f_X12_refuse (nx := 1) rfl rfl rfl rfl ?_
    refine ev_loc f_X12_refuse (nx := 2) rfl rfl rfl rfl ?_
    refine ev_putIT f_X12_refuse (nx := 5) rfl (hI.wf.s rfl) rfl rfl rfl (hI.put0 (hI.wf.s rfl) rfl rfl) (hX.upI rfl) (fun g3 e3 hI hX => ?_)
    refine ev_ic f_X12_refuse (nx := 6) (v := -1) rfl (by decide) rfl ?_
    refine ev_retK1 f_X12_refuse rfl rfl rfl ?_
    exact ev_ret f_X12_cart rfl rfl rfl ⟨_, _, _, rfl, hI, hX, ⟨_, rfl, (by decide : ((-1):Int) ≤ ((-1):Int32).toInt), (Int.le_trans (by decide : ((-1):Int32).toInt ≤ ((-1):Int)) (by decide : ((-1):Int) ≤ 120))⟩⟩
  · have l4 : 0 ≤ ar1.toInt := t_lel (t_nlt h1) (by decide : (0:Int) ≤ (0:Int32).toInt)
    refine ev_loc f_X12_isCart (nx := 5) rfl rfl rfl rfl ?_
    refine ev_loc f_X12_isCart (nx := 6) rfl rfl rfl rfl ?_
    refine ev_getR f_X12_isCart (nx := 9) rfl (hI.wf.s rfl) rfl rfl (hI.wf.r rfl) rfl rfl ?_
    refine ev_ic f_X12_isCart (nx := 10) (v := 2) rfl (by decide) rfl ?_
    obtain ⟨l5, u5⟩ := hI.ab (by decide +kernel : t_abr 70 2 2 0 6 = true) (Nat.le_refl _) (Nat.le_refl _)
    refine ev_ialdv f_X12_isCart (nx := 11) (w := (gi 70 2)) rfl (hI.wf.s rfl) (by decide) (rfl : (2 : Int32).toNatClampNeg = 2) (by decide) rfl rfl ?_
    refine ev_if f_X12_isCart (t1 := 18) (t2 := 14) rfl rfl rfl (fun h6 => ?_) (fun h6 => ?_)
    · have r7 : (gi 70 2).toInt ≤ ar1.toInt := Int32.le_iff_toInt_le.mp h6
      refine ev_ic f_X12_isCart (nx := 19) (v := 0) rfl (by decide) rfl ?_
      refine ev_retK1 f_X12_isCart rfl rfl rfl ?_
      refine ev_t f_X12_cart (t1 := 37) (t2 := 8) rfl rfl rfl (by decide) ?_
      refine ev_loc f_X12_cart (nx := 38) rfl rfl rfl rfl ?_
      refine ev_ic f_X12_cart (nx := 39) (v := 1) rfl (by decide) rfl ?_
      refine ev_inV2 f_X12_cart (nx := 42) (lo2 := [(0, .ref 69), (1, .int 1)]) rfl rfl rfl rfl f_X12_refuse (hI.wf.s rfl) rfl rfl rfl rfl rfl ?_
      refine ev_loc f_X12_refuse (nx := 1) rfl rfl rfl rfl ?_
      refine ev_loc f_X12_refuse (nx := 2) rfl rfl rfl rfl ?_
      refine ev_putIT f_X12_refuse (nx := 5) rfl (hI.wf.s rfl) rfl rfl rfl (hI.put0 (hI.wf.s rfl) rfl rfl) (hX.upI rfl) (fun g8 e8 hI hX => ?_)
      refine ev_ic f_X12_refuse (nx := 6) (v := -1) rfl (by decide) rfl ?_
      refine ev_retK1 f_X12_refuse rfl rfl rfl ?_
      exact ev_ret f_X12_cart rfl rfl rfl ⟨_, _, _, rfl, hI, hX, ⟨_, rfl, (by decide : ((-1):Int) ≤ ((-1):Int32).toInt), (Int.le_trans (by decide : ((-1):Int32).toInt ≤ ((-1):Int)) (by decide : ((-1):Int) ≤ 120))⟩⟩
    · have r9 : ar1.toInt < (gi 70 2).toInt := Int32.lt_iff_toInt_lt.mp (t_nle h6)
      have u10 : ar1.toInt ≤ 5 := t_ltu (t_nle h6) u5 rfl
      have l11 : 1 ≤ (gi 70 2).toInt := t_ltl (t_nle h6) l4 rfl
      refine ev_ic f_X12_isCart (nx := 15) (v := 1) rfl (by decide) rfl ?_
      refine ev_jmp f_X12_isCart (nx := 19) rfl rfl rfl ?_
      refine ev_retK1 f_X12_isCart rfl rfl rfl ?_
      refine ev_f f_X12_cart (t1 := 37) (t2 := 8) rfl rfl rfl (by decide) ?_
      refine ev_loc f_X12_cart (nx := 9) rfl rfl rfl rfl ?_
      refine ev_if f_X12_cart (t1 := 37) (t2 := 12) rfl rfl rfl (fun h12 => ?_) (fun h12 => ?_)
      · have u13 : ar2.toInt ≤ (-1) := t_ltu h12 (by decide : (0:Int32).toInt ≤ (0:Int)) rfl
        refine ev_loc f_X12_cart (nx := 38) rfl rfl rfl rfl ?_
        refine ev_ic f_X12_cart (nx := 39) (v := 1) rfl (by decide) rfl ?_
        refine ev_inV2 f_X12_cart (nx := 42) (lo2 := [(0, .ref 69), (1, .int 1)]) rfl rfl rfl rfl f_X12_refuse (hI.wf.s rfl) rfl rfl rfl rfl rfl ?_
        refine ev_loc f_X12_refuse (nx := 1) rfl rfl rfl rfl ?_
        refine ev_loc f_X12_refuse (nx := 2) rfl rfl rfl rfl ?_
        refine ev_putIT f_X12_refuse (nx := 5) rfl (hI.wf.s rfl) rfl rfl rfl (hI.put0 (hI.wf.s rfl) rfl rfl) (hX.upI rfl) (fun g14 e14 hI hX => ?_)
        refine ev_ic f_X12_refuse (nx := 6) (v := -1) rfl (by decide) rfl ?_
        refine ev_retK1 f_X12_refuse rfl rfl rfl ?_
        exact ev_ret f_X12_cart rfl rfl rfl ⟨_, _, _, rfl, hI, hX, ⟨_, rfl, (by decide : ((-1):Int) ≤ ((-1):Int32).toInt), (Int.le_trans (by decide : ((-1):Int32).toInt ≤ ((-1):Int)) (by decide : ((-1):Int) ≤ 120))⟩⟩
      · have l15 : 0 ≤ ar2.toInt := t_lel (t_nlt h12) (by decide : (0:Int) ≤ (0:Int32).toInt)
        refine ev_loc f_X12_cart (nx := 13) rfl rfl rfl rfl ?_
        refine ev_ic f_X12_cart (nx := 14) (v := 2) rfl (by decide) rfl ?_
        refine ev_if f_X12_cart (t1 := 37) (t2 := 17) rfl rfl rfl (fun h16 => ?_) (fun h16 => ?_)
        · have l17 : 3 ≤ ar2.toInt := t_ltl h16 (by decide : (2:Int) ≤ (2:Int32).toInt) rfl
          refine ev_loc f_X12_cart (nx := 38) rfl rfl rfl rfl ?_
          refine ev_ic f_X12_cart (nx := 39) (v := 1) rfl (by decide) rfl ?_
          refine ev_inV2 f_X12_cart (nx := 42) (lo2 := [(0, .ref 69), (1, .int 1)]) rfl rfl rfl rfl f_X12_refuse (hI.wf.s rfl) rfl rfl rfl rfl rfl ?_
          refine ev_loc f_X12_refuse (nx := 1) rfl rfl rfl rfl ?_
          refine ev_loc f_X12_refuse (nx := 2) rfl rfl rfl rfl ?_
          refine ev_putIT f_X12_refuse (nx := 5) rfl (hI.wf.s rfl) rfl rfl rfl (hI.put0 (hI.wf.s rfl) rfl rfl) (hX.upI rfl) (fun g18 e18 hI hX => ?_)
          refine ev_ic f_X12_refuse (nx := 6) (v := -1) rfl (by decide) rfl ?_
          refine ev_retK1 f_X12_refuse rfl rfl rfl ?_
          exact ev_ret f_X12_cart rfl rfl rfl ⟨_, _, _, rfl, hI, hX, ⟨_, rfl, (by decide : ((-1):Int) ≤ ((-1):Int32).toInt), (Int.le_trans (by decide : ((-1):Int32).toInt ≤ ((-1):Int)) (by decide : ((-1):Int) ≤ 120))⟩⟩
        · have u19 : ar2.toInt ≤ 2 := t_leu (t_nlt h16) (by decide : (2:Int32).toInt ≤ (2:Int))
          refine ev_loc f_X12_cart (nx := 18) rfl rfl rfl rfl ?_
          refine ev_loc f_X12_cart (nx := 19) rfl rfl rfl rfl ?_
          refine ev_getR f_X12_cart (nx := 22) rfl (hI.wf.s rfl) rfl rfl (hI.wf.r rfl) rfl rfl ?_
          refine ev_bp f_X12_cart (nx := 24) (v := 82) rfl (by decide) rfl ?_
          refine ev_ic f_X12_cart (nx := 25) (v := 3) rfl (by decide) rfl ?_
          refine ev_loc f_X12_cart (nx := 26) rfl rfl rfl rfl ?_
          refine ev_mulL f_X12_cart (nx := 27) (c := 3) (l := 0) (u := 15) rfl (by decide) (by decide) l4 u10 rfl rfl (by decide) (by decide) rfl (fun z20 e20 l20 u20 => ?_)
          refine ev_addK f_X12_cart (nx := 28) (c := 82) (l := 82) (u := 97) rfl (by decide) l20 u20 rfl rfl (by decide) (by decide) rfl (fun z21 e21 l21 u21 => ?_)
          refine ev_loc f_X12_cart (nx := 29) rfl rfl rfl rfl ?_
          refine ev_addR f_X12_cart (nx := 30) (l := 82) (u := 99) rfl l21 u21 l15 u19 rfl rfl (by decide) (by decide) rfl (fun z22 e22 l22 u22 => ?_)
          refine ev_ialdT f_X12_cart (nx := 31) rfl (hI.wf.s rfl) l22 (by decide) u22 (by decide) rfl (fun w23 e23 => ?_)
          obtain ⟨l23, u23⟩ := hI.abi e23 (by decide +kernel : t_abr 70 82 99 0 120 = true) l22 (by decide) u22 (by decide)
          refine ev_inV2 f_X12_cart (nx := 34) (lo2 := [(0, .ref 69), (1, .int w23)]) rfl rfl rfl rfl f_X12_gives (hI.wf.s rfl) rfl rfl rfl rfl rfl ?_
          refine ev_loc f_X12_gives (nx := 1) rfl rfl rfl rfl ?_
          refine ev_ic f_X12_gives (nx := 2) (v := 0) rfl (by decide) rfl ?_
          refine ev_putIT f_X12_gives (nx := 5) rfl (hI.wf.s rfl) rfl rfl rfl (hI.put0 (hI.wf.s rfl) rfl rfl) (hX.upI rfl) (fun g24 e24 hI hX => ?_)
          refine ev_loc f_X12_gives (nx := 6) rfl rfl rfl rfl ?_
          refine ev_retK1 f_X12_gives rfl rfl rfl ?_
          refine ev_jmp f_X12_cart (nx := 42) rfl rfl rfl ?_
          exact ev_ret f_X12_cart rfl rfl rfl ⟨_, _, _, rfl, hI, hX, ⟨_, rfl, (Int.le_trans (by decide : ((-1):Int) ≤ 0) l23), u23⟩⟩
noncomputable def wl_m_fault : List (Nat × Nat) := []
theorem c_m_fault {X : x_Ext} {d : Nat} {sh : List (Nat ⊕ (Nat × Nat))} {gi : Nat → Nat → Int32} {gl : Nat → Nat → Int64} {gr : Nat → Nat → Value} (hI : t_I sh gi gr) (ar1 : Int32) : x_Me X (d + 1) n_X12_fault [.ref 69, .int ar1] (sh, gi, gl, gr) (t_P wl_m_fault sh gi gl gr (t_Ri (-2147483648) 2147483647)) := by
  have hX : t_X wl_m_fault sh gi gl gr gi gl gr := t_X.rf
  refine me_i f_X12_fault (hI.wf.s rfl) rfl rfl rfl ?_
  refine ev_loc f_X12_fault (nx := 1) rfl rfl rfl rfl ?_
  refine ev_if f_X12_fault (t1 := 4) (t2 := 11) rfl rfl rfl (fun h1 => ?_) (fun h1 => ?_)
  · have u2 : ar1.toInt ≤ 0 := t_equ h1 (by decide : (0:Int32).toInt ≤ (0:Int))
    have l3 : 0 ≤ ar1.toInt := t_eql h1 (by decide : (0:Int) ≤ (0:Int32).toInt)
    refine ev_loc f_X12_fault (nx := 5) rfl rfl rfl rfl ?_
    refine ev_getI f_X12_fault (nx := 8) rfl (hI.wf.s rfl) rfl rfl rfl ?_
    refine ev_jmp f_X12_fault (nx := 24) rfl rfl rfl ?_
    exact ev_ret f_X12_fault rfl rfl rfl ⟨_, _, _, rfl, hI, hX, ⟨_, rfl, (t_lo (gi 69 16)), (t_hi (gi 69 16))⟩⟩
  · refine ev_loc f_X12_fault (nx := 12) rfl rfl rfl rfl ?_
    refine ev_ic f_X12_fault (nx := 13) (v := 1) rfl (by decide) rfl ?_
    refine ev_if f_X12_fault (t1 := 16) (t2 := 23) rfl rfl rfl (fun h4 => ?_) (fun h4 => ?_)
    · have u5 : ar1.toInt ≤ 1 := t_equ h4 (by decide : (1:Int32).toInt ≤ (1:Int))
      have l6 : 1 ≤ ar1.toInt := t_eql h4 (by decide : (1:Int) ≤ (1:Int32).toInt)
      refine ev_loc f_X12_fault (nx := 17) rfl rfl rfl rfl ?_
      refine ev_getI f_X12_fault (nx := 20) rfl (hI.wf.s rfl) rfl rfl rfl ?_
      refine ev_jmp f_X12_fault (nx := 24) rfl rfl rfl ?_
      exact ev_ret f_X12_fault rfl rfl rfl ⟨_, _, _, rfl, hI, hX, ⟨_, rfl, (t_lo (gi 69 17)), (t_hi (gi 69 17))⟩⟩
    · refine ev_ic f_X12_fault (nx := 24) (v := -1) rfl (by decide) rfl ?_
      exact ev_ret f_X12_fault rfl rfl rfl ⟨_, _, _, rfl, hI, hX, ⟨_, rfl, (Int.le_trans (by decide : ((-2147483648):Int) ≤ (-1)) (by decide : ((-1):Int) ≤ ((-1):Int32).toInt)), (Int.le_trans (by decide : ((-1):Int32).toInt ≤ ((-1):Int)) (by decide : ((-1):Int) ≤ 2147483647))⟩⟩
noncomputable def wl_m_planAt : List (Nat × Nat) := [(69, 2)]
theorem c_m_planAt {X : x_Ext} {d : Nat} {sh : List (Nat ⊕ (Nat × Nat))} {gi : Nat → Nat → Int32} {gl : Nat → Nat → Int64} {gr : Nat → Nat → Value} (hI : t_I sh gi gr) (ar1 : Int32) (ar2 : Int32) : x_Me X (d + 3) n_X12_planAt [.ref 69, .int ar1, .int ar2] (sh, gi, gl, gr) (t_P wl_m_planAt sh gi gl gr (t_Ri (-2147483648) 2147483647)) := by
  have hX : t_X wl_m_planAt sh gi gl gr gi gl gr := t_X.rf
  refine me_i f_X12_planAt (hI.wf.s rfl) rfl rfl rfl ?_
  refine ev_loc f_X12_planAt (nx := 1) rfl rfl rfl rfl ?_
  refine ev_if f_X12_planAt (t1 := 9) (t2 := 4) rfl rfl rfl (fun h1 => ?_) (fun h1 => ?_)
  · have u2 : ar2.toInt ≤ (-1) := t_ltu h1 (by decide : (0:Int32).toInt ≤ (0:Int)) rfl
    refine ev_loc f_X12_planAt (nx := 10) rfl rfl rfl rfl ?_
    refine ev_ic f_X12_planAt (nx := 11) (v := 1) rfl (by decide) rfl ?_
    refine ev_inV2 f_X12_planAt (nx := 14) (lo2 := [(0, .ref 69), (1, .int 1)]) rfl rfl rfl rfl f_X12_refuse (hI.wf.s rfl) rfl rfl rfl rfl rfl ?_
    refine ev_loc f_X12_refuse (nx := 1) rfl rfl rfl rfl ?_
    refine ev_loc f_X12_refuse (nx := 2) rfl rfl rfl rfl ?_
    refine ev_putIT f_X12_refuse (nx := 5) rfl (hI.wf.s rfl) rfl rfl rfl (hI.put0 (hI.wf.s rfl) rfl rfl) (hX.upI rfl) (fun g3 e3 hI hX => ?_)
    refine ev_ic f_X12_refuse (nx := 6) (v := -1) rfl (by decide) rfl ?_
    refine ev_retK1 f_X12_refuse rfl rfl rfl ?_
    exact ev_ret f_X12_planAt rfl rfl rfl ⟨_, _, _, rfl, hI, hX, ⟨_, rfl, (Int.le_trans (by decide : ((-2147483648):Int) ≤ (-1)) (by decide : ((-1):Int) ≤ ((-1):Int32).toInt)), (Int.le_trans (by decide : ((-1):Int32).toInt ≤ ((-1):Int)) (by decide : ((-1):Int) ≤ 2147483647))⟩⟩
  · have l4 : 0 ≤ ar2.toInt := t_lel (t_nlt h1) (by decide : (0:Int) ≤ (0:Int32).toInt)
    refine ev_loc f_X12_planAt (nx := 5) rfl rfl rfl rfl ?_
    refine ev_ic f_X12_planAt (nx := 6) (v := 2) rfl (by decide) rfl ?_
    refine ev_if f_X12_planAt (t1 := 15) (t2 := 9) rfl rfl rfl (fun h5 => ?_) (fun h5 => ?_)
    · have u6 : ar2.toInt ≤ 2 := t_leu h5 (by decide : (2:Int32).toInt ≤ (2:Int))
      refine ev_loc f_X12_planAt (nx := 16) rfl rfl rfl rfl ?_
      refine ev_if f_X12_planAt (t1 := 27) (t2 := 19) rfl rfl rfl (fun h7 => ?_) (fun h7 => ?_)
      · have u8 : ar1.toInt ≤ (-1) := t_ltu h7 (by decide : (0:Int32).toInt ≤ (0:Int)) rfl
        refine ev_loc f_X12_planAt (nx := 28) rfl rfl rfl rfl ?_
        refine ev_bp f_X12_planAt (nx := 30) (v := 6) rfl (by decide) rfl ?_
        refine ev_inV2 f_X12_planAt (nx := 33) (lo2 := [(0, .ref 69), (1, .int 6)]) rfl rfl rfl rfl f_X12_refuse (hI.wf.s rfl) rfl rfl rfl rfl rfl ?_
        refine ev_loc f_X12_refuse (nx := 1) rfl rfl rfl rfl ?_
        refine ev_loc f_X12_refuse (nx := 2) rfl rfl rfl rfl ?_
        refine ev_putIT f_X12_refuse (nx := 5) rfl (hI.wf.s rfl) rfl rfl rfl (hI.put0 (hI.wf.s rfl) rfl rfl) (hX.upI rfl) (fun g9 e9 hI hX => ?_)
        refine ev_ic f_X12_refuse (nx := 6) (v := -1) rfl (by decide) rfl ?_
        refine ev_retK1 f_X12_refuse rfl rfl rfl ?_
        exact ev_ret f_X12_planAt rfl rfl rfl ⟨_, _, _, rfl, hI, hX, ⟨_, rfl, (Int.le_trans (by decide : ((-2147483648):Int) ≤ (-1)) (by decide : ((-1):Int) ≤ ((-1):Int32).toInt)), (Int.le_trans (by decide : ((-1):Int32).toInt ≤ ((-1):Int)) (by decide : ((-1):Int) ≤ 2147483647))⟩⟩
      · have l10 : 0 ≤ ar1.toInt := t_lel (t_nlt h7) (by decide : (0:Int) ≤ (0:Int32).toInt)
        refine ev_loc f_X12_planAt (nx := 20) rfl rfl rfl rfl ?_
        refine ev_loc f_X12_planAt (nx := 21) rfl rfl rfl rfl ?_
        refine ev_getI f_X12_planAt (nx := 24) rfl (hI.wf.s rfl) rfl rfl rfl ?_
        obtain ⟨l11, u11⟩ := hI.b (hI.wf.s (k := 69) rfl) (t_bdK rfl : t_bd 11 56 = some (0, 100))
        refine ev_if f_X12_planAt (t1 := 34) (t2 := 27) rfl rfl rfl (fun h12 => ?_) (fun h12 => ?_)
        · have r13 : ar1.toInt < (gi 69 56).toInt := Int32.lt_iff_toInt_lt.mp h12
          have u14 : ar1.toInt ≤ 99 := t_ltu h12 u11 rfl
          have l15 : 1 ≤ (gi 69 56).toInt := t_ltl h12 l10 rfl
          refine ev_loc f_X12_planAt (nx := 35) rfl rfl rfl rfl ?_
          refine ev_ic f_X12_planAt (nx := 36) (v := 2) rfl (by decide) rfl ?_
          refine ev_if f_X12_planAt (t1 := 39) (t2 := 52) rfl rfl rfl (fun h16 => ?_) (fun h16 => ?_)
          · have l17 : 2 ≤ ar2.toInt := t_eql h16 (by decide : (2:Int) ≤ (2:Int32).toInt)
            refine ev_loc f_X12_planAt (nx := 40) rfl rfl rfl rfl ?_
            refine ev_loc f_X12_planAt (nx := 41) rfl rfl rfl rfl ?_
            refine ev_getR f_X12_planAt (nx := 44) rfl (hI.wf.s rfl) rfl rfl (hI.wf.r rfl) rfl rfl ?_
            refine ev_loc f_X12_planAt (nx := 45) rfl rfl rfl rfl ?_
            refine ev_ialdT f_X12_planAt (nx := 46) rfl (hI.wf.s rfl) l10 (by decide) u14 (by decide) rfl (fun w18 e18 => ?_)
            refine ev_inV2 f_X12_planAt (nx := 49) (lo2 := [(0, .ref 69), (1, .int w18)]) rfl rfl rfl rfl f_X12_orNone (hI.wf.s rfl) rfl rfl rfl rfl rfl ?_
            refine ev_loc f_X12_orNone (nx := 1) rfl rfl rfl rfl ?_
            refine ev_ic f_X12_orNone (nx := 2) (v := -1) rfl (by decide) rfl ?_
            refine ev_if f_X12_orNone (t1 := 5) (t2 := 14) rfl rfl rfl (fun h19 => ?_) (fun h19 => ?_)
            · have u20 : w18.toInt ≤ (-1) := t_equ h19 (by decide : ((-1):Int32).toInt ≤ ((-1):Int))
              have l21 : (-1) ≤ w18.toInt := t_eql h19 (by decide : ((-1):Int) ≤ ((-1):Int32).toInt)
              refine ev_loc f_X12_orNone (nx := 6) rfl rfl rfl rfl ?_
              refine ev_bp f_X12_orNone (nx := 8) (v := 6) rfl (by decide) rfl ?_
              refine ev_inV2 f_X12_orNone (nx := 11) (lo2 := [(0, .ref 69), (1, .int 6)]) rfl rfl rfl rfl f_X12_refuse (hI.wf.s rfl) rfl rfl rfl rfl rfl ?_
              refine ev_loc f_X12_refuse (nx := 1) rfl rfl rfl rfl ?_
              refine ev_loc f_X12_refuse (nx := 2) rfl rfl rfl rfl ?_
              refine ev_putIT f_X12_refuse (nx := 5) rfl (hI.wf.s rfl) rfl rfl rfl (hI.put0 (hI.wf.s rfl) rfl rfl) (hX.upI rfl) (fun g22 e22 hI hX => ?_)
              refine ev_ic f_X12_refuse (nx := 6) (v := -1) rfl (by decide) rfl ?_
              refine ev_retK1 f_X12_refuse rfl rfl rfl ?_
              refine ev_jmp f_X12_orNone (nx := 19) rfl rfl rfl ?_
              refine ev_retK1 f_X12_orNone rfl rfl rfl ?_
              refine ev_jmp f_X12_planAt (nx := 75) rfl rfl rfl ?_
              exact ev_ret f_X12_planAt rfl rfl rfl ⟨_, _, _, rfl, hI, hX, ⟨_, rfl, (Int.le_trans (by decide : ((-2147483648):Int) ≤ (-1)) (by decide : ((-1):Int) ≤ ((-1):Int32).toInt)), (Int.le_trans (by decide : ((-1):Int32).toInt ≤ ((-1):Int)) (by decide : ((-1):Int) ≤ 2147483647))⟩⟩
            · have r23 : w18.toInt ≠ (-1) := fun e => h19 (Int32.toInt_inj.mp (e.trans (by decide : ((-1):Int) = ((-1) : Int32).toInt)))
              refine ev_loc f_X12_orNone (nx := 15) rfl rfl rfl rfl ?_
              refine ev_loc f_X12_orNone (nx := 16) rfl rfl rfl rfl ?_
              refine ev_inV2 f_X12_orNone (nx := 19) (lo2 := [(0, .ref 69), (1, .int w18)]) rfl rfl rfl rfl f_X12_gives (hI.wf.s rfl) rfl rfl rfl rfl rfl ?_
              refine ev_loc f_X12_gives (nx := 1) rfl rfl rfl rfl ?_
              refine ev_ic f_X12_gives (nx := 2) (v := 0) rfl (by decide) rfl ?_
              refine ev_putIT f_X12_gives (nx := 5) rfl (hI.wf.s rfl) rfl rfl rfl (hI.put0 (hI.wf.s rfl) rfl rfl) (hX.upI rfl) (fun g24 e24 hI hX => ?_)
              refine ev_loc f_X12_gives (nx := 6) rfl rfl rfl rfl ?_
              refine ev_retK1 f_X12_gives rfl rfl rfl ?_
              refine ev_retK1 f_X12_orNone rfl rfl rfl ?_
              refine ev_jmp f_X12_planAt (nx := 75) rfl rfl rfl ?_
              exact ev_ret f_X12_planAt rfl rfl rfl ⟨_, _, _, rfl, hI, hX, ⟨_, rfl, (t_lo w18), (t_hi w18)⟩⟩
          · have r25 : ar2.toInt ≠ 2 := fun e => h16 (Int32.toInt_inj.mp (e.trans (by decide : (2:Int) = (2 : Int32).toInt)))
            have u26 : ar2.toInt ≤ 1 := t_neu h16 u6 rfl rfl
            refine ev_loc f_X12_planAt (nx := 53) rfl rfl rfl rfl ?_
            refine ev_loc f_X12_planAt (nx := 54) rfl rfl rfl rfl ?_
            refine ev_if f_X12_planAt (t1 := 57) (t2 := 66) rfl rfl rfl (fun h27 => ?_) (fun h27 => ?_)
            · have u28 : ar2.toInt ≤ 0 := t_equ h27 (by decide : (0:Int32).toInt ≤ (0:Int))
              refine ev_loc f_X12_planAt (nx := 58) rfl rfl rfl rfl ?_
              refine ev_getR f_X12_planAt (nx := 61) rfl (hI.wf.s rfl) rfl rfl (hI.wf.r rfl) rfl rfl ?_
              refine ev_loc f_X12_planAt (nx := 62) rfl rfl rfl rfl ?_
              refine ev_ialdT f_X12_planAt (nx := 63) rfl (hI.wf.s rfl) l10 (by decide) u14 (by decide) rfl (fun w29 e29 => ?_)
              refine ev_jmp f_X12_planAt (nx := 72) rfl rfl rfl ?_
              refine ev_inV2 f_X12_planAt (nx := 75) (lo2 := [(0, .ref 69), (1, .int w29)]) rfl rfl rfl rfl f_X12_gives (hI.wf.s rfl) rfl rfl rfl rfl rfl ?_
              refine ev_loc f_X12_gives (nx := 1) rfl rfl rfl rfl ?_
              refine ev_ic f_X12_gives (nx := 2) (v := 0) rfl (by decide) rfl ?_
              refine ev_putIT f_X12_gives (nx := 5) rfl (hI.wf.s rfl) rfl rfl rfl (hI.put0 (hI.wf.s rfl) rfl rfl) (hX.upI rfl) (fun g30 e30 hI hX => ?_)
              refine ev_loc f_X12_gives (nx := 6) rfl rfl rfl rfl ?_
              refine ev_retK1 f_X12_gives rfl rfl rfl ?_
              exact ev_ret f_X12_planAt rfl rfl rfl ⟨_, _, _, rfl, hI, hX, ⟨_, rfl, (t_lo w29), (t_hi w29)⟩⟩
            · have r31 : ar2.toInt ≠ 0 := fun e => h27 (Int32.toInt_inj.mp (e.trans (by decide : (0:Int) = (0 : Int32).toInt)))
              have l32 : 1 ≤ ar2.toInt := t_nel h27 l4 rfl rfl
              refine ev_loc f_X12_planAt (nx := 67) rfl rfl rfl rfl ?_
              refine ev_getR f_X12_planAt (nx := 70) rfl (hI.wf.s rfl) rfl rfl (hI.wf.r rfl) rfl rfl ?_
              refine ev_loc f_X12_planAt (nx := 71) rfl rfl rfl rfl ?_
              refine ev_ialdT f_X12_planAt (nx := 72) rfl (hI.wf.s rfl) l10 (by decide) u14 (by decide) rfl (fun w33 e33 => ?_)
              refine ev_inV2 f_X12_planAt (nx := 75) (lo2 := [(0, .ref 69), (1, .int w33)]) rfl rfl rfl rfl f_X12_gives (hI.wf.s rfl) rfl rfl rfl rfl rfl ?_
              refine ev_loc f_X12_gives (nx := 1) rfl rfl rfl rfl ?_
              refine ev_ic f_X12_gives (nx := 2) (v := 0) rfl (by decide) rfl ?_
              refine ev_putIT f_X12_gives (nx := 5) rfl (hI.wf.s rfl) rfl rfl rfl (hI.put0 (hI.wf.s rfl) rfl rfl) (hX.upI rfl) (fun g34 e34 hI hX => ?_)
              refine ev_loc f_X12_gives (nx := 6) rfl rfl rfl rfl ?_
              refine ev_retK1 f_X12_gives rfl rfl rfl ?_
              exact ev_ret f_X12_planAt rfl rfl rfl ⟨_, _, _, rfl, hI, hX, ⟨_, rfl, (t_lo w33), (t_hi w33)⟩⟩
        · have r35 : (gi 69 56).toInt ≤ ar1.toInt := Int32.le_iff_toInt_le.mp (t_nlt h12)
          refine ev_loc f_X12_planAt (nx := 28) rfl rfl rfl rfl ?_
          refine ev_bp f_X12_planAt (nx := 30) (v := 6) rfl (by decide) rfl ?_
          refine ev_inV2 f_X12_planAt (nx := 33) (lo2 := [(0, .ref 69), (1, .int 6)]) rfl rfl rfl rfl f_X12_refuse (hI.wf.s rfl) rfl rfl rfl rfl rfl ?_
          refine ev_loc f_X12_refuse (nx := 1) rfl rfl rfl rfl ?_
          refine ev_loc f_X12_refuse (nx := 2) rfl rfl rfl rfl ?_
          refine ev_putIT f_X12_refuse (nx := 5) rfl (hI.wf.s rfl) rfl rfl rfl (hI.put0 (hI.wf.s rfl) rfl rfl) (hX.upI rfl) (fun g36 e36 hI hX => ?_)
          refine ev_ic f_X12_refuse (nx := 6) (v := -1) rfl (by decide) rfl ?_
          refine ev_retK1 f_X12_refuse rfl rfl rfl ?_
          exact ev_ret f_X12_planAt rfl rfl rfl ⟨_, _, _, rfl, hI, hX, ⟨_, rfl, (Int.le_trans (by decide : ((-2147483648):Int) ≤ (-1)) (by decide : ((-1):Int) ≤ ((-1):Int32).toInt)), (Int.le_trans (by decide : ((-1):Int32).toInt ≤ ((-1):Int)) (by decide : ((-1):Int) ≤ 2147483647))⟩⟩
    · have l37 : 3 ≤ ar2.toInt := t_ltl (t_nle h5) (by decide : (2:Int) ≤ (2:Int32).toInt) rfl
      refine ev_loc f_X12_planAt (nx := 10) rfl rfl rfl rfl ?_
      refine ev_ic f_X12_planAt (nx := 11) (v := 1) rfl (by decide) rfl ?_
      refine ev_inV2 f_X12_planAt (nx := 14) (lo2 := [(0, .ref 69), (1, .int 1)]) rfl rfl rfl rfl f_X12_refuse (hI.wf.s rfl) rfl rfl rfl rfl rfl ?_
      refine ev_loc f_X12_refuse (nx := 1) rfl rfl rfl rfl ?_
      refine ev_loc f_X12_refuse (nx := 2) rfl rfl rfl rfl ?_
      refine ev_putIT f_X12_refuse (nx := 5) rfl (hI.wf.s rfl) rfl rfl rfl (hI.put0 (hI.wf.s rfl) rfl rfl) (hX.upI rfl) (fun g38 e38 hI hX => ?_)
      refine ev_ic f_X12_refuse (nx := 6) (v := -1) rfl (by decide) rfl ?_
      refine ev_retK1 f_X12_refuse rfl rfl rfl ?_
      exact ev_ret f_X12_planAt rfl rfl rfl ⟨_, _, _, rfl, hI, hX, ⟨_, rfl, (Int.le_trans (by decide : ((-2147483648):Int) ≤ (-1)) (by decide : ((-1):Int) ≤ ((-1):Int32).toInt)), (Int.le_trans (by decide : ((-1):Int32).toInt ≤ ((-1):Int)) (by decide : ((-1):Int) ≤ 2147483647))⟩⟩
noncomputable def wl_m_kept : List (Nat × Nat) := [(69, 2)]
theorem c_m_kept {X : x_Ext} {d : Nat} {sh : List (Nat ⊕ (Nat × Nat))} {gi : Nat → Nat → Int32} {gl : Nat → Nat → Int64} {gr : Nat → Nat → Value} (hI : t_I sh gi gr) (ar1 : Int32) : x_Me X (d + 2) n_X12_kept [.ref 69, .int ar1] (sh, gi, gl, gr) (t_P wl_m_kept sh gi gl gr (t_Ri (-2147483648) 2147483647)) := by
  have hX : t_X wl_m_kept sh gi gl gr gi gl gr := t_X.rf
  refine me_i f_X12_kept (hI.wf.s rfl) rfl rfl rfl ?_
  refine ev_loc f_X12_kept (nx := 1) rfl rfl rfl rfl ?_
  refine ev_if f_X12_kept (t1 := 9) (t2 := 4) rfl rfl rfl (fun h1 => ?_) (fun h1 => ?_)
  · have u2 : ar1.toInt ≤ (-1) := t_ltu h1 (by decide : (0:Int32).toInt ≤ (0:Int)) rfl
    refine ev_loc f_X12_kept (nx := 10) rfl rfl rfl rfl ?_
    refine ev_ic f_X12_kept (nx := 11) (v := 1) rfl (by decide) rfl ?_
    refine ev_inV2 f_X12_kept (nx := 14) (lo2 := [(0, .ref 69), (1, .int 1)]) rfl rfl rfl rfl f_X12_refuse (hI.wf.s rfl) rfl rfl rfl rfl rfl ?_
    refine ev_loc f_X12_refuse (nx := 1) rfl rfl rfl rfl ?_
    refine ev_loc f_X12_refuse (nx := 2) rfl rfl rfl rfl ?_
    refine ev_putIT f_X12_refuse (nx := 5) rfl (hI.wf.s rfl) rfl rfl rfl (hI.put0 (hI.wf.s rfl) rfl rfl) (hX.upI rfl) (fun g3 e3 hI hX => ?_)
    refine ev_ic f_X12_refuse (nx := 6) (v := -1) rfl (by decide) rfl ?_
    refine ev_retK1 f_X12_refuse rfl rfl rfl ?_
    refine ev_jmp f_X12_kept (nx := 43) rfl rfl rfl ?_
    exact ev_ret f_X12_kept rfl rfl rfl ⟨_, _, _, rfl, hI, hX, ⟨_, rfl, (Int.le_trans (by decide : ((-2147483648):Int) ≤ (-1)) (by decide : ((-1):Int) ≤ ((-1):Int32).toInt)), (Int.le_trans (by decide : ((-1):Int32).toInt ≤ ((-1):Int)) (by decide : ((-1):Int) ≤ 2147483647))⟩⟩
  · have l4 : 0 ≤ ar1.toInt := t_lel (t_nlt h1) (by decide : (0:Int) ≤ (0:Int32).toInt)
    refine ev_loc f_X12_kept (nx := 5) rfl rfl rfl rfl ?_
    refine ev_ic f_X12_kept (nx := 6) (v := 4) rfl (by decide) rfl ?_
    refine ev_if f_X12_kept (t1 := 17) (t2 := 9) rfl rfl rfl (fun h5 => ?_) (fun h5 => ?_)
    · have u6 : ar1.toInt ≤ 4 := t_leu h5 (by decide : (4:Int32).toInt ≤ (4:Int))
      refine ev_loc f_X12_kept (nx := 18) rfl rfl rfl rfl ?_
      refine ev_getI f_X12_kept (nx := 21) rfl (hI.wf.s rfl) rfl rfl rfl ?_
      refine ev_if f_X12_kept (t1 := 37) (t2 := 24) rfl rfl rfl (fun h7 => ?_) (fun h7 => ?_)
      · have u8 : (gi 69 74).toInt ≤ 0 := t_equ h7 (by decide : (0:Int32).toInt ≤ (0:Int))
        have l9 : 0 ≤ (gi 69 74).toInt := t_eql h7 (by decide : (0:Int) ≤ (0:Int32).toInt)
        refine ev_loc f_X12_kept (nx := 38) rfl rfl rfl rfl ?_
        refine ev_bp f_X12_kept (nx := 40) (v := 6) rfl (by decide) rfl ?_
        refine ev_inV2 f_X12_kept (nx := 43) (lo2 := [(0, .ref 69), (1, .int 6)]) rfl rfl rfl rfl f_X12_refuse (hI.wf.s rfl) rfl rfl rfl rfl rfl ?_
        refine ev_loc f_X12_refuse (nx := 1) rfl rfl rfl rfl ?_
        refine ev_loc f_X12_refuse (nx := 2) rfl rfl rfl rfl ?_
        refine ev_putIT f_X12_refuse (nx := 5) rfl (hI.wf.s rfl) rfl rfl rfl (hI.put0 (hI.wf.s rfl) rfl rfl) (hX.upI rfl) (fun g10 e10 hI hX => ?_)
        refine ev_ic f_X12_refuse (nx := 6) (v := -1) rfl (by decide) rfl ?_
        refine ev_retK1 f_X12_refuse rfl rfl rfl ?_
        exact ev_ret f_X12_kept rfl rfl rfl ⟨_, _, _, rfl, hI, hX, ⟨_, rfl, (Int.le_trans (by decide : ((-2147483648):Int) ≤ (-1)) (by decide : ((-1):Int) ≤ ((-1):Int32).toInt)), (Int.le_trans (by decide : ((-1):Int32).toInt ≤ ((-1):Int)) (by decide : ((-1):Int) ≤ 2147483647))⟩⟩
      · have r11 : (gi 69 74).toInt ≠ 0 := fun e => h7 (Int32.toInt_inj.mp (e.trans (by decide : (0:Int) = (0 : Int32).toInt)))
        refine ev_loc f_X12_kept (nx := 25) rfl rfl rfl rfl ?_
        refine ev_loc f_X12_kept (nx := 26) rfl rfl rfl rfl ?_
        refine ev_getR f_X12_kept (nx := 29) rfl (hI.wf.s rfl) rfl rfl (hI.wf.r rfl) rfl rfl ?_
        refine ev_loc f_X12_kept (nx := 30) rfl rfl rfl rfl ?_
        refine ev_ialdT f_X12_kept (nx := 31) rfl (hI.wf.s rfl) l4 (by decide) u6 (by decide) rfl (fun w12 e12 => ?_)
        refine ev_inV2 f_X12_kept (nx := 34) (lo2 := [(0, .ref 69), (1, .int w12)]) rfl rfl rfl rfl f_X12_gives (hI.wf.s rfl) rfl rfl rfl rfl rfl ?_
        refine ev_loc f_X12_gives (nx := 1) rfl rfl rfl rfl ?_
        refine ev_ic f_X12_gives (nx := 2) (v := 0) rfl (by decide) rfl ?_
        refine ev_putIT f_X12_gives (nx := 5) rfl (hI.wf.s rfl) rfl rfl rfl (hI.put0 (hI.wf.s rfl) rfl rfl) (hX.upI rfl) (fun g13 e13 hI hX => ?_)
        refine ev_loc f_X12_gives (nx := 6) rfl rfl rfl rfl ?_
        refine ev_retK1 f_X12_gives rfl rfl rfl ?_
        refine ev_jmp f_X12_kept (nx := 43) rfl rfl rfl ?_
        exact ev_ret f_X12_kept rfl rfl rfl ⟨_, _, _, rfl, hI, hX, ⟨_, rfl, (t_lo w12), (t_hi w12)⟩⟩
    · have l14 : 5 ≤ ar1.toInt := t_ltl (t_nle h5) (by decide : (4:Int) ≤ (4:Int32).toInt) rfl
      refine ev_loc f_X12_kept (nx := 10) rfl rfl rfl rfl ?_
      refine ev_ic f_X12_kept (nx := 11) (v := 1) rfl (by decide) rfl ?_
      refine ev_inV2 f_X12_kept (nx := 14) (lo2 := [(0, .ref 69), (1, .int 1)]) rfl rfl rfl rfl f_X12_refuse (hI.wf.s rfl) rfl rfl rfl rfl rfl ?_
      refine ev_loc f_X12_refuse (nx := 1) rfl rfl rfl rfl ?_
      refine ev_loc f_X12_refuse (nx := 2) rfl rfl rfl rfl ?_
      refine ev_putIT f_X12_refuse (nx := 5) rfl (hI.wf.s rfl) rfl rfl rfl (hI.put0 (hI.wf.s rfl) rfl rfl) (hX.upI rfl) (fun g15 e15 hI hX => ?_)
      refine ev_ic f_X12_refuse (nx := 6) (v := -1) rfl (by decide) rfl ?_
      refine ev_retK1 f_X12_refuse rfl rfl rfl ?_
      refine ev_jmp f_X12_kept (nx := 43) rfl rfl rfl ?_
      exact ev_ret f_X12_kept rfl rfl rfl ⟨_, _, _, rfl, hI, hX, ⟨_, rfl, (Int.le_trans (by decide : ((-2147483648):Int) ≤ (-1)) (by decide : ((-1):Int) ≤ ((-1):Int32).toInt)), (Int.le_trans (by decide : ((-1):Int32).toInt ≤ ((-1):Int)) (by decide : ((-1):Int) ≤ 2147483647))⟩⟩
noncomputable def wl_m_status : List (Nat × Nat) := []
theorem c_m_status {X : x_Ext} {d : Nat} {sh : List (Nat ⊕ (Nat × Nat))} {gi : Nat → Nat → Int32} {gl : Nat → Nat → Int64} {gr : Nat → Nat → Value} (hI : t_I sh gi gr) : x_Me X (d + 1) n_X12_status [.ref 69] (sh, gi, gl, gr) (t_P wl_m_status sh gi gl gr (t_Ri (-2147483648) 2147483647)) := by
  have hX : t_X wl_m_status sh gi gl gr gi gl gr := t_X.rf
  refine me_i f_X12_status (hI.wf.s rfl) rfl rfl rfl ?_
  refine ev_loc f_X12_status (nx := 1) rfl rfl rfl rfl ?_
  refine ev_getI f_X12_status (nx := 4) rfl (hI.wf.s rfl) rfl rfl rfl ?_
  exact ev_ret f_X12_status rfl rfl rfl ⟨_, _, _, rfl, hI, hX, ⟨_, rfl, (t_lo (gi 69 2)), (t_hi (gi 69 2))⟩⟩
noncomputable def wl_m_top : List (Nat × Nat) := []
theorem c_m_top {X : x_Ext} {d : Nat} {sh : List (Nat ⊕ (Nat × Nat))} {gi : Nat → Nat → Int32} {gl : Nat → Nat → Int64} {gr : Nat → Nat → Value} (hI : t_I sh gi gr) : x_Me X (d + 1) n_X12_top [.ref 69] (sh, gi, gl, gr) (t_P wl_m_top sh gi gl gr t_Rl) := by
  have hX : t_X wl_m_top sh gi gl gr gi gl gr := t_X.rf
  refine me_i f_X12_top (hI.wf.s rfl) rfl rfl rfl ?_
  refine ev_loc f_X12_top (nx := 1) rfl rfl rfl rfl ?_
  refine ev_getL f_X12_top (nx := 4) rfl (hI.wf.s rfl) rfl rfl rfl ?_
  exact ev_ret f_X12_top rfl rfl rfl ⟨_, _, _, rfl, hI, hX, ⟨_, rfl⟩⟩
noncomputable def wl_m_bottom : List (Nat × Nat) := []
theorem c_m_bottom {X : x_Ext} {d : Nat} {sh : List (Nat ⊕ (Nat × Nat))} {gi : Nat → Nat → Int32} {gl : Nat → Nat → Int64} {gr : Nat → Nat → Value} (hI : t_I sh gi gr) : x_Me X (d + 1) n_X12_bottom [.ref 69] (sh, gi, gl, gr) (t_P wl_m_bottom sh gi gl gr t_Rl) := by
  have hX : t_X wl_m_bottom sh gi gl gr gi gl gr := t_X.rf
  refine me_i f_X12_bottom (hI.wf.s rfl) rfl rfl rfl ?_
  refine ev_loc f_X12_bottom (nx := 1) rfl rfl rfl rfl ?_
  refine ev_getL f_X12_bottom (nx := 4) rfl (hI.wf.s rfl) rfl rfl rfl ?_
  exact ev_ret f_X12_bottom rfl rfl rfl ⟨_, _, _, rfl, hI, hX, ⟨_, rfl⟩⟩
noncomputable def wl_m_waitingShips : List (Nat × Nat) := []
theorem c_m_waitingShips {X : x_Ext} {d : Nat} {sh : List (Nat ⊕ (Nat × Nat))} {gi : Nat → Nat → Int32} {gl : Nat → Nat → Int64} {gr : Nat → Nat → Value} (hI : t_I sh gi gr) : x_Me X (d + 1) n_X12_waitingShips [.ref 69] (sh, gi, gl, gr) (t_P wl_m_waitingShips sh gi gl gr (t_Ri (-2147483648) 2147483647)) := by
  have hX : t_X wl_m_waitingShips sh gi gl gr gi gl gr := t_X.rf
  refine me_i f_X12_waitingShips (hI.wf.s rfl) rfl rfl rfl ?_
  refine ev_ic f_X12_waitingShips (nx := 1) (v := 0) rfl (by decide) rfl ?_
  refine ev_loc f_X12_waitingShips (nx := 2) (lo' := [(1, .int 0), (0, .ref 69)]) rfl rfl rfl rfl ?_
  refine ev_loc f_X12_waitingShips (nx := 3) rfl rfl rfl rfl ?_
  refine ev_getI f_X12_waitingShips (nx := 6) rfl (hI.wf.s rfl) rfl rfl rfl ?_
  obtain ⟨l1, u1⟩ := hI.b (hI.wf.s (k := 69) rfl) (t_bdK rfl : t_bd 11 64 = some (0, 6))
  refine ev_loc f_X12_waitingShips (nx := 7) (lo' := [(2, .int (gi 69 64)), (1, .int 0), (0, .ref 69)]) rfl rfl rfl rfl ?_
  have L2 : ∀ (m2 : Nat) (gi2 : Nat → Nat → Int32) (gl2 : Nat → Nat → Int64) (gr2 : Nat → Nat → Value) (y2_2 : Int32) (y2_1 : Int32), t_I sh gi2 gr2 → t_X wl_m_waitingShips sh gi gl gr gi2 gl2 gr2 → 0 ≤ y2_2.toInt → y2_2.toInt ≤ 6 → gi2 69 64 = (gi 69 64) → (6 - y2_2.toInt).toNat = m2 → x_Ev X (d + 1) n_X12_waitingShips 7 [(2, .int y2_2), (1, .int y2_1), (0, .ref 69)] [] (sh, gi2, gl2, gr2) (t_P wl_m_waitingShips sh gi gl gr (t_Ri (-2147483648) 2147483647)) := by
    intro m2
    induction m2 using Nat.strongRecOn with
    | _ m2 ih2 =>
    intro gi2 gl2 gr2 y2_2 y2_1 hI hX l2_2 u2_2 c2_0 hm2
    refine ev_loc f_X12_waitingShips (nx := 8) rfl rfl rfl rfl ?_
    refine ev_loc f_X12_waitingShips (nx := 9) rfl rfl rfl rfl ?_
    refine ev_getI f_X12_waitingShips (nx := 12) rfl (hI.wf.s rfl) rfl rfl rfl ?_
    obtain ⟨l3, u3⟩ := hI.b (hI.wf.s (k := 69) rfl) (t_bdK rfl : t_bd 11 44 = some (0, 6))
    refine ev_if f_X12_waitingShips (t1 := 61) (t2 := 15) rfl rfl rfl (fun h4 => ?_) (fun h4 => ?_)
    · refine ev_loc f_X12_waitingShips (nx := 62) rfl rfl rfl rfl ?_
      exact ev_ret f_X12_waitingShips rfl rfl rfl ⟨_, _, _, rfl, hI, hX, ⟨_, rfl, (t_lo y2_1), (t_hi y2_1)⟩⟩
    · have u5 : y2_2.toInt ≤ 5 := t_ltu (t_nle h4) u3 rfl
      have l6 : 1 ≤ (gi2 69 44).toInt := t_ltl (t_nle h4) l2_2 rfl
      refine ev_loc f_X12_waitingShips (nx := 16) rfl rfl rfl rfl ?_
      refine ev_loc f_X12_waitingShips (nx := 17) rfl rfl rfl rfl ?_
      refine ev_getR f_X12_waitingShips (nx := 20) rfl (hI.wf.s rfl) rfl rfl (hI.wf.r rfl) rfl rfl ?_
      refine ev_loc f_X12_waitingShips (nx := 21) rfl rfl rfl rfl ?_
      refine ev_getR f_X12_waitingShips (nx := 24) rfl (hI.wf.s rfl) rfl rfl (hI.wf.r rfl) rfl rfl ?_
      refine ev_loc f_X12_waitingShips (nx := 25) rfl rfl rfl rfl ?_
      refine ev_ialdT f_X12_waitingShips (nx := 26) rfl (hI.wf.s rfl) l2_2 (by decide) u5 (by decide) rfl (fun w7 e7 => ?_)
      obtain ⟨l7, u7⟩ := hI.abi e7 (by decide +kernel : t_abr 90 0 5 0 5 = true) l2_2 (by decide) u5 (by decide)
      refine ev_baldT f_X12_waitingShips (nx := 27) rfl (hI.wf.s rfl) rfl l7 (by decide) u7 (by decide) rfl (fun w8 e8 => ?_)
      obtain ⟨l8, u8⟩ := hI.abi e8 (by decide +kernel : t_abr 99 0 5 0 1 = true) l7 (by decide) u7 (by decide)
      refine ev_if f_X12_waitingShips (t1 := 30) (t2 := 52) rfl rfl rfl (fun h9 => ?_) (fun h9 => ?_)
      · have u10 : w8.toInt ≤ 0 := t_equ h9 (by decide : (0:Int32).toInt ≤ (0:Int))
        refine ev_loc f_X12_waitingShips (nx := 31) rfl rfl rfl rfl ?_
        refine ev_getR f_X12_waitingShips (nx := 34) rfl (hI.wf.s rfl) rfl rfl (hI.wf.r rfl) rfl rfl ?_
        refine ev_loc f_X12_waitingShips (nx := 35) rfl rfl rfl rfl ?_
        refine ev_getR f_X12_waitingShips (nx := 38) rfl (hI.wf.s rfl) rfl rfl (hI.wf.r rfl) rfl rfl ?_
        refine ev_loc f_X12_waitingShips (nx := 39) rfl rfl rfl rfl ?_
        refine ev_ialdT f_X12_waitingShips (nx := 40) rfl (hI.wf.s rfl) l2_2 (by decide) u5 (by decide) rfl (fun w11 e11 => ?_)
        obtain ⟨l11, u11⟩ := hI.abi e11 (by decide +kernel : t_abr 90 0 5 0 5 = true) l2_2 (by decide) u5 (by decide)
        refine ev_ialdT f_X12_waitingShips (nx := 41) rfl (hI.wf.s rfl) l11 (by decide) u11 (by decide) rfl (fun w12 e12 => ?_)
        refine ev_loc f_X12_waitingShips (nx := 42) rfl rfl rfl rfl ?_
        refine ev_getI f_X12_waitingShips (nx := 45) rfl (hI.wf.s rfl) rfl rfl rfl ?_
        obtain ⟨l13, u13⟩ := hI.b (hI.wf.s (k := 69) rfl) (t_bdK rfl : t_bd 11 59 = some (0, 301))
        refine ev_if f_X12_waitingShips (t1 := 52) (t2 := 48) rfl rfl rfl (fun h14 => ?_) (fun h14 => ?_)
        · have l15 : 1 ≤ w12.toInt := t_ltl h14 l13 rfl
          refine ev_ic f_X12_waitingShips (nx := 53) (v := 0) rfl (by decide) rfl ?_
          refine ev_addC f_X12_waitingShips (nx := 54) (c := 0) (l := (-2147483648)) (u := 2147483647) rfl (by decide) (t_lo y2_1) (t_hi y2_1) rfl rfl (by decide) (by decide) rfl (fun z16 e16 l16 u16 => ?_)
          refine ev_loc f_X12_waitingShips (nx := 55) (lo' := [(1, .int z16), (2, .int y2_2), (0, .ref 69)]) rfl rfl rfl rfl ?_
          refine ev_incR f_X12_waitingShips (nx := 58) (c := 1) (l := 1) (u := 6) rfl rfl (by decide) (by decide) l2_2 u5 rfl rfl (by decide) (by decide) rfl (fun z17 e17 l17 u17 => ?_)
          refine ev_jmp f_X12_waitingShips (nx := 7) rfl rfl rfl ?_
          refine ev_sub (lo := [(2, .int z17), (1, .int z16), (0, .ref 69)]) rfl (t_sc rfl (t_sc rfl (t_sc rfl t_sn))) ?_
          exact ih2 _ (by omega) gi2 gl2 gr2 (z17) (z16) hI hX  (Int.le_trans (by decide : (0:Int) ≤ 1) l17) u17 c2_0 rfl
        · have u18 : w12.toInt ≤ 301 := t_leu (t_nlt h14) u13
          refine ev_ic f_X12_waitingShips (nx := 49) (v := 1) rfl (by decide) rfl ?_
          refine ev_jmp f_X12_waitingShips (nx := 53) rfl rfl rfl ?_
          refine ev_anyI f_X12_waitingShips (nx := 54) rfl rfl rfl rfl (fun z19 => ?_)
          refine ev_loc f_X12_waitingShips (nx := 55) (lo' := [(1, .int z19), (2, .int y2_2), (0, .ref 69)]) rfl rfl rfl rfl ?_
          refine ev_incR f_X12_waitingShips (nx := 58) (c := 1) (l := 1) (u := 6) rfl rfl (by decide) (by decide) l2_2 u5 rfl rfl (by decide) (by decide) rfl (fun z20 e20 l20 u20 => ?_)
          refine ev_jmp f_X12_waitingShips (nx := 7) rfl rfl rfl ?_
          refine ev_sub (lo := [(2, .int z20), (1, .int z19), (0, .ref 69)]) rfl (t_sc rfl (t_sc rfl (t_sc rfl t_sn))) ?_
          exact ih2 _ (by omega) gi2 gl2 gr2 (z20) (z19) hI hX  (Int.le_trans (by decide : (0:Int) ≤ 1) l20) u20 c2_0 rfl
      · have l21 : 1 ≤ w8.toInt := t_nel h9 l8 rfl rfl
        refine ev_ic f_X12_waitingShips (nx := 53) (v := 0) rfl (by decide) rfl ?_
        refine ev_addC f_X12_waitingShips (nx := 54) (c := 0) (l := (-2147483648)) (u := 2147483647) rfl (by decide) (t_lo y2_1) (t_hi y2_1) rfl rfl (by decide) (by decide) rfl (fun z22 e22 l22 u22 => ?_)
        refine ev_loc f_X12_waitingShips (nx := 55) (lo' := [(1, .int z22), (2, .int y2_2), (0, .ref 69)]) rfl rfl rfl rfl ?_
        refine ev_incR f_X12_waitingShips (nx := 58) (c := 1) (l := 1) (u := 6) rfl rfl (by decide) (by decide) l2_2 u5 rfl rfl (by decide) (by decide) rfl (fun z23 e23 l23 u23 => ?_)
        refine ev_jmp f_X12_waitingShips (nx := 7) rfl rfl rfl ?_
        refine ev_sub (lo := [(2, .int z23), (1, .int z22), (0, .ref 69)]) rfl (t_sc rfl (t_sc rfl (t_sc rfl t_sn))) ?_
        exact ih2 _ (by omega) gi2 gl2 gr2 (z23) (z22) hI hX  (Int.le_trans (by decide : (0:Int) ≤ 1) l23) u23 c2_0 rfl
  refine ev_sub (lo := [(2, .int (gi 69 64)), (1, .int 0), (0, .ref 69)]) rfl (t_sc rfl (t_sc rfl (t_sc rfl t_sn))) ?_
  exact L2 _ gi gl gr ((gi 69 64)) (0) hI hX  l1 u1 rfl rfl
noncomputable def wl_m_waitingCarts : List (Nat × Nat) := []
theorem c_m_waitingCarts {X : x_Ext} {d : Nat} {sh : List (Nat ⊕ (Nat × Nat))} {gi : Nat → Nat → Int32} {gl : Nat → Nat → Int64} {gr : Nat → Nat → Value} (hI : t_I sh gi gr) : x_Me X (d + 1) n_X12_waitingCarts [.ref 69] (sh, gi, gl, gr) (t_P wl_m_waitingCarts sh gi gl gr (t_Ri (-2147483648) 2147483647)) := by
  have hX : t_X wl_m_waitingCarts sh gi gl gr gi gl gr := t_X.rf
  refine me_i f_X12_waitingCarts (hI.wf.s rfl) rfl rfl rfl ?_
  refine ev_ic f_X12_waitingCarts (nx := 1) (v := 0) rfl (by decide) rfl ?_
  refine ev_loc f_X12_waitingCarts (nx := 2) (lo' := [(1, .int 0), (0, .ref 69)]) rfl rfl rfl rfl ?_
  refine ev_loc f_X12_waitingCarts (nx := 3) rfl rfl rfl rfl ?_
  refine ev_getI f_X12_waitingCarts (nx := 6) rfl (hI.wf.s rfl) rfl rfl rfl ?_
  obtain ⟨l1, u1⟩ := hI.b (hI.wf.s (k := 69) rfl) (t_bdK rfl : t_bd 11 65 = some (0, 6))
  refine ev_loc f_X12_waitingCarts (nx := 7) (lo' := [(2, .int (gi 69 65)), (1, .int 0), (0, .ref 69)]) rfl rfl rfl rfl ?_
  have L2 : ∀ (m2 : Nat) (gi2 : Nat → Nat → Int32) (gl2 : Nat → Nat → Int64) (gr2 : Nat → Nat → Value) (y2_2 : Int32) (y2_1 : Int32), t_I sh gi2 gr2 → t_X wl_m_waitingCarts sh gi gl gr gi2 gl2 gr2 → 0 ≤ y2_2.toInt → y2_2.toInt ≤ 6 → gi2 69 65 = (gi 69 65) → (6 - y2_2.toInt).toNat = m2 → x_Ev X (d + 1) n_X12_waitingCarts 7 [(2, .int y2_2), (1, .int y2_1), (0, .ref 69)] [] (sh, gi2, gl2, gr2) (t_P wl_m_waitingCarts sh gi gl gr (t_Ri (-2147483648) 2147483647)) := by
    intro m2
    induction m2 using Nat.strongRecOn with
    | _ m2 ih2 =>
    intro gi2 gl2 gr2 y2_2 y2_1 hI hX l2_2 u2_2 c2_0 hm2
    refine ev_loc f_X12_waitingCarts (nx := 8) rfl rfl rfl rfl ?_
    refine ev_loc f_X12_waitingCarts (nx := 9) rfl rfl rfl rfl ?_
    refine ev_getI f_X12_waitingCarts (nx := 12) rfl (hI.wf.s rfl) rfl rfl rfl ?_
    obtain ⟨l3, u3⟩ := hI.b (hI.wf.s (k := 69) rfl) (t_bdK rfl : t_bd 11 45 = some (0, 6))
    refine ev_if f_X12_waitingCarts (t1 := 50) (t2 := 15) rfl rfl rfl (fun h4 => ?_) (fun h4 => ?_)
    · refine ev_loc f_X12_waitingCarts (nx := 51) rfl rfl rfl rfl ?_
      exact ev_ret f_X12_waitingCarts rfl rfl rfl ⟨_, _, _, rfl, hI, hX, ⟨_, rfl, (t_lo y2_1), (t_hi y2_1)⟩⟩
    · have u5 : y2_2.toInt ≤ 5 := t_ltu (t_nle h4) u3 rfl
      have l6 : 1 ≤ (gi2 69 45).toInt := t_ltl (t_nle h4) l2_2 rfl
      refine ev_loc f_X12_waitingCarts (nx := 16) rfl rfl rfl rfl ?_
      refine ev_loc f_X12_waitingCarts (nx := 17) rfl rfl rfl rfl ?_
      refine ev_getR f_X12_waitingCarts (nx := 20) rfl (hI.wf.s rfl) rfl rfl (hI.wf.r rfl) rfl rfl ?_
      refine ev_bp f_X12_waitingCarts (nx := 22) (v := 6) rfl (by decide) rfl ?_
      refine ev_loc f_X12_waitingCarts (nx := 23) rfl rfl rfl rfl ?_
      refine ev_getR f_X12_waitingCarts (nx := 26) rfl (hI.wf.s rfl) rfl rfl (hI.wf.r rfl) rfl rfl ?_
      refine ev_loc f_X12_waitingCarts (nx := 27) rfl rfl rfl rfl ?_
      refine ev_ialdT f_X12_waitingCarts (nx := 28) rfl (hI.wf.s rfl) l2_2 (by decide) u5 (by decide) rfl (fun w7 e7 => ?_)
      obtain ⟨l7, u7⟩ := hI.abi e7 (by decide +kernel : t_abr 91 0 5 0 5 = true) l2_2 (by decide) u5 (by decide)
      refine ev_addK f_X12_waitingCarts (nx := 29) (c := 6) (l := 6) (u := 11) rfl (by decide) l7 u7 rfl rfl (by decide) (by decide) rfl (fun z8 e8 l8 u8 => ?_)
      refine ev_ialdT f_X12_waitingCarts (nx := 30) rfl (hI.wf.s rfl) l8 (by decide) u8 (by decide) rfl (fun w9 e9 => ?_)
      refine ev_loc f_X12_waitingCarts (nx := 31) rfl rfl rfl rfl ?_
      refine ev_getI f_X12_waitingCarts (nx := 34) rfl (hI.wf.s rfl) rfl rfl rfl ?_
      obtain ⟨l10, u10⟩ := hI.b (hI.wf.s (k := 69) rfl) (t_bdK rfl : t_bd 11 59 = some (0, 301))
      refine ev_if f_X12_waitingCarts (t1 := 41) (t2 := 37) rfl rfl rfl (fun h11 => ?_) (fun h11 => ?_)
      · have l12 : 1 ≤ w9.toInt := t_ltl h11 l10 rfl
        refine ev_ic f_X12_waitingCarts (nx := 42) (v := 0) rfl (by decide) rfl ?_
        refine ev_addC f_X12_waitingCarts (nx := 43) (c := 0) (l := (-2147483648)) (u := 2147483647) rfl (by decide) (t_lo y2_1) (t_hi y2_1) rfl rfl (by decide) (by decide) rfl (fun z13 e13 l13 u13 => ?_)
        refine ev_loc f_X12_waitingCarts (nx := 44) (lo' := [(1, .int z13), (2, .int y2_2), (0, .ref 69)]) rfl rfl rfl rfl ?_
        refine ev_incR f_X12_waitingCarts (nx := 47) (c := 1) (l := 1) (u := 6) rfl rfl (by decide) (by decide) l2_2 u5 rfl rfl (by decide) (by decide) rfl (fun z14 e14 l14 u14 => ?_)
        refine ev_jmp f_X12_waitingCarts (nx := 7) rfl rfl rfl ?_
        refine ev_sub (lo := [(2, .int z14), (1, .int z13), (0, .ref 69)]) rfl (t_sc rfl (t_sc rfl (t_sc rfl t_sn))) ?_
        exact ih2 _ (by omega) gi2 gl2 gr2 (z14) (z13) hI hX  (Int.le_trans (by decide : (0:Int) ≤ 1) l14) u14 c2_0 rfl
      · have u15 : w9.toInt ≤ 301 := t_leu (t_nlt h11) u10
        refine ev_ic f_X12_waitingCarts (nx := 38) (v := 1) rfl (by decide) rfl ?_
        refine ev_jmp f_X12_waitingCarts (nx := 42) rfl rfl rfl ?_
        refine ev_anyI f_X12_waitingCarts (nx := 43) rfl rfl rfl rfl (fun z16 => ?_)
        refine ev_loc f_X12_waitingCarts (nx := 44) (lo' := [(1, .int z16), (2, .int y2_2), (0, .ref 69)]) rfl rfl rfl rfl ?_
        refine ev_incR f_X12_waitingCarts (nx := 47) (c := 1) (l := 1) (u := 6) rfl rfl (by decide) (by decide) l2_2 u5 rfl rfl (by decide) (by decide) rfl (fun z17 e17 l17 u17 => ?_)
        refine ev_jmp f_X12_waitingCarts (nx := 7) rfl rfl rfl ?_
        refine ev_sub (lo := [(2, .int z17), (1, .int z16), (0, .ref 69)]) rfl (t_sc rfl (t_sc rfl (t_sc rfl t_sn))) ?_
        exact ih2 _ (by omega) gi2 gl2 gr2 (z17) (z16) hI hX  (Int.le_trans (by decide : (0:Int) ≤ 1) l17) u17 c2_0 rfl
  refine ev_sub (lo := [(2, .int (gi 69 65)), (1, .int 0), (0, .ref 69)]) rfl (t_sc rfl (t_sc rfl (t_sc rfl t_sn))) ?_
  exact L2 _ gi gl gr ((gi 69 65)) (0) hI hX  l1 u1 rfl rfl
noncomputable def wl_m_nextIn : List (Nat × Nat) := []
theorem c_m_nextIn {X : x_Ext} {d : Nat} {sh : List (Nat ⊕ (Nat × Nat))} {gi : Nat → Nat → Int32} {gl : Nat → Nat → Int64} {gr : Nat → Nat → Value} (hI : t_I sh gi gr) : x_Me X (d + 1) n_X12_nextIn [.ref 69] (sh, gi, gl, gr) (t_P wl_m_nextIn sh gi gl gr (t_Ri (-2147483648) 2147483647)) := by
  have hX : t_X wl_m_nextIn sh gi gl gr gi gl gr := t_X.rf
  refine me_i f_X12_nextIn (hI.wf.s rfl) rfl rfl rfl ?_
  refine ev_ic f_X12_nextIn (nx := 1) (v := 0) rfl (by decide) rfl ?_
  refine ev_loc f_X12_nextIn (nx := 2) (lo' := [(1, .int 0), (0, .ref 69)]) rfl rfl rfl rfl ?_
  have L1 : ∀ (m1 : Nat) (gi1 : Nat → Nat → Int32) (gl1 : Nat → Nat → Int64) (gr1 : Nat → Nat → Value) (y1_1 : Int32), t_I sh gi1 gr1 → t_X wl_m_nextIn sh gi gl gr gi1 gl1 gr1 → 0 ≤ y1_1.toInt → y1_1.toInt ≤ 6 → (6 - y1_1.toInt).toNat = m1 → x_Ev X (d + 1) n_X12_nextIn 2 [(1, .int y1_1), (0, .ref 69)] [] (sh, gi1, gl1, gr1) (t_P wl_m_nextIn sh gi gl gr (t_Ri (-2147483648) 2147483647)) := by
    intro m1
    induction m1 using Nat.strongRecOn with
    | _ m1 ih1 =>
    intro gi1 gl1 gr1 y1_1 hI hX l1_1 u1_1 hm1
    refine ev_loc f_X12_nextIn (nx := 3) rfl rfl rfl rfl ?_
    refine ev_loc f_X12_nextIn (nx := 4) rfl rfl rfl rfl ?_
    refine ev_getI f_X12_nextIn (nx := 7) rfl (hI.wf.s rfl) rfl rfl rfl ?_
    obtain ⟨l2, u2⟩ := hI.b (hI.wf.s (k := 69) rfl) (t_bdK rfl : t_bd 11 44 = some (0, 6))
    refine ev_if f_X12_nextIn (t1 := 51) (t2 := 10) rfl rfl rfl (fun h3 => ?_) (fun h3 => ?_)
    · refine ev_sp f_X12_nextIn (nx := 54) (v := 300) rfl (by decide) rfl ?_
      exact ev_ret f_X12_nextIn rfl rfl rfl ⟨_, _, _, rfl, hI, hX, ⟨_, rfl, (Int.le_trans (by decide : ((-2147483648):Int) ≤ 300) (by decide : (300:Int) ≤ (300:Int32).toInt)), (Int.le_trans (by decide : (300:Int32).toInt ≤ (300:Int)) (by decide : (300:Int) ≤ 2147483647))⟩⟩
    · have u4 : y1_1.toInt ≤ 5 := t_ltu (t_nle h3) u2 rfl
      have l5 : 1 ≤ (gi1 69 44).toInt := t_ltl (t_nle h3) l1_1 rfl
      refine ev_loc f_X12_nextIn (nx := 11) rfl rfl rfl rfl ?_
      refine ev_getR f_X12_nextIn (nx := 14) rfl (hI.wf.s rfl) rfl rfl (hI.wf.r rfl) rfl rfl ?_
      refine ev_loc f_X12_nextIn (nx := 15) rfl rfl rfl rfl ?_
      refine ev_getR f_X12_nextIn (nx := 18) rfl (hI.wf.s rfl) rfl rfl (hI.wf.r rfl) rfl rfl ?_
      refine ev_loc f_X12_nextIn (nx := 19) rfl rfl rfl rfl ?_
      refine ev_ialdT f_X12_nextIn (nx := 20) rfl (hI.wf.s rfl) l1_1 (by decide) u4 (by decide) rfl (fun w6 e6 => ?_)
      obtain ⟨l6, u6⟩ := hI.abi e6 (by decide +kernel : t_abr 90 0 5 0 5 = true) l1_1 (by decide) u4 (by decide)
      refine ev_ialdT f_X12_nextIn (nx := 21) rfl (hI.wf.s rfl) l6 (by decide) u6 (by decide) rfl (fun w7 e7 => ?_)
      refine ev_loc f_X12_nextIn (nx := 22) rfl rfl rfl rfl ?_
      refine ev_getI f_X12_nextIn (nx := 25) rfl (hI.wf.s rfl) rfl rfl rfl ?_
      obtain ⟨l8, u8⟩ := hI.b (hI.wf.s (k := 69) rfl) (t_bdK rfl : t_bd 11 59 = some (0, 301))
      refine ev_if f_X12_nextIn (t1 := 45) (t2 := 28) rfl rfl rfl (fun h9 => ?_) (fun h9 => ?_)
      · have u10 : w7.toInt ≤ 301 := t_leu h9 u8
        refine ev_incR f_X12_nextIn (nx := 48) (c := 1) (l := 1) (u := 6) rfl rfl (by decide) (by decide) l1_1 u4 rfl rfl (by decide) (by decide) rfl (fun z11 e11 l11 u11 => ?_)
        refine ev_jmp f_X12_nextIn (nx := 2) rfl rfl rfl ?_
        refine ev_sub (lo := [(1, .int z11), (0, .ref 69)]) rfl (t_sc rfl (t_sc rfl t_sn)) ?_
        exact ih1 _ (by omega) gi1 gl1 gr1 (z11) hI hX  (Int.le_trans (by decide : (0:Int) ≤ 1) l11) u11 rfl
      · have l12 : 1 ≤ w7.toInt := t_ltl (t_nle h9) l8 rfl
        refine ev_loc f_X12_nextIn (nx := 29) rfl rfl rfl rfl ?_
        refine ev_getR f_X12_nextIn (nx := 32) rfl (hI.wf.s rfl) rfl rfl (hI.wf.r rfl) rfl rfl ?_
        refine ev_loc f_X12_nextIn (nx := 33) rfl rfl rfl rfl ?_
        refine ev_getR f_X12_nextIn (nx := 36) rfl (hI.wf.s rfl) rfl rfl (hI.wf.r rfl) rfl rfl ?_
        refine ev_loc f_X12_nextIn (nx := 37) rfl rfl rfl rfl ?_
        refine ev_ialdT f_X12_nextIn (nx := 38) rfl (hI.wf.s rfl) l1_1 (by decide) u4 (by decide) rfl (fun w13 e13 => ?_)
        obtain ⟨l13, u13⟩ := hI.abi e13 (by decide +kernel : t_abr 90 0 5 0 5 = true) l1_1 (by decide) u4 (by decide)
        refine ev_ialdT f_X12_nextIn (nx := 39) rfl (hI.wf.s rfl) l13 (by decide) u13 (by decide) rfl (fun w14 e14 => ?_)
        refine ev_loc f_X12_nextIn (nx := 40) rfl rfl rfl rfl ?_
        refine ev_gvI f_X12_nextIn (nx := 43) (w := (gi1 69 59)) rfl (hI.wf.s rfl) rfl rfl rfl rfl ?_
        refine ev_anyI f_X12_nextIn (nx := 44) rfl rfl rfl rfl (fun z15 => ?_)
        exact ev_ret f_X12_nextIn rfl rfl rfl ⟨_, _, _, rfl, hI, hX, ⟨_, rfl, (t_lo z15), (t_hi z15)⟩⟩
  refine ev_sub (lo := [(1, .int 0), (0, .ref 69)]) rfl (t_sc rfl (t_sc rfl t_sn)) ?_
  exact L1 _ gi gl gr (0) hI hX  (by decide : (0:Int) ≤ (0:Int32).toInt) (Int.le_trans (by decide : (0:Int32).toInt ≤ (0:Int)) (by decide : (0:Int) ≤ 6)) rfl
noncomputable def wl_m_asked : List (Nat × Nat) := []
theorem c_m_asked {X : x_Ext} {d : Nat} {sh : List (Nat ⊕ (Nat × Nat))} {gi : Nat → Nat → Int32} {gl : Nat → Nat → Int64} {gr : Nat → Nat → Value} (hI : t_I sh gi gr) (ar1 : Int32) : x_Me X (d + 2) n_X12_asked [.ref 69, .int ar1] (sh, gi, gl, gr) (t_P wl_m_asked sh gi gl gr (t_Ri 0 1)) := by
  have hX : t_X wl_m_asked sh gi gl gr gi gl gr := t_X.rf
  refine me_i f_X12_asked (hI.wf.s rfl) rfl rfl rfl ?_
  refine ev_loc f_X12_asked (nx := 1) rfl rfl rfl rfl ?_
  refine ev_bp f_X12_asked (nx := 3) (v := 15) rfl (by decide) rfl ?_
  refine ev_if f_X12_asked (t1 := 12) (t2 := 6) rfl rfl rfl (fun h1 => ?_) (fun h1 => ?_)
  · have u2 : ar1.toInt ≤ 15 := t_equ h1 (by decide : (15:Int32).toInt ≤ (15:Int))
    have l3 : 15 ≤ ar1.toInt := t_eql h1 (by decide : (15:Int) ≤ (15:Int32).toInt)
    refine ev_loc f_X12_asked (nx := 13) rfl rfl rfl rfl ?_
    refine ev_getI f_X12_asked (nx := 16) rfl (hI.wf.s rfl) rfl rfl rfl ?_
    refine ev_ic f_X12_asked (nx := 17) (v := 1) rfl (by decide) rfl ?_
    refine ev_if f_X12_asked (t1 := 20) (t2 := 24) rfl rfl rfl (fun h4 => ?_) (fun h4 => ?_)
    · have u5 : (gi 69 60).toInt ≤ 1 := t_equ h4 (by decide : (1:Int32).toInt ≤ (1:Int))
      have l6 : 1 ≤ (gi 69 60).toInt := t_eql h4 (by decide : (1:Int) ≤ (1:Int32).toInt)
      refine ev_ic f_X12_asked (nx := 21) (v := 1) rfl (by decide) rfl ?_
      refine ev_jmp f_X12_asked (nx := 25) rfl rfl rfl ?_
      refine ev_loc f_X12_asked (nx := 26) rfl rfl rfl rfl ?_
      refine ev_bp f_X12_asked (nx := 28) (v := 15) rfl (by decide) rfl ?_
      refine ev_t f_X12_asked (t1 := 31) (t2 := 35) rfl rfl rfl (t_eqT u2 l3 (by decide : (15:Int32).toInt ≤ (15:Int)) (by decide : (15:Int) ≤ (15:Int32).toInt)) ?_
      refine ev_ic f_X12_asked (nx := 32) (v := 1) rfl (by decide) rfl ?_
      refine ev_jmp f_X12_asked (nx := 36) rfl rfl rfl ?_
      refine ev_t f_X12_asked (t1 := 39) (t2 := 43) rfl rfl rfl (by decide) ?_
      refine ev_ic f_X12_asked (nx := 40) (v := 1) rfl (by decide) rfl ?_
      refine ev_jmp f_X12_asked (nx := 44) rfl rfl rfl ?_
      exact ev_ret f_X12_asked rfl rfl rfl ⟨_, _, _, rfl, hI, hX, ⟨_, rfl, (Int.le_trans (by decide : (0:Int) ≤ 1) (by decide : (1:Int) ≤ (1:Int32).toInt)), (by decide : (1:Int32).toInt ≤ (1:Int))⟩⟩
    · refine ev_ic f_X12_asked (nx := 25) (v := 0) rfl (by decide) rfl ?_
      refine ev_loc f_X12_asked (nx := 26) rfl rfl rfl rfl ?_
      refine ev_bp f_X12_asked (nx := 28) (v := 15) rfl (by decide) rfl ?_
      refine ev_t f_X12_asked (t1 := 31) (t2 := 35) rfl rfl rfl (t_eqT u2 l3 (by decide : (15:Int32).toInt ≤ (15:Int)) (by decide : (15:Int) ≤ (15:Int32).toInt)) ?_
      refine ev_ic f_X12_asked (nx := 32) (v := 1) rfl (by decide) rfl ?_
      refine ev_jmp f_X12_asked (nx := 36) rfl rfl rfl ?_
      refine ev_f f_X12_asked (t1 := 39) (t2 := 43) rfl rfl rfl (by decide) ?_
      refine ev_ic f_X12_asked (nx := 44) (v := 0) rfl (by decide) rfl ?_
      exact ev_ret f_X12_asked rfl rfl rfl ⟨_, _, _, rfl, hI, hX, ⟨_, rfl, (by decide : (0:Int) ≤ (0:Int32).toInt), (Int.le_trans (by decide : (0:Int32).toInt ≤ (0:Int)) (by decide : (0:Int) ≤ 1))⟩⟩
  · refine ev_loc f_X12_asked (nx := 7) rfl rfl rfl rfl ?_
    refine ev_bp f_X12_asked (nx := 9) (v := 16) rfl (by decide) rfl ?_
    refine ev_if f_X12_asked (t1 := 12) (t2 := 45) rfl rfl rfl (fun h7 => ?_) (fun h7 => ?_)
    · have u8 : ar1.toInt ≤ 16 := t_equ h7 (by decide : (16:Int32).toInt ≤ (16:Int))
      have l9 : 16 ≤ ar1.toInt := t_eql h7 (by decide : (16:Int) ≤ (16:Int32).toInt)
      refine ev_loc f_X12_asked (nx := 13) rfl rfl rfl rfl ?_
      refine ev_getI f_X12_asked (nx := 16) rfl (hI.wf.s rfl) rfl rfl rfl ?_
      refine ev_ic f_X12_asked (nx := 17) (v := 1) rfl (by decide) rfl ?_
      refine ev_if f_X12_asked (t1 := 20) (t2 := 24) rfl rfl rfl (fun h10 => ?_) (fun h10 => ?_)
      · have u11 : (gi 69 60).toInt ≤ 1 := t_equ h10 (by decide : (1:Int32).toInt ≤ (1:Int))
        have l12 : 1 ≤ (gi 69 60).toInt := t_eql h10 (by decide : (1:Int) ≤ (1:Int32).toInt)
        refine ev_ic f_X12_asked (nx := 21) (v := 1) rfl (by decide) rfl ?_
        refine ev_jmp f_X12_asked (nx := 25) rfl rfl rfl ?_
        refine ev_loc f_X12_asked (nx := 26) rfl rfl rfl rfl ?_
        refine ev_bp f_X12_asked (nx := 28) (v := 15) rfl (by decide) rfl ?_
        refine ev_f f_X12_asked (t1 := 31) (t2 := 35) rfl rfl rfl (t_neT' (by decide : (15:Int32).toInt ≤ (15:Int)) l9 (by decide)) ?_
        refine ev_ic f_X12_asked (nx := 36) (v := 0) rfl (by decide) rfl ?_
        refine ev_f f_X12_asked (t1 := 39) (t2 := 43) rfl rfl rfl (by decide) ?_
        refine ev_ic f_X12_asked (nx := 44) (v := 0) rfl (by decide) rfl ?_
        exact ev_ret f_X12_asked rfl rfl rfl ⟨_, _, _, rfl, hI, hX, ⟨_, rfl, (by decide : (0:Int) ≤ (0:Int32).toInt), (Int.le_trans (by decide : (0:Int32).toInt ≤ (0:Int)) (by decide : (0:Int) ≤ 1))⟩⟩
      · refine ev_ic f_X12_asked (nx := 25) (v := 0) rfl (by decide) rfl ?_
        refine ev_loc f_X12_asked (nx := 26) rfl rfl rfl rfl ?_
        refine ev_bp f_X12_asked (nx := 28) (v := 15) rfl (by decide) rfl ?_
        refine ev_f f_X12_asked (t1 := 31) (t2 := 35) rfl rfl rfl (t_neT' (by decide : (15:Int32).toInt ≤ (15:Int)) l9 (by decide)) ?_
        refine ev_ic f_X12_asked (nx := 36) (v := 0) rfl (by decide) rfl ?_
        refine ev_t f_X12_asked (t1 := 39) (t2 := 43) rfl rfl rfl (by decide) ?_
        refine ev_ic f_X12_asked (nx := 40) (v := 1) rfl (by decide) rfl ?_
        refine ev_jmp f_X12_asked (nx := 44) rfl rfl rfl ?_
        exact ev_ret f_X12_asked rfl rfl rfl ⟨_, _, _, rfl, hI, hX, ⟨_, rfl, (Int.le_trans (by decide : (0:Int) ≤ 1) (by decide : (1:Int) ≤ (1:Int32).toInt)), (by decide : (1:Int32).toInt ≤ (1:Int))⟩⟩
    · refine ev_loc f_X12_asked (nx := 46) rfl rfl rfl rfl ?_
      refine ev_ldI f_X12_asked (nx := 48) (v := 100000) rfl (by decide) rfl ?_
      refine ev_divN f_X12_asked (nx := 49) rfl (by decide) rfl (fun z13 e13 => ?_)
      refine ev_loc f_X12_asked (nx := 50) (lo' := [(2, .int z13), (0, .ref 69), (1, .int ar1)]) rfl rfl rfl rfl ?_
      refine ev_loc f_X12_asked (nx := 51) rfl rfl rfl rfl ?_
      refine ev_bp f_X12_asked (nx := 53) (v := 22) rfl (by decide) rfl ?_
      refine ev_if f_X12_asked (t1 := 56) (t2 := 63) rfl rfl rfl (fun h14 => ?_) (fun h14 => ?_)
      · have u15 : z13.toInt ≤ 22 := t_equ h14 (by decide : (22:Int32).toInt ≤ (22:Int))
        have l16 : 22 ≤ z13.toInt := t_eql h14 (by decide : (22:Int) ≤ (22:Int32).toInt)
        refine ev_loc f_X12_asked (nx := 57) rfl rfl rfl rfl ?_
        refine ev_cI f_X12_asked (nx := 60) (r := []) rfl rfl rfl rfl rfl rfl rfl (c_m_waitingShips hI ) rfl hX rfl (fun w17 gi17 gl17 gr17 l17 u17 hI hX hC17 => ?_)
        refine ev_jmp f_X12_asked (nx := 111) rfl rfl rfl ?_
        refine ev_loc f_X12_asked (nx := 112) (lo' := [(3, .int w17), (2, .int z13), (0, .ref 69), (1, .int ar1)]) rfl rfl rfl rfl ?_
        refine ev_loc f_X12_asked (nx := 113) rfl rfl rfl rfl ?_
        refine ev_sp f_X12_asked (nx := 116) (v := 1000) rfl (by decide) rfl ?_
        refine ev_divN f_X12_asked (nx := 117) rfl (by decide) rfl (fun z18 e18 => ?_)
        refine ev_bp f_X12_asked (nx := 119) (v := 100) rfl (by decide) rfl ?_
        refine ev_remN f_X12_asked (nx := 120) rfl (by decide) rfl (fun z19 e19 => ?_)
        refine ev_loc f_X12_asked (nx := 122) (lo' := [(4, .int z19), (3, .int w17), (2, .int z13), (0, .ref 69), (1, .int ar1)]) rfl rfl rfl rfl ?_
        refine ev_loc f_X12_asked (nx := 123) rfl rfl rfl rfl ?_
        refine ev_sp f_X12_asked (nx := 126) (v := 1000) rfl (by decide) rfl ?_
        refine ev_remN f_X12_asked (nx := 127) rfl (by decide) rfl (fun z20 e20 => ?_)
        refine ev_loc f_X12_asked (nx := 129) (lo' := [(5, .int z20), (4, .int z19), (3, .int w17), (2, .int z13), (0, .ref 69), (1, .int ar1)]) rfl rfl rfl rfl ?_
        refine ev_loc f_X12_asked (nx := 131) rfl rfl rfl rfl ?_
        refine ev_if f_X12_asked (t1 := 134) (t2 := 148) rfl rfl rfl (fun h21 => ?_) (fun h21 => ?_)
        · have u22 : z19.toInt ≤ 0 := t_equ h21 (by decide : (0:Int32).toInt ≤ (0:Int))
          have l23 : 0 ≤ z19.toInt := t_eql h21 (by decide : (0:Int) ≤ (0:Int32).toInt)
          refine ev_loc f_X12_asked (nx := 135) rfl rfl rfl rfl ?_
          refine ev_loc f_X12_asked (nx := 137) rfl rfl rfl rfl ?_
          refine ev_if f_X12_asked (t1 := 144) (t2 := 140) rfl rfl rfl (fun h24 => ?_) (fun h24 => ?_)
          · refine ev_ic f_X12_asked (nx := 145) (v := 0) rfl (by decide) rfl ?_
            refine ev_jmp f_X12_asked (nx := 179) rfl rfl rfl ?_
            exact ev_ret f_X12_asked rfl rfl rfl ⟨_, _, _, rfl, hI, hX, ⟨_, rfl, (by decide : (0:Int) ≤ (0:Int32).toInt), (Int.le_trans (by decide : (0:Int32).toInt ≤ (0:Int)) (by decide : (0:Int) ≤ 1))⟩⟩
          · have u25 : w17.toInt ≤ 2147483646 := t_ltu (t_nle h24) (t_hi z20) rfl
            have l26 : (-2147483647) ≤ z20.toInt := t_ltl (t_nle h24) l17 rfl
            refine ev_ic f_X12_asked (nx := 141) (v := 1) rfl (by decide) rfl ?_
            refine ev_jmp f_X12_asked (nx := 179) rfl rfl rfl ?_
            exact ev_ret f_X12_asked rfl rfl rfl ⟨_, _, _, rfl, hI, hX, ⟨_, rfl, (Int.le_trans (by decide : (0:Int) ≤ 1) (by decide : (1:Int) ≤ (1:Int32).toInt)), (by decide : (1:Int32).toInt ≤ (1:Int))⟩⟩
        · refine ev_loc f_X12_asked (nx := 150) rfl rfl rfl rfl ?_
          refine ev_ic f_X12_asked (nx := 151) (v := 1) rfl (by decide) rfl ?_
          refine ev_if f_X12_asked (t1 := 154) (t2 := 168) rfl rfl rfl (fun h27 => ?_) (fun h27 => ?_)
          · have u28 : z19.toInt ≤ 1 := t_equ h27 (by decide : (1:Int32).toInt ≤ (1:Int))
            have l29 : 1 ≤ z19.toInt := t_eql h27 (by decide : (1:Int) ≤ (1:Int32).toInt)
            refine ev_loc f_X12_asked (nx := 155) rfl rfl rfl rfl ?_
            refine ev_loc f_X12_asked (nx := 157) rfl rfl rfl rfl ?_
            refine ev_if f_X12_asked (t1 := 164) (t2 := 160) rfl rfl rfl (fun h30 => ?_) (fun h30 => ?_)
            · refine ev_ic f_X12_asked (nx := 165) (v := 0) rfl (by decide) rfl ?_
              refine ev_jmp f_X12_asked (nx := 179) rfl rfl rfl ?_
              exact ev_ret f_X12_asked rfl rfl rfl ⟨_, _, _, rfl, hI, hX, ⟨_, rfl, (by decide : (0:Int) ≤ (0:Int32).toInt), (Int.le_trans (by decide : (0:Int32).toInt ≤ (0:Int)) (by decide : (0:Int) ≤ 1))⟩⟩
            · have u31 : z20.toInt ≤ 2147483646 := t_ltu (t_nle h30) u17 rfl
              have l32 : (-2147483647) ≤ w17.toInt := t_ltl (t_nle h30) (t_lo z20) rfl
              refine ev_ic f_X12_asked (nx := 161) (v := 1) rfl (by decide) rfl ?_
              refine ev_jmp f_X12_asked (nx := 179) rfl rfl rfl ?_
              exact ev_ret f_X12_asked rfl rfl rfl ⟨_, _, _, rfl, hI, hX, ⟨_, rfl, (Int.le_trans (by decide : (0:Int) ≤ 1) (by decide : (1:Int) ≤ (1:Int32).toInt)), (by decide : (1:Int32).toInt ≤ (1:Int))⟩⟩
          · refine ev_loc f_X12_asked (nx := 169) rfl rfl rfl rfl ?_
            refine ev_loc f_X12_asked (nx := 171) rfl rfl rfl rfl ?_
            refine ev_if f_X12_asked (t1 := 174) (t2 := 178) rfl rfl rfl (fun h33 => ?_) (fun h33 => ?_)
            · refine ev_ic f_X12_asked (nx := 175) (v := 1) rfl (by decide) rfl ?_
              refine ev_jmp f_X12_asked (nx := 179) rfl rfl rfl ?_
              exact ev_ret f_X12_asked rfl rfl rfl ⟨_, _, _, rfl, hI, hX, ⟨_, rfl, (Int.le_trans (by decide : (0:Int) ≤ 1) (by decide : (1:Int) ≤ (1:Int32).toInt)), (by decide : (1:Int32).toInt ≤ (1:Int))⟩⟩
            · refine ev_ic f_X12_asked (nx := 179) (v := 0) rfl (by decide) rfl ?_
              exact ev_ret f_X12_asked rfl rfl rfl ⟨_, _, _, rfl, hI, hX, ⟨_, rfl, (by decide : (0:Int) ≤ (0:Int32).toInt), (Int.le_trans (by decide : (0:Int32).toInt ≤ (0:Int)) (by decide : (0:Int) ≤ 1))⟩⟩
      · refine ev_loc f_X12_asked (nx := 64) rfl rfl rfl rfl ?_
        refine ev_bp f_X12_asked (nx := 66) (v := 23) rfl (by decide) rfl ?_
        refine ev_if f_X12_asked (t1 := 69) (t2 := 76) rfl rfl rfl (fun h34 => ?_) (fun h34 => ?_)
        · have u35 : z13.toInt ≤ 23 := t_equ h34 (by decide : (23:Int32).toInt ≤ (23:Int))
          have l36 : 23 ≤ z13.toInt := t_eql h34 (by decide : (23:Int) ≤ (23:Int32).toInt)
          refine ev_loc f_X12_asked (nx := 70) rfl rfl rfl rfl ?_
          refine ev_cI f_X12_asked (nx := 73) (r := []) rfl rfl rfl rfl rfl rfl rfl (c_m_waitingCarts hI ) rfl hX rfl (fun w37 gi37 gl37 gr37 l37 u37 hI hX hC37 => ?_)
          refine ev_jmp f_X12_asked (nx := 111) rfl rfl rfl ?_
          refine ev_loc f_X12_asked (nx := 112) (lo' := [(3, .int w37), (2, .int z13), (0, .ref 69), (1, .int ar1)]) rfl rfl rfl rfl ?_
          refine ev_loc f_X12_asked (nx := 113) rfl rfl rfl rfl ?_
          refine ev_sp f_X12_asked (nx := 116) (v := 1000) rfl (by decide) rfl ?_
          refine ev_divN f_X12_asked (nx := 117) rfl (by decide) rfl (fun z38 e38 => ?_)
          refine ev_bp f_X12_asked (nx := 119) (v := 100) rfl (by decide) rfl ?_
          refine ev_remN f_X12_asked (nx := 120) rfl (by decide) rfl (fun z39 e39 => ?_)
          refine ev_loc f_X12_asked (nx := 122) (lo' := [(4, .int z39), (3, .int w37), (2, .int z13), (0, .ref 69), (1, .int ar1)]) rfl rfl rfl rfl ?_
          refine ev_loc f_X12_asked (nx := 123) rfl rfl rfl rfl ?_
          refine ev_sp f_X12_asked (nx := 126) (v := 1000) rfl (by decide) rfl ?_
          refine ev_remN f_X12_asked (nx := 127) rfl (by decide) rfl (fun z40 e40 => ?_)
          refine ev_loc f_X12_asked (nx := 129) (lo' := [(5, .int z40), (4, .int z39), (3, .int w37), (2, .int z13), (0, .ref 69), (1, .int ar1)]) rfl rfl rfl rfl ?_
          refine ev_loc f_X12_asked (nx := 131) rfl rfl rfl rfl ?_
          refine ev_if f_X12_asked (t1 := 134) (t2 := 148) rfl rfl rfl (fun h41 => ?_) (fun h41 => ?_)
          · have u42 : z39.toInt ≤ 0 := t_equ h41 (by decide : (0:Int32).toInt ≤ (0:Int))
            have l43 : 0 ≤ z39.toInt := t_eql h41 (by decide : (0:Int) ≤ (0:Int32).toInt)
            refine ev_loc f_X12_asked (nx := 135) rfl rfl rfl rfl ?_
            refine ev_loc f_X12_asked (nx := 137) rfl rfl rfl rfl ?_
            refine ev_if f_X12_asked (t1 := 144) (t2 := 140) rfl rfl rfl (fun h44 => ?_) (fun h44 => ?_)
            · refine ev_ic f_X12_asked (nx := 145) (v := 0) rfl (by decide) rfl ?_
              refine ev_jmp f_X12_asked (nx := 179) rfl rfl rfl ?_
              exact ev_ret f_X12_asked rfl rfl rfl ⟨_, _, _, rfl, hI, hX, ⟨_, rfl, (by decide : (0:Int) ≤ (0:Int32).toInt), (Int.le_trans (by decide : (0:Int32).toInt ≤ (0:Int)) (by decide : (0:Int) ≤ 1))⟩⟩
            · have u45 : w37.toInt ≤ 2147483646 := t_ltu (t_nle h44) (t_hi z40) rfl
              have l46 : (-2147483647) ≤ z40.toInt := t_ltl (t_nle h44) l37 rfl
              refine ev_ic f_X12_asked (nx := 141) (v := 1) rfl (by decide) rfl ?_
              refine ev_jmp f_X12_asked (nx := 179) rfl rfl rfl ?_
              exact ev_ret f_X12_asked rfl rfl rfl ⟨_, _, _, rfl, hI, hX, ⟨_, rfl, (Int.le_trans (by decide : (0:Int) ≤ 1) (by decide : (1:Int) ≤ (1:Int32).toInt)), (by decide : (1:Int32).toInt ≤ (1:Int))⟩⟩
          · refine ev_loc f_X12_asked (nx := 150) rfl rfl rfl rfl ?_
            refine ev_ic f_X12_asked (nx := 151) (v := 1) rfl (by decide) rfl ?_
            refine ev_if f_X12_asked (t1 := 154) (t2 := 168) rfl rfl rfl (fun h47 => ?_) (fun h47 => ?_)
            · have u48 : z39.toInt ≤ 1 := t_equ h47 (by decide : (1:Int32).toInt ≤ (1:Int))
              have l49 : 1 ≤ z39.toInt := t_eql h47 (by decide : (1:Int) ≤ (1:Int32).toInt)
              refine ev_loc f_X12_asked (nx := 155) rfl rfl rfl rfl ?_
              refine ev_loc f_X12_asked (nx := 157) rfl rfl rfl rfl ?_
              refine ev_if f_X12_asked (t1 := 164) (t2 := 160) rfl rfl rfl (fun h50 => ?_) (fun h50 => ?_)
              · refine ev_ic f_X12_asked (nx := 165) (v := 0) rfl (by decide) rfl ?_
                refine ev_jmp f_X12_asked (nx := 179) rfl rfl rfl ?_
                exact ev_ret f_X12_asked rfl rfl rfl ⟨_, _, _, rfl, hI, hX, ⟨_, rfl, (by decide : (0:Int) ≤ (0:Int32).toInt), (Int.le_trans (by decide : (0:Int32).toInt ≤ (0:Int)) (by decide : (0:Int) ≤ 1))⟩⟩
              · have u51 : z40.toInt ≤ 2147483646 := t_ltu (t_nle h50) u37 rfl
                have l52 : (-2147483647) ≤ w37.toInt := t_ltl (t_nle h50) (t_lo z40) rfl
                refine ev_ic f_X12_asked (nx := 161) (v := 1) rfl (by decide) rfl ?_
                refine ev_jmp f_X12_asked (nx := 179) rfl rfl rfl ?_
                exact ev_ret f_X12_asked rfl rfl rfl ⟨_, _, _, rfl, hI, hX, ⟨_, rfl, (Int.le_trans (by decide : (0:Int) ≤ 1) (by decide : (1:Int) ≤ (1:Int32).toInt)), (by decide : (1:Int32).toInt ≤ (1:Int))⟩⟩
            · refine ev_loc f_X12_asked (nx := 169) rfl rfl rfl rfl ?_
              refine ev_loc f_X12_asked (nx := 171) rfl rfl rfl rfl ?_
              refine ev_if f_X12_asked (t1 := 174) (t2 := 178) rfl rfl rfl (fun h53 => ?_) (fun h53 => ?_)
              · refine ev_ic f_X12_asked (nx := 175) (v := 1) rfl (by decide) rfl ?_
                refine ev_jmp f_X12_asked (nx := 179) rfl rfl rfl ?_
                exact ev_ret f_X12_asked rfl rfl rfl ⟨_, _, _, rfl, hI, hX, ⟨_, rfl, (Int.le_trans (by decide : (0:Int) ≤ 1) (by decide : (1:Int) ≤ (1:Int32).toInt)), (by decide : (1:Int32).toInt ≤ (1:Int))⟩⟩
              · refine ev_ic f_X12_asked (nx := 179) (v := 0) rfl (by decide) rfl ?_
                exact ev_ret f_X12_asked rfl rfl rfl ⟨_, _, _, rfl, hI, hX, ⟨_, rfl, (by decide : (0:Int) ≤ (0:Int32).toInt), (Int.le_trans (by decide : (0:Int32).toInt ≤ (0:Int)) (by decide : (0:Int) ≤ 1))⟩⟩
        · refine ev_loc f_X12_asked (nx := 77) rfl rfl rfl rfl ?_
          refine ev_bp f_X12_asked (nx := 79) (v := 24) rfl (by decide) rfl ?_
          refine ev_if f_X12_asked (t1 := 82) (t2 := 89) rfl rfl rfl (fun h54 => ?_) (fun h54 => ?_)
          · have u55 : z13.toInt ≤ 24 := t_equ h54 (by decide : (24:Int32).toInt ≤ (24:Int))
            have l56 : 24 ≤ z13.toInt := t_eql h54 (by decide : (24:Int) ≤ (24:Int32).toInt)
            refine ev_loc f_X12_asked (nx := 83) rfl rfl rfl rfl ?_
            refine ev_cI f_X12_asked (nx := 86) (r := []) rfl rfl rfl rfl rfl rfl rfl (c_m_nextIn hI ) rfl hX rfl (fun w57 gi57 gl57 gr57 l57 u57 hI hX hC57 => ?_)
            refine ev_jmp f_X12_asked (nx := 111) rfl rfl rfl ?_
            refine ev_loc f_X12_asked (nx := 112) (lo' := [(3, .int w57), (2, .int z13), (0, .ref 69), (1, .int ar1)]) rfl rfl rfl rfl ?_
            refine ev_loc f_X12_asked (nx := 113) rfl rfl rfl rfl ?_
            refine ev_sp f_X12_asked (nx := 116) (v := 1000) rfl (by decide) rfl ?_
            refine ev_divN f_X12_asked (nx := 117) rfl (by decide) rfl (fun z58 e58 => ?_)
            refine ev_bp f_X12_asked (nx := 119) (v := 100) rfl (by decide) rfl ?_
            refine ev_remN f_X12_asked (nx := 120) rfl (by decide) rfl (fun z59 e59 => ?_)
            refine ev_loc f_X12_asked (nx := 122) (lo' := [(4, .int z59), (3, .int w57), (2, .int z13), (0, .ref 69), (1, .int ar1)]) rfl rfl rfl rfl ?_
            refine ev_loc f_X12_asked (nx := 123) rfl rfl rfl rfl ?_
            refine ev_sp f_X12_asked (nx := 126) (v := 1000) rfl (by decide) rfl ?_
            refine ev_remN f_X12_asked (nx := 127) rfl (by decide) rfl (fun z60 e60 => ?_)
            refine ev_loc f_X12_asked (nx := 129) (lo' := [(5, .int z60), (4, .int z59), (3, .int w57), (2, .int z13), (0, .ref 69), (1, .int ar1)]) rfl rfl rfl rfl ?_
            refine ev_loc f_X12_asked (nx := 131) rfl rfl rfl rfl ?_
            refine ev_if f_X12_asked (t1 := 134) (t2 := 148) rfl rfl rfl (fun h61 => ?_) (fun h61 => ?_)
            · have u62 : z59.toInt ≤ 0 := t_equ h61 (by decide : (0:Int32).toInt ≤ (0:Int))
              have l63 : 0 ≤ z59.toInt := t_eql h61 (by decide : (0:Int) ≤ (0:Int32).toInt)
              refine ev_loc f_X12_asked (nx := 135) rfl rfl rfl rfl ?_
              refine ev_loc f_X12_asked (nx := 137) rfl rfl rfl rfl ?_
              refine ev_if f_X12_asked (t1 := 144) (t2 := 140) rfl rfl rfl (fun h64 => ?_) (fun h64 => ?_)
              · refine ev_ic f_X12_asked (nx := 145) (v := 0) rfl (by decide) rfl ?_
                refine ev_jmp f_X12_asked (nx := 179) rfl rfl rfl ?_
                exact ev_ret f_X12_asked rfl rfl rfl ⟨_, _, _, rfl, hI, hX, ⟨_, rfl, (by decide : (0:Int) ≤ (0:Int32).toInt), (Int.le_trans (by decide : (0:Int32).toInt ≤ (0:Int)) (by decide : (0:Int) ≤ 1))⟩⟩
              · have u65 : w57.toInt ≤ 2147483646 := t_ltu (t_nle h64) (t_hi z60) rfl
                have l66 : (-2147483647) ≤ z60.toInt := t_ltl (t_nle h64) l57 rfl
                refine ev_ic f_X12_asked (nx := 141) (v := 1) rfl (by decide) rfl ?_
                refine ev_jmp f_X12_asked (nx := 179) rfl rfl rfl ?_
                exact ev_ret f_X12_asked rfl rfl rfl ⟨_, _, _, rfl, hI, hX, ⟨_, rfl, (Int.le_trans (by decide : (0:Int) ≤ 1) (by decide : (1:Int) ≤ (1:Int32).toInt)), (by decide : (1:Int32).toInt ≤ (1:Int))⟩⟩
            · refine ev_loc f_X12_asked (nx := 150) rfl rfl rfl rfl ?_
              refine ev_ic f_X12_asked (nx := 151) (v := 1) rfl (by decide) rfl ?_
              refine ev_if f_X12_asked (t1 := 154) (t2 := 168) rfl rfl rfl (fun h67 => ?_) (fun h67 => ?_)
              · have u68 : z59.toInt ≤ 1 := t_equ h67 (by decide : (1:Int32).toInt ≤ (1:Int))
                have l69 : 1 ≤ z59.toInt := t_eql h67 (by decide : (1:Int) ≤ (1:Int32).toInt)
                refine ev_loc f_X12_asked (nx := 155) rfl rfl rfl rfl ?_
                refine ev_loc f_X12_asked (nx := 157) rfl rfl rfl rfl ?_
                refine ev_if f_X12_asked (t1 := 164) (t2 := 160) rfl rfl rfl (fun h70 => ?_) (fun h70 => ?_)
                · refine ev_ic f_X12_asked (nx := 165) (v := 0) rfl (by decide) rfl ?_
                  refine ev_jmp f_X12_asked (nx := 179) rfl rfl rfl ?_
                  exact ev_ret f_X12_asked rfl rfl rfl ⟨_, _, _, rfl, hI, hX, ⟨_, rfl, (by decide : (0:Int) ≤ (0:Int32).toInt), (Int.le_trans (by decide : (0:Int32).toInt ≤ (0:Int)) (by decide : (0:Int) ≤ 1))⟩⟩
                · have u71 : z60.toInt ≤ 2147483646 := t_ltu (t_nle h70) u57 rfl
                  have l72 : (-2147483647) ≤ w57.toInt := t_ltl (t_nle h70) (t_lo z60) rfl
                  refine ev_ic f_X12_asked (nx := 161) (v := 1) rfl (by decide) rfl ?_
                  refine ev_jmp f_X12_asked (nx := 179) rfl rfl rfl ?_
                  exact ev_ret f_X12_asked rfl rfl rfl ⟨_, _, _, rfl, hI, hX, ⟨_, rfl, (Int.le_trans (by decide : (0:Int) ≤ 1) (by decide : (1:Int) ≤ (1:Int32).toInt)), (by decide : (1:Int32).toInt ≤ (1:Int))⟩⟩
              · refine ev_loc f_X12_asked (nx := 169) rfl rfl rfl rfl ?_
                refine ev_loc f_X12_asked (nx := 171) rfl rfl rfl rfl ?_
                refine ev_if f_X12_asked (t1 := 174) (t2 := 178) rfl rfl rfl (fun h73 => ?_) (fun h73 => ?_)
                · refine ev_ic f_X12_asked (nx := 175) (v := 1) rfl (by decide) rfl ?_
                  refine ev_jmp f_X12_asked (nx := 179) rfl rfl rfl ?_
                  exact ev_ret f_X12_asked rfl rfl rfl ⟨_, _, _, rfl, hI, hX, ⟨_, rfl, (Int.le_trans (by decide : (0:Int) ≤ 1) (by decide : (1:Int) ≤ (1:Int32).toInt)), (by decide : (1:Int32).toInt ≤ (1:Int))⟩⟩
                · refine ev_ic f_X12_asked (nx := 179) (v := 0) rfl (by decide) rfl ?_
                  exact ev_ret f_X12_asked rfl rfl rfl ⟨_, _, _, rfl, hI, hX, ⟨_, rfl, (by decide : (0:Int) ≤ (0:Int32).toInt), (Int.le_trans (by decide : (0:Int32).toInt ≤ (0:Int)) (by decide : (0:Int) ≤ 1))⟩⟩
          · refine ev_loc f_X12_asked (nx := 90) rfl rfl rfl rfl ?_
            refine ev_bp f_X12_asked (nx := 92) (v := 25) rfl (by decide) rfl ?_
            refine ev_if f_X12_asked (t1 := 95) (t2 := 102) rfl rfl rfl (fun h74 => ?_) (fun h74 => ?_)
            · have u75 : z13.toInt ≤ 25 := t_equ h74 (by decide : (25:Int32).toInt ≤ (25:Int))
              have l76 : 25 ≤ z13.toInt := t_eql h74 (by decide : (25:Int) ≤ (25:Int32).toInt)
              refine ev_loc f_X12_asked (nx := 96) rfl rfl rfl rfl ?_
              refine ev_getI f_X12_asked (nx := 99) rfl (hI.wf.s rfl) rfl rfl rfl ?_
              obtain ⟨l77, u77⟩ := hI.b (hI.wf.s (k := 69) rfl) (t_bdK rfl : t_bd 11 59 = some (0, 301))
              refine ev_jmp f_X12_asked (nx := 111) rfl rfl rfl ?_
              refine ev_loc f_X12_asked (nx := 112) (lo' := [(3, .int (gi 69 59)), (2, .int z13), (0, .ref 69), (1, .int ar1)]) rfl rfl rfl rfl ?_
              refine ev_loc f_X12_asked (nx := 113) rfl rfl rfl rfl ?_
              refine ev_sp f_X12_asked (nx := 116) (v := 1000) rfl (by decide) rfl ?_
              refine ev_divN f_X12_asked (nx := 117) rfl (by decide) rfl (fun z78 e78 => ?_)
              refine ev_bp f_X12_asked (nx := 119) (v := 100) rfl (by decide) rfl ?_
              refine ev_remN f_X12_asked (nx := 120) rfl (by decide) rfl (fun z79 e79 => ?_)
              refine ev_loc f_X12_asked (nx := 122) (lo' := [(4, .int z79), (3, .int (gi 69 59)), (2, .int z13), (0, .ref 69), (1, .int ar1)]) rfl rfl rfl rfl ?_
              refine ev_loc f_X12_asked (nx := 123) rfl rfl rfl rfl ?_
              refine ev_sp f_X12_asked (nx := 126) (v := 1000) rfl (by decide) rfl ?_
              refine ev_remN f_X12_asked (nx := 127) rfl (by decide) rfl (fun z80 e80 => ?_)
              refine ev_loc f_X12_asked (nx := 129) (lo' := [(5, .int z80), (4, .int z79), (3, .int (gi 69 59)), (2, .int z13), (0, .ref 69), (1, .int ar1)]) rfl rfl rfl rfl ?_
              refine ev_loc f_X12_asked (nx := 131) rfl rfl rfl rfl ?_
              refine ev_if f_X12_asked (t1 := 134) (t2 := 148) rfl rfl rfl (fun h81 => ?_) (fun h81 => ?_)
              · have u82 : z79.toInt ≤ 0 := t_equ h81 (by decide : (0:Int32).toInt ≤ (0:Int))
                have l83 : 0 ≤ z79.toInt := t_eql h81 (by decide : (0:Int) ≤ (0:Int32).toInt)
                refine ev_loc f_X12_asked (nx := 135) rfl rfl rfl rfl ?_
                refine ev_loc f_X12_asked (nx := 137) rfl rfl rfl rfl ?_
                refine ev_if f_X12_asked (t1 := 144) (t2 := 140) rfl rfl rfl (fun h84 => ?_) (fun h84 => ?_)
                · have u85 : z80.toInt ≤ 301 := t_leu h84 u77
                  refine ev_ic f_X12_asked (nx := 145) (v := 0) rfl (by decide) rfl ?_
                  refine ev_jmp f_X12_asked (nx := 179) rfl rfl rfl ?_
                  exact ev_ret f_X12_asked rfl rfl rfl ⟨_, _, _, rfl, hI, hX, ⟨_, rfl, (by decide : (0:Int) ≤ (0:Int32).toInt), (Int.le_trans (by decide : (0:Int32).toInt ≤ (0:Int)) (by decide : (0:Int) ≤ 1))⟩⟩
                · have l86 : 1 ≤ z80.toInt := t_ltl (t_nle h84) l77 rfl
                  refine ev_ic f_X12_asked (nx := 141) (v := 1) rfl (by decide) rfl ?_
                  refine ev_jmp f_X12_asked (nx := 179) rfl rfl rfl ?_
                  exact ev_ret f_X12_asked rfl rfl rfl ⟨_, _, _, rfl, hI, hX, ⟨_, rfl, (Int.le_trans (by decide : (0:Int) ≤ 1) (by decide : (1:Int) ≤ (1:Int32).toInt)), (by decide : (1:Int32).toInt ≤ (1:Int))⟩⟩
              · refine ev_loc f_X12_asked (nx := 150) rfl rfl rfl rfl ?_
                refine ev_ic f_X12_asked (nx := 151) (v := 1) rfl (by decide) rfl ?_
                refine ev_if f_X12_asked (t1 := 154) (t2 := 168) rfl rfl rfl (fun h87 => ?_) (fun h87 => ?_)
                · have u88 : z79.toInt ≤ 1 := t_equ h87 (by decide : (1:Int32).toInt ≤ (1:Int))
                  have l89 : 1 ≤ z79.toInt := t_eql h87 (by decide : (1:Int) ≤ (1:Int32).toInt)
                  refine ev_loc f_X12_asked (nx := 155) rfl rfl rfl rfl ?_
                  refine ev_loc f_X12_asked (nx := 157) rfl rfl rfl rfl ?_
                  refine ev_if f_X12_asked (t1 := 164) (t2 := 160) rfl rfl rfl (fun h90 => ?_) (fun h90 => ?_)
                  · have l91 : 0 ≤ z80.toInt := t_lel h90 l77
                    refine ev_ic f_X12_asked (nx := 165) (v := 0) rfl (by decide) rfl ?_
                    refine ev_jmp f_X12_asked (nx := 179) rfl rfl rfl ?_
                    exact ev_ret f_X12_asked rfl rfl rfl ⟨_, _, _, rfl, hI, hX, ⟨_, rfl, (by decide : (0:Int) ≤ (0:Int32).toInt), (Int.le_trans (by decide : (0:Int32).toInt ≤ (0:Int)) (by decide : (0:Int) ≤ 1))⟩⟩
                  · have u92 : z80.toInt ≤ 300 := t_ltu (t_nle h90) u77 rfl
                    refine ev_ic f_X12_asked (nx := 161) (v := 1) rfl (by decide) rfl ?_
                    refine ev_jmp f_X12_asked (nx := 179) rfl rfl rfl ?_
                    exact ev_ret f_X12_asked rfl rfl rfl ⟨_, _, _, rfl, hI, hX, ⟨_, rfl, (Int.le_trans (by decide : (0:Int) ≤ 1) (by decide : (1:Int) ≤ (1:Int32).toInt)), (by decide : (1:Int32).toInt ≤ (1:Int))⟩⟩
                · refine ev_loc f_X12_asked (nx := 169) rfl rfl rfl rfl ?_
                  refine ev_loc f_X12_asked (nx := 171) rfl rfl rfl rfl ?_
                  refine ev_if f_X12_asked (t1 := 174) (t2 := 178) rfl rfl rfl (fun h93 => ?_) (fun h93 => ?_)
                  · have u94 : z80.toInt ≤ 301 := t_equ (Eq.symm h93) u77
                    have l95 : 0 ≤ z80.toInt := t_eql (Eq.symm h93) l77
                    refine ev_ic f_X12_asked (nx := 175) (v := 1) rfl (by decide) rfl ?_
                    refine ev_jmp f_X12_asked (nx := 179) rfl rfl rfl ?_
                    exact ev_ret f_X12_asked rfl rfl rfl ⟨_, _, _, rfl, hI, hX, ⟨_, rfl, (Int.le_trans (by decide : (0:Int) ≤ 1) (by decide : (1:Int) ≤ (1:Int32).toInt)), (by decide : (1:Int32).toInt ≤ (1:Int))⟩⟩
                  · refine ev_ic f_X12_asked (nx := 179) (v := 0) rfl (by decide) rfl ?_
                    exact ev_ret f_X12_asked rfl rfl rfl ⟨_, _, _, rfl, hI, hX, ⟨_, rfl, (by decide : (0:Int) ≤ (0:Int32).toInt), (Int.le_trans (by decide : (0:Int32).toInt ≤ (0:Int)) (by decide : (0:Int) ≤ 1))⟩⟩
            · refine ev_loc f_X12_asked (nx := 103) rfl rfl rfl rfl ?_
              refine ev_getI f_X12_asked (nx := 106) rfl (hI.wf.s rfl) rfl rfl rfl ?_
              obtain ⟨l96, u96⟩ := hI.b (hI.wf.s (k := 69) rfl) (t_bdK rfl : t_bd 11 59 = some (0, 301))
              refine ev_loc f_X12_asked (nx := 107) rfl rfl rfl rfl ?_
              refine ev_getI f_X12_asked (nx := 110) rfl (hI.wf.s rfl) rfl rfl rfl ?_
              refine ev_anyI f_X12_asked (nx := 111) rfl rfl rfl rfl (fun z97 => ?_)
              refine ev_loc f_X12_asked (nx := 112) (lo' := [(3, .int z97), (2, .int z13), (0, .ref 69), (1, .int ar1)]) rfl rfl rfl rfl ?_
              refine ev_loc f_X12_asked (nx := 113) rfl rfl rfl rfl ?_
              refine ev_sp f_X12_asked (nx := 116) (v := 1000) rfl (by decide) rfl ?_
              refine ev_divN f_X12_asked (nx := 117) rfl (by decide) rfl (fun z98 e98 => ?_)
              refine ev_bp f_X12_asked (nx := 119) (v := 100) rfl (by decide) rfl ?_
              refine ev_remN f_X12_asked (nx := 120) rfl (by decide) rfl (fun z99 e99 => ?_)
              refine ev_loc f_X12_asked (nx := 122) (lo' := [(4, .int z99), (3, .int z97), (2, .int z13), (0, .ref 69), (1, .int ar1)]) rfl rfl rfl rfl ?_
              refine ev_loc f_X12_asked (nx := 123) rfl rfl rfl rfl ?_
              refine ev_sp f_X12_asked (nx := 126) (v := 1000) rfl (by decide) rfl ?_
              refine ev_remN f_X12_asked (nx := 127) rfl (by decide) rfl (fun z100 e100 => ?_)
              refine ev_loc f_X12_asked (nx := 129) (lo' := [(5, .int z100), (4, .int z99), (3, .int z97), (2, .int z13), (0, .ref 69), (1, .int ar1)]) rfl rfl rfl rfl ?_
              refine ev_loc f_X12_asked (nx := 131) rfl rfl rfl rfl ?_
              refine ev_if f_X12_asked (t1 := 134) (t2 := 148) rfl rfl rfl (fun h101 => ?_) (fun h101 => ?_)
              · have u102 : z99.toInt ≤ 0 := t_equ h101 (by decide : (0:Int32).toInt ≤ (0:Int))
                have l103 : 0 ≤ z99.toInt := t_eql h101 (by decide : (0:Int) ≤ (0:Int32).toInt)
                refine ev_loc f_X12_asked (nx := 135) rfl rfl rfl rfl ?_
                refine ev_loc f_X12_asked (nx := 137) rfl rfl rfl rfl ?_
                refine ev_if f_X12_asked (t1 := 144) (t2 := 140) rfl rfl rfl (fun h104 => ?_) (fun h104 => ?_)
                · refine ev_ic f_X12_asked (nx := 145) (v := 0) rfl (by decide) rfl ?_
                  refine ev_jmp f_X12_asked (nx := 179) rfl rfl rfl ?_
                  exact ev_ret f_X12_asked rfl rfl rfl ⟨_, _, _, rfl, hI, hX, ⟨_, rfl, (by decide : (0:Int) ≤ (0:Int32).toInt), (Int.le_trans (by decide : (0:Int32).toInt ≤ (0:Int)) (by decide : (0:Int) ≤ 1))⟩⟩
                · have u105 : z97.toInt ≤ 2147483646 := t_ltu (t_nle h104) (t_hi z100) rfl
                  have l106 : (-2147483647) ≤ z100.toInt := t_ltl (t_nle h104) (t_lo z97) rfl
                  refine ev_ic f_X12_asked (nx := 141) (v := 1) rfl (by decide) rfl ?_
                  refine ev_jmp f_X12_asked (nx := 179) rfl rfl rfl ?_
                  exact ev_ret f_X12_asked rfl rfl rfl ⟨_, _, _, rfl, hI, hX, ⟨_, rfl, (Int.le_trans (by decide : (0:Int) ≤ 1) (by decide : (1:Int) ≤ (1:Int32).toInt)), (by decide : (1:Int32).toInt ≤ (1:Int))⟩⟩
              · refine ev_loc f_X12_asked (nx := 150) rfl rfl rfl rfl ?_
                refine ev_ic f_X12_asked (nx := 151) (v := 1) rfl (by decide) rfl ?_
                refine ev_if f_X12_asked (t1 := 154) (t2 := 168) rfl rfl rfl (fun h107 => ?_) (fun h107 => ?_)
                · have u108 : z99.toInt ≤ 1 := t_equ h107 (by decide : (1:Int32).toInt ≤ (1:Int))
                  have l109 : 1 ≤ z99.toInt := t_eql h107 (by decide : (1:Int) ≤ (1:Int32).toInt)
                  refine ev_loc f_X12_asked (nx := 155) rfl rfl rfl rfl ?_
                  refine ev_loc f_X12_asked (nx := 157) rfl rfl rfl rfl ?_
                  refine ev_if f_X12_asked (t1 := 164) (t2 := 160) rfl rfl rfl (fun h110 => ?_) (fun h110 => ?_)
                  · refine ev_ic f_X12_asked (nx := 165) (v := 0) rfl (by decide) rfl ?_
                    refine ev_jmp f_X12_asked (nx := 179) rfl rfl rfl ?_
                    exact ev_ret f_X12_asked rfl rfl rfl ⟨_, _, _, rfl, hI, hX, ⟨_, rfl, (by decide : (0:Int) ≤ (0:Int32).toInt), (Int.le_trans (by decide : (0:Int32).toInt ≤ (0:Int)) (by decide : (0:Int) ≤ 1))⟩⟩
                  · have u111 : z100.toInt ≤ 2147483646 := t_ltu (t_nle h110) (t_hi z97) rfl
                    have l112 : (-2147483647) ≤ z97.toInt := t_ltl (t_nle h110) (t_lo z100) rfl
                    refine ev_ic f_X12_asked (nx := 161) (v := 1) rfl (by decide) rfl ?_
                    refine ev_jmp f_X12_asked (nx := 179) rfl rfl rfl ?_
                    exact ev_ret f_X12_asked rfl rfl rfl ⟨_, _, _, rfl, hI, hX, ⟨_, rfl, (Int.le_trans (by decide : (0:Int) ≤ 1) (by decide : (1:Int) ≤ (1:Int32).toInt)), (by decide : (1:Int32).toInt ≤ (1:Int))⟩⟩
                · refine ev_loc f_X12_asked (nx := 169) rfl rfl rfl rfl ?_
                  refine ev_loc f_X12_asked (nx := 171) rfl rfl rfl rfl ?_
                  refine ev_if f_X12_asked (t1 := 174) (t2 := 178) rfl rfl rfl (fun h113 => ?_) (fun h113 => ?_)
                  · refine ev_ic f_X12_asked (nx := 175) (v := 1) rfl (by decide) rfl ?_
                    refine ev_jmp f_X12_asked (nx := 179) rfl rfl rfl ?_
                    exact ev_ret f_X12_asked rfl rfl rfl ⟨_, _, _, rfl, hI, hX, ⟨_, rfl, (Int.le_trans (by decide : (0:Int) ≤ 1) (by decide : (1:Int) ≤ (1:Int32).toInt)), (by decide : (1:Int32).toInt ≤ (1:Int))⟩⟩
                  · refine ev_ic f_X12_asked (nx := 179) (v := 0) rfl (by decide) rfl ?_
                    exact ev_ret f_X12_asked rfl rfl rfl ⟨_, _, _, rfl, hI, hX, ⟨_, rfl, (by decide : (0:Int) ≤ (0:Int32).toInt), (Int.le_trans (by decide : (0:Int32).toInt ≤ (0:Int)) (by decide : (0:Int) ≤ 1))⟩⟩
noncomputable def wl_m_passesOver : List (Nat × Nat) := [(69, 64)]
theorem c_m_passesOver {X : x_Ext} {d : Nat} {sh : List (Nat ⊕ (Nat × Nat))} {gi : Nat → Nat → Int32} {gl : Nat → Nat → Int64} {gr : Nat → Nat → Value} (hI : t_I sh gi gr) : x_Me X (d + 1) n_X12_passesOver [.ref 69] (sh, gi, gl, gr) (t_P wl_m_passesOver sh gi gl gr t_Rn) := by
  have hX : t_X wl_m_passesOver sh gi gl gr gi gl gr := t_X.rf
  refine me_i f_X12_passesOver (hI.wf.s rfl) rfl rfl rfl ?_
  have L1 : ∀ (m1 : Nat) (gi1 : Nat → Nat → Int32) (gl1 : Nat → Nat → Int64) (gr1 : Nat → Nat → Value), t_I sh gi1 gr1 → t_X wl_m_passesOver sh gi gl gr gi1 gl1 gr1 → (6 - (gi1 69 64).toInt).toNat = m1 → x_Ev X (d + 1) n_X12_passesOver 0 [(0, .ref 69)] [] (sh, gi1, gl1, gr1) (t_P wl_m_passesOver sh gi gl gr t_Rn) := by
    intro m1
    induction m1 using Nat.strongRecOn with
    | _ m1 ih1 =>
    intro gi1 gl1 gr1 hI hX hm1
    refine ev_loc f_X12_passesOver (nx := 1) rfl rfl rfl rfl ?_
    refine ev_getI f_X12_passesOver (nx := 4) rfl (hI.wf.s rfl) rfl rfl rfl ?_
    obtain ⟨l2, u2⟩ := hI.b (hI.wf.s (k := 69) rfl) (t_bdK rfl : t_bd 11 64 = some (0, 6))
    refine ev_loc f_X12_passesOver (nx := 5) rfl rfl rfl rfl ?_
    refine ev_getI f_X12_passesOver (nx := 8) rfl (hI.wf.s rfl) rfl rfl rfl ?_
    obtain ⟨l3, u3⟩ := hI.b (hI.wf.s (k := 69) rfl) (t_bdK rfl : t_bd 11 44 = some (0, 6))
    refine ev_if f_X12_passesOver (t1 := 41) (t2 := 11) rfl rfl rfl (fun h4 => ?_) (fun h4 => ?_)
    · exact ev_ret f_X12_passesOver rfl rfl rfl ⟨_, _, _, rfl, hI, hX, rfl⟩
    · have u5 : (gi1 69 64).toInt ≤ 5 := t_ltu (t_nle h4) u3 rfl
      have l6 : 1 ≤ (gi1 69 44).toInt := t_ltl (t_nle h4) l2 rfl
      refine ev_loc f_X12_passesOver (nx := 12) rfl rfl rfl rfl ?_
      refine ev_getR f_X12_passesOver (nx := 15) rfl (hI.wf.s rfl) rfl rfl (hI.wf.r rfl) rfl rfl ?_
      refine ev_loc f_X12_passesOver (nx := 16) rfl rfl rfl rfl ?_
      refine ev_getR f_X12_passesOver (nx := 19) rfl (hI.wf.s rfl) rfl rfl (hI.wf.r rfl) rfl rfl ?_
      refine ev_loc f_X12_passesOver (nx := 20) rfl rfl rfl rfl ?_
      refine ev_gvI f_X12_passesOver (nx := 23) (w := (gi1 69 64)) rfl (hI.wf.s rfl) rfl rfl rfl rfl ?_
      refine ev_ialdT f_X12_passesOver (nx := 24) rfl (hI.wf.s rfl) l2 (by decide) u5 (by decide) rfl (fun w7 e7 => ?_)
      obtain ⟨l7, u7⟩ := hI.abi e7 (by decide +kernel : t_abr 90 0 5 0 5 = true) l2 (by decide) u5 (by decide)
      refine ev_baldT f_X12_passesOver (nx := 25) rfl (hI.wf.s rfl) rfl l7 (by decide) u7 (by decide) rfl (fun w8 e8 => ?_)
      obtain ⟨l8, u8⟩ := hI.abi e8 (by decide +kernel : t_abr 99 0 5 0 1 = true) l7 (by decide) u7 (by decide)
      refine ev_if f_X12_passesOver (t1 := 41) (t2 := 28) rfl rfl rfl (fun h9 => ?_) (fun h9 => ?_)
      · have u10 : w8.toInt ≤ 0 := t_equ h9 (by decide : (0:Int32).toInt ≤ (0:Int))
        exact ev_ret f_X12_passesOver rfl rfl rfl ⟨_, _, _, rfl, hI, hX, rfl⟩
      · have l11 : 1 ≤ w8.toInt := t_nel h9 l8 rfl rfl
        refine ev_loc f_X12_passesOver (nx := 29) rfl rfl rfl rfl ?_
        refine ev_alu f_X12_passesOver (nx := 30) rfl rfl rfl rfl ?_
        refine ev_gvI f_X12_passesOver (nx := 33) (w := (gi1 69 64)) rfl (hI.wf.s rfl) rfl rfl rfl rfl ?_
        refine ev_ic f_X12_passesOver (nx := 34) (v := 1) rfl (by decide) rfl ?_
        refine ev_addC f_X12_passesOver (nx := 35) (c := 1) (l := 1) (u := 6) rfl (by decide) l2 u5 rfl rfl (by decide) (by decide) rfl (fun z12 e12 l12 u12 => ?_)
        refine ev_putIT f_X12_passesOver (nx := 38) rfl (hI.wf.s rfl) rfl rfl rfl (hI.putB (hI.wf.s rfl) rfl rfl l12 (by decide) u12 (by decide)) (hX.upI rfl) (fun g13 e13 hI hX => ?_)
        refine ev_jmp f_X12_passesOver (nx := 0) rfl rfl rfl ?_
        refine ev_sub (lo := [(0, .ref 69)]) rfl (t_sc rfl t_sn) ?_
        have hq1 := ((by rw [e13]; exact x_up2_at _ _ _ _ : g13 69 64 = z12) : g13 69 64 = z12)
        exact ih1 _ (by rw [hq1]; omega) g13 gl1 gr1  hI hX  rfl
  refine ev_sub (lo := [(0, .ref 69)]) rfl (t_sc rfl t_sn) ?_
  exact L1 _ gi gl gr  hI hX  rfl
noncomputable def wl_m_strikes : List (Nat × Nat) := [(69, 64), (69, 67), (99, 9999)]
theorem c_m_strikes {X : x_Ext} {d : Nat} {sh : List (Nat ⊕ (Nat × Nat))} {gi : Nat → Nat → Int32} {gl : Nat → Nat → Int64} {gr : Nat → Nat → Value} (hI : t_I sh gi gr) : x_Me X (d + 2) n_X12_strikes [.ref 69] (sh, gi, gl, gr) (t_P wl_m_strikes sh gi gl gr t_Rn) := by
  have hX : t_X wl_m_strikes sh gi gl gr gi gl gr := t_X.rf
  refine me_i f_X12_strikes (hI.wf.s rfl) rfl rfl rfl ?_
  refine ev_loc f_X12_strikes (nx := 1) rfl rfl rfl rfl ?_
  refine ev_c0 f_X12_strikes (nx := 4) (r := []) rfl rfl rfl rfl rfl rfl rfl (c_m_passesOver hI ) rfl hX rfl (fun gi1 gl1 gr1 hI hX hC1 => ?_)
  refine ev_loc f_X12_strikes (nx := 5) rfl rfl rfl rfl ?_
  refine ev_getI f_X12_strikes (nx := 8) rfl (hI.wf.s rfl) rfl rfl rfl ?_
  obtain ⟨l2, u2⟩ := hI.b (hI.wf.s (k := 69) rfl) (t_bdK rfl : t_bd 11 64 = some (0, 6))
  refine ev_loc f_X12_strikes (nx := 9) (lo' := [(1, .int (gi1 69 64)), (0, .ref 69)]) rfl rfl rfl rfl ?_
  have L3 : ∀ (m3 : Nat) (gi3 : Nat → Nat → Int32) (gl3 : Nat → Nat → Int64) (gr3 : Nat → Nat → Value) (y3_1 : Int32), t_I sh gi3 gr3 → t_X wl_m_strikes sh gi gl gr gi3 gl3 gr3 → 0 ≤ y3_1.toInt → y3_1.toInt ≤ 6 → (6 - y3_1.toInt).toNat = m3 → x_Ev X (d + 2) n_X12_strikes 9 [(1, .int y3_1), (0, .ref 69)] [] (sh, gi3, gl3, gr3) (t_P wl_m_strikes sh gi gl gr t_Rn) := by
    intro m3
    induction m3 using Nat.strongRecOn with
    | _ m3 ih3 =>
    intro gi3 gl3 gr3 y3_1 hI hX l3_1 u3_1 hm3
    refine ev_loc f_X12_strikes (nx := 10) rfl rfl rfl rfl ?_
    refine ev_loc f_X12_strikes (nx := 11) rfl rfl rfl rfl ?_
    refine ev_getI f_X12_strikes (nx := 14) rfl (hI.wf.s rfl) rfl rfl rfl ?_
    obtain ⟨l4, u4⟩ := hI.b (hI.wf.s (k := 69) rfl) (t_bdK rfl : t_bd 11 44 = some (0, 6))
    refine ev_if f_X12_strikes (t1 := 111) (t2 := 17) rfl rfl rfl (fun h5 => ?_) (fun h5 => ?_)
    · refine ev_loc f_X12_strikes (nx := 112) rfl rfl rfl rfl ?_
      refine ev_c0 f_X12_strikes (nx := 115) (r := []) rfl rfl rfl rfl rfl rfl rfl (c_m_passesOver hI ) rfl hX rfl (fun gi6 gl6 gr6 hI hX hC6 => ?_)
      exact ev_ret f_X12_strikes rfl rfl rfl ⟨_, _, _, rfl, hI, hX, rfl⟩
    · have u7 : y3_1.toInt ≤ 5 := t_ltu (t_nle h5) u4 rfl
      have l8 : 1 ≤ (gi3 69 44).toInt := t_ltl (t_nle h5) l3_1 rfl
      refine ev_loc f_X12_strikes (nx := 18) rfl rfl rfl rfl ?_
      refine ev_getR f_X12_strikes (nx := 21) rfl (hI.wf.s rfl) rfl rfl (hI.wf.r rfl) rfl rfl ?_
      refine ev_loc f_X12_strikes (nx := 22) rfl rfl rfl rfl ?_
      refine ev_ialdT f_X12_strikes (nx := 23) rfl (hI.wf.s rfl) l3_1 (by decide) u7 (by decide) rfl (fun w9 e9 => ?_)
      obtain ⟨l9, u9⟩ := hI.abi e9 (by decide +kernel : t_abr 90 0 5 0 5 = true) l3_1 (by decide) u7 (by decide)
      refine ev_loc f_X12_strikes (nx := 24) (lo' := [(2, .int w9), (1, .int y3_1), (0, .ref 69)]) rfl rfl rfl rfl ?_
      refine ev_loc f_X12_strikes (nx := 25) rfl rfl rfl rfl ?_
      refine ev_getR f_X12_strikes (nx := 28) rfl (hI.wf.s rfl) rfl rfl (hI.wf.r rfl) rfl rfl ?_
      refine ev_loc f_X12_strikes (nx := 29) rfl rfl rfl rfl ?_
      refine ev_baldT f_X12_strikes (nx := 30) rfl (hI.wf.s rfl) rfl l9 (by decide) u9 (by decide) rfl (fun w10 e10 => ?_)
      obtain ⟨l10, u10⟩ := hI.abi e10 (by decide +kernel : t_abr 99 0 5 0 1 = true) l9 (by decide) u9 (by decide)
      refine ev_if f_X12_strikes (t1 := 33) (t2 := 105) rfl rfl rfl (fun h11 => ?_) (fun h11 => ?_)
      · have u12 : w10.toInt ≤ 0 := t_equ h11 (by decide : (0:Int32).toInt ≤ (0:Int))
        refine ev_loc f_X12_strikes (nx := 34) rfl rfl rfl rfl ?_
        refine ev_loc f_X12_strikes (nx := 35) rfl rfl rfl rfl ?_
        refine ev_ic f_X12_strikes (nx := 36) (v := 4) rfl (by decide) rfl ?_
        refine ev_inV3 f_X12_strikes (nx := 39) (lo2 := [(0, .ref 69), (1, .int w9), (2, .int 4)]) rfl rfl rfl rfl f_X12_ofShip (hI.wf.s rfl) rfl rfl rfl rfl rfl ?_
        refine ev_loc f_X12_ofShip (nx := 1) rfl rfl rfl rfl ?_
        refine ev_getR f_X12_ofShip (nx := 4) rfl (hI.wf.s rfl) rfl rfl (hI.wf.r rfl) rfl rfl ?_
        refine ev_bp f_X12_ofShip (nx := 6) (v := 52) rfl (by decide) rfl ?_
        refine ev_ic f_X12_ofShip (nx := 7) (v := 5) rfl (by decide) rfl ?_
        refine ev_loc f_X12_ofShip (nx := 8) rfl rfl rfl rfl ?_
        refine ev_mulL f_X12_ofShip (nx := 9) (c := 5) (l := 0) (u := 25) rfl (by decide) (by decide) l9 u9 rfl rfl (by decide) (by decide) rfl (fun z13 e13 l13 u13 => ?_)
        refine ev_addK f_X12_ofShip (nx := 10) (c := 52) (l := 52) (u := 77) rfl (by decide) l13 u13 rfl rfl (by decide) (by decide) rfl (fun z14 e14 l14 u14 => ?_)
        refine ev_loc f_X12_ofShip (nx := 11) rfl rfl rfl rfl ?_
        refine ev_addC f_X12_ofShip (nx := 12) (c := 4) (l := 56) (u := 81) rfl (by decide) l14 u14 rfl rfl (by decide) (by decide) rfl (fun z15 e15 l15 u15 => ?_)
        refine ev_ialdT f_X12_ofShip (nx := 13) rfl (hI.wf.s rfl) l15 (by decide) u15 (by decide) rfl (fun w16 e16 => ?_)
        obtain ⟨l16, u16⟩ := hI.abA (x := w9) e16 (by decide +kernel : t_aba 70 56 5 0 5 0 1 = true) (by omega) (by omega) (by omega)
        refine ev_retK1 f_X12_ofShip rfl rfl rfl ?_
        refine ev_if f_X12_strikes (t1 := 105) (t2 := 42) rfl rfl rfl (fun h17 => ?_) (fun h17 => ?_)
        · have u18 : w16.toInt ≤ 0 := t_equ h17 (by decide : (0:Int32).toInt ≤ (0:Int))
          refine ev_incR f_X12_strikes (nx := 108) (c := 1) (l := 1) (u := 6) rfl rfl (by decide) (by decide) l3_1 u7 rfl rfl (by decide) (by decide) rfl (fun z19 e19 l19 u19 => ?_)
          refine ev_jmp f_X12_strikes (nx := 9) rfl rfl rfl ?_
          refine ev_sub (lo := [(1, .int z19), (0, .ref 69)]) rfl (t_sc rfl (t_sc rfl t_sn)) ?_
          exact ih3 _ (by omega) gi3 gl3 gr3 (z19) hI hX  (Int.le_trans (by decide : (0:Int) ≤ 1) l19) u19 rfl
        · have l20 : 1 ≤ w16.toInt := t_nel h17 l16 rfl rfl
          refine ev_loc f_X12_strikes (nx := 43) rfl rfl rfl rfl ?_
          refine ev_getR f_X12_strikes (nx := 46) rfl (hI.wf.s rfl) rfl rfl (hI.wf.r rfl) rfl rfl ?_
          refine ev_loc f_X12_strikes (nx := 47) rfl rfl rfl rfl ?_
          refine ev_ialdT f_X12_strikes (nx := 48) rfl (hI.wf.s rfl) l9 (by decide) u9 (by decide) rfl (fun w21 e21 => ?_)
          refine ev_loc f_X12_strikes (nx := 49) rfl rfl rfl rfl ?_
          refine ev_getI f_X12_strikes (nx := 52) rfl (hI.wf.s rfl) rfl rfl rfl ?_
          obtain ⟨l22, u22⟩ := hI.b (hI.wf.s (k := 69) rfl) (t_bdK rfl : t_bd 11 59 = some (0, 301))
          refine ev_if f_X12_strikes (t1 := 58) (t2 := 55) rfl rfl rfl (fun h23 => ?_) (fun h23 => ?_)
          · have u24 : w21.toInt ≤ 301 := t_equ h23 u22
            have l25 : 0 ≤ w21.toInt := t_eql h23 l22
            refine ev_loc f_X12_strikes (nx := 59) rfl rfl rfl rfl ?_
            refine ev_c0 f_X12_strikes (nx := 62) (r := []) rfl rfl rfl rfl rfl rfl rfl (c_m_passesOver hI ) rfl hX rfl (fun gi26 gl26 gr26 hI hX hC26 => ?_)
            refine ev_loc f_X12_strikes (nx := 63) rfl rfl rfl rfl ?_
            refine ev_getI f_X12_strikes (nx := 66) rfl (hI.wf.s rfl) rfl rfl rfl ?_
            refine ev_ic f_X12_strikes (nx := 67) (v := 1) rfl (by decide) rfl ?_
            refine ev_if f_X12_strikes (t1 := 70) (t2 := 88) rfl rfl rfl (fun h27 => ?_) (fun h27 => ?_)
            · have u28 : (gi26 69 60).toInt ≤ 1 := t_equ h27 (by decide : (1:Int32).toInt ≤ (1:Int))
              have l29 : 1 ≤ (gi26 69 60).toInt := t_eql h27 (by decide : (1:Int) ≤ (1:Int32).toInt)
              refine ev_loc f_X12_strikes (nx := 71) rfl rfl rfl rfl ?_
              refine ev_inV1 f_X12_strikes (nx := 74) (lo2 := [(0, .ref 69)]) rfl rfl rfl rfl f_X12_isBusy (hI.wf.s rfl) rfl rfl rfl rfl rfl ?_
              refine ev_loc f_X12_isBusy (nx := 1) rfl rfl rfl rfl ?_
              refine ev_getI f_X12_isBusy (nx := 4) rfl (hI.wf.s rfl) rfl rfl rfl ?_
              refine ev_loc f_X12_isBusy (nx := 5) rfl rfl rfl rfl ?_
              refine ev_gvI f_X12_isBusy (nx := 8) (w := (gi3 69 59)) rfl (hI.wf.s rfl) rfl rfl ((hC26.1 69 59 rfl).1.trans rfl) rfl ?_
              refine ev_if f_X12_isBusy (t1 := 22) (t2 := 11) rfl rfl rfl (fun h30 => ?_) (fun h30 => ?_)
              · have l31 : 1 ≤ (gi26 69 61).toInt := t_ltl h30 l22 rfl
                refine ev_ic f_X12_isBusy (nx := 23) (v := 1) rfl (by decide) rfl ?_
                refine ev_jmp f_X12_isBusy (nx := 27) rfl rfl rfl ?_
                refine ev_retK1 f_X12_isBusy rfl rfl rfl ?_
                refine ev_f f_X12_strikes (t1 := 77) (t2 := 88) rfl rfl rfl (by decide) ?_
                refine ev_loc f_X12_strikes (nx := 89) rfl rfl rfl rfl ?_
                refine ev_getR f_X12_strikes (nx := 92) rfl (hI.wf.s rfl) rfl rfl (hI.wf.r rfl) rfl rfl ?_
                refine ev_loc f_X12_strikes (nx := 93) rfl rfl rfl rfl ?_
                refine ev_ic f_X12_strikes (nx := 94) (v := 1) rfl (by decide) rfl ?_
                refine ev_zastT f_X12_strikes (nx := 95) rfl (hI.wf.s rfl) l9 (by decide) u9 (by decide) rfl (fun x l u => hI.astL (hI.wf.s rfl) (by decide +kernel : t_abw 99 0 5 0 1 = true) (t_cl1 l9 (by decide)) (t_cl2 l9 u9 (by decide) (by decide)) l u rfl) (fun x => hX.upI (t_inA_ok rfl)) (fun g32 x32 e32 hI hX => ?_)
                refine ev_loc f_X12_strikes (nx := 96) rfl rfl rfl rfl ?_
                refine ev_alu f_X12_strikes (nx := 97) rfl rfl rfl rfl ?_
                refine ev_getI f_X12_strikes (nx := 100) rfl (hI.wf.s rfl) rfl rfl rfl ?_
                refine ev_ic f_X12_strikes (nx := 101) (v := 1) rfl (by decide) rfl ?_
                refine ev_anyI f_X12_strikes (nx := 102) rfl rfl rfl rfl (fun z33 => ?_)
                refine ev_putIT f_X12_strikes (nx := 105) rfl (hI.wf.s rfl) rfl rfl rfl (hI.put0 (hI.wf.s rfl) rfl rfl) (hX.upI rfl) (fun g34 e34 hI hX => ?_)
                refine ev_incR f_X12_strikes (nx := 108) (c := 1) (l := 1) (u := 6) rfl rfl (by decide) (by decide) l3_1 u7 rfl rfl (by decide) (by decide) rfl (fun z35 e35 l35 u35 => ?_)
                refine ev_jmp f_X12_strikes (nx := 9) rfl rfl rfl ?_
                refine ev_sub (lo := [(1, .int z35), (0, .ref 69)]) rfl (t_sc rfl (t_sc rfl t_sn)) ?_
                exact ih3 _ (by omega) g34 gl26 gr26 (z35) hI hX  (Int.le_trans (by decide : (0:Int) ≤ 1) l35) u35 rfl
              · have u36 : (gi26 69 61).toInt ≤ 301 := t_leu (t_nlt h30) u22
                refine ev_loc f_X12_isBusy (nx := 12) rfl rfl rfl rfl ?_
                refine ev_getI f_X12_isBusy (nx := 15) rfl (hI.wf.s rfl) rfl rfl rfl ?_
                refine ev_loc f_X12_isBusy (nx := 16) rfl rfl rfl rfl ?_
                refine ev_gvI f_X12_isBusy (nx := 19) (w := (gi3 69 59)) rfl (hI.wf.s rfl) rfl rfl ((hC26.1 69 59 rfl).1.trans rfl) rfl ?_
                refine ev_if f_X12_isBusy (t1 := 26) (t2 := 22) rfl rfl rfl (fun h37 => ?_) (fun h37 => ?_)
                · have u38 : (gi26 69 62).toInt ≤ 301 := t_leu h37 u22
                  refine ev_ic f_X12_isBusy (nx := 27) (v := 0) rfl (by decide) rfl ?_
                  refine ev_retK1 f_X12_isBusy rfl rfl rfl ?_
                  refine ev_t f_X12_strikes (t1 := 77) (t2 := 88) rfl rfl rfl (by decide) ?_
                  refine ev_loc f_X12_strikes (nx := 78) rfl rfl rfl rfl ?_
                  refine ev_getI f_X12_strikes (nx := 81) rfl (hI.wf.s rfl) rfl rfl rfl ?_
                  obtain ⟨l39, u39⟩ := hI.b (hI.wf.s (k := 69) rfl) (t_bdK rfl : t_bd 11 64 = some (0, 6))
                  refine ev_loc f_X12_strikes (nx := 82) rfl rfl rfl rfl ?_
                  refine ev_if f_X12_strikes (t1 := 85) (t2 := 88) rfl rfl rfl (fun h40 => ?_) (fun h40 => ?_)
                  · have u41 : (gi26 69 64).toInt ≤ 5 := t_equ h40 u7
                    refine ev_jmp f_X12_strikes (nx := 105) rfl rfl rfl ?_
                    refine ev_incR f_X12_strikes (nx := 108) (c := 1) (l := 1) (u := 6) rfl rfl (by decide) (by decide) l3_1 u7 rfl rfl (by decide) (by decide) rfl (fun z42 e42 l42 u42 => ?_)
                    refine ev_jmp f_X12_strikes (nx := 9) rfl rfl rfl ?_
                    refine ev_sub (lo := [(1, .int z42), (0, .ref 69)]) rfl (t_sc rfl (t_sc rfl t_sn)) ?_
                    exact ih3 _ (by omega) gi26 gl26 gr26 (z42) hI hX  (Int.le_trans (by decide : (0:Int) ≤ 1) l42) u42 rfl
                  · refine ev_loc f_X12_strikes (nx := 89) rfl rfl rfl rfl ?_
                    refine ev_getR f_X12_strikes (nx := 92) rfl (hI.wf.s rfl) rfl rfl (hI.wf.r rfl) rfl rfl ?_
                    refine ev_loc f_X12_strikes (nx := 93) rfl rfl rfl rfl ?_
                    refine ev_ic f_X12_strikes (nx := 94) (v := 1) rfl (by decide) rfl ?_
                    refine ev_zastT f_X12_strikes (nx := 95) rfl (hI.wf.s rfl) l9 (by decide) u9 (by decide) rfl (fun x l u => hI.astL (hI.wf.s rfl) (by decide +kernel : t_abw 99 0 5 0 1 = true) (t_cl1 l9 (by decide)) (t_cl2 l9 u9 (by decide) (by decide)) l u rfl) (fun x => hX.upI (t_inA_ok rfl)) (fun g43 x43 e43 hI hX => ?_)
                    refine ev_loc f_X12_strikes (nx := 96) rfl rfl rfl rfl ?_
                    refine ev_alu f_X12_strikes (nx := 97) rfl rfl rfl rfl ?_
                    refine ev_getI f_X12_strikes (nx := 100) rfl (hI.wf.s rfl) rfl rfl rfl ?_
                    refine ev_ic f_X12_strikes (nx := 101) (v := 1) rfl (by decide) rfl ?_
                    refine ev_anyI f_X12_strikes (nx := 102) rfl rfl rfl rfl (fun z44 => ?_)
                    refine ev_putIT f_X12_strikes (nx := 105) rfl (hI.wf.s rfl) rfl rfl rfl (hI.put0 (hI.wf.s rfl) rfl rfl) (hX.upI rfl) (fun g45 e45 hI hX => ?_)
                    refine ev_incR f_X12_strikes (nx := 108) (c := 1) (l := 1) (u := 6) rfl rfl (by decide) (by decide) l3_1 u7 rfl rfl (by decide) (by decide) rfl (fun z46 e46 l46 u46 => ?_)
                    refine ev_jmp f_X12_strikes (nx := 9) rfl rfl rfl ?_
                    refine ev_sub (lo := [(1, .int z46), (0, .ref 69)]) rfl (t_sc rfl (t_sc rfl t_sn)) ?_
                    exact ih3 _ (by omega) g45 gl26 gr26 (z46) hI hX  (Int.le_trans (by decide : (0:Int) ≤ 1) l46) u46 rfl
                · have l47 : 1 ≤ (gi26 69 62).toInt := t_ltl (t_nle h37) l22 rfl
                  refine ev_ic f_X12_isBusy (nx := 23) (v := 1) rfl (by decide) rfl ?_
                  refine ev_jmp f_X12_isBusy (nx := 27) rfl rfl rfl ?_
                  refine ev_retK1 f_X12_isBusy rfl rfl rfl ?_
                  refine ev_f f_X12_strikes (t1 := 77) (t2 := 88) rfl rfl rfl (by decide) ?_
                  refine ev_loc f_X12_strikes (nx := 89) rfl rfl rfl rfl ?_
                  refine ev_getR f_X12_strikes (nx := 92) rfl (hI.wf.s rfl) rfl rfl (hI.wf.r rfl) rfl rfl ?_
                  refine ev_loc f_X12_strikes (nx := 93) rfl rfl rfl rfl ?_
                  refine ev_ic f_X12_strikes (nx := 94) (v := 1) rfl (by decide) rfl ?_
                  refine ev_zastT f_X12_strikes (nx := 95) rfl (hI.wf.s rfl) l9 (by decide) u9 (by decide) rfl (fun x l u => hI.astL (hI.wf.s rfl) (by decide +kernel : t_abw 99 0 5 0 1 = true) (t_cl1 l9 (by decide)) (t_cl2 l9 u9 (by decide) (by decide)) l u rfl) (fun x => hX.upI (t_inA_ok rfl)) (fun g48 x48 e48 hI hX => ?_)
                  refine ev_loc f_X12_strikes (nx := 96) rfl rfl rfl rfl ?_
                  refine ev_alu f_X12_strikes (nx := 97) rfl rfl rfl rfl ?_
                  refine ev_getI f_X12_strikes (nx := 100) rfl (hI.wf.s rfl) rfl rfl rfl ?_
                  refine ev_ic f_X12_strikes (nx := 101) (v := 1) rfl (by decide) rfl ?_
                  refine ev_anyI f_X12_strikes (nx := 102) rfl rfl rfl rfl (fun z49 => ?_)
                  refine ev_putIT f_X12_strikes (nx := 105) rfl (hI.wf.s rfl) rfl rfl rfl (hI.put0 (hI.wf.s rfl) rfl rfl) (hX.upI rfl) (fun g50 e50 hI hX => ?_)
                  refine ev_incR f_X12_strikes (nx := 108) (c := 1) (l := 1) (u := 6) rfl rfl (by decide) (by decide) l3_1 u7 rfl rfl (by decide) (by decide) rfl (fun z51 e51 l51 u51 => ?_)
                  refine ev_jmp f_X12_strikes (nx := 9) rfl rfl rfl ?_
                  refine ev_sub (lo := [(1, .int z51), (0, .ref 69)]) rfl (t_sc rfl (t_sc rfl t_sn)) ?_
                  exact ih3 _ (by omega) g50 gl26 gr26 (z51) hI hX  (Int.le_trans (by decide : (0:Int) ≤ 1) l51) u51 rfl
            · refine ev_loc f_X12_strikes (nx := 89) rfl rfl rfl rfl ?_
              refine ev_getR f_X12_strikes (nx := 92) rfl (hI.wf.s rfl) rfl rfl (hI.wf.r rfl) rfl rfl ?_
              refine ev_loc f_X12_strikes (nx := 93) rfl rfl rfl rfl ?_
              refine ev_ic f_X12_strikes (nx := 94) (v := 1) rfl (by decide) rfl ?_
              refine ev_zastT f_X12_strikes (nx := 95) rfl (hI.wf.s rfl) l9 (by decide) u9 (by decide) rfl (fun x l u => hI.astL (hI.wf.s rfl) (by decide +kernel : t_abw 99 0 5 0 1 = true) (t_cl1 l9 (by decide)) (t_cl2 l9 u9 (by decide) (by decide)) l u rfl) (fun x => hX.upI (t_inA_ok rfl)) (fun g52 x52 e52 hI hX => ?_)
              refine ev_loc f_X12_strikes (nx := 96) rfl rfl rfl rfl ?_
              refine ev_alu f_X12_strikes (nx := 97) rfl rfl rfl rfl ?_
              refine ev_getI f_X12_strikes (nx := 100) rfl (hI.wf.s rfl) rfl rfl rfl ?_
              refine ev_ic f_X12_strikes (nx := 101) (v := 1) rfl (by decide) rfl ?_
              refine ev_anyI f_X12_strikes (nx := 102) rfl rfl rfl rfl (fun z53 => ?_)
              refine ev_putIT f_X12_strikes (nx := 105) rfl (hI.wf.s rfl) rfl rfl rfl (hI.put0 (hI.wf.s rfl) rfl rfl) (hX.upI rfl) (fun g54 e54 hI hX => ?_)
              refine ev_incR f_X12_strikes (nx := 108) (c := 1) (l := 1) (u := 6) rfl rfl (by decide) (by decide) l3_1 u7 rfl rfl (by decide) (by decide) rfl (fun z55 e55 l55 u55 => ?_)
              refine ev_jmp f_X12_strikes (nx := 9) rfl rfl rfl ?_
              refine ev_sub (lo := [(1, .int z55), (0, .ref 69)]) rfl (t_sc rfl (t_sc rfl t_sn)) ?_
              exact ih3 _ (by omega) g54 gl26 gr26 (z55) hI hX  (Int.le_trans (by decide : (0:Int) ≤ 1) l55) u55 rfl
          · refine ev_jmp f_X12_strikes (nx := 105) rfl rfl rfl ?_
            refine ev_incR f_X12_strikes (nx := 108) (c := 1) (l := 1) (u := 6) rfl rfl (by decide) (by decide) l3_1 u7 rfl rfl (by decide) (by decide) rfl (fun z56 e56 l56 u56 => ?_)
            refine ev_jmp f_X12_strikes (nx := 9) rfl rfl rfl ?_
            refine ev_sub (lo := [(1, .int z56), (0, .ref 69)]) rfl (t_sc rfl (t_sc rfl t_sn)) ?_
            exact ih3 _ (by omega) gi3 gl3 gr3 (z56) hI hX  (Int.le_trans (by decide : (0:Int) ≤ 1) l56) u56 rfl
      · have l57 : 1 ≤ w10.toInt := t_nel h11 l10 rfl rfl
        refine ev_incR f_X12_strikes (nx := 108) (c := 1) (l := 1) (u := 6) rfl rfl (by decide) (by decide) l3_1 u7 rfl rfl (by decide) (by decide) rfl (fun z58 e58 l58 u58 => ?_)
        refine ev_jmp f_X12_strikes (nx := 9) rfl rfl rfl ?_
        refine ev_sub (lo := [(1, .int z58), (0, .ref 69)]) rfl (t_sc rfl (t_sc rfl t_sn)) ?_
        exact ih3 _ (by omega) gi3 gl3 gr3 (z58) hI hX  (Int.le_trans (by decide : (0:Int) ≤ 1) l58) u58 rfl
  refine ev_sub (lo := [(1, .int (gi1 69 64)), (0, .ref 69)]) rfl (t_sc rfl (t_sc rfl t_sn)) ?_
  exact L3 _ gi1 gl1 gr1 ((gi1 69 64)) hI hX  l2 u2 rfl
noncomputable def wl_m_leftOver : List (Nat × Nat) := []
theorem c_m_leftOver {X : x_Ext} {d : Nat} {sh : List (Nat ⊕ (Nat × Nat))} {gi : Nat → Nat → Int32} {gl : Nat → Nat → Int64} {gr : Nat → Nat → Value} (hI : t_I sh gi gr) : x_Me X (d + 1) n_X12_leftOver [.ref 69] (sh, gi, gl, gr) (t_P wl_m_leftOver sh gi gl gr (t_Ri (-2147483648) 2147483647)) := by
  have hX : t_X wl_m_leftOver sh gi gl gr gi gl gr := t_X.rf
  refine me_i f_X12_leftOver (hI.wf.s rfl) rfl rfl rfl ?_
  refine ev_loc f_X12_leftOver (nx := 1) rfl rfl rfl rfl ?_
  refine ev_getI f_X12_leftOver (nx := 4) rfl (hI.wf.s rfl) rfl rfl rfl ?_
  obtain ⟨l1, u1⟩ := hI.b (hI.wf.s (k := 69) rfl) (t_bdK rfl : t_bd 11 45 = some (0, 6))
  refine ev_loc f_X12_leftOver (nx := 5) rfl rfl rfl rfl ?_
  refine ev_getI f_X12_leftOver (nx := 8) rfl (hI.wf.s rfl) rfl rfl rfl ?_
  obtain ⟨l2, u2⟩ := hI.b (hI.wf.s (k := 69) rfl) (t_bdK rfl : t_bd 11 65 = some (0, 6))
  refine ev_subR f_X12_leftOver (nx := 9) (l := (-6)) (u := 6) rfl l1 u1 l2 u2 rfl rfl (by decide) (by decide) rfl (fun z3 e3 l3 u3 => ?_)
  refine ev_loc f_X12_leftOver (nx := 10) (lo' := [(1, .int z3), (0, .ref 69)]) rfl rfl rfl rfl ?_
  refine ev_loc f_X12_leftOver (nx := 11) rfl rfl rfl rfl ?_
  refine ev_getI f_X12_leftOver (nx := 14) rfl (hI.wf.s rfl) rfl rfl rfl ?_
  obtain ⟨l4, u4⟩ := hI.b (hI.wf.s (k := 69) rfl) (t_bdK rfl : t_bd 11 64 = some (0, 6))
  refine ev_loc f_X12_leftOver (nx := 15) (lo' := [(2, .int (gi 69 64)), (1, .int z3), (0, .ref 69)]) rfl rfl rfl rfl ?_
  have L5 : ∀ (m5 : Nat) (gi5 : Nat → Nat → Int32) (gl5 : Nat → Nat → Int64) (gr5 : Nat → Nat → Value) (y5_2 : Int32) (y5_1 : Int32), t_I sh gi5 gr5 → t_X wl_m_leftOver sh gi gl gr gi5 gl5 gr5 → 0 ≤ y5_2.toInt → y5_2.toInt ≤ 6 → gi5 69 45 = (gi 69 45) → gi5 69 64 = (gi 69 64) → gi5 69 65 = (gi 69 65) → (6 - y5_2.toInt).toNat = m5 → x_Ev X (d + 1) n_X12_leftOver 15 [(2, .int y5_2), (1, .int y5_1), (0, .ref 69)] [] (sh, gi5, gl5, gr5) (t_P wl_m_leftOver sh gi gl gr (t_Ri (-2147483648) 2147483647)) := by
    intro m5
    induction m5 using Nat.strongRecOn with
    | _ m5 ih5 =>
    intro gi5 gl5 gr5 y5_2 y5_1 hI hX l5_2 u5_2 c5_0 c5_1 c5_2 hm5
    refine ev_loc f_X12_leftOver (nx := 16) rfl rfl rfl rfl ?_
    refine ev_loc f_X12_leftOver (nx := 17) rfl rfl rfl rfl ?_
    refine ev_getI f_X12_leftOver (nx := 20) rfl (hI.wf.s rfl) rfl rfl rfl ?_
    obtain ⟨l6, u6⟩ := hI.b (hI.wf.s (k := 69) rfl) (t_bdK rfl : t_bd 11 44 = some (0, 6))
    refine ev_if f_X12_leftOver (t1 := 51) (t2 := 23) rfl rfl rfl (fun h7 => ?_) (fun h7 => ?_)
    · refine ev_loc f_X12_leftOver (nx := 52) rfl rfl rfl rfl ?_
      exact ev_ret f_X12_leftOver rfl rfl rfl ⟨_, _, _, rfl, hI, hX, ⟨_, rfl, (t_lo y5_1), (t_hi y5_1)⟩⟩
    · have u8 : y5_2.toInt ≤ 5 := t_ltu (t_nle h7) u6 rfl
      have l9 : 1 ≤ (gi5 69 44).toInt := t_ltl (t_nle h7) l5_2 rfl
      refine ev_loc f_X12_leftOver (nx := 24) rfl rfl rfl rfl ?_
      refine ev_loc f_X12_leftOver (nx := 25) rfl rfl rfl rfl ?_
      refine ev_getR f_X12_leftOver (nx := 28) rfl (hI.wf.s rfl) rfl rfl (hI.wf.r rfl) rfl rfl ?_
      refine ev_loc f_X12_leftOver (nx := 29) rfl rfl rfl rfl ?_
      refine ev_getR f_X12_leftOver (nx := 32) rfl (hI.wf.s rfl) rfl rfl (hI.wf.r rfl) rfl rfl ?_
      refine ev_loc f_X12_leftOver (nx := 33) rfl rfl rfl rfl ?_
      refine ev_ialdT f_X12_leftOver (nx := 34) rfl (hI.wf.s rfl) l5_2 (by decide) u8 (by decide) rfl (fun w10 e10 => ?_)
      obtain ⟨l10, u10⟩ := hI.abi e10 (by decide +kernel : t_abr 90 0 5 0 5 = true) l5_2 (by decide) u8 (by decide)
      refine ev_baldT f_X12_leftOver (nx := 35) rfl (hI.wf.s rfl) rfl l10 (by decide) u10 (by decide) rfl (fun w11 e11 => ?_)
      obtain ⟨l11, u11⟩ := hI.abi e11 (by decide +kernel : t_abr 99 0 5 0 1 = true) l10 (by decide) u10 (by decide)
      refine ev_if f_X12_leftOver (t1 := 42) (t2 := 38) rfl rfl rfl (fun h12 => ?_) (fun h12 => ?_)
      · have u13 : w11.toInt ≤ 0 := t_equ h12 (by decide : (0:Int32).toInt ≤ (0:Int))
        refine ev_ic f_X12_leftOver (nx := 43) (v := 1) rfl (by decide) rfl ?_
        refine ev_anyI f_X12_leftOver (nx := 44) rfl rfl rfl rfl (fun z14 => ?_)
        refine ev_loc f_X12_leftOver (nx := 45) (lo' := [(1, .int z14), (2, .int y5_2), (0, .ref 69)]) rfl rfl rfl rfl ?_
        refine ev_incR f_X12_leftOver (nx := 48) (c := 1) (l := 1) (u := 6) rfl rfl (by decide) (by decide) l5_2 u8 rfl rfl (by decide) (by decide) rfl (fun z15 e15 l15 u15 => ?_)
        refine ev_jmp f_X12_leftOver (nx := 15) rfl rfl rfl ?_
        refine ev_sub (lo := [(2, .int z15), (1, .int z14), (0, .ref 69)]) rfl (t_sc rfl (t_sc rfl (t_sc rfl t_sn))) ?_
        exact ih5 _ (by omega) gi5 gl5 gr5 (z15) (z14) hI hX  (Int.le_trans (by decide : (0:Int) ≤ 1) l15) u15 c5_0 c5_1 c5_2 rfl
      · have l16 : 1 ≤ w11.toInt := t_nel h12 l11 rfl rfl
        refine ev_ic f_X12_leftOver (nx := 39) (v := 0) rfl (by decide) rfl ?_
        refine ev_jmp f_X12_leftOver (nx := 43) rfl rfl rfl ?_
        refine ev_addC f_X12_leftOver (nx := 44) (c := 0) (l := (-2147483648)) (u := 2147483647) rfl (by decide) (t_lo y5_1) (t_hi y5_1) rfl rfl (by decide) (by decide) rfl (fun z17 e17 l17 u17 => ?_)
        refine ev_loc f_X12_leftOver (nx := 45) (lo' := [(1, .int z17), (2, .int y5_2), (0, .ref 69)]) rfl rfl rfl rfl ?_
        refine ev_incR f_X12_leftOver (nx := 48) (c := 1) (l := 1) (u := 6) rfl rfl (by decide) (by decide) l5_2 u8 rfl rfl (by decide) (by decide) rfl (fun z18 e18 l18 u18 => ?_)
        refine ev_jmp f_X12_leftOver (nx := 15) rfl rfl rfl ?_
        refine ev_sub (lo := [(2, .int z18), (1, .int z17), (0, .ref 69)]) rfl (t_sc rfl (t_sc rfl (t_sc rfl t_sn))) ?_
        exact ih5 _ (by omega) gi5 gl5 gr5 (z18) (z17) hI hX  (Int.le_trans (by decide : (0:Int) ≤ 1) l18) u18 c5_0 c5_1 c5_2 rfl
  refine ev_sub (lo := [(2, .int (gi 69 64)), (1, .int z3), (0, .ref 69)]) rfl (t_sc rfl (t_sc rfl (t_sc rfl t_sn))) ?_
  exact L5 _ gi gl gr ((gi 69 64)) (z3) hI hX  l4 u4 rfl rfl rfl rfl
