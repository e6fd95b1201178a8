/-! ===== printed by mdl4.py: contracts of the model ===== -/
theorem ev_shl1E {X : x_Ext} {d mi pc nx a b q len ml : Nat} {z : Int} {lo : x_Lo} {r : List Value} {G : x_G} {P : Option Value → x_G → Prop} {T : List (Nat × x_Row)} {rt : Option FieldType} {y : Int32} {ly uy : Int} (F : x_F mi T ml rt) (hr : T.lookup pc = some (.ishl, len, a, b, q, z)) (b1 : ly ≤ y.toInt) (b2 : y.toInt ≤ uy) (h0 : decide (0 ≤ ly) = true) (h6 : decide (uy ≤ 6) = true) (hn : pc + len = nx) (kk : ∀ w : Int32, ((y.toInt = 0 ∧ w.toInt = 1) ∨ (y.toInt = 1 ∧ w.toInt = 2) ∨ (y.toInt = 2 ∧ w.toInt = 4) ∨ (y.toInt = 3 ∧ w.toInt = 8) ∨ (y.toInt = 4 ∧ w.toInt = 16) ∨ (y.toInt = 5 ∧ w.toInt = 32) ∨ (y.toInt = 6 ∧ w.toInt = 64)) → x_Ev X d mi nx lo (.int w :: r) G P) : x_Ev X d mi pc lo (.int y :: .int 1 :: r) G P := by
  have h0 := of_decide_eq_true h0
  have h6 := of_decide_eq_true h6
  refine ev_alu F hr rfl rfl hn (kk _ ?_)
  have h : y.toInt = 0 ∨ y.toInt = 1 ∨ y.toInt = 2 ∨ y.toInt = 3 ∨ y.toInt = 4 ∨ y.toInt = 5 ∨ y.toInt = 6 := by omega
  rcases h with h | h | h | h | h | h | h
  · rw [show y = 0 from Int32.toInt_inj.mp h]; decide
  · rw [show y = 1 from Int32.toInt_inj.mp h]; decide
  · rw [show y = 2 from Int32.toInt_inj.mp h]; decide
  · rw [show y = 3 from Int32.toInt_inj.mp h]; decide
  · rw [show y = 4 from Int32.toInt_inj.mp h]; decide
  · rw [show y = 5 from Int32.toInt_inj.mp h]; decide
  · rw [show y = 6 from Int32.toInt_inj.mp h]; decide
/-- the row of the search for a code: what is left to go through -/
def t_cm (n : Int) (r : Nat → Int32) : Nat := (if n < 0 then 0 else if n = 0 then (31 - (r 0).toInt) * 35937 else if n = 1 then (31 - (r 0).toInt) * 35937 + (31 - (r 1).toInt) * 1089 else if n = 2 then (31 - (r 0).toInt) * 35937 + (31 - (r 1).toInt) * 1089 + (31 - (r 2).toInt) * 33 else (31 - (r 0).toInt) * 35937 + (31 - (r 1).toInt) * 1089 + (31 - (r 2).toInt) * 33 + (31 - (r 3).toInt)).toNat
def t_rw (n : Int) (r : Nat → Int32) : Prop := ∀ j : Nat, ((j : Int) < n → 0 ≤ (r j).toInt ∧ (r j).toInt ≤ 29) ∧ ((j : Int) = n → n ≤ 3 → -1 ≤ (r j).toInt ∧ (r j).toInt ≤ 29)
/-- one more at n -/
theorem t_cmB {n z w : Int32} {g g1 : Nat → Nat → Int32} (h : t_rw n.toInt (g 88)) (h0 : 0 ≤ n.toInt) (h3 : n.toInt ≤ 3) (ew : w = g 88 n.toNatClampNeg) (ez : z.toInt = w.toInt + 1) (e : g1 = x_up2 g 88 n.toNatClampNeg z) : t_cm n.toInt (g1 88) < t_cm n.toInt (g 88) ∧ t_cm (n.toInt - 1) (g1 88) < t_cm n.toInt (g 88) ∧ 0 ≤ z.toInt ∧ z.toInt ≤ 30 ∧ (z.toInt ≤ 29 → t_rw n.toInt (g1 88)) ∧ t_rw (n.toInt - 1) (g1 88) ∧ (∀ j : Nat, (j : Int) < n.toInt + 1 → z.toInt ≤ 29 → 0 ≤ (g1 88 j).toInt ∧ (g1 88 j).toInt ≤ 29) := by
  have hc := t_clamp h0
  have hw := (h n.toNatClampNeg).2 hc h3
  rw [← ew] at hw
  have hat : g1 88 n.toNatClampNeg = z := by rw [e]; exact x_up2_at _ _ _ _
  have hof : ∀ j, j ≠ n.toNatClampNeg → g1 88 j = g 88 j := fun j hj => by rw [e]; exact x_up2_off (Or.inr hj)
  have hall : ∀ j : Nat, (j : Int) < n.toInt + 1 → z.toInt ≤ 29 → 0 ≤ (g1 88 j).toInt ∧ (g1 88 j).toInt ≤ 29 := by
    intro j hj hz
    by_cases hjn : j = n.toNatClampNeg
    · rw [hjn, hat]; omega
    · rw [hof j hjn]; exact (h j).1 (by omega)
  have hn : n.toInt = 0 ∨ n.toInt = 1 ∨ n.toInt = 2 ∨ n.toInt = 3 := by omega
  have h4 := h 0
  have h5 := h 1
  have h6 := h 2
  have h7 := h 3
  have g0 := hof 0
  have g1' := hof 1
  have g2 := hof 2
  refine ⟨?_, ?_, by omega, by omega, ?_, ?_, hall⟩
  · rcases hn with hn | hn | hn | hn
    · have e0 : n.toNatClampNeg = 0 := by omega
      rw [e0] at hat ew
      rw [hn]; unfold t_cm; simp only [hat]; rw [← ew]; simp; omega
    · have e0 : n.toNatClampNeg = 1 := by omega
      rw [e0] at hat ew
      rw [hn]; unfold t_cm; rw [g0 (by omega)]; simp only [hat]; rw [← ew]; simp; omega
    · have e0 : n.toNatClampNeg = 2 := by omega
      rw [e0] at hat ew
      rw [hn]; unfold t_cm; rw [g0 (by omega), g1' (by omega)]; simp only [hat]; rw [← ew]; simp; omega
    · have e0 : n.toNatClampNeg = 3 := by omega
      rw [e0] at hat ew
      rw [hn]; unfold t_cm; rw [g0 (by omega), g1' (by omega), g2 (by omega)]; simp only [hat]; rw [← ew]; simp; omega
  · rcases hn with hn | hn | hn | hn
    · have e0 : n.toNatClampNeg = 0 := by omega
      rw [e0] at hat ew
      rw [hn]; unfold t_cm; rw [← ew]; simp; omega
    · have e0 : n.toNatClampNeg = 1 := by omega
      rw [e0] at hat ew
      rw [hn]; unfold t_cm; rw [g0 (by omega), ← ew]; simp; omega
    · have e0 : n.toNatClampNeg = 2 := by omega
      rw [e0] at hat ew
      rw [hn]; unfold t_cm; rw [g0 (by omega), g1' (by omega), ← ew]; simp; omega
    · have e0 : n.toNatClampNeg = 3 := by omega
      rw [e0] at hat ew
      rw [hn]; unfold t_cm; rw [g0 (by omega), g1' (by omega), g2 (by omega), ← ew]; simp; omega
  · intro hz j
    exact ⟨fun hj => hall j (by omega) hz, fun hj _ => by have := hall j (by omega) hz; omega⟩
  · intro j
    refine ⟨fun hj => ?_, fun hj _ => ?_⟩
    · rw [hof j (by omega)]; exact (h j).1 (by omega)
    · rw [hof j (by omega)]; have := (h j).1 (by omega); omega
/-- and a place more, with the same call -/
theorem t_cmC {n z w v i m : Int32} {g g1 g2 : Nat → Nat → Int32} (h : t_rw n.toInt (g 88)) (h0 : 0 ≤ n.toInt) (h3 : n.toInt ≤ 3) (ew : w = g 88 n.toNatClampNeg) (ez : z.toInt = w.toInt + 1) (e : g1 = x_up2 g 88 n.toNatClampNeg z) (hz : z.toInt ≤ 29) (ei : i.toInt = n.toInt + 1) (em : m.toInt = n.toInt + 1) (e2 : g2 = x_up2 g1 88 i.toNatClampNeg z) : t_cm m.toInt (g2 88) < t_cm n.toInt (g 88) ∧ t_rw m.toInt (g2 88) := by
  obtain ⟨k1, -, k2, k3, -, -, k4⟩ := t_cmB h h0 h3 ew ez e
  have hc := t_clamp h0
  have hci := t_clamp (i := i) (by omega)
  have hat : g2 88 i.toNatClampNeg = z := by rw [e2]; exact x_up2_at _ _ _ _
  have hof : ∀ j, j ≠ i.toNatClampNeg → g2 88 j = g1 88 j := fun j hj => by rw [e2]; exact x_up2_off (Or.inr hj)
  have hat1 : g1 88 n.toNatClampNeg = z := by rw [e]; exact x_up2_at _ _ _ _
  have hof1 : ∀ j, j ≠ n.toNatClampNeg → g1 88 j = g 88 j := fun j hj => by rw [e]; exact x_up2_off (Or.inr hj)
  have hw := (h n.toNatClampNeg).2 hc h3
  rw [← ew] at hw
  have h4 := h 0
  have h5 := h 1
  have h6 := h 2
  have h7 := h 3
  refine ⟨?_, fun j => ⟨fun hj => ?_, fun hj _ => ?_⟩⟩
  · have hn : n.toInt = 0 ∨ n.toInt = 1 ∨ n.toInt = 2 ∨ n.toInt = 3 := by omega
    rcases hn with hn | hn | hn | hn
    · have e0 : n.toNatClampNeg = 0 := by omega
      have e1 : i.toNatClampNeg = 1 := by omega
      rw [e0] at hat1 ew
      rw [e1] at hat
      rw [em, hn]; unfold t_cm; rw [hof 0 (by omega), hat1, hat, ← ew]; simp; omega
    · have e0 : n.toNatClampNeg = 1 := by omega
      have e1 : i.toNatClampNeg = 2 := by omega
      rw [e0] at hat1 ew
      rw [e1] at hat
      rw [em, hn]; unfold t_cm; rw [hof 0 (by omega), hof 1 (by omega), hof1 0 (by omega), hat1, hat, ← ew]; simp; omega
    · have e0 : n.toNatClampNeg = 2 := by omega
      have e1 : i.toNatClampNeg = 3 := by omega
      rw [e0] at hat1 ew
      rw [e1] at hat
      rw [em, hn]; unfold t_cm; rw [hof 0 (by omega), hof 1 (by omega), hof 2 (by omega), hof1 0 (by omega), hof1 1 (by omega), hat1, hat, ← ew]; simp; omega
    · have e0 : n.toNatClampNeg = 3 := by omega
      have e1 : i.toNatClampNeg = 4 := by omega
      rw [e0] at hat1 ew
      rw [em, hn]; unfold t_cm; rw [hof 0 (by omega), hof 1 (by omega), hof 2 (by omega), hof 3 (by omega), hof1 0 (by omega), hof1 1 (by omega), hof1 2 (by omega), hat1, ← ew]; simp; omega
  · rw [hof j (by omega)]; exact k4 j (by omega) hz
  · rw [show j = i.toNatClampNeg by omega, hat]; omega
theorem t_rw0 {g g1 : Nat → Nat → Int32} (e : g1 = x_up2 g 88 (0 : Int32).toNatClampNeg (-1)) : t_rw 0 (g1 88) := fun j => ⟨fun hj => by omega, fun hj _ => by
  have : j = 0 := by omega
  subst this
  have : g1 88 0 = -1 := by rw [e]; exact x_up2_at _ _ _ _
  rw [this]; decide⟩
/-- the ints of a cell are as they were -/
theorem t_rw.ext {n : Int} {r r' : Nat → Int32} (h : t_rw n r) (e : ∀ j, r' j = r j) : t_rw n r' := fun j => by rw [e j]; exact h j
def wl_m_tellsBy : List (Nat × Nat) := [(69, 2), (69, 3), (69, 4)]
theorem c_m_tellsBy {X : x_Ext} {d : Nat} {sh : List (Nat ⊕ (Nat × Nat))} {gi : Nat → Nat → Int32} {gl : Nat → Nat → Int64} {gr : Nat → Nat → Value} (hI : t_I sh gi gr) (ar1 : Int64) (ar2 : Int64) (e_p0 : 0 ≤ ar1.toInt) (e_p1 : 0 < ar2.toInt) : x_Me X (d + 2) n_X12_tellsBy [.ref 69, .long ar1, .long ar2] (sh, gi, gl, gr) (t_P wl_m_tellsBy sh gi gl gr (t_Ri 1 1)) := by
  have hX : t_X wl_m_tellsBy sh gi gl gr gi gl gr := t_X.rf
  refine me_i f_X12_tellsBy (hI.wf.s rfl) rfl rfl rfl ?_
  refine ev_loc f_X12_tellsBy (nx := 1) rfl rfl rfl rfl ?_
  refine ev_loc f_X12_tellsBy (nx := 3) (lo' := [(5, .long ar1), (0, .ref 69), (1, .long ar1), (3, .long ar2)]) rfl rfl rfl rfl ?_
  refine ev_loc f_X12_tellsBy (nx := 4) rfl rfl rfl rfl ?_
  refine ev_loc f_X12_tellsBy (nx := 6) (lo' := [(7, .long ar2), (5, .long ar1), (0, .ref 69), (1, .long ar1), (3, .long ar2)]) rfl rfl rfl rfl ?_
  have L1 : ∀ (m1 : Nat) (gi1 : Nat → Nat → Int32) (gl1 : Nat → Nat → Int64) (gr1 : Nat → Nat → Value) (y1_7 : Int64) (y1_5 : Int64), t_I sh gi1 gr1 → t_X wl_m_tellsBy sh gi gl gr gi1 gl1 gr1 → 0 ≤ y1_5.toInt → 0 ≤ y1_7.toInt → (0 < y1_5.toInt ∨ 0 < y1_7.toInt) → y1_7.toInt.toNat = m1 → x_Ev X (d + 2) n_X12_tellsBy 6 [(7, .long y1_7), (5, .long y1_5), (0, .ref 69), (1, .long ar1), (3, .long ar2)] [] (sh, gi1, gl1, gr1) (t_P wl_m_tellsBy sh gi gl gr (t_Ri 1 1)) := by
    intro m1
    induction m1 using Nat.strongRecOn with
    | _ m1 ih1 =>
    intro gi1 gl1 gr1 y1_7 y1_5 hI hX j1_0 j1_1 j1_2 hm1
    refine ev_loc f_X12_tellsBy (nx := 8) rfl rfl rfl rfl ?_
    refine ev_lc f_X12_tellsBy (nx := 9) (v := 0) rfl (by decide) rfl ?_
    refine ev_anyIE f_X12_tellsBy (nx := 10) rfl rfl rfl rfl (fun z2 e2 => ?_)
    refine ev_if f_X12_tellsBy (t1 := 31) (t2 := 13) rfl rfl rfl (fun h3 => ?_) (fun h3 => ?_)
    · have u4 : z2.toInt ≤ 0 := t_equ h3 (by decide : (0:Int32).toInt ≤ (0:Int))
      have l5 : 0 ≤ z2.toInt := t_eql h3 (by decide : (0:Int) ≤ (0:Int32).toInt)
      refine ev_loc f_X12_tellsBy (nx := 32) rfl rfl rfl rfl ?_
      refine ev_loc f_X12_tellsBy (nx := 33) rfl rfl rfl rfl ?_
      refine ev_loc f_X12_tellsBy (nx := 35) rfl rfl rfl rfl ?_
      refine ev_ldivN f_X12_tellsBy (nx := 36) rfl (t_lne (by have := t_lz e2 h3; omega)) rfl (fun z6 e6 => ?_)
      refine ev_putLT f_X12_tellsBy (nx := 39) rfl (hI.wf.s rfl) rfl rfl rfl (hX.upL rfl) (fun g7 e7 hX => ?_)
      refine ev_loc f_X12_tellsBy (nx := 40) rfl rfl rfl rfl ?_
      refine ev_loc f_X12_tellsBy (nx := 41) rfl rfl rfl rfl ?_
      refine ev_loc f_X12_tellsBy (nx := 43) rfl rfl rfl rfl ?_
      refine ev_ldivN f_X12_tellsBy (nx := 44) rfl (t_lne (by have := t_lz e2 h3; omega)) rfl (fun z8 e8 => ?_)
      refine ev_putLT f_X12_tellsBy (nx := 47) rfl (hI.wf.s rfl) rfl rfl rfl (hX.upL rfl) (fun g9 e9 hX => ?_)
      refine ev_loc f_X12_tellsBy (nx := 48) rfl rfl rfl rfl ?_
      refine ev_ic f_X12_tellsBy (nx := 49) (v := 0) rfl (by decide) rfl ?_
      refine ev_inV2 f_X12_tellsBy (nx := 52) (lo2 := [(0, .ref 69), (1, .int 0)]) rfl rfl rfl rfl f_X12_is (hI.wf.s rfl) rfl rfl rfl rfl rfl ?_
      refine ev_loc f_X12_is (nx := 1) rfl rfl rfl rfl ?_
      refine ev_loc f_X12_is (nx := 2) rfl rfl rfl rfl ?_
      refine ev_putIT f_X12_is (nx := 5) rfl (hI.wf.s rfl) rfl rfl rfl (hI.put0 (hI.wf.s rfl) rfl rfl) (hX.upI rfl) (fun g10 e10 hI hX => ?_)
      refine ev_loc f_X12_is (nx := 6) rfl rfl rfl rfl ?_
      refine ev_t f_X12_is (t1 := 9) (t2 := 13) rfl rfl rfl (by decide) ?_
      refine ev_ic f_X12_is (nx := 10) (v := 1) rfl (by decide) rfl ?_
      refine ev_jmp f_X12_is (nx := 14) rfl rfl rfl ?_
      refine ev_retK1 f_X12_is rfl rfl rfl ?_
      exact ev_ret f_X12_tellsBy rfl rfl rfl ⟨_, _, _, rfl, hI, hX, ⟨_, rfl, (by decide : (1:Int) ≤ (1:Int32).toInt), (by decide : (1:Int32).toInt ≤ (1:Int))⟩⟩
    · have r11 : z2.toInt ≠ 0 := fun e => h3 (Int32.toInt_inj.mp (e.trans (by decide : (0:Int) = (0 : Int32).toInt)))
      refine ev_loc f_X12_tellsBy (nx := 15) rfl rfl rfl rfl ?_
      refine ev_loc f_X12_tellsBy (nx := 17) rfl rfl rfl rfl ?_
      refine ev_lremN f_X12_tellsBy (nx := 18) rfl (t_lne (t_lnz e2 h3 (by omega))) rfl (fun z12 e12 => ?_)
      refine ev_loc f_X12_tellsBy (nx := 20) (lo' := [(9, .long z12), (7, .long y1_7), (5, .long y1_5), (0, .ref 69), (1, .long ar1), (3, .long ar2)]) rfl rfl rfl rfl ?_
      refine ev_loc f_X12_tellsBy (nx := 22) rfl rfl rfl rfl ?_
      refine ev_loc f_X12_tellsBy (nx := 24) (lo' := [(5, .long y1_7), (9, .long z12), (7, .long y1_7), (0, .ref 69), (1, .long ar1), (3, .long ar2)]) rfl rfl rfl rfl ?_
      refine ev_loc f_X12_tellsBy (nx := 26) rfl rfl rfl rfl ?_
      refine ev_loc f_X12_tellsBy (nx := 28) (lo' := [(7, .long z12), (5, .long y1_7), (9, .long z12), (0, .ref 69), (1, .long ar1), (3, .long ar2)]) rfl rfl rfl rfl ?_
      refine ev_jmp f_X12_tellsBy (nx := 6) rfl rfl rfl ?_
      refine ev_sub (lo := [(7, .long z12), (5, .long y1_7), (0, .ref 69), (1, .long ar1), (3, .long ar2)]) rfl (t_sc rfl (t_sc rfl (t_sc rfl (t_sc rfl (t_sc rfl t_sn))))) ?_
      exact ih1 _ (by have hb := t_lnz e2 h3 (by omega); have hr := t_lrem e12 (by omega) hb; omega) gi1 gl1 gr1 (z12) (y1_7) hI hX  (by have hb := t_lnz e2 h3 (by omega); have hr := t_lrem e12 (by omega) hb; omega) (by have hb := t_lnz e2 h3 (by omega); have hr := t_lrem e12 (by omega) hb; omega) (by have hb := t_lnz e2 h3 (by omega); have hr := t_lrem e12 (by omega) hb; omega) rfl
  refine ev_sub (lo := [(7, .long ar2), (5, .long ar1), (0, .ref 69), (1, .long ar1), (3, .long ar2)]) rfl (t_sc rfl (t_sc rfl (t_sc rfl (t_sc rfl (t_sc rfl t_sn))))) ?_
  exact L1 _ gi gl gr (ar2) (ar1) hI hX  (by omega) (by omega) (by omega) rfl
def wl_m_doubt : List (Nat × Nat) := [(69, 2), (69, 3), (69, 4), (69, 29), (78, 9999), (79, 9999), (80, 9999)]
theorem c_m_doubt {X : x_Ext} {d : Nat} {sh : List (Nat ⊕ (Nat × Nat))} {gi : Nat → Nat → Int32} {gl : Nat → Nat → Int64} {gr : Nat → Nat → Value} (hI : t_I sh gi gr) (ar1 : Int64) (ar2 : Int32) : x_Me X (d + 5) n_X12_doubt [.ref 69, .long ar1, .int ar2] (sh, gi, gl, gr) (t_P wl_m_doubt sh gi gl gr (t_Ri 0 1)) := by
  have hX : t_X wl_m_doubt sh gi gl gr gi gl gr := t_X.rf
  refine me_i f_X12_doubt (hI.wf.s rfl) rfl rfl rfl ?_
  refine ev_loc f_X12_doubt (nx := 1) rfl rfl rfl rfl ?_
  refine ev_lc f_X12_doubt (nx := 2) (v := 1) rfl (by decide) rfl ?_
  refine ev_anyIE f_X12_doubt (nx := 3) rfl rfl rfl rfl (fun z1 e1 => ?_)
  refine ev_if f_X12_doubt (t1 := 14) (t2 := 6) rfl rfl rfl (fun h2 => ?_) (fun h2 => ?_)
  · have u3 : z1.toInt ≤ (-1) := t_ltu h2 (by decide : (0:Int32).toInt ≤ (0:Int)) rfl
    refine ev_loc f_X12_doubt (nx := 15) rfl rfl rfl rfl ?_
    refine ev_ic f_X12_doubt (nx := 16) (v := 1) rfl (by decide) rfl ?_
    refine ev_inV2 f_X12_doubt (nx := 19) (lo2 := [(0, .ref 69), (1, .int 1)]) rfl rfl rfl rfl f_X12_is (hI.wf.s rfl) rfl rfl rfl rfl rfl ?_
    refine ev_loc f_X12_is (nx := 1) rfl rfl rfl rfl ?_
    refine ev_loc f_X12_is (nx := 2) rfl rfl rfl rfl ?_
    refine ev_putIT f_X12_is (nx := 5) rfl (hI.wf.s rfl) rfl rfl rfl (hI.put0 (hI.wf.s rfl) rfl rfl) (hX.upI rfl) (fun g4 e4 hI hX => ?_)
    refine ev_loc f_X12_is (nx := 6) rfl rfl rfl rfl ?_
    refine ev_f f_X12_is (t1 := 9) (t2 := 13) rfl rfl rfl (by decide) ?_
    refine ev_ic f_X12_is (nx := 14) (v := 0) rfl (by decide) rfl ?_
    refine ev_retK1 f_X12_is rfl rfl rfl ?_
    exact ev_ret f_X12_doubt rfl rfl rfl ⟨_, _, _, rfl, hI, hX, ⟨_, rfl, (by decide : (0:Int) ≤ (0:Int32).toInt), (Int.le_trans (by decide : (0:Int32).toInt ≤ (0:Int)) (by decide : (0:Int) ≤ 1))⟩⟩
  · have l5 : 0 ≤ z1.toInt := t_lel (t_nlt h2) (by decide : (0:Int) ≤ (0:Int32).toInt)
    refine ev_loc f_X12_doubt (nx := 7) rfl rfl rfl rfl ?_
    refine ev_loc f_X12_doubt (nx := 8) rfl rfl rfl rfl ?_
    refine ev_inV2 f_X12_doubt (nx := 11) (lo2 := [(0, .ref 69), (1, .int ar2)]) rfl rfl rfl rfl f_X12_isPort (hI.wf.s rfl) rfl rfl rfl rfl rfl ?_
    refine ev_loc f_X12_isPort (nx := 1) rfl rfl rfl rfl ?_
    refine ev_if f_X12_isPort (t1 := 18) (t2 := 4) rfl rfl rfl (fun h6 => ?_) (fun h6 => ?_)
    · have u7 : ar2.toInt ≤ (-1) := t_ltu h6 (by decide : (0:Int32).toInt ≤ (0:Int)) rfl
      refine ev_ic f_X12_isPort (nx := 19) (v := 0) rfl (by decide) rfl ?_
      refine ev_retK1 f_X12_isPort rfl rfl rfl ?_
      refine ev_t f_X12_doubt (t1 := 14) (t2 := 20) rfl rfl rfl (by decide) ?_
      refine ev_loc f_X12_doubt (nx := 15) rfl rfl rfl rfl ?_
      refine ev_ic f_X12_doubt (nx := 16) (v := 1) rfl (by decide) rfl ?_
      refine ev_inV2 f_X12_doubt (nx := 19) (lo2 := [(0, .ref 69), (1, .int 1)]) rfl rfl rfl rfl f_X12_is (hI.wf.s rfl) rfl rfl rfl rfl rfl ?_
      refine ev_loc f_X12_is (nx := 1) rfl rfl rfl rfl ?_
      refine ev_loc f_X12_is (nx := 2) rfl rfl rfl rfl ?_
      refine ev_putIT f_X12_is (nx := 5) rfl (hI.wf.s rfl) rfl rfl rfl (hI.put0 (hI.wf.s rfl) rfl rfl) (hX.upI rfl) (fun g8 e8 hI hX => ?_)
      refine ev_loc f_X12_is (nx := 6) rfl rfl rfl rfl ?_
      refine ev_f f_X12_is (t1 := 9) (t2 := 13) rfl rfl rfl (by decide) ?_
      refine ev_ic f_X12_is (nx := 14) (v := 0) rfl (by decide) rfl ?_
      refine ev_retK1 f_X12_is rfl rfl rfl ?_
      exact ev_ret f_X12_doubt rfl rfl rfl ⟨_, _, _, rfl, hI, hX, ⟨_, rfl, (by decide : (0:Int) ≤ (0:Int32).toInt), (Int.le_trans (by decide : (0:Int32).toInt ≤ (0:Int)) (by decide : (0:Int) ≤ 1))⟩⟩
    · have l9 : 0 ≤ ar2.toInt := t_lel (t_nlt h6) (by decide : (0:Int) ≤ (0:Int32).toInt)
      refine ev_loc f_X12_isPort (nx := 5) rfl rfl rfl rfl ?_
      refine ev_loc f_X12_isPort (nx := 6) rfl rfl rfl rfl ?_
      refine ev_getR f_X12_isPort (nx := 9) rfl (hI.wf.s rfl) rfl rfl (hI.wf.r rfl) rfl rfl ?_
      refine ev_ic f_X12_isPort (nx := 10) (v := 0) rfl (by decide) rfl ?_
      obtain ⟨l10, u10⟩ := hI.ab (by decide +kernel : t_abr 70 0 0 0 6 = true) (Nat.le_refl _) (Nat.le_refl _)
      refine ev_ialdv f_X12_isPort (nx := 11) (w := (gi 70 0)) rfl (hI.wf.s rfl) (by decide) (rfl : (0 : Int32).toNatClampNeg = 0) (by decide) rfl rfl ?_
      refine ev_if f_X12_isPort (t1 := 18) (t2 := 14) rfl rfl rfl (fun h11 => ?_) (fun h11 => ?_)
      · have r12 : (gi 70 0).toInt ≤ ar2.toInt := Int32.le_iff_toInt_le.mp h11
        refine ev_ic f_X12_isPort (nx := 19) (v := 0) rfl (by decide) rfl ?_
        refine ev_retK1 f_X12_isPort rfl rfl rfl ?_
        refine ev_t f_X12_doubt (t1 := 14) (t2 := 20) rfl rfl rfl (by decide) ?_
        refine ev_loc f_X12_doubt (nx := 15) rfl rfl rfl rfl ?_
        refine ev_ic f_X12_doubt (nx := 16) (v := 1) rfl (by decide) rfl ?_
        refine ev_inV2 f_X12_doubt (nx := 19) (lo2 := [(0, .ref 69), (1, .int 1)]) rfl rfl rfl rfl f_X12_is (hI.wf.s rfl) rfl rfl rfl rfl rfl ?_
        refine ev_loc f_X12_is (nx := 1) rfl rfl rfl rfl ?_
        refine ev_loc f_X12_is (nx := 2) rfl rfl rfl rfl ?_
        refine ev_putIT f_X12_is (nx := 5) rfl (hI.wf.s rfl) rfl rfl rfl (hI.put0 (hI.wf.s rfl) rfl rfl) (hX.upI rfl) (fun g13 e13 hI hX => ?_)
        refine ev_loc f_X12_is (nx := 6) rfl rfl rfl rfl ?_
        refine ev_f f_X12_is (t1 := 9) (t2 := 13) rfl rfl rfl (by decide) ?_
        refine ev_ic f_X12_is (nx := 14) (v := 0) rfl (by decide) rfl ?_
        refine ev_retK1 f_X12_is rfl rfl rfl ?_
        exact ev_ret f_X12_doubt rfl rfl rfl ⟨_, _, _, rfl, hI, hX, ⟨_, rfl, (by decide : (0:Int) ≤ (0:Int32).toInt), (Int.le_trans (by decide : (0:Int32).toInt ≤ (0:Int)) (by decide : (0:Int) ≤ 1))⟩⟩
      · have r14 : ar2.toInt < (gi 70 0).toInt := Int32.lt_iff_toInt_lt.mp (t_nle h11)
        have u15 : ar2.toInt ≤ 5 := t_ltu (t_nle h11) u10 rfl
        have l16 : 1 ≤ (gi 70 0).toInt := t_ltl (t_nle h11) l9 rfl
        refine ev_ic f_X12_isPort (nx := 15) (v := 1) rfl (by decide) rfl ?_
        refine ev_jmp f_X12_isPort (nx := 19) rfl rfl rfl ?_
        refine ev_retK1 f_X12_isPort rfl rfl rfl ?_
        refine ev_f f_X12_doubt (t1 := 14) (t2 := 20) rfl rfl rfl (by decide) ?_
        refine ev_loc f_X12_doubt (nx := 21) rfl rfl rfl rfl ?_
        refine ev_loc f_X12_doubt (nx := 22) rfl rfl rfl rfl ?_
        refine ev_qN f_X12_doubt (nx := 25) (r := []) rfl rfl rfl rfl rfl rfl rfl (c_m_findsReadings hI (ar1)) rfl hX rfl (fun gi17 gl17 gr17 hI hX hC17 q17 => ?_)
        have q17 : (gi17 69 29).toInt ≤ 474 := q17
        refine ev_loc f_X12_doubt (nx := 26) rfl rfl rfl rfl ?_
        refine ev_getI f_X12_doubt (nx := 29) rfl (hI.wf.s rfl) rfl rfl rfl ?_
        obtain ⟨l18, u18⟩ := hI.b (hI.wf.s (k := 69) rfl) (rfl : t_bd 11 29 = some (0, 500))
        refine ev_if f_X12_doubt (t1 := 32) (t2 := 39) rfl rfl rfl (fun h19 => ?_) (fun h19 => ?_)
        · have u20 : (gi17 69 29).toInt ≤ 0 := t_equ h19 (by decide : (0:Int32).toInt ≤ (0:Int))
          refine ev_loc f_X12_doubt (nx := 33) rfl rfl rfl rfl ?_
          refine ev_bp f_X12_doubt (nx := 35) (v := 6) rfl (by decide) rfl ?_
          refine ev_inV2 f_X12_doubt (nx := 38) (lo2 := [(0, .ref 69), (1, .int 6)]) rfl rfl rfl rfl f_X12_is (hI.wf.s rfl) rfl rfl rfl rfl rfl ?_
          refine ev_loc f_X12_is (nx := 1) rfl rfl rfl rfl ?_
          refine ev_loc f_X12_is (nx := 2) rfl rfl rfl rfl ?_
          refine ev_putIT f_X12_is (nx := 5) rfl (hI.wf.s rfl) rfl rfl rfl (hI.put0 (hI.wf.s rfl) rfl rfl) (hX.upI rfl) (fun g21 e21 hI hX => ?_)
          refine ev_loc f_X12_is (nx := 6) rfl rfl rfl rfl ?_
          refine ev_f f_X12_is (t1 := 9) (t2 := 13) rfl rfl rfl (by decide) ?_
          refine ev_ic f_X12_is (nx := 14) (v := 0) rfl (by decide) rfl ?_
          refine ev_retK1 f_X12_is rfl rfl rfl ?_
          exact ev_ret f_X12_doubt rfl rfl rfl ⟨_, _, _, rfl, hI, hX, ⟨_, rfl, (by decide : (0:Int) ≤ (0:Int32).toInt), (Int.le_trans (by decide : (0:Int32).toInt ≤ (0:Int)) (by decide : (0:Int) ≤ 1))⟩⟩
        · have r22 : (gi17 69 29).toInt ≠ 0 := fun e => h19 (Int32.toInt_inj.mp (e.trans (by decide : (0:Int) = (0 : Int32).toInt)))
          have l23 : 1 ≤ (gi17 69 29).toInt := t_nel h19 l18 rfl rfl
          refine ev_ic f_X12_doubt (nx := 40) (v := 0) rfl (by decide) rfl ?_
          refine ev_loc f_X12_doubt (nx := 42) (lo' := [(4, .int 0), (0, .ref 69), (1, .long ar1), (3, .int ar2)]) rfl rfl rfl rfl ?_
          refine ev_ic f_X12_doubt (nx := 43) (v := 0) rfl (by decide) rfl ?_
          refine ev_loc f_X12_doubt (nx := 45) (lo' := [(5, .int 0), (4, .int 0), (0, .ref 69), (1, .long ar1), (3, .int ar2)]) rfl rfl rfl rfl ?_
          have L24 : ∀ (m24 : Nat) (gi24 : Nat → Nat → Int32) (gl24 : Nat → Nat → Int64) (gr24 : Nat → Nat → Value) (y24_5 : Int32) (y24_4 : Int32), t_I sh gi24 gr24 → t_X wl_m_doubt sh gi gl gr gi24 gl24 gr24 → 0 ≤ y24_5.toInt → y24_5.toInt ≤ 500 → 0 ≤ y24_4.toInt → y24_4.toInt ≤ 500 → gi24 69 29 = (gi17 69 29) → gi24 70 0 = (gi 70 0) → 0 ≤ y24_4.toInt → y24_4.toInt ≤ y24_5.toInt → (500 - y24_5.toInt).toNat = m24 → x_Ev X (d + 5) n_X12_doubt 45 [(5, .int y24_5), (4, .int y24_4), (0, .ref 69), (1, .long ar1), (3, .int ar2)] [] (sh, gi24, gl24, gr24) (t_P wl_m_doubt sh gi gl gr (t_Ri 0 1)) := by
            intro m24
            induction m24 using Nat.strongRecOn with
            | _ m24 ih24 =>
            intro gi24 gl24 gr24 y24_5 y24_4 hI hX l24_5 u24_5 l24_4 u24_4 c24_0 c24_1 j24_0 j24_1 hm24
            refine ev_loc f_X12_doubt (nx := 47) rfl rfl rfl rfl ?_
            refine ev_loc f_X12_doubt (nx := 48) rfl rfl rfl rfl ?_
            refine ev_gvI f_X12_doubt (nx := 51) (w := (gi17 69 29)) rfl (hI.wf.s rfl) rfl rfl c24_0 rfl ?_
            refine ev_if f_X12_doubt (t1 := 92) (t2 := 54) rfl rfl rfl (fun h25 => ?_) (fun h25 => ?_)
            · have r26 : (gi17 69 29).toInt ≤ y24_5.toInt := Int32.le_iff_toInt_le.mp h25
              have l27 : 1 ≤ y24_5.toInt := t_lel h25 l23
              refine ev_loc f_X12_doubt (nx := 93) rfl rfl rfl rfl ?_
              refine ev_loc f_X12_doubt (nx := 95) rfl rfl rfl rfl ?_
              refine ev_anyLE f_X12_doubt (nx := 96) rfl rfl rfl rfl (fun z28 e28 => ?_)
              have i28 : z28.toInt = y24_4.toInt := by rw [e28]; exact Int32.toInt_toInt64 _
              refine ev_loc f_X12_doubt (nx := 97) rfl rfl rfl rfl ?_
              refine ev_gvI f_X12_doubt (nx := 100) (w := (gi17 69 29)) rfl (hI.wf.s rfl) rfl rfl c24_0 rfl ?_
              refine ev_anyLE f_X12_doubt (nx := 101) rfl rfl rfl rfl (fun z29 e29 => ?_)
              have i29 : z29.toInt = (gi17 69 29).toInt := by rw [e29]; exact Int32.toInt_toInt64 _
              refine ev_cI f_X12_doubt (nx := 104) (r := []) rfl rfl rfl rfl rfl rfl rfl (c_m_tellsBy hI (z28) (z29) (by omega) (by omega)) rfl hX rfl (fun w30 gi30 gl30 gr30 l30 u30 hI hX hC30 => ?_)
              exact ev_retZ f_X12_doubt rfl (Int.le_trans (by decide : (0:Int) ≤ 1) l30) u30 ⟨_, _, _, rfl, hI, hX, ⟨_, rfl, (Int.le_trans (by decide : (0:Int) ≤ 1) l30), u30⟩⟩
            · have r31 : y24_5.toInt < (gi17 69 29).toInt := Int32.lt_iff_toInt_lt.mp (t_nle h25)
              have u32 : y24_5.toInt ≤ 499 := t_ltu (t_nle h25) u18 rfl
              refine ev_loc f_X12_doubt (nx := 56) rfl rfl rfl rfl ?_
              refine ev_loc f_X12_doubt (nx := 57) rfl rfl rfl rfl ?_
              refine ev_getR f_X12_doubt (nx := 60) rfl (hI.wf.s rfl) rfl rfl (hI.wf.r rfl) rfl rfl ?_
              refine ev_loc f_X12_doubt (nx := 62) rfl rfl rfl rfl ?_
              refine ev_ialdT f_X12_doubt (nx := 63) rfl (hI.wf.s rfl) l24_5 (by decide) u32 (by decide) rfl (fun w33 e33 => ?_)
              refine ev_loc f_X12_doubt (nx := 64) rfl rfl rfl rfl ?_
              refine ev_if f_X12_doubt (t1 := 78) (t2 := 67) rfl rfl rfl (fun h34 => ?_) (fun h34 => ?_)
              · have r35 : w33.toInt = ar2.toInt := t_eqi h34
                have u36 : w33.toInt ≤ 5 := t_equ h34 u15
                have l37 : 0 ≤ w33.toInt := t_eql h34 l9
                refine ev_ic f_X12_doubt (nx := 79) (v := 1) rfl (by decide) rfl ?_
                refine ev_jmp f_X12_doubt (nx := 83) rfl rfl rfl ?_
                refine ev_addC f_X12_doubt (nx := 84) (c := 1) (l := 1) (u := 501) rfl (by decide) l24_4 u24_4 rfl rfl (by decide) (by decide) rfl (fun z38 e38 l38 u38 => ?_)
                refine ev_loc f_X12_doubt (nx := 86) (lo' := [(4, .int z38), (5, .int y24_5), (0, .ref 69), (1, .long ar1), (3, .int ar2)]) rfl rfl rfl rfl ?_
                refine ev_incR f_X12_doubt (nx := 89) (c := 1) (l := 1) (u := 500) rfl rfl (by decide) (by decide) l24_5 u32 rfl rfl (by decide) (by decide) rfl (fun z39 e39 l39 u39 => ?_)
                refine ev_jmp f_X12_doubt (nx := 45) rfl rfl rfl ?_
                refine ev_sub (lo := [(5, .int z39), (4, .int z38), (0, .ref 69), (1, .long ar1), (3, .int ar2)]) rfl (t_sc rfl (t_sc rfl (t_sc rfl (t_sc rfl (t_sc rfl t_sn))))) ?_
                exact ih24 _ (by omega) gi24 gl24 gr24 (z39) (z38) hI hX  (Int.le_trans (by decide : (0:Int) ≤ 1) l39) u39 (Int.le_trans (by decide : (0:Int) ≤ 1) l38) (by omega : z38.toInt ≤ (500:Int)) c24_0 c24_1 (by omega) (by omega) rfl
              · have r40 : w33.toInt ≠ ar2.toInt := t_nei h34
                refine ev_loc f_X12_doubt (nx := 68) rfl rfl rfl rfl ?_
                refine ev_getR f_X12_doubt (nx := 71) rfl (hI.wf.s rfl) rfl rfl (hI.wf.r rfl) rfl rfl ?_
                refine ev_loc f_X12_doubt (nx := 73) rfl rfl rfl rfl ?_
                refine ev_ialdT f_X12_doubt (nx := 74) rfl (hI.wf.s rfl) l24_5 (by decide) u32 (by decide) rfl (fun w41 e41 => ?_)
                refine ev_loc f_X12_doubt (nx := 75) rfl rfl rfl rfl ?_
                refine ev_if f_X12_doubt (t1 := 78) (t2 := 82) rfl rfl rfl (fun h42 => ?_) (fun h42 => ?_)
                · have r43 : w41.toInt = ar2.toInt := t_eqi h42
                  have u44 : w41.toInt ≤ 5 := t_equ h42 u15
                  have l45 : 0 ≤ w41.toInt := t_eql h42 l9
                  refine ev_ic f_X12_doubt (nx := 79) (v := 1) rfl (by decide) rfl ?_
                  refine ev_jmp f_X12_doubt (nx := 83) rfl rfl rfl ?_
                  refine ev_addC f_X12_doubt (nx := 84) (c := 1) (l := 1) (u := 501) rfl (by decide) l24_4 u24_4 rfl rfl (by decide) (by decide) rfl (fun z46 e46 l46 u46 => ?_)
                  refine ev_loc f_X12_doubt (nx := 86) (lo' := [(4, .int z46), (5, .int y24_5), (0, .ref 69), (1, .long ar1), (3, .int ar2)]) rfl rfl rfl rfl ?_
                  refine ev_incR f_X12_doubt (nx := 89) (c := 1) (l := 1) (u := 500) rfl rfl (by decide) (by decide) l24_5 u32 rfl rfl (by decide) (by decide) rfl (fun z47 e47 l47 u47 => ?_)
                  refine ev_jmp f_X12_doubt (nx := 45) rfl rfl rfl ?_
                  refine ev_sub (lo := [(5, .int z47), (4, .int z46), (0, .ref 69), (1, .long ar1), (3, .int ar2)]) rfl (t_sc rfl (t_sc rfl (t_sc rfl (t_sc rfl (t_sc rfl t_sn))))) ?_
                  exact ih24 _ (by omega) gi24 gl24 gr24 (z47) (z46) hI hX  (Int.le_trans (by decide : (0:Int) ≤ 1) l47) u47 (Int.le_trans (by decide : (0:Int) ≤ 1) l46) (by omega : z46.toInt ≤ (500:Int)) c24_0 c24_1 (by omega) (by omega) rfl
                · have r48 : w41.toInt ≠ ar2.toInt := t_nei h42
                  refine ev_ic f_X12_doubt (nx := 83) (v := 0) rfl (by decide) rfl ?_
                  refine ev_addC f_X12_doubt (nx := 84) (c := 0) (l := 0) (u := 500) rfl (by decide) l24_4 u24_4 rfl rfl (by decide) (by decide) rfl (fun z49 e49 l49 u49 => ?_)
                  refine ev_loc f_X12_doubt (nx := 86) (lo' := [(4, .int z49), (5, .int y24_5), (0, .ref 69), (1, .long ar1), (3, .int ar2)]) rfl rfl rfl rfl ?_
                  refine ev_incR f_X12_doubt (nx := 89) (c := 1) (l := 1) (u := 500) rfl rfl (by decide) (by decide) l24_5 u32 rfl rfl (by decide) (by decide) rfl (fun z50 e50 l50 u50 => ?_)
                  refine ev_jmp f_X12_doubt (nx := 45) rfl rfl rfl ?_
                  refine ev_sub (lo := [(5, .int z50), (4, .int z49), (0, .ref 69), (1, .long ar1), (3, .int ar2)]) rfl (t_sc rfl (t_sc rfl (t_sc rfl (t_sc rfl (t_sc rfl t_sn))))) ?_
                  exact ih24 _ (by omega) gi24 gl24 gr24 (z50) (z49) hI hX  (Int.le_trans (by decide : (0:Int) ≤ 1) l50) u50 l49 u49 c24_0 c24_1 (by omega) (by omega) rfl
          refine ev_sub (lo := [(5, .int 0), (4, .int 0), (0, .ref 69), (1, .long ar1), (3, .int ar2)]) rfl (t_sc rfl (t_sc rfl (t_sc rfl (t_sc rfl (t_sc rfl t_sn))))) ?_
          exact L24 _ gi17 gl17 gr17 (0) (0) hI hX  (by decide : (0:Int) ≤ (0:Int32).toInt) (Int.le_trans (by decide : (0:Int32).toInt ≤ (0:Int)) (by decide : (0:Int) ≤ 500)) (by decide : (0:Int) ≤ (0:Int32).toInt) (Int.le_trans (by decide : (0:Int32).toInt ≤ (0:Int)) (by decide : (0:Int) ≤ 500)) rfl ((hC17.1 70 0 rfl).1.trans rfl) (by have kf51 : (0 : Int32).toInt = 0 := (by decide); omega) (by have kf52 : (0 : Int32).toInt = 0 := (by decide); omega) rfl
def wl_m_laysCalls : List (Nat × Nat) := [(69, 39), (70, 175211755), (84, 9999), (85, 9999), (87, 9999)]
def Q_m_laysCalls (gi : Nat → Nat → Int32) (gl : Nat → Nat → Int64) (gr : Nat → Nat → Value) (ar1 : Int32) (ar2 : Int32) : (Nat → Nat → Int32) → (Nat → Nat → Int64) → (Nat → Nat → Value) → Prop := fun (gi2 : Nat → Nat → Int32) (gl2 : Nat → Nat → Int64) (gr2 : Nat → Nat → Value) => 2 ≤ (gi2 69 39).toInt ∧ (gi2 69 39).toInt ≤ 30
theorem c_m_laysCalls {X : x_Ext} {d : Nat} {sh : List (Nat ⊕ (Nat × Nat))} {gi : Nat → Nat → Int32} {gl : Nat → Nat → Int64} {gr : Nat → Nat → Value} (hI : t_I sh gi gr) (ar1 : Int32) (l_a1 : 1 ≤ ar1.toInt) (u_a1 : ar1.toInt ≤ 4) (ar2 : Int32) (l_a2 : 0 ≤ ar2.toInt) (u_a2 : ar2.toInt ≤ 9) : x_Me X (d + 2) n_X12_laysCalls [.ref 69, .int ar1, .int ar2] (sh, gi, gl, gr) (t_PN wl_m_laysCalls sh gi gl gr (Q_m_laysCalls gi gl gr ar1 ar2)) := by
  have hX : t_X wl_m_laysCalls sh gi gl gr gi gl gr := t_X.rf
  refine me_i f_X12_laysCalls (hI.wf.s rfl) rfl rfl rfl ?_
  obtain ⟨l1, u1⟩ := hI.b (hI.wf.s (k := 69) rfl) (rfl : t_bd 11 39 = some (0, 30))
  refine ev_loc f_X12_laysCalls (nx := 1) rfl rfl rfl rfl ?_
  refine ev_ic f_X12_laysCalls (nx := 2) (v := 0) rfl (by decide) rfl ?_
  refine ev_putIT f_X12_laysCalls (nx := 5) rfl (hI.wf.s rfl) rfl rfl rfl (hI.putB (hI.wf.s rfl) rfl rfl (by decide : (0:Int) ≤ (0:Int32).toInt) (by decide) (by decide : (0:Int32).toInt ≤ (0:Int)) (by decide)) (hX.upI rfl) (fun g2 e2 hI hX => ?_)
  refine ev_ic f_X12_laysCalls (nx := 6) (v := 1) rfl (by decide) rfl ?_
  refine ev_loc f_X12_laysCalls (nx := 7) (lo' := [(3, .int 1), (0, .ref 69), (1, .int ar1), (2, .int ar2)]) rfl rfl rfl rfl ?_
  have L3 : ∀ (m3 : Nat) (gi3 : Nat → Nat → Int32) (gl3 : Nat → Nat → Int64) (gr3 : Nat → Nat → Value) (y3_3 : Int32), t_I sh gi3 gr3 → t_X wl_m_laysCalls sh gi gl gr gi3 gl3 gr3 → 1 ≤ y3_3.toInt → y3_3.toInt ≤ 5 → ((y3_3.toInt = 1 ∧ (gi3 69 39).toInt = 0) ∨ (y3_3.toInt = 2 ∧ (gi3 69 39).toInt = 2) ∨ (y3_3.toInt = 3 ∧ (gi3 69 39).toInt = 6) ∨ (y3_3.toInt = 4 ∧ (gi3 69 39).toInt = 14) ∨ (y3_3.toInt = 5 ∧ (gi3 69 39).toInt = 30)) → (5 - y3_3.toInt).toNat = m3 → x_Ev X (d + 2) n_X12_laysCalls 7 [(3, .int y3_3), (0, .ref 69), (1, .int ar1), (2, .int ar2)] [] (sh, gi3, gl3, gr3) (t_PN wl_m_laysCalls sh gi gl gr (Q_m_laysCalls gi gl gr ar1 ar2)) := by
    intro m3
    induction m3 using Nat.strongRecOn with
    | _ m3 ih3 =>
    intro gi3 gl3 gr3 y3_3 hI hX l3_3 u3_3 j3_0 hm3
    obtain ⟨l4, u4⟩ := hI.b (hI.wf.s (k := 69) rfl) (rfl : t_bd 11 39 = some (0, 30))
    refine ev_loc f_X12_laysCalls (nx := 8) rfl rfl rfl rfl ?_
    refine ev_loc f_X12_laysCalls (nx := 9) rfl rfl rfl rfl ?_
    refine ev_if f_X12_laysCalls (t1 := 172) (t2 := 12) rfl rfl rfl (fun h5 => ?_) (fun h5 => ?_)
    · have r6 : ar1.toInt < y3_3.toInt := Int32.lt_iff_toInt_lt.mp h5
      have l7 : 2 ≤ y3_3.toInt := t_ltl h5 l_a1 rfl
      exact ev_ret f_X12_laysCalls rfl rfl rfl ⟨_, _, _, rfl, hI, hX, ⟨rfl, (show 2 ≤ (gi3 69 39).toInt ∧ (gi3 69 39).toInt ≤ 30 from (by omega))⟩⟩
    · have r8 : y3_3.toInt ≤ ar1.toInt := Int32.le_iff_toInt_le.mp (t_nlt h5)
      have u9 : y3_3.toInt ≤ 4 := t_leu (t_nlt h5) u_a1
      refine ev_ic f_X12_laysCalls (nx := 13) (v := 0) rfl (by decide) rfl ?_
      refine ev_loc f_X12_laysCalls (nx := 15) (lo' := [(4, .int 0), (3, .int y3_3), (0, .ref 69), (1, .int ar1), (2, .int ar2)]) rfl rfl rfl rfl ?_
      have L10 : ∀ (m10 : Nat) (gi10 : Nat → Nat → Int32) (gl10 : Nat → Nat → Int64) (gr10 : Nat → Nat → Value) (y10_4 : Int32), t_I sh gi10 gr10 → t_X wl_m_laysCalls sh gi gl gr gi10 gl10 gr10 → 0 ≤ y10_4.toInt → y10_4.toInt ≤ 16 → ((y3_3.toInt = 1 ∧ (gi10 69 39).toInt = y10_4.toInt ∧ y10_4.toInt ≤ 2) ∨ (y3_3.toInt = 2 ∧ (gi10 69 39).toInt = 2 + y10_4.toInt ∧ y10_4.toInt ≤ 4) ∨ (y3_3.toInt = 3 ∧ (gi10 69 39).toInt = 6 + y10_4.toInt ∧ y10_4.toInt ≤ 8) ∨ (y3_3.toInt = 4 ∧ (gi10 69 39).toInt = 14 + y10_4.toInt ∧ y10_4.toInt ≤ 16)) → (16 - y10_4.toInt).toNat = m10 → x_Ev X (d + 2) n_X12_laysCalls 15 [(4, .int y10_4), (3, .int y3_3), (0, .ref 69), (1, .int ar1), (2, .int ar2)] [] (sh, gi10, gl10, gr10) (t_PN wl_m_laysCalls sh gi gl gr (Q_m_laysCalls gi gl gr ar1 ar2)) := by
        intro m10
        induction m10 using Nat.strongRecOn with
        | _ m10 ih10 =>
        intro gi10 gl10 gr10 y10_4 hI hX l10_4 u10_4 j10_0 hm10
        obtain ⟨l11, u11⟩ := hI.b (hI.wf.s (k := 69) rfl) (rfl : t_bd 11 39 = some (0, 30))
        refine ev_loc f_X12_laysCalls (nx := 17) rfl rfl rfl rfl ?_
        refine ev_ic f_X12_laysCalls (nx := 18) (v := 1) rfl (by decide) rfl ?_
        refine ev_loc f_X12_laysCalls (nx := 19) rfl rfl rfl rfl ?_
        refine ev_shl1E f_X12_laysCalls (nx := 20) rfl l3_3 u9 (by decide) (by decide) rfl (fun z12 s12 => ?_)
        have l12 : 2 ≤ z12.toInt := by have := l3_3; have := u9; omega
        have u12 : z12.toInt ≤ 16 := by have := l3_3; have := u9; omega
        refine ev_if f_X12_laysCalls (t1 := 166) (t2 := 23) rfl rfl rfl (fun h13 => ?_) (fun h13 => ?_)
        · have r14 : z12.toInt ≤ y10_4.toInt := Int32.le_iff_toInt_le.mp h13
          have l15 : 2 ≤ y10_4.toInt := t_lel h13 l12
          refine ev_incR f_X12_laysCalls (nx := 169) (c := 1) (l := 2) (u := 5) rfl rfl (by decide) (by decide) l3_3 u9 rfl rfl (by decide) (by decide) rfl (fun z16 e16 l16 u16 => ?_)
          refine ev_jmp f_X12_laysCalls (nx := 7) rfl rfl rfl ?_
          refine ev_sub (lo := [(3, .int z16), (0, .ref 69), (1, .int ar1), (2, .int ar2)]) rfl (t_sc rfl (t_sc rfl (t_sc rfl (t_sc rfl t_sn)))) ?_
          exact ih3 _ (by omega) gi10 gl10 gr10 (z16) hI hX  (Int.le_trans (by decide : (1:Int) ≤ 2) l16) u16 (by omega) rfl
        · have r17 : y10_4.toInt < z12.toInt := Int32.lt_iff_toInt_lt.mp (t_nle h13)
          have u18 : y10_4.toInt ≤ 15 := t_ltu (t_nle h13) u12 rfl
          refine ev_lc f_X12_laysCalls (nx := 24) (v := 0) rfl (by decide) rfl ?_
          refine ev_loc f_X12_laysCalls (nx := 26) (lo' := [(5, .long 0), (4, .int y10_4), (3, .int y3_3), (0, .ref 69), (1, .int ar1), (2, .int ar2)]) rfl rfl rfl rfl ?_
          refine ev_ic f_X12_laysCalls (nx := 27) (v := 0) rfl (by decide) rfl ?_
          refine ev_loc f_X12_laysCalls (nx := 29) (lo' := [(7, .int 0), (5, .long 0), (4, .int y10_4), (3, .int y3_3), (0, .ref 69), (1, .int ar1), (2, .int ar2)]) rfl rfl rfl rfl ?_
          have L19 : ∀ (m19 : Nat) (gi19 : Nat → Nat → Int32) (gl19 : Nat → Nat → Int64) (gr19 : Nat → Nat → Value) (y19_7 : Int32) (y19_5 : Int64), t_I sh gi19 gr19 → t_X wl_m_laysCalls sh gi gl gr gi19 gl19 gr19 → 0 ≤ y19_7.toInt → y19_7.toInt ≤ 4 → ((y3_3.toInt = 1 ∧ (gi19 69 39).toInt = y10_4.toInt ∧ y10_4.toInt < 2) ∨ (y3_3.toInt = 2 ∧ (gi19 69 39).toInt = 2 + y10_4.toInt ∧ y10_4.toInt < 4) ∨ (y3_3.toInt = 3 ∧ (gi19 69 39).toInt = 6 + y10_4.toInt ∧ y10_4.toInt < 8) ∨ (y3_3.toInt = 4 ∧ (gi19 69 39).toInt = 14 + y10_4.toInt ∧ y10_4.toInt < 16)) → (4 - y19_7.toInt).toNat = m19 → x_Ev X (d + 2) n_X12_laysCalls 29 [(7, .int y19_7), (5, .long y19_5), (4, .int y10_4), (3, .int y3_3), (0, .ref 69), (1, .int ar1), (2, .int ar2)] [] (sh, gi19, gl19, gr19) (t_PN wl_m_laysCalls sh gi gl gr (Q_m_laysCalls gi gl gr ar1 ar2)) := by
            intro m19
            induction m19 using Nat.strongRecOn with
            | _ m19 ih19 =>
            intro gi19 gl19 gr19 y19_7 y19_5 hI hX l19_7 u19_7 j19_0 hm19
            obtain ⟨l20, u20⟩ := hI.b (hI.wf.s (k := 69) rfl) (rfl : t_bd 11 39 = some (0, 30))
            refine ev_loc f_X12_laysCalls (nx := 31) rfl rfl rfl rfl ?_
            refine ev_loc f_X12_laysCalls (nx := 32) rfl rfl rfl rfl ?_
            refine ev_if f_X12_laysCalls (t1 := 108) (t2 := 35) rfl rfl rfl (fun h21 => ?_) (fun h21 => ?_)
            · have r22 : y3_3.toInt ≤ y19_7.toInt := Int32.le_iff_toInt_le.mp h21
              have l23 : 1 ≤ y19_7.toInt := t_lel h21 l3_3
              refine ev_loc f_X12_laysCalls (nx := 109) rfl rfl rfl rfl ?_
              refine ev_getR f_X12_laysCalls (nx := 112) rfl (hI.wf.s rfl) rfl rfl (hI.wf.r rfl) rfl rfl ?_
              refine ev_loc f_X12_laysCalls (nx := 113) rfl rfl rfl rfl ?_
              refine ev_gvI f_X12_laysCalls (nx := 116) (w := (gi19 69 39)) rfl (hI.wf.s rfl) rfl rfl rfl rfl ?_
              refine ev_loc f_X12_laysCalls (nx := 117) rfl rfl rfl rfl ?_
              refine ev_sp f_X12_laysCalls (nx := 120) (v := 1752) rfl (by decide) rfl ?_
              refine ev_loc f_X12_laysCalls (nx := 121) rfl rfl rfl rfl ?_
              refine ev_qL f_X12_laysCalls (nx := 124) (r := [.int (gi19 69 39), .ref 84]) rfl rfl rfl rfl rfl rfl rfl (c_m_beatsOf hI (1752) (Int.le_trans (by decide : (11:Int) ≤ 1752) (by decide : (1752:Int) ≤ (1752:Int32).toInt)) (by decide : (1752:Int32).toInt ≤ (1752:Int)) (y3_3) (Int.le_trans u9 (by decide : (4:Int) ≤ 6))) rfl hX rfl (fun w24 gi24 gl24 gr24 hI hX hC24 q24 => ?_)
              have q24 : 0 ≤ w24.toInt ∧ w24.toInt < 16777216 := q24
              refine ev_loc f_X12_laysCalls (nx := 125) rfl rfl rfl rfl ?_
              refine ev_inS2 f_X12_laysCalls (nx := 128) (lo2 := [(0, .long w24), (2, .int ar2)]) rfl rfl rfl rfl f_X12_echoed rfl rfl rfl rfl ?_
              refine ev_loc f_X12_echoed (nx := 1) rfl rfl rfl rfl ?_
              refine ev_if f_X12_echoed (t1 := 4) (t2 := 8) rfl rfl rfl (fun h25 => ?_) (fun h25 => ?_)
              · have u26 : ar2.toInt ≤ 0 := t_equ h25 (by decide : (0:Int32).toInt ≤ (0:Int))
                refine ev_loc f_X12_echoed (nx := 5) rfl rfl rfl rfl ?_
                refine ev_jmp f_X12_echoed (nx := 13) rfl rfl rfl ?_
                refine ev_retK1 f_X12_echoed rfl rfl rfl ?_
                have u28 : (gi19 69 39).toInt ≤ (29:Int) := (by omega)
                refine ev_lastT f_X12_laysCalls (nx := 129) rfl (hI.wf.s rfl) l20 (by decide) u28 (by decide) rfl (hX.upL (t_inA_ok rfl)) (fun g27 e27 hX => ?_)
                refine ev_loc f_X12_laysCalls (nx := 130) rfl rfl rfl rfl ?_
                refine ev_getR f_X12_laysCalls (nx := 133) rfl (hI.wf.s rfl) rfl rfl (hI.wf.r rfl) rfl rfl ?_
                refine ev_loc f_X12_laysCalls (nx := 134) rfl rfl rfl rfl ?_
                refine ev_gvI f_X12_laysCalls (nx := 137) (w := (gi19 69 39)) rfl (hI.wf.s rfl) rfl rfl ((hC24.1 69 39 rfl).1.trans rfl) rfl ?_
                refine ev_loc f_X12_laysCalls (nx := 139) rfl rfl rfl rfl ?_
                refine ev_lastT f_X12_laysCalls (nx := 140) rfl (hI.wf.s rfl) l20 (by decide) u28 (by decide) rfl (hX.upL (t_inA_ok rfl)) (fun g29 e29 hX => ?_)
                refine ev_loc f_X12_laysCalls (nx := 141) rfl rfl rfl rfl ?_
                refine ev_getR f_X12_laysCalls (nx := 144) rfl (hI.wf.s rfl) rfl rfl (hI.wf.r rfl) rfl rfl ?_
                refine ev_loc f_X12_laysCalls (nx := 145) rfl rfl rfl rfl ?_
                refine ev_gvI f_X12_laysCalls (nx := 148) (w := (gi19 69 39)) rfl (hI.wf.s rfl) rfl rfl ((hC24.1 69 39 rfl).1.trans rfl) rfl ?_
                refine ev_loc f_X12_laysCalls (nx := 149) rfl rfl rfl rfl ?_
                refine ev_iastT f_X12_laysCalls (nx := 150) rfl (hI.wf.s rfl) l20 (by decide) u28 (by decide) rfl (hI.astG (hI.wf.s rfl) (fun lo hi e => absurd e (t_nob (by decide +kernel) _)) (fun k hk e => by have := hk.2.1; omega)) (hX.upI (t_inA_ok rfl)) (fun g30 e30 hI hX => ?_)
                refine ev_loc f_X12_laysCalls (nx := 151) rfl rfl rfl rfl ?_
                refine ev_alu f_X12_laysCalls (nx := 152) rfl rfl rfl rfl ?_
                refine ev_gvI f_X12_laysCalls (nx := 155) (w := (gi19 69 39)) rfl (hI.wf.s rfl) rfl rfl ((by rw [e30]; exact x_up2_off (Or.inl (by decide)) : g30 69 39 = gi24 69 39).trans ((hC24.1 69 39 rfl).1.trans rfl)) rfl ?_
                refine ev_ic f_X12_laysCalls (nx := 156) (v := 1) rfl (by decide) rfl ?_
                refine ev_addC f_X12_laysCalls (nx := 157) (c := 1) (l := 1) (u := 30) rfl (by decide) l20 u28 rfl rfl (by decide) (by decide) rfl (fun z31 e31 l31 u31 => ?_)
                refine ev_putIT f_X12_laysCalls (nx := 160) rfl (hI.wf.s rfl) rfl rfl rfl (hI.putB (hI.wf.s rfl) rfl rfl l31 (by decide) u31 (by decide)) (hX.upI rfl) (fun g32 e32 hI hX => ?_)
                refine ev_incR f_X12_laysCalls (nx := 163) (c := 1) (l := 1) (u := 16) rfl rfl (by decide) (by decide) l10_4 u18 rfl rfl (by decide) (by decide) rfl (fun z33 e33 l33 u33 => ?_)
                refine ev_jmp f_X12_laysCalls (nx := 15) rfl rfl rfl ?_
                refine ev_sub (lo := [(4, .int z33), (3, .int y3_3), (0, .ref 69), (1, .int ar1), (2, .int ar2)]) rfl (t_sc rfl (t_sc rfl (t_sc rfl (t_sc rfl (t_sc rfl t_sn))))) ?_
                exact ih10 _ (by omega) g32 g29 gr24 (z33) hI hX  (Int.le_trans (by decide : (0:Int) ≤ 1) l33) u33 (by have ff34 : (g32 69 39).toInt = z31.toInt := congrArg Int32.toInt (by rw [e32]; exact x_up2_at _ _ _ _ : g32 69 39 = z31); omega) rfl
              · have r35 : ar2.toInt ≠ 0 := fun e => h25 (Int32.toInt_inj.mp (e.trans (by decide : (0:Int) = (0 : Int32).toInt)))
                have l36 : 1 ≤ ar2.toInt := t_nel h25 l_a2 rfl rfl
                refine ev_loc f_X12_echoed (nx := 9) rfl rfl rfl rfl ?_
                refine ev_loc f_X12_echoed (nx := 10) rfl rfl rfl rfl ?_
                refine ev_loc f_X12_echoed (nx := 11) rfl rfl rfl rfl ?_
                refine ev_anyL f_X12_echoed (nx := 12) rfl rfl rfl rfl (fun z37 => ?_)
                refine ev_anyL f_X12_echoed (nx := 13) rfl rfl rfl rfl (fun z38 => ?_)
                refine ev_retK1 f_X12_echoed rfl rfl rfl ?_
                have u40 : (gi19 69 39).toInt ≤ (29:Int) := (by omega)
                refine ev_lastT f_X12_laysCalls (nx := 129) rfl (hI.wf.s rfl) l20 (by decide) u40 (by decide) rfl (hX.upL (t_inA_ok rfl)) (fun g39 e39 hX => ?_)
                refine ev_loc f_X12_laysCalls (nx := 130) rfl rfl rfl rfl ?_
                refine ev_getR f_X12_laysCalls (nx := 133) rfl (hI.wf.s rfl) rfl rfl (hI.wf.r rfl) rfl rfl ?_
                refine ev_loc f_X12_laysCalls (nx := 134) rfl rfl rfl rfl ?_
                refine ev_gvI f_X12_laysCalls (nx := 137) (w := (gi19 69 39)) rfl (hI.wf.s rfl) rfl rfl ((hC24.1 69 39 rfl).1.trans rfl) rfl ?_
                refine ev_loc f_X12_laysCalls (nx := 139) rfl rfl rfl rfl ?_
                refine ev_lastT f_X12_laysCalls (nx := 140) rfl (hI.wf.s rfl) l20 (by decide) u40 (by decide) rfl (hX.upL (t_inA_ok rfl)) (fun g41 e41 hX => ?_)
                refine ev_loc f_X12_laysCalls (nx := 141) rfl rfl rfl rfl ?_
                refine ev_getR f_X12_laysCalls (nx := 144) rfl (hI.wf.s rfl) rfl rfl (hI.wf.r rfl) rfl rfl ?_
                refine ev_loc f_X12_laysCalls (nx := 145) rfl rfl rfl rfl ?_
                refine ev_gvI f_X12_laysCalls (nx := 148) (w := (gi19 69 39)) rfl (hI.wf.s rfl) rfl rfl ((hC24.1 69 39 rfl).1.trans rfl) rfl ?_
                refine ev_loc f_X12_laysCalls (nx := 149) rfl rfl rfl rfl ?_
                refine ev_iastT f_X12_laysCalls (nx := 150) rfl (hI.wf.s rfl) l20 (by decide) u40 (by decide) rfl (hI.astG (hI.wf.s rfl) (fun lo hi e => absurd e (t_nob (by decide +kernel) _)) (fun k hk e => by have := hk.2.1; omega)) (hX.upI (t_inA_ok rfl)) (fun g42 e42 hI hX => ?_)
                refine ev_loc f_X12_laysCalls (nx := 151) rfl rfl rfl rfl ?_
                refine ev_alu f_X12_laysCalls (nx := 152) rfl rfl rfl rfl ?_
                refine ev_gvI f_X12_laysCalls (nx := 155) (w := (gi19 69 39)) rfl (hI.wf.s rfl) rfl rfl ((by rw [e42]; exact x_up2_off (Or.inl (by decide)) : g42 69 39 = gi24 69 39).trans ((hC24.1 69 39 rfl).1.trans rfl)) rfl ?_
                refine ev_ic f_X12_laysCalls (nx := 156) (v := 1) rfl (by decide) rfl ?_
                refine ev_addC f_X12_laysCalls (nx := 157) (c := 1) (l := 1) (u := 30) rfl (by decide) l20 u40 rfl rfl (by decide) (by decide) rfl (fun z43 e43 l43 u43 => ?_)
                refine ev_putIT f_X12_laysCalls (nx := 160) rfl (hI.wf.s rfl) rfl rfl rfl (hI.putB (hI.wf.s rfl) rfl rfl l43 (by decide) u43 (by decide)) (hX.upI rfl) (fun g44 e44 hI hX => ?_)
                refine ev_incR f_X12_laysCalls (nx := 163) (c := 1) (l := 1) (u := 16) rfl rfl (by decide) (by decide) l10_4 u18 rfl rfl (by decide) (by decide) rfl (fun z45 e45 l45 u45 => ?_)
                refine ev_jmp f_X12_laysCalls (nx := 15) rfl rfl rfl ?_
                refine ev_sub (lo := [(4, .int z45), (3, .int y3_3), (0, .ref 69), (1, .int ar1), (2, .int ar2)]) rfl (t_sc rfl (t_sc rfl (t_sc rfl (t_sc rfl (t_sc rfl t_sn))))) ?_
                exact ih10 _ (by omega) g44 g41 gr24 (z45) hI hX  (Int.le_trans (by decide : (0:Int) ≤ 1) l45) u45 (by have ff46 : (g44 69 39).toInt = z43.toInt := congrArg Int32.toInt (by rw [e44]; exact x_up2_at _ _ _ _ : g44 69 39 = z43); omega) rfl
            · have r47 : y19_7.toInt < y3_3.toInt := Int32.lt_iff_toInt_lt.mp (t_nle h21)
              have u48 : y19_7.toInt ≤ 3 := t_ltu (t_nle h21) u9 rfl
              refine ev_loc f_X12_laysCalls (nx := 37) rfl rfl rfl rfl ?_
              refine ev_loc f_X12_laysCalls (nx := 38) rfl rfl rfl rfl ?_
              refine ev_ic f_X12_laysCalls (nx := 39) (v := 1) rfl (by decide) rfl ?_
              refine ev_subC f_X12_laysCalls (nx := 40) (c := 1) (l := 0) (u := 3) rfl (by decide) l3_3 u9 rfl rfl (by decide) (by decide) rfl (fun z49 e49 l49 u49 => ?_)
              refine ev_loc f_X12_laysCalls (nx := 42) rfl rfl rfl rfl ?_
              refine ev_subR f_X12_laysCalls (nx := 43) (l := (-3)) (u := 3) rfl l49 u49 l19_7 u48 rfl rfl (by decide) (by decide) rfl (fun z50 e50 l50 u50 => ?_)
              refine ev_anyI f_X12_laysCalls (nx := 44) rfl rfl rfl rfl (fun z51 => ?_)
              refine ev_ic f_X12_laysCalls (nx := 45) (v := 1) rfl (by decide) rfl ?_
              refine ev_andE f_X12_laysCalls (nx := 46) (c := 1) rfl (by decide) (by decide) rfl (fun z52 e52 l52 u52 => ?_)
              refine ev_ic f_X12_laysCalls (nx := 47) (v := 1) rfl (by decide) rfl ?_
              refine ev_if f_X12_laysCalls (t1 := 50) (t2 := 54) rfl rfl rfl (fun h53 => ?_) (fun h53 => ?_)
              · have l54 : 1 ≤ z52.toInt := t_eql h53 (by decide : (1:Int) ≤ (1:Int32).toInt)
                refine ev_ic f_X12_laysCalls (nx := 51) (v := 1) rfl (by decide) rfl ?_
                refine ev_jmp f_X12_laysCalls (nx := 55) rfl rfl rfl ?_
                refine ev_loc f_X12_laysCalls (nx := 57) (lo' := [(8, .int 1), (7, .int y19_7), (5, .long y19_5), (4, .int y10_4), (3, .int y3_3), (0, .ref 69), (1, .int ar1), (2, .int ar2)]) rfl rfl rfl rfl ?_
                refine ev_loc f_X12_laysCalls (nx := 58) rfl rfl rfl rfl ?_
                refine ev_getR f_X12_laysCalls (nx := 61) rfl (hI.wf.s rfl) rfl rfl (hI.wf.r rfl) rfl rfl ?_
                refine ev_sp f_X12_laysCalls (nx := 64) (v := 1752) rfl (by decide) rfl ?_
                refine ev_loc f_X12_laysCalls (nx := 66) rfl rfl rfl rfl ?_
                refine ev_addK f_X12_laysCalls (nx := 67) (c := 1752) (l := 1752) (u := 1755) rfl (by decide) l19_7 u48 rfl rfl (by decide) (by decide) rfl (fun z55 e55 l55 u55 => ?_)
                refine ev_loc f_X12_laysCalls (nx := 69) rfl rfl rfl rfl ?_
                refine ev_f f_X12_laysCalls (t1 := 77) (t2 := 72) rfl rfl rfl (by decide) ?_
                refine ev_bp f_X12_laysCalls (nx := 74) (v := 115) rfl (by decide) rfl ?_
                refine ev_jmp f_X12_laysCalls (nx := 79) rfl rfl rfl ?_
                refine ev_iastT f_X12_laysCalls (nx := 80) rfl (hI.wf.s rfl) l55 (by decide) u55 (by decide) rfl (hI.astL (hI.wf.s rfl) (by decide +kernel : t_abw 70 1752 1755 115 115 = true) (t_cl1 l55 (by decide)) (t_cl2 l55 u55 (by decide) (by decide)) (by decide : (115:Int) ≤ (115:Int32).toInt) (by decide : (115:Int32).toInt ≤ (115:Int)) rfl) (hX.upI (t_inR (p := 1752) (m := 1755) rfl l55 (by decide) u55 (by decide) (by decide))) (fun g56 e56 hI hX => ?_)
                refine ev_ldL f_X12_laysCalls (nx := 83) (v := 32) rfl (by decide) rfl ?_
                refine ev_loc f_X12_laysCalls (nx := 85) rfl rfl rfl rfl ?_
                refine ev_anyL f_X12_laysCalls (nx := 86) rfl rfl rfl rfl (fun z57 => ?_)
                refine ev_loc f_X12_laysCalls (nx := 88) rfl rfl rfl rfl ?_
                refine ev_f f_X12_laysCalls (t1 := 96) (t2 := 91) rfl rfl rfl (by decide) ?_
                refine ev_bp f_X12_laysCalls (nx := 93) (v := 19) rfl (by decide) rfl ?_
                refine ev_jmp f_X12_laysCalls (nx := 98) rfl rfl rfl ?_
                refine ev_aluvL f_X12_laysCalls (nx := 99) (w := 19) rfl rfl rfl (by decide) rfl ?_
                refine ev_anyL f_X12_laysCalls (nx := 100) rfl rfl rfl rfl (fun z58 => ?_)
                refine ev_loc f_X12_laysCalls (nx := 102) (lo' := [(5, .long z58), (8, .int 1), (7, .int y19_7), (4, .int y10_4), (3, .int y3_3), (0, .ref 69), (1, .int ar1), (2, .int ar2)]) rfl rfl rfl rfl ?_
                refine ev_incR f_X12_laysCalls (nx := 105) (c := 1) (l := 1) (u := 4) rfl rfl (by decide) (by decide) l19_7 u48 rfl rfl (by decide) (by decide) rfl (fun z59 e59 l59 u59 => ?_)
                refine ev_jmp f_X12_laysCalls (nx := 29) rfl rfl rfl ?_
                refine ev_sub (lo := [(7, .int z59), (5, .long z58), (4, .int y10_4), (3, .int y3_3), (0, .ref 69), (1, .int ar1), (2, .int ar2)]) rfl (t_sc rfl (t_sc rfl (t_sc rfl (t_sc rfl (t_sc rfl (t_sc rfl (t_sc rfl t_sn))))))) ?_
                exact ih19 _ (by omega) g56 gl19 gr19 (z59) (z58) hI hX  (Int.le_trans (by decide : (0:Int) ≤ 1) l59) u59 (by have ff60 : (g56 69 39).toInt = (gi19 69 39).toInt := congrArg Int32.toInt ((by rw [e56]; exact x_up2_off (Or.inl (by decide)) : g56 69 39 = gi19 69 39).trans rfl); omega) rfl
              · have r61 : z52.toInt ≠ 1 := fun e => h53 (Int32.toInt_inj.mp (e.trans (by decide : (1:Int) = (1 : Int32).toInt)))
                have u62 : z52.toInt ≤ 0 := t_neu h53 u52 rfl rfl
                refine ev_ic f_X12_laysCalls (nx := 55) (v := 0) rfl (by decide) rfl ?_
                refine ev_loc f_X12_laysCalls (nx := 57) (lo' := [(8, .int 0), (7, .int y19_7), (5, .long y19_5), (4, .int y10_4), (3, .int y3_3), (0, .ref 69), (1, .int ar1), (2, .int ar2)]) rfl rfl rfl rfl ?_
                refine ev_loc f_X12_laysCalls (nx := 58) rfl rfl rfl rfl ?_
                refine ev_getR f_X12_laysCalls (nx := 61) rfl (hI.wf.s rfl) rfl rfl (hI.wf.r rfl) rfl rfl ?_
                refine ev_sp f_X12_laysCalls (nx := 64) (v := 1752) rfl (by decide) rfl ?_
                refine ev_loc f_X12_laysCalls (nx := 66) rfl rfl rfl rfl ?_
                refine ev_addK f_X12_laysCalls (nx := 67) (c := 1752) (l := 1752) (u := 1755) rfl (by decide) l19_7 u48 rfl rfl (by decide) (by decide) rfl (fun z63 e63 l63 u63 => ?_)
                refine ev_loc f_X12_laysCalls (nx := 69) rfl rfl rfl rfl ?_
                refine ev_t f_X12_laysCalls (t1 := 77) (t2 := 72) rfl rfl rfl (by decide) ?_
                refine ev_bp f_X12_laysCalls (nx := 79) (v := 108) rfl (by decide) rfl ?_
                refine ev_iastT f_X12_laysCalls (nx := 80) rfl (hI.wf.s rfl) l63 (by decide) u63 (by decide) rfl (hI.astL (hI.wf.s rfl) (by decide +kernel : t_abw 70 1752 1755 108 108 = true) (t_cl1 l63 (by decide)) (t_cl2 l63 u63 (by decide) (by decide)) (by decide : (108:Int) ≤ (108:Int32).toInt) (by decide : (108:Int32).toInt ≤ (108:Int)) rfl) (hX.upI (t_inR (p := 1752) (m := 1755) rfl l63 (by decide) u63 (by decide) (by decide))) (fun g64 e64 hI hX => ?_)
                refine ev_ldL f_X12_laysCalls (nx := 83) (v := 32) rfl (by decide) rfl ?_
                refine ev_loc f_X12_laysCalls (nx := 85) rfl rfl rfl rfl ?_
                refine ev_anyL f_X12_laysCalls (nx := 86) rfl rfl rfl rfl (fun z65 => ?_)
                refine ev_loc f_X12_laysCalls (nx := 88) rfl rfl rfl rfl ?_
                refine ev_t f_X12_laysCalls (t1 := 96) (t2 := 91) rfl rfl rfl (by decide) ?_
                refine ev_bp f_X12_laysCalls (nx := 98) (v := 12) rfl (by decide) rfl ?_
                refine ev_aluvL f_X12_laysCalls (nx := 99) (w := 12) rfl rfl rfl (by decide) rfl ?_
                refine ev_anyL f_X12_laysCalls (nx := 100) rfl rfl rfl rfl (fun z66 => ?_)
                refine ev_loc f_X12_laysCalls (nx := 102) (lo' := [(5, .long z66), (8, .int 0), (7, .int y19_7), (4, .int y10_4), (3, .int y3_3), (0, .ref 69), (1, .int ar1), (2, .int ar2)]) rfl rfl rfl rfl ?_
                refine ev_incR f_X12_laysCalls (nx := 105) (c := 1) (l := 1) (u := 4) rfl rfl (by decide) (by decide) l19_7 u48 rfl rfl (by decide) (by decide) rfl (fun z67 e67 l67 u67 => ?_)
                refine ev_jmp f_X12_laysCalls (nx := 29) rfl rfl rfl ?_
                refine ev_sub (lo := [(7, .int z67), (5, .long z66), (4, .int y10_4), (3, .int y3_3), (0, .ref 69), (1, .int ar1), (2, .int ar2)]) rfl (t_sc rfl (t_sc rfl (t_sc rfl (t_sc rfl (t_sc rfl (t_sc rfl (t_sc rfl t_sn))))))) ?_
                exact ih19 _ (by omega) g64 gl19 gr19 (z67) (z66) hI hX  (Int.le_trans (by decide : (0:Int) ≤ 1) l67) u67 (by have ff68 : (g64 69 39).toInt = (gi19 69 39).toInt := congrArg Int32.toInt ((by rw [e64]; exact x_up2_off (Or.inl (by decide)) : g64 69 39 = gi19 69 39).trans rfl); omega) rfl
          refine ev_sub (lo := [(7, .int 0), (5, .long 0), (4, .int y10_4), (3, .int y3_3), (0, .ref 69), (1, .int ar1), (2, .int ar2)]) rfl (t_sc rfl (t_sc rfl (t_sc rfl (t_sc rfl (t_sc rfl (t_sc rfl (t_sc rfl t_sn))))))) ?_
          exact L19 _ gi10 gl10 gr10 (0) (0) hI hX  (by decide : (0:Int) ≤ (0:Int32).toInt) (Int.le_trans (by decide : (0:Int32).toInt ≤ (0:Int)) (by decide : (0:Int) ≤ 4)) (by omega) rfl
      refine ev_sub (lo := [(4, .int 0), (3, .int y3_3), (0, .ref 69), (1, .int ar1), (2, .int ar2)]) rfl (t_sc rfl (t_sc rfl (t_sc rfl (t_sc rfl (t_sc rfl t_sn))))) ?_
      exact L10 _ gi3 gl3 gr3 (0) hI hX  (by decide : (0:Int) ≤ (0:Int32).toInt) (Int.le_trans (by decide : (0:Int32).toInt ≤ (0:Int)) (by decide : (0:Int) ≤ 16)) (by have kf69 : (0 : Int32).toInt = 0 := (by decide); omega) rfl
  refine ev_sub (lo := [(3, .int 1), (0, .ref 69), (1, .int ar1), (2, .int ar2)]) rfl (t_sc rfl (t_sc rfl (t_sc rfl (t_sc rfl t_sn)))) ?_
  exact L3 _ g2 gl gr (1) hI hX  (by decide : (1:Int) ≤ (1:Int32).toInt) (Int.le_trans (by decide : (1:Int32).toInt ≤ (1:Int)) (by decide : (1:Int) ≤ 5)) (by have kf70 : (1 : Int32).toInt = 1 := (by decide); have ff71 : (g2 69 39).toInt = 0 := (congrArg Int32.toInt (by rw [e2]; exact x_up2_at _ _ _ _ : g2 69 39 = 0)).trans (by decide); omega) rfl
def wl_m_isCode : List (Nat × Nat) := []
theorem c_m_isCode {X : x_Ext} {d : Nat} {sh : List (Nat ⊕ (Nat × Nat))} {gi : Nat → Nat → Int32} {gl : Nat → Nat → Int64} {gr : Nat → Nat → Value} (hI : t_I sh gi gr) (ar1 : Int32) (l_a1 : 1 ≤ ar1.toInt) (u_a1 : ar1.toInt ≤ 4) (e_p0 : (∀ j : Nat, (j : Int) < ar1.toInt → 0 ≤ (gi 88 j).toInt ∧ (gi 88 j).toInt ≤ 29)) : x_Me X (d + 1) n_X12_isCode [.ref 69, .int ar1] (sh, gi, gl, gr) (t_P wl_m_isCode sh gi gl gr (t_Ri 0 1)) := by
  have hX : t_X wl_m_isCode sh gi gl gr gi gl gr := t_X.rf
  refine me_i f_X12_isCode (hI.wf.s rfl) rfl rfl rfl ?_
  refine ev_ic f_X12_isCode (nx := 1) (v := 0) rfl (by decide) rfl ?_
  refine ev_loc f_X12_isCode (nx := 2) (lo' := [(2, .int 0), (0, .ref 69), (1, .int ar1)]) rfl rfl rfl rfl ?_
  have L1 : ∀ (m1 : Nat) (gi1 : Nat → Nat → Int32) (gl1 : Nat → Nat → Int64) (gr1 : Nat → Nat → Value) (y1_2 : Int32), t_I sh gi1 gr1 → t_X wl_m_isCode sh gi gl gr gi1 gl1 gr1 → 0 ≤ y1_2.toInt → y1_2.toInt ≤ 4 → (∀ j : Nat, (j : Int) < ar1.toInt → 0 ≤ (gi1 88 j).toInt ∧ (gi1 88 j).toInt ≤ 29) → (4 - y1_2.toInt).toNat = m1 → x_Ev X (d + 1) n_X12_isCode 2 [(2, .int y1_2), (0, .ref 69), (1, .int ar1)] [] (sh, gi1, gl1, gr1) (t_P wl_m_isCode sh gi gl gr (t_Ri 0 1)) := by
    intro m1
    induction m1 using Nat.strongRecOn with
    | _ m1 ih1 =>
    intro gi1 gl1 gr1 y1_2 hI hX l1_2 u1_2 j1_0 hm1
    refine ev_loc f_X12_isCode (nx := 3) rfl rfl rfl rfl ?_
    refine ev_loc f_X12_isCode (nx := 4) rfl rfl rfl rfl ?_
    refine ev_if f_X12_isCode (t1 := 122) (t2 := 7) rfl rfl rfl (fun h2 => ?_) (fun h2 => ?_)
    · have r3 : ar1.toInt ≤ y1_2.toInt := Int32.le_iff_toInt_le.mp h2
      have l4 : 1 ≤ y1_2.toInt := t_lel h2 l_a1
      refine ev_ic f_X12_isCode (nx := 123) (v := 1) rfl (by decide) rfl ?_
      exact ev_ret f_X12_isCode rfl rfl rfl ⟨_, _, _, rfl, hI, hX, ⟨_, rfl, (Int.le_trans (by decide : (0:Int) ≤ 1) (by decide : (1:Int) ≤ (1:Int32).toInt)), (by decide : (1:Int32).toInt ≤ (1:Int))⟩⟩
    · have r5 : y1_2.toInt < ar1.toInt := Int32.lt_iff_toInt_lt.mp (t_nle h2)
      have u6 : y1_2.toInt ≤ 3 := t_ltu (t_nle h2) u_a1 rfl
      refine ev_ic f_X12_isCode (nx := 8) (v := 0) rfl (by decide) rfl ?_
      refine ev_loc f_X12_isCode (nx := 9) (lo' := [(3, .int 0), (2, .int y1_2), (0, .ref 69), (1, .int ar1)]) rfl rfl rfl rfl ?_
      have L7 : ∀ (m7 : Nat) (gi7 : Nat → Nat → Int32) (gl7 : Nat → Nat → Int64) (gr7 : Nat → Nat → Value) (y7_3 : Int32), t_I sh gi7 gr7 → t_X wl_m_isCode sh gi gl gr gi7 gl7 gr7 → 0 ≤ y7_3.toInt → y7_3.toInt ≤ 3 → (∀ j : Nat, (j : Int) < ar1.toInt → 0 ≤ (gi7 88 j).toInt ∧ (gi7 88 j).toInt ≤ 29) → (3 - y7_3.toInt).toNat = m7 → x_Ev X (d + 1) n_X12_isCode 9 [(3, .int y7_3), (2, .int y1_2), (0, .ref 69), (1, .int ar1)] [] (sh, gi7, gl7, gr7) (t_P wl_m_isCode sh gi gl gr (t_Ri 0 1)) := by
        intro m7
        induction m7 using Nat.strongRecOn with
        | _ m7 ih7 =>
        intro gi7 gl7 gr7 y7_3 hI hX l7_3 u7_3 j7_0 hm7
        refine ev_loc f_X12_isCode (nx := 10) rfl rfl rfl rfl ?_
        refine ev_loc f_X12_isCode (nx := 11) rfl rfl rfl rfl ?_
        refine ev_if f_X12_isCode (t1 := 116) (t2 := 14) rfl rfl rfl (fun h8 => ?_) (fun h8 => ?_)
        · have r9 : y1_2.toInt ≤ y7_3.toInt := Int32.le_iff_toInt_le.mp h8
          refine ev_incR f_X12_isCode (nx := 119) (c := 1) (l := 1) (u := 4) rfl rfl (by decide) (by decide) l1_2 u6 rfl rfl (by decide) (by decide) rfl (fun z10 e10 l10 u10 => ?_)
          refine ev_jmp f_X12_isCode (nx := 2) rfl rfl rfl ?_
          refine ev_sub (lo := [(2, .int z10), (0, .ref 69), (1, .int ar1)]) rfl (t_sc rfl (t_sc rfl (t_sc rfl t_sn))) ?_
          exact ih1 _ (by omega) gi7 gl7 gr7 (z10) hI hX  (Int.le_trans (by decide : (0:Int) ≤ 1) l10) u10 j7_0 rfl
        · have r11 : y7_3.toInt < y1_2.toInt := Int32.lt_iff_toInt_lt.mp (t_nle h8)
          have u12 : y7_3.toInt ≤ 2 := t_ltu (t_nle h8) u6 rfl
          have l13 : 1 ≤ y1_2.toInt := t_ltl (t_nle h8) l7_3 rfl
          refine ev_loc f_X12_isCode (nx := 15) rfl rfl rfl rfl ?_
          refine ev_getR f_X12_isCode (nx := 18) rfl (hI.wf.s rfl) rfl rfl (hI.wf.r rfl) rfl rfl ?_
          refine ev_loc f_X12_isCode (nx := 19) rfl rfl rfl rfl ?_
          refine ev_getR f_X12_isCode (nx := 22) rfl (hI.wf.s rfl) rfl rfl (hI.wf.r rfl) rfl rfl ?_
          refine ev_loc f_X12_isCode (nx := 23) rfl rfl rfl rfl ?_
          refine ev_ialdT f_X12_isCode (nx := 24) rfl (hI.wf.s rfl) l13 (by decide) u6 (by decide) rfl (fun w14 e14 => ?_)
          obtain ⟨l14, u14⟩ := hI.abi e14 (by decide +kernel : t_abr 88 1 3 (-1) 30 = true) l13 (by decide) u6 (by decide)
          have l16 : (0:Int) ≤ w14.toInt := (by have hc := t_clamp (i := y1_2) (by omega); have hj := j7_0 y1_2.toNatClampNeg (by omega); rw [← e14] at hj; omega)
          have u16 : w14.toInt ≤ (29:Int) := (by have hc := t_clamp (i := y1_2) (by omega); have hj := j7_0 y1_2.toNatClampNeg (by omega); rw [← e14] at hj; omega)
          refine ev_laldT f_X12_isCode (nx := 25) rfl (hI.wf.s rfl) l16 (by decide) u16 (by decide) rfl (fun w15 e15 => ?_)
          refine ev_loc f_X12_isCode (nx := 26) rfl rfl rfl rfl ?_
          refine ev_getR f_X12_isCode (nx := 29) rfl (hI.wf.s rfl) rfl rfl (hI.wf.r rfl) rfl rfl ?_
          refine ev_loc f_X12_isCode (nx := 30) rfl rfl rfl rfl ?_
          refine ev_getR f_X12_isCode (nx := 33) rfl (hI.wf.s rfl) rfl rfl (hI.wf.r rfl) rfl rfl ?_
          refine ev_loc f_X12_isCode (nx := 34) rfl rfl rfl rfl ?_
          refine ev_ialdT f_X12_isCode (nx := 35) rfl (hI.wf.s rfl) l7_3 (by decide) u12 (by decide) rfl (fun w17 e17 => ?_)
          obtain ⟨l17, u17⟩ := hI.abi e17 (by decide +kernel : t_abr 88 0 2 (-1) 30 = true) l7_3 (by decide) u12 (by decide)
          have l19 : (0:Int) ≤ w17.toInt := (by have hc := t_clamp (i := y7_3) (by omega); have hj := j7_0 y7_3.toNatClampNeg (by omega); rw [← e17] at hj; omega)
          have u19 : w17.toInt ≤ (29:Int) := (by have hc := t_clamp (i := y7_3) (by omega); have hj := j7_0 y7_3.toNatClampNeg (by omega); rw [← e17] at hj; omega)
          refine ev_laldT f_X12_isCode (nx := 36) rfl (hI.wf.s rfl) l19 (by decide) u19 (by decide) rfl (fun w18 e18 => ?_)
          refine ev_anyI f_X12_isCode (nx := 37) rfl rfl rfl rfl (fun z20 => ?_)
          refine ev_if f_X12_isCode (t1 := 40) (t2 := 42) rfl rfl rfl (fun h21 => ?_) (fun h21 => ?_)
          · have u22 : z20.toInt ≤ 0 := t_equ h21 (by decide : (0:Int32).toInt ≤ (0:Int))
            have l23 : 0 ≤ z20.toInt := t_eql h21 (by decide : (0:Int) ≤ (0:Int32).toInt)
            refine ev_ic f_X12_isCode (nx := 41) (v := 0) rfl (by decide) rfl ?_
            exact ev_ret f_X12_isCode rfl rfl rfl ⟨_, _, _, rfl, hI, hX, ⟨_, rfl, (by decide : (0:Int) ≤ (0:Int32).toInt), (Int.le_trans (by decide : (0:Int32).toInt ≤ (0:Int)) (by decide : (0:Int) ≤ 1))⟩⟩
          · have r24 : z20.toInt ≠ 0 := fun e => h21 (Int32.toInt_inj.mp (e.trans (by decide : (0:Int) = (0 : Int32).toInt)))
            refine ev_ic f_X12_isCode (nx := 43) (v := 0) rfl (by decide) rfl ?_
            refine ev_loc f_X12_isCode (nx := 45) (lo' := [(4, .int 0), (3, .int y7_3), (2, .int y1_2), (0, .ref 69), (1, .int ar1)]) rfl rfl rfl rfl ?_
            have L25 : ∀ (m25 : Nat) (gi25 : Nat → Nat → Int32) (gl25 : Nat → Nat → Int64) (gr25 : Nat → Nat → Value) (y25_4 : Int32), t_I sh gi25 gr25 → t_X wl_m_isCode sh gi gl gr gi25 gl25 gr25 → 0 ≤ y25_4.toInt → y25_4.toInt ≤ 4 → (∀ j : Nat, (j : Int) < ar1.toInt → 0 ≤ (gi25 88 j).toInt ∧ (gi25 88 j).toInt ≤ 29) → (4 - y25_4.toInt).toNat = m25 → x_Ev X (d + 1) n_X12_isCode 45 [(4, .int y25_4), (3, .int y7_3), (2, .int y1_2), (0, .ref 69), (1, .int ar1)] [] (sh, gi25, gl25, gr25) (t_P wl_m_isCode sh gi gl gr (t_Ri 0 1)) := by
              intro m25
              induction m25 using Nat.strongRecOn with
              | _ m25 ih25 =>
              intro gi25 gl25 gr25 y25_4 hI hX l25_4 u25_4 j25_0 hm25
              refine ev_loc f_X12_isCode (nx := 47) rfl rfl rfl rfl ?_
              refine ev_loc f_X12_isCode (nx := 48) rfl rfl rfl rfl ?_
              refine ev_if f_X12_isCode (t1 := 110) (t2 := 51) rfl rfl rfl (fun h26 => ?_) (fun h26 => ?_)
              · have r27 : ar1.toInt ≤ y25_4.toInt := Int32.le_iff_toInt_le.mp h26
                have l28 : 1 ≤ y25_4.toInt := t_lel h26 l_a1
                refine ev_incR f_X12_isCode (nx := 113) (c := 1) (l := 1) (u := 3) rfl rfl (by decide) (by decide) l7_3 u12 rfl rfl (by decide) (by decide) rfl (fun z29 e29 l29 u29 => ?_)
                refine ev_jmp f_X12_isCode (nx := 9) rfl rfl rfl ?_
                refine ev_sub (lo := [(3, .int z29), (2, .int y1_2), (0, .ref 69), (1, .int ar1)]) rfl (t_sc rfl (t_sc rfl (t_sc rfl (t_sc rfl t_sn)))) ?_
                exact ih7 _ (by omega) gi25 gl25 gr25 (z29) hI hX  (Int.le_trans (by decide : (0:Int) ≤ 1) l29) u29 j25_0 rfl
              · have r30 : y25_4.toInt < ar1.toInt := Int32.lt_iff_toInt_lt.mp (t_nle h26)
                have u31 : y25_4.toInt ≤ 3 := t_ltu (t_nle h26) u_a1 rfl
                refine ev_loc f_X12_isCode (nx := 53) rfl rfl rfl rfl ?_
                refine ev_loc f_X12_isCode (nx := 54) rfl rfl rfl rfl ?_
                refine ev_if f_X12_isCode (t1 := 104) (t2 := 57) rfl rfl rfl (fun h32 => ?_) (fun h32 => ?_)
                · have r33 : y25_4.toInt = y1_2.toInt := t_eqi h32
                  have l34 : 1 ≤ y25_4.toInt := t_eql h32 l13
                  refine ev_incR f_X12_isCode (nx := 107) (c := 1) (l := 2) (u := 4) rfl rfl (by decide) (by decide) l34 u31 rfl rfl (by decide) (by decide) rfl (fun z35 e35 l35 u35 => ?_)
                  refine ev_jmp f_X12_isCode (nx := 45) rfl rfl rfl ?_
                  refine ev_sub (lo := [(4, .int z35), (3, .int y7_3), (2, .int y1_2), (0, .ref 69), (1, .int ar1)]) rfl (t_sc rfl (t_sc rfl (t_sc rfl (t_sc rfl (t_sc rfl t_sn))))) ?_
                  exact ih25 _ (by omega) gi25 gl25 gr25 (z35) hI hX  (Int.le_trans (by decide : (0:Int) ≤ 2) l35) u35 j25_0 rfl
                · have r36 : y25_4.toInt ≠ y1_2.toInt := t_nei h32
                  refine ev_loc f_X12_isCode (nx := 59) rfl rfl rfl rfl ?_
                  refine ev_loc f_X12_isCode (nx := 60) rfl rfl rfl rfl ?_
                  refine ev_if f_X12_isCode (t1 := 104) (t2 := 63) rfl rfl rfl (fun h37 => ?_) (fun h37 => ?_)
                  · have r38 : y25_4.toInt = y7_3.toInt := t_eqi h37
                    have u39 : y25_4.toInt ≤ 2 := t_equ h37 u12
                    refine ev_incR f_X12_isCode (nx := 107) (c := 1) (l := 1) (u := 3) rfl rfl (by decide) (by decide) l25_4 u39 rfl rfl (by decide) (by decide) rfl (fun z40 e40 l40 u40 => ?_)
                    refine ev_jmp f_X12_isCode (nx := 45) rfl rfl rfl ?_
                    refine ev_sub (lo := [(4, .int z40), (3, .int y7_3), (2, .int y1_2), (0, .ref 69), (1, .int ar1)]) rfl (t_sc rfl (t_sc rfl (t_sc rfl (t_sc rfl (t_sc rfl t_sn))))) ?_
                    exact ih25 _ (by omega) gi25 gl25 gr25 (z40) hI hX  (Int.le_trans (by decide : (0:Int) ≤ 1) l40) (Int.le_trans u40 (by decide : (3:Int) ≤ 4)) j25_0 rfl
                  · have r41 : y25_4.toInt ≠ y7_3.toInt := t_nei h37
                    refine ev_loc f_X12_isCode (nx := 64) rfl rfl rfl rfl ?_
                    refine ev_getR f_X12_isCode (nx := 67) rfl (hI.wf.s rfl) rfl rfl (hI.wf.r rfl) rfl rfl ?_
                    refine ev_loc f_X12_isCode (nx := 68) rfl rfl rfl rfl ?_
                    refine ev_getR f_X12_isCode (nx := 71) rfl (hI.wf.s rfl) rfl rfl (hI.wf.r rfl) rfl rfl ?_
                    refine ev_loc f_X12_isCode (nx := 72) rfl rfl rfl rfl ?_
                    refine ev_ialdT f_X12_isCode (nx := 73) rfl (hI.wf.s rfl) l13 (by decide) u6 (by decide) rfl (fun w42 e42 => ?_)
                    obtain ⟨l42, u42⟩ := hI.abi e42 (by decide +kernel : t_abr 88 1 3 (-1) 30 = true) l13 (by decide) u6 (by decide)
                    have l44 : (0:Int) ≤ w42.toInt := (by have hc := t_clamp (i := y1_2) (by omega); have hj := j25_0 y1_2.toNatClampNeg (by omega); rw [← e42] at hj; omega)
                    have u44 : w42.toInt ≤ (29:Int) := (by have hc := t_clamp (i := y1_2) (by omega); have hj := j25_0 y1_2.toNatClampNeg (by omega); rw [← e42] at hj; omega)
                    refine ev_laldT f_X12_isCode (nx := 74) rfl (hI.wf.s rfl) l44 (by decide) u44 (by decide) rfl (fun w43 e43 => ?_)
                    refine ev_loc f_X12_isCode (nx := 75) rfl rfl rfl rfl ?_
                    refine ev_getR f_X12_isCode (nx := 78) rfl (hI.wf.s rfl) rfl rfl (hI.wf.r rfl) rfl rfl ?_
                    refine ev_loc f_X12_isCode (nx := 79) rfl rfl rfl rfl ?_
                    refine ev_getR f_X12_isCode (nx := 82) rfl (hI.wf.s rfl) rfl rfl (hI.wf.r rfl) rfl rfl ?_
                    refine ev_loc f_X12_isCode (nx := 83) rfl rfl rfl rfl ?_
                    refine ev_ialdT f_X12_isCode (nx := 84) rfl (hI.wf.s rfl) l7_3 (by decide) u12 (by decide) rfl (fun w45 e45 => ?_)
                    obtain ⟨l45, u45⟩ := hI.abi e45 (by decide +kernel : t_abr 88 0 2 (-1) 30 = true) l7_3 (by decide) u12 (by decide)
                    have l47 : (0:Int) ≤ w45.toInt := (by have hc := t_clamp (i := y7_3) (by omega); have hj := j25_0 y7_3.toNatClampNeg (by omega); rw [← e45] at hj; omega)
                    have u47 : w45.toInt ≤ (29:Int) := (by have hc := t_clamp (i := y7_3) (by omega); have hj := j25_0 y7_3.toNatClampNeg (by omega); rw [← e45] at hj; omega)
                    refine ev_laldT f_X12_isCode (nx := 85) rfl (hI.wf.s rfl) l47 (by decide) u47 (by decide) rfl (fun w46 e46 => ?_)
                    refine ev_anyL f_X12_isCode (nx := 86) rfl rfl rfl rfl (fun z48 => ?_)
                    refine ev_loc f_X12_isCode (nx := 87) rfl rfl rfl rfl ?_
                    refine ev_getR f_X12_isCode (nx := 90) rfl (hI.wf.s rfl) rfl rfl (hI.wf.r rfl) rfl rfl ?_
                    refine ev_loc f_X12_isCode (nx := 91) rfl rfl rfl rfl ?_
                    refine ev_getR f_X12_isCode (nx := 94) rfl (hI.wf.s rfl) rfl rfl (hI.wf.r rfl) rfl rfl ?_
                    refine ev_loc f_X12_isCode (nx := 96) rfl rfl rfl rfl ?_
                    refine ev_ialdT f_X12_isCode (nx := 97) rfl (hI.wf.s rfl) l25_4 (by decide) u31 (by decide) rfl (fun w49 e49 => ?_)
                    obtain ⟨l49, u49⟩ := hI.abi e49 (by decide +kernel : t_abr 88 0 3 (-1) 30 = true) l25_4 (by decide) u31 (by decide)
                    have l51 : (0:Int) ≤ w49.toInt := (by have hc := t_clamp (i := y25_4) (by omega); have hj := j25_0 y25_4.toNatClampNeg (by omega); rw [← e49] at hj; omega)
                    have u51 : w49.toInt ≤ (29:Int) := (by have hc := t_clamp (i := y25_4) (by omega); have hj := j25_0 y25_4.toNatClampNeg (by omega); rw [← e49] at hj; omega)
                    refine ev_laldT f_X12_isCode (nx := 98) rfl (hI.wf.s rfl) l51 (by decide) u51 (by decide) rfl (fun w50 e50 => ?_)
                    refine ev_anyI f_X12_isCode (nx := 99) rfl rfl rfl rfl (fun z52 => ?_)
                    refine ev_if f_X12_isCode (t1 := 102) (t2 := 104) rfl rfl rfl (fun h53 => ?_) (fun h53 => ?_)
                    · have u54 : z52.toInt ≤ 0 := t_equ h53 (by decide : (0:Int32).toInt ≤ (0:Int))
                      have l55 : 0 ≤ z52.toInt := t_eql h53 (by decide : (0:Int) ≤ (0:Int32).toInt)
                      refine ev_ic f_X12_isCode (nx := 103) (v := 0) rfl (by decide) rfl ?_
                      exact ev_ret f_X12_isCode rfl rfl rfl ⟨_, _, _, rfl, hI, hX, ⟨_, rfl, (by decide : (0:Int) ≤ (0:Int32).toInt), (Int.le_trans (by decide : (0:Int32).toInt ≤ (0:Int)) (by decide : (0:Int) ≤ 1))⟩⟩
                    · have r56 : z52.toInt ≠ 0 := fun e => h53 (Int32.toInt_inj.mp (e.trans (by decide : (0:Int) = (0 : Int32).toInt)))
                      refine ev_incR f_X12_isCode (nx := 107) (c := 1) (l := 1) (u := 4) rfl rfl (by decide) (by decide) l25_4 u31 rfl rfl (by decide) (by decide) rfl (fun z57 e57 l57 u57 => ?_)
                      refine ev_jmp f_X12_isCode (nx := 45) rfl rfl rfl ?_
                      refine ev_sub (lo := [(4, .int z57), (3, .int y7_3), (2, .int y1_2), (0, .ref 69), (1, .int ar1)]) rfl (t_sc rfl (t_sc rfl (t_sc rfl (t_sc rfl (t_sc rfl t_sn))))) ?_
                      exact ih25 _ (by omega) gi25 gl25 gr25 (z57) hI hX  (Int.le_trans (by decide : (0:Int) ≤ 1) l57) u57 j25_0 rfl
            refine ev_sub (lo := [(4, .int 0), (3, .int y7_3), (2, .int y1_2), (0, .ref 69), (1, .int ar1)]) rfl (t_sc rfl (t_sc rfl (t_sc rfl (t_sc rfl (t_sc rfl t_sn))))) ?_
            exact L25 _ gi7 gl7 gr7 (0) hI hX  (by decide : (0:Int) ≤ (0:Int32).toInt) (Int.le_trans (by decide : (0:Int32).toInt ≤ (0:Int)) (by decide : (0:Int) ≤ 4)) j7_0 rfl
      refine ev_sub (lo := [(3, .int 0), (2, .int y1_2), (0, .ref 69), (1, .int ar1)]) rfl (t_sc rfl (t_sc rfl (t_sc rfl (t_sc rfl t_sn)))) ?_
      exact L7 _ gi1 gl1 gr1 (0) hI hX  (by decide : (0:Int) ≤ (0:Int32).toInt) (Int.le_trans (by decide : (0:Int32).toInt ≤ (0:Int)) (by decide : (0:Int) ≤ 3)) j1_0 rfl
  refine ev_sub (lo := [(2, .int 0), (0, .ref 69), (1, .int ar1)]) rfl (t_sc rfl (t_sc rfl (t_sc rfl t_sn))) ?_
  exact L1 _ gi gl gr (0) hI hX  (by decide : (0:Int) ≤ (0:Int32).toInt) (Int.le_trans (by decide : (0:Int32).toInt ≤ (0:Int)) (by decide : (0:Int) ≤ 4)) e_p0 rfl
