/-! ===== printed by rel.py: trays, tape, marks ===== -/
noncomputable def t_cut (s : Int) (v : Int64) : Int64 := if s = 0 then v.toInt32.toInt8.toInt32.toInt64 else if s = 1 then v.toInt32.toInt16.toInt32.toInt64 else if s = 2 then v.toInt32.toInt64 else v
theorem t_wr1 {gl g' : Nat → Nat → Int64} {R : Nat} {i : Int32} {w : Int64} (e : g' = x_up2 gl R i.toNatClampNeg w) : ∀ K j : Nat, K ≠ R → g' K j = gl K j := fun K j h => by rw [e, x_up2_off (Or.inl h)]
theorem t_wr3 {gl g' : Nat → Nat → Int64} {R : Nat} {i : Int32} {w x : Int64} {k : Int} (e : g' = x_up2 gl R i.toNatClampNeg w) (h0 : 0 ≤ i.toInt) (hk : i.toInt = k) {C : Prop} [Decidable C] (hC : C) (hw : w = x) : ∀ j : Nat, g' R j = if C ∧ (j : Int) = k then x else gl R j := by
  intro j
  have hc := t_clamp h0
  by_cases hj : j = i.toNatClampNeg
  · rw [if_pos ⟨hC, by omega⟩, e, hj, x_up2_at, hw]
  · rw [if_neg (fun h => hj (by omega)), e, x_up2_off (Or.inr hj)]
theorem t_wr2 {gl g' : Nat → Nat → Int64} {R : Nat} {i : Int32} {w x : Int64} (e : g' = x_up2 gl R i.toNatClampNeg w) (h0 : 0 ≤ i.toInt) {C : Prop} [Decidable C] (hC : C) (hw : w = x) : ∀ j : Nat, g' R j = if C ∧ (j : Int) = i.toInt then x else gl R j := t_wr3 e h0 rfl hC hw
/-- numbers poured, so far: from the first on, or (dn) from the last back -/
noncomputable def t_pcp (f : Nat → Int64) (S D n : Int) (dn : Prop) (i : Int) (j : Nat) : Int64 := @ite Int64 ((dn ∧ D + n - i ≤ (j : Int) ∧ (j : Int) < D + n) ∨ (¬ dn ∧ D ≤ (j : Int) ∧ (j : Int) < D + i)) (Classical.propDecidable _) (f ((j : Int) - D + S).toNat) (f j)
theorem t_pcp_t {f : Nat → Int64} {S D n : Int} {dn : Prop} {i : Int} {j : Nat} (h : (dn ∧ D + n - i ≤ (j : Int) ∧ (j : Int) < D + n) ∨ (¬ dn ∧ D ≤ (j : Int) ∧ (j : Int) < D + i)) : t_pcp f S D n dn i j = f ((j : Int) - D + S).toNat := if_pos h
theorem t_pcp_f {f : Nat → Int64} {S D n : Int} {dn : Prop} {i : Int} {j : Nat} (h1 : dn → ¬ (D + n - i ≤ (j : Int) ∧ (j : Int) < D + n)) (h2 : ¬ dn → ¬ (D ≤ (j : Int) ∧ (j : Int) < D + i)) : t_pcp f S D n dn i j = f j := if_neg (fun h => by
  rcases h with ⟨h3, h4⟩ | ⟨h3, h4⟩
  · exact h1 h3 h4
  · exact h2 h3 h4)
theorem t_pcp0 {f : Nat → Int64} {S D n : Int} {dn : Prop} {i : Int} {j : Nat} (h : i = 0) : t_pcp f S D n dn i j = f j := t_pcp_f (fun _ => by omega) (fun _ => by omega)
theorem t_pcpS {f : Nat → Int64} {g g' : Nat → Nat → Int64} {S D n : Int} {dn : Prop} {z z' i i2 : Int32} {w : Int64} (h : ∀ j : Nat, g 74 j = t_pcp f S D n dn z.toInt j) (ew : w = g 74 i2.toNatClampNeg) (e : g' = x_up2 g 74 i.toNatClampNeg w) (hz : z'.toInt = z.toInt + 1) (h0 : 0 ≤ z.toInt) (hn : z.toInt < n) (hS : 0 ≤ S) (hD : 0 ≤ D) (hd : dn → S ≤ D ∨ D + n ≤ S ∨ S + n ≤ D) (ha : ¬ dn → D ≤ S ∨ D + n ≤ S ∨ S + n ≤ D) (hd2 : dn → i.toInt = D + (n - 1 - z.toInt) ∧ i2.toInt = S + (n - 1 - z.toInt)) (ha2 : ¬ dn → i.toInt = D + z.toInt ∧ i2.toInt = S + z.toInt) : ∀ j : Nat, g' 74 j = t_pcp f S D n dn z'.toInt j := by
  intro j
  by_cases hdn : dn
  · obtain ⟨e1, e2⟩ := hd2 hdn
    have h3 := hd hdn
    have c1 := t_clamp (i := i) (by omega)
    have c2 := t_clamp (i := i2) (by omega)
    by_cases hj : j = i.toNatClampNeg
    · rw [e, hj, x_up2_at, ew, h, t_pcp_f (fun _ => by omega) (fun hh => absurd hdn hh), t_pcp_t (Or.inl ⟨hdn, by omega, by omega⟩)]
      congr 1
      omega
    · rw [e, x_up2_off (Or.inr hj), h]
      by_cases hc : D + n - z.toInt ≤ (j : Int) ∧ (j : Int) < D + n
      · rw [t_pcp_t (Or.inl ⟨hdn, hc⟩), t_pcp_t (Or.inl ⟨hdn, by omega, by omega⟩)]
      · rw [t_pcp_f (fun _ => hc) (fun hh => absurd hdn hh), t_pcp_f (fun _ => by omega) (fun hh => absurd hdn hh)]
  · obtain ⟨e1, e2⟩ := ha2 hdn
    have h3 := ha hdn
    have c1 := t_clamp (i := i) (by omega)
    have c2 := t_clamp (i := i2) (by omega)
    by_cases hj : j = i.toNatClampNeg
    · rw [e, hj, x_up2_at, ew, h, t_pcp_f (fun hh => absurd hh hdn) (fun _ => by omega), t_pcp_t (Or.inr ⟨hdn, by omega, by omega⟩)]
      congr 1
      omega
    · rw [e, x_up2_off (Or.inr hj), h]
      by_cases hc : D ≤ (j : Int) ∧ (j : Int) < D + z.toInt
      · rw [t_pcp_t (Or.inr ⟨hdn, hc⟩), t_pcp_t (Or.inr ⟨hdn, by omega, by omega⟩)]
      · rw [t_pcp_f (fun hh => absurd hh hdn) (fun _ => hc), t_pcp_f (fun hh => absurd hh hdn) (fun _ => by omega)]
noncomputable def wl_h_feedOne2 : List (Nat × Nat) := [(0, 5), (2, 9999)]
noncomputable def Q_h_feedOne2 (gi : Nat → Nat → Int32) (gl : Nat → Nat → Int64) (gr : Nat → Nat → Value) (ar1 : Int32) : (Nat → Nat → Int32) → (Nat → Nat → Int64) → (Nat → Nat → Value) → Prop := fun (gi2 : Nat → Nat → Int32) (gl2 : Nat → Nat → Int64) (gr2 : Nat → Nat → Value) => (gi2 0 5).toInt = (gi 0 5).toInt + 4
theorem c_h_feedOne2 {X : x_Ext} {d : Nat} {sh : List (Nat ⊕ (Nat × Nat))} {gi : Nat → Nat → Int32} {gl : Nat → Nat → Int64} {gr : Nat → Nat → Value} (hI : t_I sh gi gr) (ar1 : Int32) (e_p0 : (gi 0 5).toInt + 4 ≤ 900) : x_Me X (d + 1) n_X11_feedOne [.ref 0, .int ar1] (sh, gi, gl, gr) (t_PN wl_h_feedOne2 sh gi gl gr (Q_h_feedOne2 gi gl gr ar1)) := by
  have hX : t_X wl_h_feedOne2 sh gi gl gr gi gl gr := t_X.rf
  refine me_i f_X11_feedOne (hI.wf.s rfl) rfl rfl rfl ?_
  obtain ⟨l1, u1⟩ := hI.b (hI.wf.s (k := 0) rfl) (t_bdK rfl : t_bd 10 5 = some (0, 900))
  refine ev_bp f_X11_feedOne (nx := 2) (v := 24) rfl (by decide) rfl ?_
  refine ev_loc f_X11_feedOne (nx := 3) (lo' := [(2, .int 24), (0, .ref 0), (1, .int ar1)]) rfl rfl rfl rfl ?_
  have L2 : ∀ (m2 : Nat) (gi2 : Nat → Nat → Int32) (gl2 : Nat → Nat → Int64) (gr2 : Nat → Nat → Value) (y2_2 : Int32), t_I sh gi2 gr2 → t_X wl_h_feedOne2 sh gi gl gr gi2 gl2 gr2 → (-8) ≤ y2_2.toInt → y2_2.toInt ≤ 24 → 8 * (gi2 0 5).toInt + y2_2.toInt = 8 * (gi 0 5).toInt + 24 → (y2_2.toInt - (-8)).toNat = m2 → x_Ev X (d + 1) n_X11_feedOne 3 [(2, .int y2_2), (0, .ref 0), (1, .int ar1)] [] (sh, gi2, gl2, gr2) (t_PN wl_h_feedOne2 sh gi gl gr (Q_h_feedOne2 gi gl gr ar1)) := by
    intro m2
    induction m2 using Nat.strongRecOn with
    | _ m2 ih2 =>
    intro gi2 gl2 gr2 y2_2 hI hX l2_2 u2_2 j2_0 hm2
    obtain ⟨l3, u3⟩ := hI.b (hI.wf.s (k := 0) rfl) (t_bdK rfl : t_bd 10 5 = some (0, 900))
    refine ev_loc f_X11_feedOne (nx := 4) rfl rfl rfl rfl ?_
    refine ev_if f_X11_feedOne (t1 := 48) (t2 := 7) rfl rfl rfl (fun h4 => ?_) (fun h4 => ?_)
    · have u5 : y2_2.toInt ≤ (-1) := t_ltu h4 (by decide : (0:Int32).toInt ≤ (0:Int)) rfl
      exact ev_ret f_X11_feedOne rfl rfl rfl ⟨_, _, _, rfl, hI, hX, ⟨rfl, (show (gi2 0 5).toInt = (gi 0 5).toInt + 4 from (by omega))⟩⟩
    · have l6 : 0 ≤ y2_2.toInt := t_lel (t_nlt h4) (by decide : (0:Int) ≤ (0:Int32).toInt)
      refine ev_loc f_X11_feedOne (nx := 8) rfl rfl rfl rfl ?_
      refine ev_gvI f_X11_feedOne (nx := 11) (w := (gi2 0 5)) rfl (hI.wf.s rfl) rfl rfl rfl rfl ?_
      refine ev_loc f_X11_feedOne (nx := 12) rfl rfl rfl rfl ?_
      refine ev_getR f_X11_feedOne (nx := 15) rfl (hI.wf.s rfl) rfl rfl (hI.wf.r rfl) rfl rfl ?_
      refine ev_alenv f_X11_feedOne (nx := 16) (w := 900) rfl (hI.wf.s rfl) rfl (by decide) rfl ?_
      refine ev_if f_X11_feedOne (t1 := 48) (t2 := 19) rfl rfl rfl (fun h7 => ?_) (fun h7 => ?_)
      · have l8 : 900 ≤ (gi2 0 5).toInt := t_lel h7 (by decide : (900:Int) ≤ (900:Int32).toInt)
        exact ev_ret f_X11_feedOne rfl rfl rfl ⟨_, _, _, rfl, hI, hX, ⟨rfl, (show (gi2 0 5).toInt = (gi 0 5).toInt + 4 from (by omega))⟩⟩
      · have u9 : (gi2 0 5).toInt ≤ 899 := t_ltu (t_nle h7) (by decide : (900:Int32).toInt ≤ (900:Int)) rfl
        refine ev_loc f_X11_feedOne (nx := 20) rfl rfl rfl rfl ?_
        refine ev_getR f_X11_feedOne (nx := 23) rfl (hI.wf.s rfl) rfl rfl (hI.wf.r rfl) rfl rfl ?_
        refine ev_loc f_X11_feedOne (nx := 24) rfl rfl rfl rfl ?_
        refine ev_gvI f_X11_feedOne (nx := 27) (w := (gi2 0 5)) rfl (hI.wf.s rfl) rfl rfl rfl rfl ?_
        refine ev_loc f_X11_feedOne (nx := 28) rfl rfl rfl rfl ?_
        refine ev_loc f_X11_feedOne (nx := 29) rfl rfl rfl rfl ?_
        refine ev_anyI f_X11_feedOne (nx := 30) rfl rfl rfl rfl (fun z10 => ?_)
        refine ev_anyI f_X11_feedOne (nx := 31) rfl rfl rfl rfl (fun z11 => ?_)
        refine ev_bastT f_X11_feedOne (nx := 32) rfl (hI.wf.s rfl) l3 (by decide) u9 (by decide) rfl (fun x => (hI.astO (hI.wf.s rfl) (Or.inl (by decide)) (by decide +kernel))) (fun x => hX.upI (t_inA_ok rfl)) (fun g12 x12 e12 hI hX => ?_)
        refine ev_loc f_X11_feedOne (nx := 33) rfl rfl rfl rfl ?_
        refine ev_alu f_X11_feedOne (nx := 34) rfl rfl rfl rfl ?_
        refine ev_gvI f_X11_feedOne (nx := 37) (w := (gi2 0 5)) rfl (hI.wf.s rfl) rfl rfl ((by rw [e12]; exact x_up2_off (Or.inl (by decide)) : g12 0 5 = gi2 0 5).trans rfl) rfl ?_
        refine ev_ic f_X11_feedOne (nx := 38) (v := 1) rfl (by decide) rfl ?_
        refine ev_addC f_X11_feedOne (nx := 39) (c := 1) (l := 1) (u := 900) rfl (by decide) l3 u9 rfl rfl (by decide) (by decide) rfl (fun z13 e13 l13 u13 => ?_)
        refine ev_putIT f_X11_feedOne (nx := 42) rfl (hI.wf.s rfl) rfl rfl rfl (hI.putB (hI.wf.s rfl) rfl rfl l13 (by decide) u13 (by decide)) (hX.upI rfl) (fun g14 e14 hI hX => ?_)
        refine ev_incR f_X11_feedOne (nx := 45) (c := (-8)) (l := (-8)) (u := 16) rfl rfl (by decide) (by decide) l6 u2_2 rfl rfl (by decide) (by decide) rfl (fun z15 e15 l15 u15 => ?_)
        refine ev_jmp f_X11_feedOne (nx := 3) rfl rfl rfl ?_
        refine ev_sub (lo := [(2, .int z15), (0, .ref 0), (1, .int ar1)]) rfl (t_sc rfl (t_sc rfl (t_sc rfl t_sn))) ?_
        exact ih2 _ (by omega) g14 gl2 gr2 (z15) hI hX  l15 (Int.le_trans u15 (by decide : (16:Int) ≤ 24)) (by have ff16 : (g14 0 5).toInt = z13.toInt := congrArg Int32.toInt (by rw [e14]; exact x_up2_at _ _ _ _ : g14 0 5 = z13); omega) rfl
  refine ev_sub (lo := [(2, .int 24), (0, .ref 0), (1, .int ar1)]) rfl (t_sc rfl (t_sc rfl (t_sc rfl t_sn))) ?_
  exact L2 _ gi gl gr (24) hI hX  (Int.le_trans (by decide : ((-8):Int) ≤ 24) (by decide : (24:Int) ≤ (24:Int32).toInt)) (by decide : (24:Int32).toInt ≤ (24:Int)) (by have kf17 : (24 : Int32).toInt = 24 := (by decide); omega) rfl
noncomputable def wl_h_feed2 : List (Nat × Nat) := [(0, 5), (2, 9999)]
noncomputable def Q_h_feed2 (gi : Nat → Nat → Int32) (gl : Nat → Nat → Int64) (gr : Nat → Nat → Value) (ar1 : Int32) (ar2 : Int32) (ar3 : Int32) (ar4 : Int32) (ar5 : Int32) : Int32 → (Nat → Nat → Int32) → (Nat → Nat → Int64) → (Nat → Nat → Value) → Prop := fun (v : Int32) (gi2 : Nat → Nat → Int32) (gl2 : Nat → Nat → Int64) (gr2 : Nat → Nat → Value) => ((gi 0 5).toInt + 20 ≤ 900 → v.toInt = (gi 0 5).toInt + 20 ∧ (gi2 0 5).toInt = (gi 0 5).toInt + 20) ∧ (900 < (gi 0 5).toInt + 20 → v.toInt = -1 ∧ (gi2 0 5).toInt = (gi 0 5).toInt)
theorem c_h_feed2 {X : x_Ext} {d : Nat} {sh : List (Nat ⊕ (Nat × Nat))} {gi : Nat → Nat → Int32} {gl : Nat → Nat → Int64} {gr : Nat → Nat → Value} (hI : t_I sh gi gr) (ar1 : Int32) (ar2 : Int32) (ar3 : Int32) (ar4 : Int32) (ar5 : Int32) : x_Me X (d + 2) n_X11_feed [.ref 0, .int ar1, .int ar2, .int ar3, .int ar4, .int ar5] (sh, gi, gl, gr) (t_PI wl_h_feed2 sh gi gl gr (-1) 900 (Q_h_feed2 gi gl gr ar1 ar2 ar3 ar4 ar5)) := by
  have hX : t_X wl_h_feed2 sh gi gl gr gi gl gr := t_X.rf
  refine me_i f_X11_feed (hI.wf.s rfl) rfl rfl rfl ?_
  obtain ⟨l1, u1⟩ := hI.b (hI.wf.s (k := 0) rfl) (t_bdK rfl : t_bd 10 5 = some (0, 900))
  refine ev_loc f_X11_feed (nx := 1) rfl rfl rfl rfl ?_
  refine ev_gvI f_X11_feed (nx := 4) (w := (gi 0 5)) rfl (hI.wf.s rfl) rfl rfl rfl rfl ?_
  refine ev_bp f_X11_feed (nx := 6) (v := 20) rfl (by decide) rfl ?_
  refine ev_addC f_X11_feed (nx := 7) (c := 20) (l := 20) (u := 920) rfl (by decide) l1 u1 rfl rfl (by decide) (by decide) rfl (fun z2 e2 l2 u2 => ?_)
  refine ev_loc f_X11_feed (nx := 8) rfl rfl rfl rfl ?_
  refine ev_getR f_X11_feed (nx := 11) rfl (hI.wf.s rfl) rfl rfl (hI.wf.r rfl) rfl rfl ?_
  refine ev_alenv f_X11_feed (nx := 12) (w := 900) rfl (hI.wf.s rfl) rfl (by decide) rfl ?_
  refine ev_if f_X11_feed (t1 := 17) (t2 := 15) rfl rfl rfl (fun h3 => ?_) (fun h3 => ?_)
  · have u4 : z2.toInt ≤ 900 := t_leu h3 (by decide : (900:Int32).toInt ≤ (900:Int))
    refine ev_loc f_X11_feed (nx := 18) rfl rfl rfl rfl ?_
    refine ev_loc f_X11_feed (nx := 19) rfl rfl rfl rfl ?_
    refine ev_qN f_X11_feed (nx := 22) (r := []) rfl rfl rfl rfl rfl rfl rfl (c_h_feedOne2 hI (ar1) (by omega)) rfl hX rfl (fun gi5 gl5 gr5 hI hX hC5 q5 => ?_)
    have q5 : (gi5 0 5).toInt = (gi 0 5).toInt + 4 := q5
    obtain ⟨l6, u6⟩ := hI.b (hI.wf.s (k := 0) rfl) (t_bdK rfl : t_bd 10 5 = some (0, 900))
    refine ev_loc f_X11_feed (nx := 23) rfl rfl rfl rfl ?_
    refine ev_loc f_X11_feed (nx := 24) rfl rfl rfl rfl ?_
    refine ev_qN f_X11_feed (nx := 27) (r := []) rfl rfl rfl rfl rfl rfl rfl (c_h_feedOne2 hI (ar2) (by omega)) rfl hX rfl (fun gi7 gl7 gr7 hI hX hC7 q7 => ?_)
    have q7 : (gi7 0 5).toInt = (gi5 0 5).toInt + 4 := q7
    obtain ⟨l8, u8⟩ := hI.b (hI.wf.s (k := 0) rfl) (t_bdK rfl : t_bd 10 5 = some (0, 900))
    refine ev_loc f_X11_feed (nx := 28) rfl rfl rfl rfl ?_
    refine ev_loc f_X11_feed (nx := 29) rfl rfl rfl rfl ?_
    refine ev_qN f_X11_feed (nx := 32) (r := []) rfl rfl rfl rfl rfl rfl rfl (c_h_feedOne2 hI (ar3) (by omega)) rfl hX rfl (fun gi9 gl9 gr9 hI hX hC9 q9 => ?_)
    have q9 : (gi9 0 5).toInt = (gi7 0 5).toInt + 4 := q9
    obtain ⟨l10, u10⟩ := hI.b (hI.wf.s (k := 0) rfl) (t_bdK rfl : t_bd 10 5 = some (0, 900))
    refine ev_loc f_X11_feed (nx := 33) rfl rfl rfl rfl ?_
    refine ev_loc f_X11_feed (nx := 35) rfl rfl rfl rfl ?_
    refine ev_qN f_X11_feed (nx := 38) (r := []) rfl rfl rfl rfl rfl rfl rfl (c_h_feedOne2 hI (ar4) (by omega)) rfl hX rfl (fun gi11 gl11 gr11 hI hX hC11 q11 => ?_)
    have q11 : (gi11 0 5).toInt = (gi9 0 5).toInt + 4 := q11
    obtain ⟨l12, u12⟩ := hI.b (hI.wf.s (k := 0) rfl) (t_bdK rfl : t_bd 10 5 = some (0, 900))
    refine ev_loc f_X11_feed (nx := 39) rfl rfl rfl rfl ?_
    refine ev_loc f_X11_feed (nx := 41) rfl rfl rfl rfl ?_
    refine ev_qN f_X11_feed (nx := 44) (r := []) rfl rfl rfl rfl rfl rfl rfl (c_h_feedOne2 hI (ar5) (by omega)) rfl hX rfl (fun gi13 gl13 gr13 hI hX hC13 q13 => ?_)
    have q13 : (gi13 0 5).toInt = (gi11 0 5).toInt + 4 := q13
    obtain ⟨l14, u14⟩ := hI.b (hI.wf.s (k := 0) rfl) (t_bdK rfl : t_bd 10 5 = some (0, 900))
    refine ev_loc f_X11_feed (nx := 45) rfl rfl rfl rfl ?_
    refine ev_gvI f_X11_feed (nx := 48) (w := (gi13 0 5)) rfl (hI.wf.s rfl) rfl rfl rfl rfl ?_
    exact ev_ret f_X11_feed rfl rfl rfl ⟨_, _, _, rfl, hI, hX, ⟨_, rfl, (Int.le_trans (by decide : ((-1):Int) ≤ 0) l14), u14, (show ((gi 0 5).toInt + 20 ≤ 900 → (gi13 0 5).toInt = (gi 0 5).toInt + 20 ∧ (gi13 0 5).toInt = (gi 0 5).toInt + 20) ∧ (900 < (gi 0 5).toInt + 20 → (gi13 0 5).toInt = -1 ∧ (gi13 0 5).toInt = (gi 0 5).toInt) from (by omega))⟩⟩
  · have l15 : 901 ≤ z2.toInt := t_ltl (t_nle h3) (by decide : (900:Int) ≤ (900:Int32).toInt) rfl
    refine ev_ic f_X11_feed (nx := 16) (v := -1) rfl (by decide) rfl ?_
    exact ev_ret f_X11_feed rfl rfl rfl ⟨_, _, _, rfl, hI, hX, ⟨_, rfl, (by decide : ((-1):Int) ≤ ((-1):Int32).toInt), (Int.le_trans (by decide : ((-1):Int32).toInt ≤ ((-1):Int)) (by decide : ((-1):Int) ≤ 900)), (show ((gi 0 5).toInt + 20 ≤ 900 → ((-1) : Int) = (gi 0 5).toInt + 20 ∧ (gi 0 5).toInt = (gi 0 5).toInt + 20) ∧ (900 < (gi 0 5).toInt + 20 → ((-1) : Int) = -1 ∧ (gi 0 5).toInt = (gi 0 5).toInt) from (by omega))⟩⟩
noncomputable def wl_lay_0 : List (Nat × Nat) := [(61, 1), (61, 2), (62, 9999)]
noncomputable def Q_lay_0 (gi : Nat → Nat → Int32) (gl : Nat → Nat → Int64) (gr : Nat → Nat → Value) (ar1 : Int32) (ar2 : Int32) : (Nat → Nat → Int32) → (Nat → Nat → Int64) → (Nat → Nat → Value) → Prop := fun (gi2 : Nat → Nat → Int32) (gl2 : Nat → Nat → Int64) (gr2 : Nat → Nat → Value) => ((gi2 61 2).toInt = ar2.toInt ∧ (gi2 61 1).toInt = ar1.toInt) ∧ (∀ j : Nat, j < 60 → gl2 62 j = 0)
theorem c_lay_0 {X : x_Ext} {d : Nat} {sh : List (Nat ⊕ (Nat × Nat))} {gi : Nat → Nat → Int32} {gl : Nat → Nat → Int64} {gr : Nat → Nat → Value} (hI : t_I sh gi gr) (ar1 : Int32) (ar2 : Int32) (l_a2 : 0 ≤ ar2.toInt) (u_a2 : ar2.toInt ≤ 60) : x_Me X (d + 1) n_X10_lay [.ref 61, .int ar1, .int ar2] (sh, gi, gl, gr) (t_PN wl_lay_0 sh gi gl gr (Q_lay_0 gi gl gr ar1 ar2)) := by
  have hX : t_X wl_lay_0 sh gi gl gr gi gl gr := t_X.rf
  refine me_i f_X10_lay (hI.wf.s rfl) rfl rfl rfl ?_
  obtain ⟨l2, u2⟩ := hI.b (hI.wf.s (k := 61) rfl) (t_bdK rfl : t_bd 9 2 = some ((-1), 60))
  refine ev_loc f_X10_lay (nx := 1) rfl rfl rfl rfl ?_
  refine ev_loc f_X10_lay (nx := 2) rfl rfl rfl rfl ?_
  refine ev_putIT f_X10_lay (nx := 5) rfl (hI.wf.s rfl) rfl rfl rfl (hI.put0 (hI.wf.s rfl) rfl rfl) (hX.upI rfl) (fun g3 e3 hI hX => ?_)
  refine ev_loc f_X10_lay (nx := 6) rfl rfl rfl rfl ?_
  refine ev_loc f_X10_lay (nx := 7) rfl rfl rfl rfl ?_
  refine ev_putIT f_X10_lay (nx := 10) rfl (hI.wf.s rfl) rfl rfl rfl (hI.putB (hI.wf.s rfl) rfl rfl l_a2 (by decide) u_a2 (by decide)) (hX.upI rfl) (fun g4 e4 hI hX => ?_)
  refine ev_ic f_X10_lay (nx := 11) (v := 0) rfl (by decide) rfl ?_
  refine ev_loc f_X10_lay (nx := 12) (lo' := [(3, .int 0), (0, .ref 61), (1, .int ar1), (2, .int ar2)]) rfl rfl rfl rfl ?_
  have L5 : ∀ (m5 : Nat) (gi5 : Nat → Nat → Int32) (gl5 : Nat → Nat → Int64) (gr5 : Nat → Nat → Value) (y5_3 : Int32), t_I sh gi5 gr5 → t_X wl_lay_0 sh gi gl gr gi5 gl5 gr5 → 0 ≤ y5_3.toInt → y5_3.toInt ≤ 60 → gi5 61 1 = ar1 → gi5 61 2 = ar2 → (∀ j : Nat, (j : Int) < y5_3.toInt → gl5 62 j = 0) → (60 - y5_3.toInt).toNat = m5 → x_Ev X (d + 1) n_X10_lay 12 [(3, .int y5_3), (0, .ref 61), (1, .int ar1), (2, .int ar2)] [] (sh, gi5, gl5, gr5) (t_PN wl_lay_0 sh gi gl gr (Q_lay_0 gi gl gr ar1 ar2)) := by
    intro m5
    induction m5 using Nat.strongRecOn with
    | _ m5 ih5 =>
    intro gi5 gl5 gr5 y5_3 hI hX l5_3 u5_3 c5_0 c5_1 j5_0 hm5
    refine ev_loc f_X10_lay (nx := 13) rfl rfl rfl rfl ?_
    refine ev_loc f_X10_lay (nx := 14) rfl rfl rfl rfl ?_
    refine ev_getR f_X10_lay (nx := 17) rfl (hI.wf.s rfl) rfl rfl (hI.wf.r rfl) rfl rfl ?_
    refine ev_alenv f_X10_lay (nx := 18) (w := 60) rfl (hI.wf.s rfl) rfl (by decide) rfl ?_
    refine ev_if f_X10_lay (t1 := 34) (t2 := 21) rfl rfl rfl (fun h6 => ?_) (fun h6 => ?_)
    · have l7 : 60 ≤ y5_3.toInt := t_lel h6 (by decide : (60:Int) ≤ (60:Int32).toInt)
      exact ev_ret f_X10_lay rfl rfl rfl ⟨_, _, _, rfl, hI, hX, ⟨rfl, (show ((gi5 61 2).toInt = ar2.toInt ∧ (gi5 61 1).toInt = ar1.toInt) ∧ (∀ j : Nat, j < 60 → gl5 62 j = 0) from ⟨(by have ff8 : (gi5 61 2).toInt = ar2.toInt := congrArg Int32.toInt c5_1; have ff9 : (gi5 61 1).toInt = ar1.toInt := congrArg Int32.toInt c5_0; omega), fun j h => j5_0 j (by omega)⟩)⟩⟩
    · have u10 : y5_3.toInt ≤ 59 := t_ltu (t_nle h6) (by decide : (60:Int32).toInt ≤ (60:Int)) rfl
      refine ev_loc f_X10_lay (nx := 22) rfl rfl rfl rfl ?_
      refine ev_getR f_X10_lay (nx := 25) rfl (hI.wf.s rfl) rfl rfl (hI.wf.r rfl) rfl rfl ?_
      refine ev_loc f_X10_lay (nx := 26) rfl rfl rfl rfl ?_
      refine ev_lc f_X10_lay (nx := 27) (v := 0) rfl (by decide) rfl ?_
      refine ev_lastT f_X10_lay (nx := 28) rfl (hI.wf.s rfl) l5_3 (by decide) u10 (by decide) rfl (hX.upL (t_inA_ok rfl)) (fun g11 e11 hX => ?_)
      refine ev_incR f_X10_lay (nx := 31) (c := 1) (l := 1) (u := 60) rfl rfl (by decide) (by decide) l5_3 u10 rfl rfl (by decide) (by decide) rfl (fun z12 e12 l12 u12 => ?_)
      refine ev_jmp f_X10_lay (nx := 12) rfl rfl rfl ?_
      refine ev_sub (lo := [(3, .int z12), (0, .ref 61), (1, .int ar1), (2, .int ar2)]) rfl (t_sc rfl (t_sc rfl (t_sc rfl (t_sc rfl t_sn)))) ?_
      exact ih5 _ (by omega) gi5 g11 gr5 (z12) hI hX  (Int.le_trans (by decide : (0:Int) ≤ 1) l12) u12 c5_0 c5_1 (by intro j hj; by_cases h : j = y5_3.toNatClampNeg; (rw [h, e11, x_up2_at]); (rw [e11, x_up2_off (Or.inr h)]; exact j5_0 j (by have hc := t_clamp (i := y5_3) (by omega); omega))) rfl
  refine ev_sub (lo := [(3, .int 0), (0, .ref 61), (1, .int ar1), (2, .int ar2)]) rfl (t_sc rfl (t_sc rfl (t_sc rfl (t_sc rfl t_sn)))) ?_
  exact L5 _ g4 gl gr (0) hI hX  (by decide : (0:Int) ≤ (0:Int32).toInt) (Int.le_trans (by decide : (0:Int32).toInt ≤ (0:Int)) (by decide : (0:Int) ≤ 60)) ((by rw [e4]; exact x_up2_off (Or.inr (by decide)) : g4 61 1 = g3 61 1).trans (by rw [e3]; exact x_up2_at _ _ _ _ : g3 61 1 = ar1)) (by rw [e4]; exact x_up2_at _ _ _ _ : g4 61 2 = ar2) (fun j h => absurd h (by have : (0 : Int32).toInt = 0 := rfl; omega)) rfl
noncomputable def wl_h_tray_0 : List (Nat × Nat) := [(0, 0), (61, 1), (61, 2), (62, 9999)]
noncomputable def Q_h_tray_0 (gi : Nat → Nat → Int32) (gl : Nat → Nat → Int64) (gr : Nat → Nat → Value) (ar2 : Int32) (ar3 : Int32) : Int32 → (Nat → Nat → Int32) → (Nat → Nat → Int64) → (Nat → Nat → Value) → Prop := fun (v : Int32) (gi2 : Nat → Nat → Int32) (gl2 : Nat → Nat → Int64) (gr2 : Nat → Nat → Value) => ((0 ≤ v.toInt ∧ v.toInt ≤ 1) ∧ (v.toInt = 1 ↔ (0 ≤ ar2.toInt ∧ ar2.toInt ≤ 3 ∧ 0 ≤ ar3.toInt ∧ ar3.toInt ≤ 60)) ∧ ((0 ≤ ar2.toInt ∧ ar2.toInt ≤ 3 ∧ 0 ≤ ar3.toInt ∧ ar3.toInt ≤ 60) → (gi2 61 2).toInt = ar3.toInt ∧ (gi2 61 1).toInt = ar2.toInt) ∧ (¬ (0 ≤ ar2.toInt ∧ ar2.toInt ≤ 3 ∧ 0 ≤ ar3.toInt ∧ ar3.toInt ≤ 60) → (gi2 61 2).toInt = (gi 61 2).toInt ∧ (gi2 61 1).toInt = (gi 61 1).toInt)) ∧ ((0 ≤ ar2.toInt ∧ ar2.toInt ≤ 3 ∧ 0 ≤ ar3.toInt ∧ ar3.toInt ≤ 60) → ∀ j : Nat, j < 60 → gl2 62 j = 0) ∧ (¬ (0 ≤ ar2.toInt ∧ ar2.toInt ≤ 3 ∧ 0 ≤ ar3.toInt ∧ ar3.toInt ≤ 60) → ∀ j : Nat, gl2 62 j = gl 62 j)
theorem c_h_tray_0 {X : x_Ext} {d : Nat} {sh : List (Nat ⊕ (Nat × Nat))} {gi : Nat → Nat → Int32} {gl : Nat → Nat → Int64} {gr : Nat → Nat → Value} (hI : t_I sh gi gr) (ar2 : Int32) (ar3 : Int32) : x_Me X (d + 2) n_X11_tray [.ref 0, .int 0, .int ar2, .int ar3] (sh, gi, gl, gr) (t_PI wl_h_tray_0 sh gi gl gr 0 1 (Q_h_tray_0 gi gl gr ar2 ar3)) := by
  have hX : t_X wl_h_tray_0 sh gi gl gr gi gl gr := t_X.rf
  refine me_i f_X11_tray (hI.wf.s rfl) rfl rfl rfl ?_
  obtain ⟨l2, u2⟩ := hI.b (hI.wf.s (k := 61) rfl) (t_bdK rfl : t_bd 9 2 = some ((-1), 60))
  refine ev_loc f_X11_tray (nx := 1) rfl rfl rfl rfl ?_
  refine ev_loc f_X11_tray (nx := 2) rfl rfl rfl rfl ?_
  refine ev_inV2 f_X11_tray (nx := 5) (lo2 := [(0, .ref 0), (1, .int 0)]) rfl rfl rfl rfl f_X11_isTray (hI.wf.s rfl) rfl rfl rfl rfl rfl ?_
  refine ev_loc f_X11_isTray (nx := 1) rfl rfl rfl rfl ?_
  refine ev_f f_X11_isTray (t1 := 26) (t2 := 4) rfl rfl rfl (by decide) ?_
  refine ev_loc f_X11_isTray (nx := 5) rfl rfl rfl rfl ?_
  refine ev_loc f_X11_isTray (nx := 6) rfl rfl rfl rfl ?_
  refine ev_getR f_X11_isTray (nx := 9) rfl (hI.wf.s rfl) rfl rfl (hI.wf.r rfl) rfl rfl ?_
  refine ev_alenv f_X11_isTray (nx := 10) (w := 4) rfl (hI.wf.s rfl) rfl (by decide) rfl ?_
  refine ev_f f_X11_isTray (t1 := 26) (t2 := 13) rfl rfl rfl (by decide) ?_
  refine ev_loc f_X11_isTray (nx := 14) rfl rfl rfl rfl ?_
  refine ev_getR f_X11_isTray (nx := 17) rfl (hI.wf.s rfl) rfl rfl (hI.wf.r rfl) rfl rfl ?_
  refine ev_loc f_X11_isTray (nx := 18) rfl rfl rfl rfl ?_
  refine ev_aald f_X11_isTray (nx := 19) rfl (hI.wf.s rfl) rfl (t_idx (n := 4) (by decide : (0:Int) ≤ (0:Int32).toInt) (by decide) (by decide : (0:Int32).toInt ≤ (0:Int)) (by decide)).1 (t_idx (n := 4) (by decide : (0:Int) ≤ (0:Int32).toInt) (by decide) (by decide : (0:Int32).toInt ≤ (0:Int)) (by decide)).2 (hI.wf.r rfl) rfl rfl ?_
  refine ev_jmp f_X11_isTray (nx := 22) rfl rfl rfl ?_
  refine ev_ic f_X11_isTray (nx := 23) (v := 1) rfl (by decide) rfl ?_
  refine ev_jmp f_X11_isTray (nx := 27) rfl rfl rfl ?_
  refine ev_retK1 f_X11_isTray rfl rfl rfl ?_
  refine ev_f f_X11_tray (t1 := 27) (t2 := 8) rfl rfl rfl (by decide) ?_
  refine ev_loc f_X11_tray (nx := 9) rfl rfl rfl rfl ?_
  refine ev_if f_X11_tray (t1 := 27) (t2 := 12) rfl rfl rfl (fun h4 => ?_) (fun h4 => ?_)
  · have u5 : ar2.toInt ≤ (-1) := t_ltu h4 (by decide : (0:Int32).toInt ≤ (0:Int)) rfl
    refine ev_loc f_X11_tray (nx := 28) rfl rfl rfl rfl ?_
    refine ev_ic f_X11_tray (nx := 29) (v := 1) rfl (by decide) rfl ?_
    refine ev_inV2 f_X11_tray (nx := 32) (lo2 := [(0, .ref 0), (1, .int 1)]) rfl rfl rfl rfl f_X11_deny (hI.wf.s rfl) rfl rfl rfl rfl rfl ?_
    refine ev_loc f_X11_deny (nx := 1) rfl rfl rfl rfl ?_
    refine ev_loc f_X11_deny (nx := 2) rfl rfl rfl rfl ?_
    refine ev_putIT f_X11_deny (nx := 5) rfl (hI.wf.s rfl) rfl rfl rfl (hI.put0 (hI.wf.s rfl) rfl rfl) (hX.upI rfl) (fun g6 e6 hI hX => ?_)
    refine ev_ic f_X11_deny (nx := 6) (v := 0) rfl (by decide) rfl ?_
    refine ev_retK1 f_X11_deny rfl rfl rfl ?_
    exact ev_ret f_X11_tray rfl rfl rfl ⟨_, _, _, rfl, hI, hX, ⟨_, rfl, (by decide : (0:Int) ≤ (0:Int32).toInt), (Int.le_trans (by decide : (0:Int32).toInt ≤ (0:Int)) (by decide : (0:Int) ≤ 1)), (show ((0 ≤ (0 : Int) ∧ (0 : Int) ≤ 1) ∧ ((0 : Int) = 1 ↔ (0 ≤ ar2.toInt ∧ ar2.toInt ≤ 3 ∧ 0 ≤ ar3.toInt ∧ ar3.toInt ≤ 60)) ∧ ((0 ≤ ar2.toInt ∧ ar2.toInt ≤ 3 ∧ 0 ≤ ar3.toInt ∧ ar3.toInt ≤ 60) → (g6 61 2).toInt = ar3.toInt ∧ (g6 61 1).toInt = ar2.toInt) ∧ (¬ (0 ≤ ar2.toInt ∧ ar2.toInt ≤ 3 ∧ 0 ≤ ar3.toInt ∧ ar3.toInt ≤ 60) → (g6 61 2).toInt = (gi 61 2).toInt ∧ (g6 61 1).toInt = (gi 61 1).toInt)) ∧ ((0 ≤ ar2.toInt ∧ ar2.toInt ≤ 3 ∧ 0 ≤ ar3.toInt ∧ ar3.toInt ≤ 60) → ∀ j : Nat, j < 60 → gl 62 j = 0) ∧ (¬ (0 ≤ ar2.toInt ∧ ar2.toInt ≤ 3 ∧ 0 ≤ ar3.toInt ∧ ar3.toInt ≤ 60) → ∀ j : Nat, gl 62 j = gl 62 j) from ⟨(show ((0 ≤ (0 : Int) ∧ (0 : Int) ≤ 1) ∧ ((0 : Int) = 1 ↔ (0 ≤ ar2.toInt ∧ ar2.toInt ≤ 3 ∧ 0 ≤ ar3.toInt ∧ ar3.toInt ≤ 60)) ∧ ((0 ≤ ar2.toInt ∧ ar2.toInt ≤ 3 ∧ 0 ≤ ar3.toInt ∧ ar3.toInt ≤ 60) → (g6 61 2).toInt = ar3.toInt ∧ (g6 61 1).toInt = ar2.toInt) ∧ (¬ (0 ≤ ar2.toInt ∧ ar2.toInt ≤ 3 ∧ 0 ≤ ar3.toInt ∧ ar3.toInt ≤ 60) → (g6 61 2).toInt = (gi 61 2).toInt ∧ (g6 61 1).toInt = (gi 61 1).toInt)) from (by have ff7 : (g6 61 2).toInt = (gi 61 2).toInt := congrArg Int32.toInt ((by rw [e6]; exact x_up2_off (Or.inr (by decide)) : g6 61 2 = gi 61 2).trans rfl); have ff8 : (g6 61 1).toInt = (gi 61 1).toInt := congrArg Int32.toInt ((by rw [e6]; exact x_up2_off (Or.inr (by decide)) : g6 61 1 = gi 61 1).trans rfl); omega)), fun h => absurd h (by omega), fun _ j => rfl⟩)⟩⟩
  · have l9 : 0 ≤ ar2.toInt := t_lel (t_nlt h4) (by decide : (0:Int) ≤ (0:Int32).toInt)
    refine ev_loc f_X11_tray (nx := 13) rfl rfl rfl rfl ?_
    refine ev_ic f_X11_tray (nx := 14) (v := 3) rfl (by decide) rfl ?_
    refine ev_if f_X11_tray (t1 := 27) (t2 := 17) rfl rfl rfl (fun h10 => ?_) (fun h10 => ?_)
    · have l11 : 4 ≤ ar2.toInt := t_ltl h10 (by decide : (3:Int) ≤ (3:Int32).toInt) rfl
      refine ev_loc f_X11_tray (nx := 28) rfl rfl rfl rfl ?_
      refine ev_ic f_X11_tray (nx := 29) (v := 1) rfl (by decide) rfl ?_
      refine ev_inV2 f_X11_tray (nx := 32) (lo2 := [(0, .ref 0), (1, .int 1)]) rfl rfl rfl rfl f_X11_deny (hI.wf.s rfl) rfl rfl rfl rfl rfl ?_
      refine ev_loc f_X11_deny (nx := 1) rfl rfl rfl rfl ?_
      refine ev_loc f_X11_deny (nx := 2) rfl rfl rfl rfl ?_
      refine ev_putIT f_X11_deny (nx := 5) rfl (hI.wf.s rfl) rfl rfl rfl (hI.put0 (hI.wf.s rfl) rfl rfl) (hX.upI rfl) (fun g12 e12 hI hX => ?_)
      refine ev_ic f_X11_deny (nx := 6) (v := 0) rfl (by decide) rfl ?_
      refine ev_retK1 f_X11_deny rfl rfl rfl ?_
      exact ev_ret f_X11_tray rfl rfl rfl ⟨_, _, _, rfl, hI, hX, ⟨_, rfl, (by decide : (0:Int) ≤ (0:Int32).toInt), (Int.le_trans (by decide : (0:Int32).toInt ≤ (0:Int)) (by decide : (0:Int) ≤ 1)), (show ((0 ≤ (0 : Int) ∧ (0 : Int) ≤ 1) ∧ ((0 : Int) = 1 ↔ (0 ≤ ar2.toInt ∧ ar2.toInt ≤ 3 ∧ 0 ≤ ar3.toInt ∧ ar3.toInt ≤ 60)) ∧ ((0 ≤ ar2.toInt ∧ ar2.toInt ≤ 3 ∧ 0 ≤ ar3.toInt ∧ ar3.toInt ≤ 60) → (g12 61 2).toInt = ar3.toInt ∧ (g12 61 1).toInt = ar2.toInt) ∧ (¬ (0 ≤ ar2.toInt ∧ ar2.toInt ≤ 3 ∧ 0 ≤ ar3.toInt ∧ ar3.toInt ≤ 60) → (g12 61 2).toInt = (gi 61 2).toInt ∧ (g12 61 1).toInt = (gi 61 1).toInt)) ∧ ((0 ≤ ar2.toInt ∧ ar2.toInt ≤ 3 ∧ 0 ≤ ar3.toInt ∧ ar3.toInt ≤ 60) → ∀ j : Nat, j < 60 → gl 62 j = 0) ∧ (¬ (0 ≤ ar2.toInt ∧ ar2.toInt ≤ 3 ∧ 0 ≤ ar3.toInt ∧ ar3.toInt ≤ 60) → ∀ j : Nat, gl 62 j = gl 62 j) from ⟨(show ((0 ≤ (0 : Int) ∧ (0 : Int) ≤ 1) ∧ ((0 : Int) = 1 ↔ (0 ≤ ar2.toInt ∧ ar2.toInt ≤ 3 ∧ 0 ≤ ar3.toInt ∧ ar3.toInt ≤ 60)) ∧ ((0 ≤ ar2.toInt ∧ ar2.toInt ≤ 3 ∧ 0 ≤ ar3.toInt ∧ ar3.toInt ≤ 60) → (g12 61 2).toInt = ar3.toInt ∧ (g12 61 1).toInt = ar2.toInt) ∧ (¬ (0 ≤ ar2.toInt ∧ ar2.toInt ≤ 3 ∧ 0 ≤ ar3.toInt ∧ ar3.toInt ≤ 60) → (g12 61 2).toInt = (gi 61 2).toInt ∧ (g12 61 1).toInt = (gi 61 1).toInt)) from (by have ff13 : (g12 61 2).toInt = (gi 61 2).toInt := congrArg Int32.toInt ((by rw [e12]; exact x_up2_off (Or.inr (by decide)) : g12 61 2 = gi 61 2).trans rfl); have ff14 : (g12 61 1).toInt = (gi 61 1).toInt := congrArg Int32.toInt ((by rw [e12]; exact x_up2_off (Or.inr (by decide)) : g12 61 1 = gi 61 1).trans rfl); omega)), fun h => absurd h (by omega), fun _ j => rfl⟩)⟩⟩
    · have u15 : ar2.toInt ≤ 3 := t_leu (t_nlt h10) (by decide : (3:Int32).toInt ≤ (3:Int))
      refine ev_loc f_X11_tray (nx := 18) rfl rfl rfl rfl ?_
      refine ev_if f_X11_tray (t1 := 27) (t2 := 21) rfl rfl rfl (fun h16 => ?_) (fun h16 => ?_)
      · have u17 : ar3.toInt ≤ (-1) := t_ltu h16 (by decide : (0:Int32).toInt ≤ (0:Int)) rfl
        refine ev_loc f_X11_tray (nx := 28) rfl rfl rfl rfl ?_
        refine ev_ic f_X11_tray (nx := 29) (v := 1) rfl (by decide) rfl ?_
        refine ev_inV2 f_X11_tray (nx := 32) (lo2 := [(0, .ref 0), (1, .int 1)]) rfl rfl rfl rfl f_X11_deny (hI.wf.s rfl) rfl rfl rfl rfl rfl ?_
        refine ev_loc f_X11_deny (nx := 1) rfl rfl rfl rfl ?_
        refine ev_loc f_X11_deny (nx := 2) rfl rfl rfl rfl ?_
        refine ev_putIT f_X11_deny (nx := 5) rfl (hI.wf.s rfl) rfl rfl rfl (hI.put0 (hI.wf.s rfl) rfl rfl) (hX.upI rfl) (fun g18 e18 hI hX => ?_)
        refine ev_ic f_X11_deny (nx := 6) (v := 0) rfl (by decide) rfl ?_
        refine ev_retK1 f_X11_deny rfl rfl rfl ?_
        exact ev_ret f_X11_tray rfl rfl rfl ⟨_, _, _, rfl, hI, hX, ⟨_, rfl, (by decide : (0:Int) ≤ (0:Int32).toInt), (Int.le_trans (by decide : (0:Int32).toInt ≤ (0:Int)) (by decide : (0:Int) ≤ 1)), (show ((0 ≤ (0 : Int) ∧ (0 : Int) ≤ 1) ∧ ((0 : Int) = 1 ↔ (0 ≤ ar2.toInt ∧ ar2.toInt ≤ 3 ∧ 0 ≤ ar3.toInt ∧ ar3.toInt ≤ 60)) ∧ ((0 ≤ ar2.toInt ∧ ar2.toInt ≤ 3 ∧ 0 ≤ ar3.toInt ∧ ar3.toInt ≤ 60) → (g18 61 2).toInt = ar3.toInt ∧ (g18 61 1).toInt = ar2.toInt) ∧ (¬ (0 ≤ ar2.toInt ∧ ar2.toInt ≤ 3 ∧ 0 ≤ ar3.toInt ∧ ar3.toInt ≤ 60) → (g18 61 2).toInt = (gi 61 2).toInt ∧ (g18 61 1).toInt = (gi 61 1).toInt)) ∧ ((0 ≤ ar2.toInt ∧ ar2.toInt ≤ 3 ∧ 0 ≤ ar3.toInt ∧ ar3.toInt ≤ 60) → ∀ j : Nat, j < 60 → gl 62 j = 0) ∧ (¬ (0 ≤ ar2.toInt ∧ ar2.toInt ≤ 3 ∧ 0 ≤ ar3.toInt ∧ ar3.toInt ≤ 60) → ∀ j : Nat, gl 62 j = gl 62 j) from ⟨(show ((0 ≤ (0 : Int) ∧ (0 : Int) ≤ 1) ∧ ((0 : Int) = 1 ↔ (0 ≤ ar2.toInt ∧ ar2.toInt ≤ 3 ∧ 0 ≤ ar3.toInt ∧ ar3.toInt ≤ 60)) ∧ ((0 ≤ ar2.toInt ∧ ar2.toInt ≤ 3 ∧ 0 ≤ ar3.toInt ∧ ar3.toInt ≤ 60) → (g18 61 2).toInt = ar3.toInt ∧ (g18 61 1).toInt = ar2.toInt) ∧ (¬ (0 ≤ ar2.toInt ∧ ar2.toInt ≤ 3 ∧ 0 ≤ ar3.toInt ∧ ar3.toInt ≤ 60) → (g18 61 2).toInt = (gi 61 2).toInt ∧ (g18 61 1).toInt = (gi 61 1).toInt)) from (by have ff19 : (g18 61 2).toInt = (gi 61 2).toInt := congrArg Int32.toInt ((by rw [e18]; exact x_up2_off (Or.inr (by decide)) : g18 61 2 = gi 61 2).trans rfl); have ff20 : (g18 61 1).toInt = (gi 61 1).toInt := congrArg Int32.toInt ((by rw [e18]; exact x_up2_off (Or.inr (by decide)) : g18 61 1 = gi 61 1).trans rfl); omega)), fun h => absurd h (by omega), fun _ j => rfl⟩)⟩⟩
      · have l21 : 0 ≤ ar3.toInt := t_lel (t_nlt h16) (by decide : (0:Int) ≤ (0:Int32).toInt)
        refine ev_loc f_X11_tray (nx := 22) rfl rfl rfl rfl ?_
        refine ev_bp f_X11_tray (nx := 24) (v := 60) rfl (by decide) rfl ?_
        refine ev_if f_X11_tray (t1 := 33) (t2 := 27) rfl rfl rfl (fun h22 => ?_) (fun h22 => ?_)
        · have u23 : ar3.toInt ≤ 60 := t_leu h22 (by decide : (60:Int32).toInt ≤ (60:Int))
          refine ev_loc f_X11_tray (nx := 34) rfl rfl rfl rfl ?_
          refine ev_getR f_X11_tray (nx := 37) rfl (hI.wf.s rfl) rfl rfl (hI.wf.r rfl) rfl rfl ?_
          refine ev_loc f_X11_tray (nx := 38) rfl rfl rfl rfl ?_
          refine ev_aald f_X11_tray (nx := 39) rfl (hI.wf.s rfl) rfl (t_idx (n := 4) (by decide : (0:Int) ≤ (0:Int32).toInt) (by decide) (by decide : (0:Int32).toInt ≤ (0:Int)) (by decide)).1 (t_idx (n := 4) (by decide : (0:Int) ≤ (0:Int32).toInt) (by decide) (by decide : (0:Int32).toInt ≤ (0:Int)) (by decide)).2 (hI.wf.r rfl) rfl rfl ?_
          refine ev_loc f_X11_tray (nx := 40) rfl rfl rfl rfl ?_
          refine ev_loc f_X11_tray (nx := 41) rfl rfl rfl rfl ?_
          refine ev_qN f_X11_tray (nx := 44) (r := []) rfl rfl rfl rfl rfl rfl rfl (c_lay_0 hI (ar2) (ar3) l21 u23) rfl hX rfl (fun gi25 gl25 gr25 hI hX hC25 q25 => ?_)
          have q25 : ((gi25 61 2).toInt = ar3.toInt ∧ (gi25 61 1).toInt = ar2.toInt) ∧ (∀ j : Nat, j < 60 → gl25 62 j = 0) := q25
          obtain ⟨l27, u27⟩ := hI.b (hI.wf.s (k := 61) rfl) (t_bdK rfl : t_bd 9 2 = some ((-1), 60))
          refine ev_loc f_X11_tray (nx := 45) rfl rfl rfl rfl ?_
          refine ev_inV1 f_X11_tray (nx := 48) (lo2 := [(0, .ref 0)]) rfl rfl rfl rfl f_X11_grant (hI.wf.s rfl) rfl rfl rfl rfl rfl ?_
          refine ev_loc f_X11_grant (nx := 1) rfl rfl rfl rfl ?_
          refine ev_ic f_X11_grant (nx := 2) (v := 0) rfl (by decide) rfl ?_
          refine ev_putIT f_X11_grant (nx := 5) rfl (hI.wf.s rfl) rfl rfl rfl (hI.put0 (hI.wf.s rfl) rfl rfl) (hX.upI rfl) (fun g28 e28 hI hX => ?_)
          refine ev_ic f_X11_grant (nx := 6) (v := 1) rfl (by decide) rfl ?_
          refine ev_retK1 f_X11_grant rfl rfl rfl ?_
          exact ev_ret f_X11_tray rfl rfl rfl ⟨_, _, _, rfl, hI, hX, ⟨_, rfl, (Int.le_trans (by decide : (0:Int) ≤ 1) (by decide : (1:Int) ≤ (1:Int32).toInt)), (by decide : (1:Int32).toInt ≤ (1:Int)), (show ((0 ≤ (1 : Int) ∧ (1 : Int) ≤ 1) ∧ ((1 : Int) = 1 ↔ (0 ≤ ar2.toInt ∧ ar2.toInt ≤ 3 ∧ 0 ≤ ar3.toInt ∧ ar3.toInt ≤ 60)) ∧ ((0 ≤ ar2.toInt ∧ ar2.toInt ≤ 3 ∧ 0 ≤ ar3.toInt ∧ ar3.toInt ≤ 60) → (g28 61 2).toInt = ar3.toInt ∧ (g28 61 1).toInt = ar2.toInt) ∧ (¬ (0 ≤ ar2.toInt ∧ ar2.toInt ≤ 3 ∧ 0 ≤ ar3.toInt ∧ ar3.toInt ≤ 60) → (g28 61 2).toInt = (gi 61 2).toInt ∧ (g28 61 1).toInt = (gi 61 1).toInt)) ∧ ((0 ≤ ar2.toInt ∧ ar2.toInt ≤ 3 ∧ 0 ≤ ar3.toInt ∧ ar3.toInt ≤ 60) → ∀ j : Nat, j < 60 → gl25 62 j = 0) ∧ (¬ (0 ≤ ar2.toInt ∧ ar2.toInt ≤ 3 ∧ 0 ≤ ar3.toInt ∧ ar3.toInt ≤ 60) → ∀ j : Nat, gl25 62 j = gl 62 j) from ⟨(show ((0 ≤ (1 : Int) ∧ (1 : Int) ≤ 1) ∧ ((1 : Int) = 1 ↔ (0 ≤ ar2.toInt ∧ ar2.toInt ≤ 3 ∧ 0 ≤ ar3.toInt ∧ ar3.toInt ≤ 60)) ∧ ((0 ≤ ar2.toInt ∧ ar2.toInt ≤ 3 ∧ 0 ≤ ar3.toInt ∧ ar3.toInt ≤ 60) → (g28 61 2).toInt = ar3.toInt ∧ (g28 61 1).toInt = ar2.toInt) ∧ (¬ (0 ≤ ar2.toInt ∧ ar2.toInt ≤ 3 ∧ 0 ≤ ar3.toInt ∧ ar3.toInt ≤ 60) → (g28 61 2).toInt = (gi 61 2).toInt ∧ (g28 61 1).toInt = (gi 61 1).toInt)) from (by have ff29 : (g28 61 2).toInt = (gi25 61 2).toInt := congrArg Int32.toInt ((by rw [e28]; exact x_up2_off (Or.inr (by decide)) : g28 61 2 = gi25 61 2).trans rfl); have ff30 : (g28 61 1).toInt = (gi25 61 1).toInt := congrArg Int32.toInt ((by rw [e28]; exact x_up2_off (Or.inr (by decide)) : g28 61 1 = gi25 61 1).trans rfl); omega)), fun _ => q25.2, fun h => absurd (show _ from ⟨by omega, by omega, by omega, by omega⟩) h⟩)⟩⟩
        · have l31 : 61 ≤ ar3.toInt := t_ltl (t_nle h22) (by decide : (60:Int) ≤ (60:Int32).toInt) rfl
          refine ev_loc f_X11_tray (nx := 28) rfl rfl rfl rfl ?_
          refine ev_ic f_X11_tray (nx := 29) (v := 1) rfl (by decide) rfl ?_
          refine ev_inV2 f_X11_tray (nx := 32) (lo2 := [(0, .ref 0), (1, .int 1)]) rfl rfl rfl rfl f_X11_deny (hI.wf.s rfl) rfl rfl rfl rfl rfl ?_
          refine ev_loc f_X11_deny (nx := 1) rfl rfl rfl rfl ?_
          refine ev_loc f_X11_deny (nx := 2) rfl rfl rfl rfl ?_
          refine ev_putIT f_X11_deny (nx := 5) rfl (hI.wf.s rfl) rfl rfl rfl (hI.put0 (hI.wf.s rfl) rfl rfl) (hX.upI rfl) (fun g32 e32 hI hX => ?_)
          refine ev_ic f_X11_deny (nx := 6) (v := 0) rfl (by decide) rfl ?_
          refine ev_retK1 f_X11_deny rfl rfl rfl ?_
          exact ev_ret f_X11_tray rfl rfl rfl ⟨_, _, _, rfl, hI, hX, ⟨_, rfl, (by decide : (0:Int) ≤ (0:Int32).toInt), (Int.le_trans (by decide : (0:Int32).toInt ≤ (0:Int)) (by decide : (0:Int) ≤ 1)), (show ((0 ≤ (0 : Int) ∧ (0 : Int) ≤ 1) ∧ ((0 : Int) = 1 ↔ (0 ≤ ar2.toInt ∧ ar2.toInt ≤ 3 ∧ 0 ≤ ar3.toInt ∧ ar3.toInt ≤ 60)) ∧ ((0 ≤ ar2.toInt ∧ ar2.toInt ≤ 3 ∧ 0 ≤ ar3.toInt ∧ ar3.toInt ≤ 60) → (g32 61 2).toInt = ar3.toInt ∧ (g32 61 1).toInt = ar2.toInt) ∧ (¬ (0 ≤ ar2.toInt ∧ ar2.toInt ≤ 3 ∧ 0 ≤ ar3.toInt ∧ ar3.toInt ≤ 60) → (g32 61 2).toInt = (gi 61 2).toInt ∧ (g32 61 1).toInt = (gi 61 1).toInt)) ∧ ((0 ≤ ar2.toInt ∧ ar2.toInt ≤ 3 ∧ 0 ≤ ar3.toInt ∧ ar3.toInt ≤ 60) → ∀ j : Nat, j < 60 → gl 62 j = 0) ∧ (¬ (0 ≤ ar2.toInt ∧ ar2.toInt ≤ 3 ∧ 0 ≤ ar3.toInt ∧ ar3.toInt ≤ 60) → ∀ j : Nat, gl 62 j = gl 62 j) from ⟨(show ((0 ≤ (0 : Int) ∧ (0 : Int) ≤ 1) ∧ ((0 : Int) = 1 ↔ (0 ≤ ar2.toInt ∧ ar2.toInt ≤ 3 ∧ 0 ≤ ar3.toInt ∧ ar3.toInt ≤ 60)) ∧ ((0 ≤ ar2.toInt ∧ ar2.toInt ≤ 3 ∧ 0 ≤ ar3.toInt ∧ ar3.toInt ≤ 60) → (g32 61 2).toInt = ar3.toInt ∧ (g32 61 1).toInt = ar2.toInt) ∧ (¬ (0 ≤ ar2.toInt ∧ ar2.toInt ≤ 3 ∧ 0 ≤ ar3.toInt ∧ ar3.toInt ≤ 60) → (g32 61 2).toInt = (gi 61 2).toInt ∧ (g32 61 1).toInt = (gi 61 1).toInt)) from (by have ff33 : (g32 61 2).toInt = (gi 61 2).toInt := congrArg Int32.toInt ((by rw [e32]; exact x_up2_off (Or.inr (by decide)) : g32 61 2 = gi 61 2).trans rfl); have ff34 : (g32 61 1).toInt = (gi 61 1).toInt := congrArg Int32.toInt ((by rw [e32]; exact x_up2_off (Or.inr (by decide)) : g32 61 1 = gi 61 1).trans rfl); omega)), fun h => absurd h (by omega), fun _ j => rfl⟩)⟩⟩
noncomputable def wl_m_tray_0 : List (Nat × Nat) := [(69, 2), (72, 10000), (73, 10000), (74, 10059)]
noncomputable def Q_m_tray_0 (gi : Nat → Nat → Int32) (gl : Nat → Nat → Int64) (gr : Nat → Nat → Value) (ar2 : Int32) (ar3 : Int32) : Int32 → (Nat → Nat → Int32) → (Nat → Nat → Int64) → (Nat → Nat → Value) → Prop := fun (v : Int32) (gi2 : Nat → Nat → Int32) (gl2 : Nat → Nat → Int64) (gr2 : Nat → Nat → Value) => ((0 ≤ v.toInt ∧ v.toInt ≤ 1) ∧ (v.toInt = 1 ↔ (0 ≤ ar2.toInt ∧ ar2.toInt ≤ 3 ∧ 0 ≤ ar3.toInt ∧ ar3.toInt ≤ 60)) ∧ ((0 ≤ ar2.toInt ∧ ar2.toInt ≤ 3 ∧ 0 ≤ ar3.toInt ∧ ar3.toInt ≤ 60) → (gi2 73 0).toInt = ar3.toInt ∧ (gi2 72 0).toInt = ar2.toInt) ∧ (¬ (0 ≤ ar2.toInt ∧ ar2.toInt ≤ 3 ∧ 0 ≤ ar3.toInt ∧ ar3.toInt ≤ 60) → (gi2 73 0).toInt = (gi 73 0).toInt ∧ (gi2 72 0).toInt = (gi 72 0).toInt)) ∧ ((0 ≤ ar2.toInt ∧ ar2.toInt ≤ 3 ∧ 0 ≤ ar3.toInt ∧ ar3.toInt ≤ 60) → ∀ j : Nat, (j : Int) < ar3.toInt → gl2 74 (0 + j) = 0) ∧ (¬ (0 ≤ ar2.toInt ∧ ar2.toInt ≤ 3 ∧ 0 ≤ ar3.toInt ∧ ar3.toInt ≤ 60) → ∀ j : Nat, gl2 74 j = gl 74 j) ∧ (∀ m : Nat, (m < 0 ∨ 60 ≤ m) → gl2 74 m = gl 74 m)
theorem c_m_tray_0 {X : x_Ext} {d : Nat} {sh : List (Nat ⊕ (Nat × Nat))} {gi : Nat → Nat → Int32} {gl : Nat → Nat → Int64} {gr : Nat → Nat → Value} (hI : t_I sh gi gr) (ar2 : Int32) (ar3 : Int32) : x_Me X (d + 2) n_X12_tray [.ref 69, .int 0, .int ar2, .int ar3] (sh, gi, gl, gr) (t_PI wl_m_tray_0 sh gi gl gr 0 1 (Q_m_tray_0 gi gl gr ar2 ar3)) := by
  have hX : t_X wl_m_tray_0 sh gi gl gr gi gl gr := t_X.rf
  refine me_i f_X12_tray (hI.wf.s rfl) rfl rfl rfl ?_
  obtain ⟨l1, u1⟩ := hI.ab (by decide +kernel : t_abr 72 0 0 0 3 = true) (Nat.le_refl _) (Nat.le_refl _)
  obtain ⟨l2, u2⟩ := hI.ab (by decide +kernel : t_abr 73 0 0 (-1) 60 = true) (Nat.le_refl _) (Nat.le_refl _)
  refine ev_loc f_X12_tray (nx := 1) rfl rfl rfl rfl ?_
  refine ev_inS1 f_X12_tray (nx := 4) (lo2 := [(0, .int 0)]) rfl rfl rfl rfl f_X12_isTray rfl rfl rfl rfl ?_
  refine ev_loc f_X12_isTray (nx := 1) rfl rfl rfl rfl ?_
  refine ev_f f_X12_isTray (t1 := 13) (t2 := 4) rfl rfl rfl (by decide) ?_
  refine ev_loc f_X12_isTray (nx := 5) rfl rfl rfl rfl ?_
  refine ev_ic f_X12_isTray (nx := 6) (v := 4) rfl (by decide) rfl ?_
  refine ev_f f_X12_isTray (t1 := 13) (t2 := 9) rfl rfl rfl (by decide) ?_
  refine ev_ic f_X12_isTray (nx := 10) (v := 1) rfl (by decide) rfl ?_
  refine ev_jmp f_X12_isTray (nx := 14) rfl rfl rfl ?_
  refine ev_retK1 f_X12_isTray rfl rfl rfl ?_
  refine ev_f f_X12_tray (t1 := 26) (t2 := 7) rfl rfl rfl (by decide) ?_
  refine ev_loc f_X12_tray (nx := 8) rfl rfl rfl rfl ?_
  refine ev_if f_X12_tray (t1 := 26) (t2 := 11) rfl rfl rfl (fun h3 => ?_) (fun h3 => ?_)
  · have u4 : ar2.toInt ≤ (-1) := t_ltu h3 (by decide : (0:Int32).toInt ≤ (0:Int)) rfl
    refine ev_loc f_X12_tray (nx := 27) rfl rfl rfl rfl ?_
    refine ev_ic f_X12_tray (nx := 28) (v := 1) rfl (by decide) rfl ?_
    refine ev_inV2 f_X12_tray (nx := 31) (lo2 := [(0, .ref 69), (1, .int 1)]) rfl rfl rfl rfl f_X12_is (hI.wf.s rfl) rfl rfl rfl rfl rfl ?_
    refine ev_loc f_X12_is (nx := 1) rfl rfl rfl rfl ?_
    refine ev_loc f_X12_is (nx := 2) rfl rfl rfl rfl ?_
    refine ev_putIT f_X12_is (nx := 5) rfl (hI.wf.s rfl) rfl rfl rfl (hI.put0 (hI.wf.s rfl) rfl rfl) (hX.upI rfl) (fun g5 e5 hI hX => ?_)
    refine ev_loc f_X12_is (nx := 6) rfl rfl rfl rfl ?_
    refine ev_f f_X12_is (t1 := 9) (t2 := 13) rfl rfl rfl (by decide) ?_
    refine ev_ic f_X12_is (nx := 14) (v := 0) rfl (by decide) rfl ?_
    refine ev_retK1 f_X12_is rfl rfl rfl ?_
    exact ev_ret f_X12_tray rfl rfl rfl ⟨_, _, _, rfl, hI, hX, ⟨_, rfl, (by decide : (0:Int) ≤ (0:Int32).toInt), (Int.le_trans (by decide : (0:Int32).toInt ≤ (0:Int)) (by decide : (0:Int) ≤ 1)), (show ((0 ≤ (0 : Int) ∧ (0 : Int) ≤ 1) ∧ ((0 : Int) = 1 ↔ (0 ≤ ar2.toInt ∧ ar2.toInt ≤ 3 ∧ 0 ≤ ar3.toInt ∧ ar3.toInt ≤ 60)) ∧ ((0 ≤ ar2.toInt ∧ ar2.toInt ≤ 3 ∧ 0 ≤ ar3.toInt ∧ ar3.toInt ≤ 60) → (g5 73 0).toInt = ar3.toInt ∧ (g5 72 0).toInt = ar2.toInt) ∧ (¬ (0 ≤ ar2.toInt ∧ ar2.toInt ≤ 3 ∧ 0 ≤ ar3.toInt ∧ ar3.toInt ≤ 60) → (g5 73 0).toInt = (gi 73 0).toInt ∧ (g5 72 0).toInt = (gi 72 0).toInt)) ∧ ((0 ≤ ar2.toInt ∧ ar2.toInt ≤ 3 ∧ 0 ≤ ar3.toInt ∧ ar3.toInt ≤ 60) → ∀ j : Nat, (j : Int) < ar3.toInt → gl 74 (0 + j) = 0) ∧ (¬ (0 ≤ ar2.toInt ∧ ar2.toInt ≤ 3 ∧ 0 ≤ ar3.toInt ∧ ar3.toInt ≤ 60) → ∀ j : Nat, gl 74 j = gl 74 j) ∧ (∀ m : Nat, (m < 0 ∨ 60 ≤ m) → gl 74 m = gl 74 m) from ⟨(show ((0 ≤ (0 : Int) ∧ (0 : Int) ≤ 1) ∧ ((0 : Int) = 1 ↔ (0 ≤ ar2.toInt ∧ ar2.toInt ≤ 3 ∧ 0 ≤ ar3.toInt ∧ ar3.toInt ≤ 60)) ∧ ((0 ≤ ar2.toInt ∧ ar2.toInt ≤ 3 ∧ 0 ≤ ar3.toInt ∧ ar3.toInt ≤ 60) → (g5 73 0).toInt = ar3.toInt ∧ (g5 72 0).toInt = ar2.toInt) ∧ (¬ (0 ≤ ar2.toInt ∧ ar2.toInt ≤ 3 ∧ 0 ≤ ar3.toInt ∧ ar3.toInt ≤ 60) → (g5 73 0).toInt = (gi 73 0).toInt ∧ (g5 72 0).toInt = (gi 72 0).toInt)) from (by have ff6 : (g5 73 0).toInt = (gi 73 0).toInt := congrArg Int32.toInt ((by rw [e5]; exact x_up2_off (Or.inr (by decide)) : g5 73 0 = gi 73 0).trans rfl); have ff7 : (g5 72 0).toInt = (gi 72 0).toInt := congrArg Int32.toInt ((by rw [e5]; exact x_up2_off (Or.inr (by decide)) : g5 72 0 = gi 72 0).trans rfl); omega)), fun h => absurd h (by omega), fun _ j => rfl, fun m h => rfl⟩)⟩⟩
  · have l8 : 0 ≤ ar2.toInt := t_lel (t_nlt h3) (by decide : (0:Int) ≤ (0:Int32).toInt)
    refine ev_loc f_X12_tray (nx := 12) rfl rfl rfl rfl ?_
    refine ev_ic f_X12_tray (nx := 13) (v := 3) rfl (by decide) rfl ?_
    refine ev_if f_X12_tray (t1 := 26) (t2 := 16) rfl rfl rfl (fun h9 => ?_) (fun h9 => ?_)
    · have l10 : 4 ≤ ar2.toInt := t_ltl h9 (by decide : (3:Int) ≤ (3:Int32).toInt) rfl
      refine ev_loc f_X12_tray (nx := 27) rfl rfl rfl rfl ?_
      refine ev_ic f_X12_tray (nx := 28) (v := 1) rfl (by decide) rfl ?_
      refine ev_inV2 f_X12_tray (nx := 31) (lo2 := [(0, .ref 69), (1, .int 1)]) rfl rfl rfl rfl f_X12_is (hI.wf.s rfl) rfl rfl rfl rfl rfl ?_
      refine ev_loc f_X12_is (nx := 1) rfl rfl rfl rfl ?_
      refine ev_loc f_X12_is (nx := 2) rfl rfl rfl rfl ?_
      refine ev_putIT f_X12_is (nx := 5) rfl (hI.wf.s rfl) rfl rfl rfl (hI.put0 (hI.wf.s rfl) rfl rfl) (hX.upI rfl) (fun g11 e11 hI hX => ?_)
      refine ev_loc f_X12_is (nx := 6) rfl rfl rfl rfl ?_
      refine ev_f f_X12_is (t1 := 9) (t2 := 13) rfl rfl rfl (by decide) ?_
      refine ev_ic f_X12_is (nx := 14) (v := 0) rfl (by decide) rfl ?_
      refine ev_retK1 f_X12_is rfl rfl rfl ?_
      exact ev_ret f_X12_tray rfl rfl rfl ⟨_, _, _, rfl, hI, hX, ⟨_, rfl, (by decide : (0:Int) ≤ (0:Int32).toInt), (Int.le_trans (by decide : (0:Int32).toInt ≤ (0:Int)) (by decide : (0:Int) ≤ 1)), (show ((0 ≤ (0 : Int) ∧ (0 : Int) ≤ 1) ∧ ((0 : Int) = 1 ↔ (0 ≤ ar2.toInt ∧ ar2.toInt ≤ 3 ∧ 0 ≤ ar3.toInt ∧ ar3.toInt ≤ 60)) ∧ ((0 ≤ ar2.toInt ∧ ar2.toInt ≤ 3 ∧ 0 ≤ ar3.toInt ∧ ar3.toInt ≤ 60) → (g11 73 0).toInt = ar3.toInt ∧ (g11 72 0).toInt = ar2.toInt) ∧ (¬ (0 ≤ ar2.toInt ∧ ar2.toInt ≤ 3 ∧ 0 ≤ ar3.toInt ∧ ar3.toInt ≤ 60) → (g11 73 0).toInt = (gi 73 0).toInt ∧ (g11 72 0).toInt = (gi 72 0).toInt)) ∧ ((0 ≤ ar2.toInt ∧ ar2.toInt ≤ 3 ∧ 0 ≤ ar3.toInt ∧ ar3.toInt ≤ 60) → ∀ j : Nat, (j : Int) < ar3.toInt → gl 74 (0 + j) = 0) ∧ (¬ (0 ≤ ar2.toInt ∧ ar2.toInt ≤ 3 ∧ 0 ≤ ar3.toInt ∧ ar3.toInt ≤ 60) → ∀ j : Nat, gl 74 j = gl 74 j) ∧ (∀ m : Nat, (m < 0 ∨ 60 ≤ m) → gl 74 m = gl 74 m) from ⟨(show ((0 ≤ (0 : Int) ∧ (0 : Int) ≤ 1) ∧ ((0 : Int) = 1 ↔ (0 ≤ ar2.toInt ∧ ar2.toInt ≤ 3 ∧ 0 ≤ ar3.toInt ∧ ar3.toInt ≤ 60)) ∧ ((0 ≤ ar2.toInt ∧ ar2.toInt ≤ 3 ∧ 0 ≤ ar3.toInt ∧ ar3.toInt ≤ 60) → (g11 73 0).toInt = ar3.toInt ∧ (g11 72 0).toInt = ar2.toInt) ∧ (¬ (0 ≤ ar2.toInt ∧ ar2.toInt ≤ 3 ∧ 0 ≤ ar3.toInt ∧ ar3.toInt ≤ 60) → (g11 73 0).toInt = (gi 73 0).toInt ∧ (g11 72 0).toInt = (gi 72 0).toInt)) from (by have ff12 : (g11 73 0).toInt = (gi 73 0).toInt := congrArg Int32.toInt ((by rw [e11]; exact x_up2_off (Or.inr (by decide)) : g11 73 0 = gi 73 0).trans rfl); have ff13 : (g11 72 0).toInt = (gi 72 0).toInt := congrArg Int32.toInt ((by rw [e11]; exact x_up2_off (Or.inr (by decide)) : g11 72 0 = gi 72 0).trans rfl); omega)), fun h => absurd h (by omega), fun _ j => rfl, fun m h => rfl⟩)⟩⟩
    · have u14 : ar2.toInt ≤ 3 := t_leu (t_nlt h9) (by decide : (3:Int32).toInt ≤ (3:Int))
      refine ev_loc f_X12_tray (nx := 17) rfl rfl rfl rfl ?_
      refine ev_if f_X12_tray (t1 := 26) (t2 := 20) rfl rfl rfl (fun h15 => ?_) (fun h15 => ?_)
      · have u16 : ar3.toInt ≤ (-1) := t_ltu h15 (by decide : (0:Int32).toInt ≤ (0:Int)) rfl
        refine ev_loc f_X12_tray (nx := 27) rfl rfl rfl rfl ?_
        refine ev_ic f_X12_tray (nx := 28) (v := 1) rfl (by decide) rfl ?_
        refine ev_inV2 f_X12_tray (nx := 31) (lo2 := [(0, .ref 69), (1, .int 1)]) rfl rfl rfl rfl f_X12_is (hI.wf.s rfl) rfl rfl rfl rfl rfl ?_
        refine ev_loc f_X12_is (nx := 1) rfl rfl rfl rfl ?_
        refine ev_loc f_X12_is (nx := 2) rfl rfl rfl rfl ?_
        refine ev_putIT f_X12_is (nx := 5) rfl (hI.wf.s rfl) rfl rfl rfl (hI.put0 (hI.wf.s rfl) rfl rfl) (hX.upI rfl) (fun g17 e17 hI hX => ?_)
        refine ev_loc f_X12_is (nx := 6) rfl rfl rfl rfl ?_
        refine ev_f f_X12_is (t1 := 9) (t2 := 13) rfl rfl rfl (by decide) ?_
        refine ev_ic f_X12_is (nx := 14) (v := 0) rfl (by decide) rfl ?_
        refine ev_retK1 f_X12_is rfl rfl rfl ?_
        exact ev_ret f_X12_tray rfl rfl rfl ⟨_, _, _, rfl, hI, hX, ⟨_, rfl, (by decide : (0:Int) ≤ (0:Int32).toInt), (Int.le_trans (by decide : (0:Int32).toInt ≤ (0:Int)) (by decide : (0:Int) ≤ 1)), (show ((0 ≤ (0 : Int) ∧ (0 : Int) ≤ 1) ∧ ((0 : Int) = 1 ↔ (0 ≤ ar2.toInt ∧ ar2.toInt ≤ 3 ∧ 0 ≤ ar3.toInt ∧ ar3.toInt ≤ 60)) ∧ ((0 ≤ ar2.toInt ∧ ar2.toInt ≤ 3 ∧ 0 ≤ ar3.toInt ∧ ar3.toInt ≤ 60) → (g17 73 0).toInt = ar3.toInt ∧ (g17 72 0).toInt = ar2.toInt) ∧ (¬ (0 ≤ ar2.toInt ∧ ar2.toInt ≤ 3 ∧ 0 ≤ ar3.toInt ∧ ar3.toInt ≤ 60) → (g17 73 0).toInt = (gi 73 0).toInt ∧ (g17 72 0).toInt = (gi 72 0).toInt)) ∧ ((0 ≤ ar2.toInt ∧ ar2.toInt ≤ 3 ∧ 0 ≤ ar3.toInt ∧ ar3.toInt ≤ 60) → ∀ j : Nat, (j : Int) < ar3.toInt → gl 74 (0 + j) = 0) ∧ (¬ (0 ≤ ar2.toInt ∧ ar2.toInt ≤ 3 ∧ 0 ≤ ar3.toInt ∧ ar3.toInt ≤ 60) → ∀ j : Nat, gl 74 j = gl 74 j) ∧ (∀ m : Nat, (m < 0 ∨ 60 ≤ m) → gl 74 m = gl 74 m) from ⟨(show ((0 ≤ (0 : Int) ∧ (0 : Int) ≤ 1) ∧ ((0 : Int) = 1 ↔ (0 ≤ ar2.toInt ∧ ar2.toInt ≤ 3 ∧ 0 ≤ ar3.toInt ∧ ar3.toInt ≤ 60)) ∧ ((0 ≤ ar2.toInt ∧ ar2.toInt ≤ 3 ∧ 0 ≤ ar3.toInt ∧ ar3.toInt ≤ 60) → (g17 73 0).toInt = ar3.toInt ∧ (g17 72 0).toInt = ar2.toInt) ∧ (¬ (0 ≤ ar2.toInt ∧ ar2.toInt ≤ 3 ∧ 0 ≤ ar3.toInt ∧ ar3.toInt ≤ 60) → (g17 73 0).toInt = (gi 73 0).toInt ∧ (g17 72 0).toInt = (gi 72 0).toInt)) from (by have ff18 : (g17 73 0).toInt = (gi 73 0).toInt := congrArg Int32.toInt ((by rw [e17]; exact x_up2_off (Or.inr (by decide)) : g17 73 0 = gi 73 0).trans rfl); have ff19 : (g17 72 0).toInt = (gi 72 0).toInt := congrArg Int32.toInt ((by rw [e17]; exact x_up2_off (Or.inr (by decide)) : g17 72 0 = gi 72 0).trans rfl); omega)), fun h => absurd h (by omega), fun _ j => rfl, fun m h => rfl⟩)⟩⟩
      · have l20 : 0 ≤ ar3.toInt := t_lel (t_nlt h15) (by decide : (0:Int) ≤ (0:Int32).toInt)
        refine ev_loc f_X12_tray (nx := 21) rfl rfl rfl rfl ?_
        refine ev_bp f_X12_tray (nx := 23) (v := 60) rfl (by decide) rfl ?_
        refine ev_if f_X12_tray (t1 := 32) (t2 := 26) rfl rfl rfl (fun h21 => ?_) (fun h21 => ?_)
        · have u22 : ar3.toInt ≤ 60 := t_leu h21 (by decide : (60:Int32).toInt ≤ (60:Int))
          refine ev_loc f_X12_tray (nx := 33) rfl rfl rfl rfl ?_
          refine ev_getR f_X12_tray (nx := 36) rfl (hI.wf.s rfl) rfl rfl (hI.wf.r rfl) rfl rfl ?_
          refine ev_loc f_X12_tray (nx := 37) rfl rfl rfl rfl ?_
          refine ev_loc f_X12_tray (nx := 38) rfl rfl rfl rfl ?_
          refine ev_iastT f_X12_tray (nx := 39) rfl (hI.wf.s rfl) (by decide : (0:Int) ≤ (0:Int32).toInt) (by decide) (by decide : (0:Int32).toInt ≤ (0:Int)) (by decide) rfl (hI.astL (hI.wf.s rfl) (by decide +kernel : t_abw 72 0 0 0 3 = true) (t_cl1 (by decide : (0:Int) ≤ (0:Int32).toInt) (by decide)) (t_cl2 (by decide : (0:Int) ≤ (0:Int32).toInt) (by decide : (0:Int32).toInt ≤ (0:Int)) (by decide) (by decide)) l8 u14 rfl) (hX.upI (t_inR (p := 0) (m := 0) rfl (by decide : (0:Int) ≤ (0:Int32).toInt) (by decide) (by decide : (0:Int32).toInt ≤ (0:Int)) (by decide) (by decide))) (fun g23 e23 hI hX => ?_)
          refine ev_loc f_X12_tray (nx := 40) rfl rfl rfl rfl ?_
          refine ev_getR f_X12_tray (nx := 43) rfl (hI.wf.s rfl) rfl rfl (hI.wf.r rfl) rfl rfl ?_
          refine ev_loc f_X12_tray (nx := 44) rfl rfl rfl rfl ?_
          refine ev_loc f_X12_tray (nx := 45) rfl rfl rfl rfl ?_
          refine ev_iastT f_X12_tray (nx := 46) rfl (hI.wf.s rfl) (by decide : (0:Int) ≤ (0:Int32).toInt) (by decide) (by decide : (0:Int32).toInt ≤ (0:Int)) (by decide) rfl (hI.astL (hI.wf.s rfl) (by decide +kernel : t_abw 73 0 0 0 60 = true) (t_cl1 (by decide : (0:Int) ≤ (0:Int32).toInt) (by decide)) (t_cl2 (by decide : (0:Int) ≤ (0:Int32).toInt) (by decide : (0:Int32).toInt ≤ (0:Int)) (by decide) (by decide)) l20 u22 rfl) (hX.upI (t_inR (p := 0) (m := 0) rfl (by decide : (0:Int) ≤ (0:Int32).toInt) (by decide) (by decide : (0:Int32).toInt ≤ (0:Int)) (by decide) (by decide))) (fun g24 e24 hI hX => ?_)
          refine ev_ic f_X12_tray (nx := 47) (v := 0) rfl (by decide) rfl ?_
          refine ev_loc f_X12_tray (nx := 49) (lo' := [(4, .int 0), (0, .ref 69), (1, .int 0), (2, .int ar2), (3, .int ar3)]) rfl rfl rfl rfl ?_
          have L25 : ∀ (m25 : Nat) (gi25 : Nat → Nat → Int32) (gl25 : Nat → Nat → Int64) (gr25 : Nat → Nat → Value) (y25_4 : Int32), t_I sh gi25 gr25 → t_X wl_m_tray_0 sh gi gl gr gi25 gl25 gr25 → 0 ≤ y25_4.toInt → y25_4.toInt ≤ 60 → gi25 72 0 = ar2 → gi25 73 0 = ar3 → (∀ j : Nat, (j : Int) < y25_4.toInt → gl25 74 (0 + j) = 0) → (∀ m : Nat, (m < 0 ∨ 60 ≤ m) → gl25 74 m = gl 74 m) → (60 - y25_4.toInt).toNat = m25 → x_Ev X (d + 2) n_X12_tray 49 [(4, .int y25_4), (0, .ref 69), (1, .int 0), (2, .int ar2), (3, .int ar3)] [] (sh, gi25, gl25, gr25) (t_PI wl_m_tray_0 sh gi gl gr 0 1 (Q_m_tray_0 gi gl gr ar2 ar3)) := by
            intro m25
            induction m25 using Nat.strongRecOn with
            | _ m25 ih25 =>
            intro gi25 gl25 gr25 y25_4 hI hX l25_4 u25_4 c25_0 c25_1 j25_0 j25_1 hm25
            refine ev_loc f_X12_tray (nx := 51) rfl rfl rfl rfl ?_
            refine ev_loc f_X12_tray (nx := 52) rfl rfl rfl rfl ?_
            refine ev_if f_X12_tray (t1 := 74) (t2 := 55) rfl rfl rfl (fun h26 => ?_) (fun h26 => ?_)
            · have r27 : ar3.toInt ≤ y25_4.toInt := Int32.le_iff_toInt_le.mp h26
              refine ev_loc f_X12_tray (nx := 75) rfl rfl rfl rfl ?_
              refine ev_ic f_X12_tray (nx := 76) (v := 0) rfl (by decide) rfl ?_
              refine ev_inV2 f_X12_tray (nx := 79) (lo2 := [(0, .ref 69), (1, .int 0)]) rfl rfl rfl rfl f_X12_is (hI.wf.s rfl) rfl rfl rfl rfl rfl ?_
              refine ev_loc f_X12_is (nx := 1) rfl rfl rfl rfl ?_
              refine ev_loc f_X12_is (nx := 2) rfl rfl rfl rfl ?_
              refine ev_putIT f_X12_is (nx := 5) rfl (hI.wf.s rfl) rfl rfl rfl (hI.put0 (hI.wf.s rfl) rfl rfl) (hX.upI rfl) (fun g28 e28 hI hX => ?_)
              refine ev_loc f_X12_is (nx := 6) rfl rfl rfl rfl ?_
              refine ev_t f_X12_is (t1 := 9) (t2 := 13) rfl rfl rfl (by decide) ?_
              refine ev_ic f_X12_is (nx := 10) (v := 1) rfl (by decide) rfl ?_
              refine ev_jmp f_X12_is (nx := 14) rfl rfl rfl ?_
              refine ev_retK1 f_X12_is rfl rfl rfl ?_
              exact ev_ret f_X12_tray rfl rfl rfl ⟨_, _, _, rfl, hI, hX, ⟨_, rfl, (Int.le_trans (by decide : (0:Int) ≤ 1) (by decide : (1:Int) ≤ (1:Int32).toInt)), (by decide : (1:Int32).toInt ≤ (1:Int)), (show ((0 ≤ (1 : Int) ∧ (1 : Int) ≤ 1) ∧ ((1 : Int) = 1 ↔ (0 ≤ ar2.toInt ∧ ar2.toInt ≤ 3 ∧ 0 ≤ ar3.toInt ∧ ar3.toInt ≤ 60)) ∧ ((0 ≤ ar2.toInt ∧ ar2.toInt ≤ 3 ∧ 0 ≤ ar3.toInt ∧ ar3.toInt ≤ 60) → (g28 73 0).toInt = ar3.toInt ∧ (g28 72 0).toInt = ar2.toInt) ∧ (¬ (0 ≤ ar2.toInt ∧ ar2.toInt ≤ 3 ∧ 0 ≤ ar3.toInt ∧ ar3.toInt ≤ 60) → (g28 73 0).toInt = (gi 73 0).toInt ∧ (g28 72 0).toInt = (gi 72 0).toInt)) ∧ ((0 ≤ ar2.toInt ∧ ar2.toInt ≤ 3 ∧ 0 ≤ ar3.toInt ∧ ar3.toInt ≤ 60) → ∀ j : Nat, (j : Int) < ar3.toInt → gl25 74 (0 + j) = 0) ∧ (¬ (0 ≤ ar2.toInt ∧ ar2.toInt ≤ 3 ∧ 0 ≤ ar3.toInt ∧ ar3.toInt ≤ 60) → ∀ j : Nat, gl25 74 j = gl 74 j) ∧ (∀ m : Nat, (m < 0 ∨ 60 ≤ m) → gl25 74 m = gl 74 m) from ⟨(show ((0 ≤ (1 : Int) ∧ (1 : Int) ≤ 1) ∧ ((1 : Int) = 1 ↔ (0 ≤ ar2.toInt ∧ ar2.toInt ≤ 3 ∧ 0 ≤ ar3.toInt ∧ ar3.toInt ≤ 60)) ∧ ((0 ≤ ar2.toInt ∧ ar2.toInt ≤ 3 ∧ 0 ≤ ar3.toInt ∧ ar3.toInt ≤ 60) → (g28 73 0).toInt = ar3.toInt ∧ (g28 72 0).toInt = ar2.toInt) ∧ (¬ (0 ≤ ar2.toInt ∧ ar2.toInt ≤ 3 ∧ 0 ≤ ar3.toInt ∧ ar3.toInt ≤ 60) → (g28 73 0).toInt = (gi 73 0).toInt ∧ (g28 72 0).toInt = (gi 72 0).toInt)) from (by have ff29 : (g28 73 0).toInt = ar3.toInt := congrArg Int32.toInt ((by rw [e28]; exact x_up2_off (Or.inr (by decide)) : g28 73 0 = gi25 73 0).trans c25_1); have ff30 : (g28 72 0).toInt = ar2.toInt := congrArg Int32.toInt ((by rw [e28]; exact x_up2_off (Or.inr (by decide)) : g28 72 0 = gi25 72 0).trans c25_0); omega)), fun _ j h => j25_0 j (by omega), fun h => absurd (show _ from ⟨by omega, by omega, by omega, by omega⟩) h, j25_1⟩)⟩⟩
            · have r31 : y25_4.toInt < ar3.toInt := Int32.lt_iff_toInt_lt.mp (t_nle h26)
              have u32 : y25_4.toInt ≤ 59 := t_ltu (t_nle h26) u22 rfl
              have l33 : 1 ≤ ar3.toInt := t_ltl (t_nle h26) l25_4 rfl
              refine ev_loc f_X12_tray (nx := 56) rfl rfl rfl rfl ?_
              refine ev_getR f_X12_tray (nx := 59) rfl (hI.wf.s rfl) rfl rfl (hI.wf.r rfl) rfl rfl ?_
              refine ev_bp f_X12_tray (nx := 61) (v := 60) rfl (by decide) rfl ?_
              refine ev_loc f_X12_tray (nx := 62) rfl rfl rfl rfl ?_
              refine ev_aluvI f_X12_tray (nx := 63) (w := 0) rfl rfl rfl (by decide) rfl ?_
              refine ev_loc f_X12_tray (nx := 65) rfl rfl rfl rfl ?_
              refine ev_addK f_X12_tray (nx := 66) (c := 0) (l := 0) (u := 59) rfl (by decide) l25_4 u32 rfl rfl (by decide) (by decide) rfl (fun z34 e34 l34 u34 => ?_)
              refine ev_lc f_X12_tray (nx := 67) (v := 0) rfl (by decide) rfl ?_
              refine ev_lastT f_X12_tray (nx := 68) rfl (hI.wf.s rfl) l34 (by decide) u34 (by decide) rfl (hX.upL (t_inR (p := 0) (m := 59) rfl l34 (by decide) u34 (by decide) (by decide))) (fun g35 e35 hX => ?_)
              refine ev_incR f_X12_tray (nx := 71) (c := 1) (l := 1) (u := 60) rfl rfl (by decide) (by decide) l25_4 u32 rfl rfl (by decide) (by decide) rfl (fun z36 e36 l36 u36 => ?_)
              refine ev_jmp f_X12_tray (nx := 49) rfl rfl rfl ?_
              refine ev_sub (lo := [(4, .int z36), (0, .ref 69), (1, .int 0), (2, .int ar2), (3, .int ar3)]) rfl (t_sc rfl (t_sc rfl (t_sc rfl (t_sc rfl (t_sc rfl t_sn))))) ?_
              exact ih25 _ (by omega) gi25 g35 gr25 (z36) hI hX  (Int.le_trans (by decide : (0:Int) ≤ 1) l36) u36 c25_0 c25_1 (by intro j hj; by_cases h : 0 + j = z34.toNatClampNeg; (rw [h, e35, x_up2_at]); (rw [e35, x_up2_off (Or.inr h)]; exact j25_0 j (by have hc := t_clamp (i := z34) (by omega); omega))) (by intro m hm; rw [e35, x_up2_off (Or.inr (by have hc := t_clamp (i := z34) (by omega); omega))]; exact j25_1 m hm) rfl
          refine ev_sub (lo := [(4, .int 0), (0, .ref 69), (1, .int 0), (2, .int ar2), (3, .int ar3)]) rfl (t_sc rfl (t_sc rfl (t_sc rfl (t_sc rfl (t_sc rfl t_sn))))) ?_
          exact L25 _ g24 gl gr (0) hI hX  (by decide : (0:Int) ≤ (0:Int32).toInt) (Int.le_trans (by decide : (0:Int32).toInt ≤ (0:Int)) (by decide : (0:Int) ≤ 60)) ((by rw [e24]; exact x_up2_off (Or.inl (by decide)) : g24 72 0 = g23 72 0).trans (by rw [e23]; exact x_up2_at _ _ _ _ : g23 72 0 = ar2)) (by rw [e24]; exact x_up2_at _ _ _ _ : g24 73 0 = ar3) (fun j h => absurd h (by have : (0 : Int32).toInt = 0 := rfl; omega)) (fun m h => rfl) rfl
        · have l37 : 61 ≤ ar3.toInt := t_ltl (t_nle h21) (by decide : (60:Int) ≤ (60:Int32).toInt) rfl
          refine ev_loc f_X12_tray (nx := 27) rfl rfl rfl rfl ?_
          refine ev_ic f_X12_tray (nx := 28) (v := 1) rfl (by decide) rfl ?_
          refine ev_inV2 f_X12_tray (nx := 31) (lo2 := [(0, .ref 69), (1, .int 1)]) rfl rfl rfl rfl f_X12_is (hI.wf.s rfl) rfl rfl rfl rfl rfl ?_
          refine ev_loc f_X12_is (nx := 1) rfl rfl rfl rfl ?_
          refine ev_loc f_X12_is (nx := 2) rfl rfl rfl rfl ?_
          refine ev_putIT f_X12_is (nx := 5) rfl (hI.wf.s rfl) rfl rfl rfl (hI.put0 (hI.wf.s rfl) rfl rfl) (hX.upI rfl) (fun g38 e38 hI hX => ?_)
          refine ev_loc f_X12_is (nx := 6) rfl rfl rfl rfl ?_
          refine ev_f f_X12_is (t1 := 9) (t2 := 13) rfl rfl rfl (by decide) ?_
          refine ev_ic f_X12_is (nx := 14) (v := 0) rfl (by decide) rfl ?_
          refine ev_retK1 f_X12_is rfl rfl rfl ?_
          exact ev_ret f_X12_tray rfl rfl rfl ⟨_, _, _, rfl, hI, hX, ⟨_, rfl, (by decide : (0:Int) ≤ (0:Int32).toInt), (Int.le_trans (by decide : (0:Int32).toInt ≤ (0:Int)) (by decide : (0:Int) ≤ 1)), (show ((0 ≤ (0 : Int) ∧ (0 : Int) ≤ 1) ∧ ((0 : Int) = 1 ↔ (0 ≤ ar2.toInt ∧ ar2.toInt ≤ 3 ∧ 0 ≤ ar3.toInt ∧ ar3.toInt ≤ 60)) ∧ ((0 ≤ ar2.toInt ∧ ar2.toInt ≤ 3 ∧ 0 ≤ ar3.toInt ∧ ar3.toInt ≤ 60) → (g38 73 0).toInt = ar3.toInt ∧ (g38 72 0).toInt = ar2.toInt) ∧ (¬ (0 ≤ ar2.toInt ∧ ar2.toInt ≤ 3 ∧ 0 ≤ ar3.toInt ∧ ar3.toInt ≤ 60) → (g38 73 0).toInt = (gi 73 0).toInt ∧ (g38 72 0).toInt = (gi 72 0).toInt)) ∧ ((0 ≤ ar2.toInt ∧ ar2.toInt ≤ 3 ∧ 0 ≤ ar3.toInt ∧ ar3.toInt ≤ 60) → ∀ j : Nat, (j : Int) < ar3.toInt → gl 74 (0 + j) = 0) ∧ (¬ (0 ≤ ar2.toInt ∧ ar2.toInt ≤ 3 ∧ 0 ≤ ar3.toInt ∧ ar3.toInt ≤ 60) → ∀ j : Nat, gl 74 j = gl 74 j) ∧ (∀ m : Nat, (m < 0 ∨ 60 ≤ m) → gl 74 m = gl 74 m) from ⟨(show ((0 ≤ (0 : Int) ∧ (0 : Int) ≤ 1) ∧ ((0 : Int) = 1 ↔ (0 ≤ ar2.toInt ∧ ar2.toInt ≤ 3 ∧ 0 ≤ ar3.toInt ∧ ar3.toInt ≤ 60)) ∧ ((0 ≤ ar2.toInt ∧ ar2.toInt ≤ 3 ∧ 0 ≤ ar3.toInt ∧ ar3.toInt ≤ 60) → (g38 73 0).toInt = ar3.toInt ∧ (g38 72 0).toInt = ar2.toInt) ∧ (¬ (0 ≤ ar2.toInt ∧ ar2.toInt ≤ 3 ∧ 0 ≤ ar3.toInt ∧ ar3.toInt ≤ 60) → (g38 73 0).toInt = (gi 73 0).toInt ∧ (g38 72 0).toInt = (gi 72 0).toInt)) from (by have ff39 : (g38 73 0).toInt = (gi 73 0).toInt := congrArg Int32.toInt ((by rw [e38]; exact x_up2_off (Or.inr (by decide)) : g38 73 0 = gi 73 0).trans rfl); have ff40 : (g38 72 0).toInt = (gi 72 0).toInt := congrArg Int32.toInt ((by rw [e38]; exact x_up2_off (Or.inr (by decide)) : g38 72 0 = gi 72 0).trans rfl); omega)), fun h => absurd h (by omega), fun _ j => rfl, fun m h => rfl⟩)⟩⟩
noncomputable def wl_lay_1 : List (Nat × Nat) := [(63, 1), (63, 2), (64, 9999)]
noncomputable def Q_lay_1 (gi : Nat → Nat → Int32) (gl : Nat → Nat → Int64) (gr : Nat → Nat → Value) (ar1 : Int32) (ar2 : Int32) : (Nat → Nat → Int32) → (Nat → Nat → Int64) → (Nat → Nat → Value) → Prop := fun (gi2 : Nat → Nat → Int32) (gl2 : Nat → Nat → Int64) (gr2 : Nat → Nat → Value) => ((gi2 63 2).toInt = ar2.toInt ∧ (gi2 63 1).toInt = ar1.toInt) ∧ (∀ j : Nat, j < 60 → gl2 64 j = 0)
theorem c_lay_1 {X : x_Ext} {d : Nat} {sh : List (Nat ⊕ (Nat × Nat))} {gi : Nat → Nat → Int32} {gl : Nat → Nat → Int64} {gr : Nat → Nat → Value} (hI : t_I sh gi gr) (ar1 : Int32) (ar2 : Int32) (l_a2 : 0 ≤ ar2.toInt) (u_a2 : ar2.toInt ≤ 60) : x_Me X (d + 1) n_X10_lay [.ref 63, .int ar1, .int ar2] (sh, gi, gl, gr) (t_PN wl_lay_1 sh gi gl gr (Q_lay_1 gi gl gr ar1 ar2)) := by
  have hX : t_X wl_lay_1 sh gi gl gr gi gl gr := t_X.rf
  refine me_i f_X10_lay (hI.wf.s rfl) rfl rfl rfl ?_
  obtain ⟨l2, u2⟩ := hI.b (hI.wf.s (k := 63) rfl) (t_bdK rfl : t_bd 9 2 = some ((-1), 60))
  refine ev_loc f_X10_lay (nx := 1) rfl rfl rfl rfl ?_
  refine ev_loc f_X10_lay (nx := 2) rfl rfl rfl rfl ?_
  refine ev_putIT f_X10_lay (nx := 5) rfl (hI.wf.s rfl) rfl rfl rfl (hI.put0 (hI.wf.s rfl) rfl rfl) (hX.upI rfl) (fun g3 e3 hI hX => ?_)
  refine ev_loc f_X10_lay (nx := 6) rfl rfl rfl rfl ?_
  refine ev_loc f_X10_lay (nx := 7) rfl rfl rfl rfl ?_
  refine ev_putIT f_X10_lay (nx := 10) rfl (hI.wf.s rfl) rfl rfl rfl (hI.putB (hI.wf.s rfl) rfl rfl l_a2 (by decide) u_a2 (by decide)) (hX.upI rfl) (fun g4 e4 hI hX => ?_)
  refine ev_ic f_X10_lay (nx := 11) (v := 0) rfl (by decide) rfl ?_
  refine ev_loc f_X10_lay (nx := 12) (lo' := [(3, .int 0), (0, .ref 63), (1, .int ar1), (2, .int ar2)]) rfl rfl rfl rfl ?_
  have L5 : ∀ (m5 : Nat) (gi5 : Nat → Nat → Int32) (gl5 : Nat → Nat → Int64) (gr5 : Nat → Nat → Value) (y5_3 : Int32), t_I sh gi5 gr5 → t_X wl_lay_1 sh gi gl gr gi5 gl5 gr5 → 0 ≤ y5_3.toInt → y5_3.toInt ≤ 60 → gi5 63 1 = ar1 → gi5 63 2 = ar2 → (∀ j : Nat, (j : Int) < y5_3.toInt → gl5 64 j = 0) → (60 - y5_3.toInt).toNat = m5 → x_Ev X (d + 1) n_X10_lay 12 [(3, .int y5_3), (0, .ref 63), (1, .int ar1), (2, .int ar2)] [] (sh, gi5, gl5, gr5) (t_PN wl_lay_1 sh gi gl gr (Q_lay_1 gi gl gr ar1 ar2)) := by
    intro m5
    induction m5 using Nat.strongRecOn with
    | _ m5 ih5 =>
    intro gi5 gl5 gr5 y5_3 hI hX l5_3 u5_3 c5_0 c5_1 j5_0 hm5
    refine ev_loc f_X10_lay (nx := 13) rfl rfl rfl rfl ?_
    refine ev_loc f_X10_lay (nx := 14) rfl rfl rfl rfl ?_
    refine ev_getR f_X10_lay (nx := 17) rfl (hI.wf.s rfl) rfl rfl (hI.wf.r rfl) rfl rfl ?_
    refine ev_alenv f_X10_lay (nx := 18) (w := 60) rfl (hI.wf.s rfl) rfl (by decide) rfl ?_
    refine ev_if f_X10_lay (t1 := 34) (t2 := 21) rfl rfl rfl (fun h6 => ?_) (fun h6 => ?_)
    · have l7 : 60 ≤ y5_3.toInt := t_lel h6 (by decide : (60:Int) ≤ (60:Int32).toInt)
      exact ev_ret f_X10_lay rfl rfl rfl ⟨_, _, _, rfl, hI, hX, ⟨rfl, (show ((gi5 63 2).toInt = ar2.toInt ∧ (gi5 63 1).toInt = ar1.toInt) ∧ (∀ j : Nat, j < 60 → gl5 64 j = 0) from ⟨(by have ff8 : (gi5 63 2).toInt = ar2.toInt := congrArg Int32.toInt c5_1; have ff9 : (gi5 63 1).toInt = ar1.toInt := congrArg Int32.toInt c5_0; omega), fun j h => j5_0 j (by omega)⟩)⟩⟩
    · have u10 : y5_3.toInt ≤ 59 := t_ltu (t_nle h6) (by decide : (60:Int32).toInt ≤ (60:Int)) rfl
      refine ev_loc f_X10_lay (nx := 22) rfl rfl rfl rfl ?_
      refine ev_getR f_X10_lay (nx := 25) rfl (hI.wf.s rfl) rfl rfl (hI.wf.r rfl) rfl rfl ?_
      refine ev_loc f_X10_lay (nx := 26) rfl rfl rfl rfl ?_
      refine ev_lc f_X10_lay (nx := 27) (v := 0) rfl (by decide) rfl ?_
      refine ev_lastT f_X10_lay (nx := 28) rfl (hI.wf.s rfl) l5_3 (by decide) u10 (by decide) rfl (hX.upL (t_inA_ok rfl)) (fun g11 e11 hX => ?_)
      refine ev_incR f_X10_lay (nx := 31) (c := 1) (l := 1) (u := 60) rfl rfl (by decide) (by decide) l5_3 u10 rfl rfl (by decide) (by decide) rfl (fun z12 e12 l12 u12 => ?_)
      refine ev_jmp f_X10_lay (nx := 12) rfl rfl rfl ?_
      refine ev_sub (lo := [(3, .int z12), (0, .ref 63), (1, .int ar1), (2, .int ar2)]) rfl (t_sc rfl (t_sc rfl (t_sc rfl (t_sc rfl t_sn)))) ?_
      exact ih5 _ (by omega) gi5 g11 gr5 (z12) hI hX  (Int.le_trans (by decide : (0:Int) ≤ 1) l12) u12 c5_0 c5_1 (by intro j hj; by_cases h : j = y5_3.toNatClampNeg; (rw [h, e11, x_up2_at]); (rw [e11, x_up2_off (Or.inr h)]; exact j5_0 j (by have hc := t_clamp (i := y5_3) (by omega); omega))) rfl
  refine ev_sub (lo := [(3, .int 0), (0, .ref 63), (1, .int ar1), (2, .int ar2)]) rfl (t_sc rfl (t_sc rfl (t_sc rfl (t_sc rfl t_sn)))) ?_
  exact L5 _ g4 gl gr (0) hI hX  (by decide : (0:Int) ≤ (0:Int32).toInt) (Int.le_trans (by decide : (0:Int32).toInt ≤ (0:Int)) (by decide : (0:Int) ≤ 60)) ((by rw [e4]; exact x_up2_off (Or.inr (by decide)) : g4 63 1 = g3 63 1).trans (by rw [e3]; exact x_up2_at _ _ _ _ : g3 63 1 = ar1)) (by rw [e4]; exact x_up2_at _ _ _ _ : g4 63 2 = ar2) (fun j h => absurd h (by have : (0 : Int32).toInt = 0 := rfl; omega)) rfl
noncomputable def wl_h_tray_1 : List (Nat × Nat) := [(0, 0), (63, 1), (63, 2), (64, 9999)]
noncomputable def Q_h_tray_1 (gi : Nat → Nat → Int32) (gl : Nat → Nat → Int64) (gr : Nat → Nat → Value) (ar2 : Int32) (ar3 : Int32) : Int32 → (Nat → Nat → Int32) → (Nat → Nat → Int64) → (Nat → Nat → Value) → Prop := fun (v : Int32) (gi2 : Nat → Nat → Int32) (gl2 : Nat → Nat → Int64) (gr2 : Nat → Nat → Value) => ((0 ≤ v.toInt ∧ v.toInt ≤ 1) ∧ (v.toInt = 1 ↔ (0 ≤ ar2.toInt ∧ ar2.toInt ≤ 3 ∧ 0 ≤ ar3.toInt ∧ ar3.toInt ≤ 60)) ∧ ((0 ≤ ar2.toInt ∧ ar2.toInt ≤ 3 ∧ 0 ≤ ar3.toInt ∧ ar3.toInt ≤ 60) → (gi2 63 2).toInt = ar3.toInt ∧ (gi2 63 1).toInt = ar2.toInt) ∧ (¬ (0 ≤ ar2.toInt ∧ ar2.toInt ≤ 3 ∧ 0 ≤ ar3.toInt ∧ ar3.toInt ≤ 60) → (gi2 63 2).toInt = (gi 63 2).toInt ∧ (gi2 63 1).toInt = (gi 63 1).toInt)) ∧ ((0 ≤ ar2.toInt ∧ ar2.toInt ≤ 3 ∧ 0 ≤ ar3.toInt ∧ ar3.toInt ≤ 60) → ∀ j : Nat, j < 60 → gl2 64 j = 0) ∧ (¬ (0 ≤ ar2.toInt ∧ ar2.toInt ≤ 3 ∧ 0 ≤ ar3.toInt ∧ ar3.toInt ≤ 60) → ∀ j : Nat, gl2 64 j = gl 64 j)
theorem c_h_tray_1 {X : x_Ext} {d : Nat} {sh : List (Nat ⊕ (Nat × Nat))} {gi : Nat → Nat → Int32} {gl : Nat → Nat → Int64} {gr : Nat → Nat → Value} (hI : t_I sh gi gr) (ar2 : Int32) (ar3 : Int32) : x_Me X (d + 2) n_X11_tray [.ref 0, .int 1, .int ar2, .int ar3] (sh, gi, gl, gr) (t_PI wl_h_tray_1 sh gi gl gr 0 1 (Q_h_tray_1 gi gl gr ar2 ar3)) := by
  have hX : t_X wl_h_tray_1 sh gi gl gr gi gl gr := t_X.rf
  refine me_i f_X11_tray (hI.wf.s rfl) rfl rfl rfl ?_
  obtain ⟨l2, u2⟩ := hI.b (hI.wf.s (k := 63) rfl) (t_bdK rfl : t_bd 9 2 = some ((-1), 60))
  refine ev_loc f_X11_tray (nx := 1) rfl rfl rfl rfl ?_
  refine ev_loc f_X11_tray (nx := 2) rfl rfl rfl rfl ?_
  refine ev_inV2 f_X11_tray (nx := 5) (lo2 := [(0, .ref 0), (1, .int 1)]) rfl rfl rfl rfl f_X11_isTray (hI.wf.s rfl) rfl rfl rfl rfl rfl ?_
  refine ev_loc f_X11_isTray (nx := 1) rfl rfl rfl rfl ?_
  refine ev_f f_X11_isTray (t1 := 26) (t2 := 4) rfl rfl rfl (by decide) ?_
  refine ev_loc f_X11_isTray (nx := 5) rfl rfl rfl rfl ?_
  refine ev_loc f_X11_isTray (nx := 6) rfl rfl rfl rfl ?_
  refine ev_getR f_X11_isTray (nx := 9) rfl (hI.wf.s rfl) rfl rfl (hI.wf.r rfl) rfl rfl ?_
  refine ev_alenv f_X11_isTray (nx := 10) (w := 4) rfl (hI.wf.s rfl) rfl (by decide) rfl ?_
  refine ev_f f_X11_isTray (t1 := 26) (t2 := 13) rfl rfl rfl (by decide) ?_
  refine ev_loc f_X11_isTray (nx := 14) rfl rfl rfl rfl ?_
  refine ev_getR f_X11_isTray (nx := 17) rfl (hI.wf.s rfl) rfl rfl (hI.wf.r rfl) rfl rfl ?_
  refine ev_loc f_X11_isTray (nx := 18) rfl rfl rfl rfl ?_
  refine ev_aald f_X11_isTray (nx := 19) rfl (hI.wf.s rfl) rfl (t_idx (n := 4) (by decide : (1:Int) ≤ (1:Int32).toInt) (by decide) (by decide : (1:Int32).toInt ≤ (1:Int)) (by decide)).1 (t_idx (n := 4) (by decide : (1:Int) ≤ (1:Int32).toInt) (by decide) (by decide : (1:Int32).toInt ≤ (1:Int)) (by decide)).2 (hI.wf.r rfl) rfl rfl ?_
  refine ev_jmp f_X11_isTray (nx := 22) rfl rfl rfl ?_
  refine ev_ic f_X11_isTray (nx := 23) (v := 1) rfl (by decide) rfl ?_
  refine ev_jmp f_X11_isTray (nx := 27) rfl rfl rfl ?_
  refine ev_retK1 f_X11_isTray rfl rfl rfl ?_
  refine ev_f f_X11_tray (t1 := 27) (t2 := 8) rfl rfl rfl (by decide) ?_
  refine ev_loc f_X11_tray (nx := 9) rfl rfl rfl rfl ?_
  refine ev_if f_X11_tray (t1 := 27) (t2 := 12) rfl rfl rfl (fun h4 => ?_) (fun h4 => ?_)
  · have u5 : ar2.toInt ≤ (-1) := t_ltu h4 (by decide : (0:Int32).toInt ≤ (0:Int)) rfl
    refine ev_loc f_X11_tray (nx := 28) rfl rfl rfl rfl ?_
    refine ev_ic f_X11_tray (nx := 29) (v := 1) rfl (by decide) rfl ?_
    refine ev_inV2 f_X11_tray (nx := 32) (lo2 := [(0, .ref 0), (1, .int 1)]) rfl rfl rfl rfl f_X11_deny (hI.wf.s rfl) rfl rfl rfl rfl rfl ?_
    refine ev_loc f_X11_deny (nx := 1) rfl rfl rfl rfl ?_
    refine ev_loc f_X11_deny (nx := 2) rfl rfl rfl rfl ?_
    refine ev_putIT f_X11_deny (nx := 5) rfl (hI.wf.s rfl) rfl rfl rfl (hI.put0 (hI.wf.s rfl) rfl rfl) (hX.upI rfl) (fun g6 e6 hI hX => ?_)
    refine ev_ic f_X11_deny (nx := 6) (v := 0) rfl (by decide) rfl ?_
    refine ev_retK1 f_X11_deny rfl rfl rfl ?_
    exact ev_ret f_X11_tray rfl rfl rfl ⟨_, _, _, rfl, hI, hX, ⟨_, rfl, (by decide : (0:Int) ≤ (0:Int32).toInt), (Int.le_trans (by decide : (0:Int32).toInt ≤ (0:Int)) (by decide : (0:Int) ≤ 1)), (show ((0 ≤ (0 : Int) ∧ (0 : Int) ≤ 1) ∧ ((0 : Int) = 1 ↔ (0 ≤ ar2.toInt ∧ ar2.toInt ≤ 3 ∧ 0 ≤ ar3.toInt ∧ ar3.toInt ≤ 60)) ∧ ((0 ≤ ar2.toInt ∧ ar2.toInt ≤ 3 ∧ 0 ≤ ar3.toInt ∧ ar3.toInt ≤ 60) → (g6 63 2).toInt = ar3.toInt ∧ (g6 63 1).toInt = ar2.toInt) ∧ (¬ (0 ≤ ar2.toInt ∧ ar2.toInt ≤ 3 ∧ 0 ≤ ar3.toInt ∧ ar3.toInt ≤ 60) → (g6 63 2).toInt = (gi 63 2).toInt ∧ (g6 63 1).toInt = (gi 63 1).toInt)) ∧ ((0 ≤ ar2.toInt ∧ ar2.toInt ≤ 3 ∧ 0 ≤ ar3.toInt ∧ ar3.toInt ≤ 60) → ∀ j : Nat, j < 60 → gl 64 j = 0) ∧ (¬ (0 ≤ ar2.toInt ∧ ar2.toInt ≤ 3 ∧ 0 ≤ ar3.toInt ∧ ar3.toInt ≤ 60) → ∀ j : Nat, gl 64 j = gl 64 j) from ⟨(show ((0 ≤ (0 : Int) ∧ (0 : Int) ≤ 1) ∧ ((0 : Int) = 1 ↔ (0 ≤ ar2.toInt ∧ ar2.toInt ≤ 3 ∧ 0 ≤ ar3.toInt ∧ ar3.toInt ≤ 60)) ∧ ((0 ≤ ar2.toInt ∧ ar2.toInt ≤ 3 ∧ 0 ≤ ar3.toInt ∧ ar3.toInt ≤ 60) → (g6 63 2).toInt = ar3.toInt ∧ (g6 63 1).toInt = ar2.toInt) ∧ (¬ (0 ≤ ar2.toInt ∧ ar2.toInt ≤ 3 ∧ 0 ≤ ar3.toInt ∧ ar3.toInt ≤ 60) → (g6 63 2).toInt = (gi 63 2).toInt ∧ (g6 63 1).toInt = (gi 63 1).toInt)) from (by have ff7 : (g6 63 2).toInt = (gi 63 2).toInt := congrArg Int32.toInt ((by rw [e6]; exact x_up2_off (Or.inr (by decide)) : g6 63 2 = gi 63 2).trans rfl); have ff8 : (g6 63 1).toInt = (gi 63 1).toInt := congrArg Int32.toInt ((by rw [e6]; exact x_up2_off (Or.inr (by decide)) : g6 63 1 = gi 63 1).trans rfl); omega)), fun h => absurd h (by omega), fun _ j => rfl⟩)⟩⟩
  · have l9 : 0 ≤ ar2.toInt := t_lel (t_nlt h4) (by decide : (0:Int) ≤ (0:Int32).toInt)
    refine ev_loc f_X11_tray (nx := 13) rfl rfl rfl rfl ?_
    refine ev_ic f_X11_tray (nx := 14) (v := 3) rfl (by decide) rfl ?_
    refine ev_if f_X11_tray (t1 := 27) (t2 := 17) rfl rfl rfl (fun h10 => ?_) (fun h10 => ?_)
    · have l11 : 4 ≤ ar2.toInt := t_ltl h10 (by decide : (3:Int) ≤ (3:Int32).toInt) rfl
      refine ev_loc f_X11_tray (nx := 28) rfl rfl rfl rfl ?_
      refine ev_ic f_X11_tray (nx := 29) (v := 1) rfl (by decide) rfl ?_
      refine ev_inV2 f_X11_tray (nx := 32) (lo2 := [(0, .ref 0), (1, .int 1)]) rfl rfl rfl rfl f_X11_deny (hI.wf.s rfl) rfl rfl rfl rfl rfl ?_
      refine ev_loc f_X11_deny (nx := 1) rfl rfl rfl rfl ?_
      refine ev_loc f_X11_deny (nx := 2) rfl rfl rfl rfl ?_
      refine ev_putIT f_X11_deny (nx := 5) rfl (hI.wf.s rfl) rfl rfl rfl (hI.put0 (hI.wf.s rfl) rfl rfl) (hX.upI rfl) (fun g12 e12 hI hX => ?_)
      refine ev_ic f_X11_deny (nx := 6) (v := 0) rfl (by decide) rfl ?_
      refine ev_retK1 f_X11_deny rfl rfl rfl ?_
      exact ev_ret f_X11_tray rfl rfl rfl ⟨_, _, _, rfl, hI, hX, ⟨_, rfl, (by decide : (0:Int) ≤ (0:Int32).toInt), (Int.le_trans (by decide : (0:Int32).toInt ≤ (0:Int)) (by decide : (0:Int) ≤ 1)), (show ((0 ≤ (0 : Int) ∧ (0 : Int) ≤ 1) ∧ ((0 : Int) = 1 ↔ (0 ≤ ar2.toInt ∧ ar2.toInt ≤ 3 ∧ 0 ≤ ar3.toInt ∧ ar3.toInt ≤ 60)) ∧ ((0 ≤ ar2.toInt ∧ ar2.toInt ≤ 3 ∧ 0 ≤ ar3.toInt ∧ ar3.toInt ≤ 60) → (g12 63 2).toInt = ar3.toInt ∧ (g12 63 1).toInt = ar2.toInt) ∧ (¬ (0 ≤ ar2.toInt ∧ ar2.toInt ≤ 3 ∧ 0 ≤ ar3.toInt ∧ ar3.toInt ≤ 60) → (g12 63 2).toInt = (gi 63 2).toInt ∧ (g12 63 1).toInt = (gi 63 1).toInt)) ∧ ((0 ≤ ar2.toInt ∧ ar2.toInt ≤ 3 ∧ 0 ≤ ar3.toInt ∧ ar3.toInt ≤ 60) → ∀ j : Nat, j < 60 → gl 64 j = 0) ∧ (¬ (0 ≤ ar2.toInt ∧ ar2.toInt ≤ 3 ∧ 0 ≤ ar3.toInt ∧ ar3.toInt ≤ 60) → ∀ j : Nat, gl 64 j = gl 64 j) from ⟨(show ((0 ≤ (0 : Int) ∧ (0 : Int) ≤ 1) ∧ ((0 : Int) = 1 ↔ (0 ≤ ar2.toInt ∧ ar2.toInt ≤ 3 ∧ 0 ≤ ar3.toInt ∧ ar3.toInt ≤ 60)) ∧ ((0 ≤ ar2.toInt ∧ ar2.toInt ≤ 3 ∧ 0 ≤ ar3.toInt ∧ ar3.toInt ≤ 60) → (g12 63 2).toInt = ar3.toInt ∧ (g12 63 1).toInt = ar2.toInt) ∧ (¬ (0 ≤ ar2.toInt ∧ ar2.toInt ≤ 3 ∧ 0 ≤ ar3.toInt ∧ ar3.toInt ≤ 60) → (g12 63 2).toInt = (gi 63 2).toInt ∧ (g12 63 1).toInt = (gi 63 1).toInt)) from (by have ff13 : (g12 63 2).toInt = (gi 63 2).toInt := congrArg Int32.toInt ((by rw [e12]; exact x_up2_off (Or.inr (by decide)) : g12 63 2 = gi 63 2).trans rfl); have ff14 : (g12 63 1).toInt = (gi 63 1).toInt := congrArg Int32.toInt ((by rw [e12]; exact x_up2_off (Or.inr (by decide)) : g12 63 1 = gi 63 1).trans rfl); omega)), fun h => absurd h (by omega), fun _ j => rfl⟩)⟩⟩
    · have u15 : ar2.toInt ≤ 3 := t_leu (t_nlt h10) (by decide : (3:Int32).toInt ≤ (3:Int))
      refine ev_loc f_X11_tray (nx := 18) rfl rfl rfl rfl ?_
      refine ev_if f_X11_tray (t1 := 27) (t2 := 21) rfl rfl rfl (fun h16 => ?_) (fun h16 => ?_)
      · have u17 : ar3.toInt ≤ (-1) := t_ltu h16 (by decide : (0:Int32).toInt ≤ (0:Int)) rfl
        refine ev_loc f_X11_tray (nx := 28) rfl rfl rfl rfl ?_
        refine ev_ic f_X11_tray (nx := 29) (v := 1) rfl (by decide) rfl ?_
        refine ev_inV2 f_X11_tray (nx := 32) (lo2 := [(0, .ref 0), (1, .int 1)]) rfl rfl rfl rfl f_X11_deny (hI.wf.s rfl) rfl rfl rfl rfl rfl ?_
        refine ev_loc f_X11_deny (nx := 1) rfl rfl rfl rfl ?_
        refine ev_loc f_X11_deny (nx := 2) rfl rfl rfl rfl ?_
        refine ev_putIT f_X11_deny (nx := 5) rfl (hI.wf.s rfl) rfl rfl rfl (hI.put0 (hI.wf.s rfl) rfl rfl) (hX.upI rfl) (fun g18 e18 hI hX => ?_)
        refine ev_ic f_X11_deny (nx := 6) (v := 0) rfl (by decide) rfl ?_
        refine ev_retK1 f_X11_deny rfl rfl rfl ?_
        exact ev_ret f_X11_tray rfl rfl rfl ⟨_, _, _, rfl, hI, hX, ⟨_, rfl, (by decide : (0:Int) ≤ (0:Int32).toInt), (Int.le_trans (by decide : (0:Int32).toInt ≤ (0:Int)) (by decide : (0:Int) ≤ 1)), (show ((0 ≤ (0 : Int) ∧ (0 : Int) ≤ 1) ∧ ((0 : Int) = 1 ↔ (0 ≤ ar2.toInt ∧ ar2.toInt ≤ 3 ∧ 0 ≤ ar3.toInt ∧ ar3.toInt ≤ 60)) ∧ ((0 ≤ ar2.toInt ∧ ar2.toInt ≤ 3 ∧ 0 ≤ ar3.toInt ∧ ar3.toInt ≤ 60) → (g18 63 2).toInt = ar3.toInt ∧ (g18 63 1).toInt = ar2.toInt) ∧ (¬ (0 ≤ ar2.toInt ∧ ar2.toInt ≤ 3 ∧ 0 ≤ ar3.toInt ∧ ar3.toInt ≤ 60) → (g18 63 2).toInt = (gi 63 2).toInt ∧ (g18 63 1).toInt = (gi 63 1).toInt)) ∧ ((0 ≤ ar2.toInt ∧ ar2.toInt ≤ 3 ∧ 0 ≤ ar3.toInt ∧ ar3.toInt ≤ 60) → ∀ j : Nat, j < 60 → gl 64 j = 0) ∧ (¬ (0 ≤ ar2.toInt ∧ ar2.toInt ≤ 3 ∧ 0 ≤ ar3.toInt ∧ ar3.toInt ≤ 60) → ∀ j : Nat, gl 64 j = gl 64 j) from ⟨(show ((0 ≤ (0 : Int) ∧ (0 : Int) ≤ 1) ∧ ((0 : Int) = 1 ↔ (0 ≤ ar2.toInt ∧ ar2.toInt ≤ 3 ∧ 0 ≤ ar3.toInt ∧ ar3.toInt ≤ 60)) ∧ ((0 ≤ ar2.toInt ∧ ar2.toInt ≤ 3 ∧ 0 ≤ ar3.toInt ∧ ar3.toInt ≤ 60) → (g18 63 2).toInt = ar3.toInt ∧ (g18 63 1).toInt = ar2.toInt) ∧ (¬ (0 ≤ ar2.toInt ∧ ar2.toInt ≤ 3 ∧ 0 ≤ ar3.toInt ∧ ar3.toInt ≤ 60) → (g18 63 2).toInt = (gi 63 2).toInt ∧ (g18 63 1).toInt = (gi 63 1).toInt)) from (by have ff19 : (g18 63 2).toInt = (gi 63 2).toInt := congrArg Int32.toInt ((by rw [e18]; exact x_up2_off (Or.inr (by decide)) : g18 63 2 = gi 63 2).trans rfl); have ff20 : (g18 63 1).toInt = (gi 63 1).toInt := congrArg Int32.toInt ((by rw [e18]; exact x_up2_off (Or.inr (by decide)) : g18 63 1 = gi 63 1).trans rfl); omega)), fun h => absurd h (by omega), fun _ j => rfl⟩)⟩⟩
      · have l21 : 0 ≤ ar3.toInt := t_lel (t_nlt h16) (by decide : (0:Int) ≤ (0:Int32).toInt)
        refine ev_loc f_X11_tray (nx := 22) rfl rfl rfl rfl ?_
        refine ev_bp f_X11_tray (nx := 24) (v := 60) rfl (by decide) rfl ?_
        refine ev_if f_X11_tray (t1 := 33) (t2 := 27) rfl rfl rfl (fun h22 => ?_) (fun h22 => ?_)
        · have u23 : ar3.toInt ≤ 60 := t_leu h22 (by decide : (60:Int32).toInt ≤ (60:Int))
          refine ev_loc f_X11_tray (nx := 34) rfl rfl rfl rfl ?_
          refine ev_getR f_X11_tray (nx := 37) rfl (hI.wf.s rfl) rfl rfl (hI.wf.r rfl) rfl rfl ?_
          refine ev_loc f_X11_tray (nx := 38) rfl rfl rfl rfl ?_
          refine ev_aald f_X11_tray (nx := 39) rfl (hI.wf.s rfl) rfl (t_idx (n := 4) (by decide : (1:Int) ≤ (1:Int32).toInt) (by decide) (by decide : (1:Int32).toInt ≤ (1:Int)) (by decide)).1 (t_idx (n := 4) (by decide : (1:Int) ≤ (1:Int32).toInt) (by decide) (by decide : (1:Int32).toInt ≤ (1:Int)) (by decide)).2 (hI.wf.r rfl) rfl rfl ?_
          refine ev_loc f_X11_tray (nx := 40) rfl rfl rfl rfl ?_
          refine ev_loc f_X11_tray (nx := 41) rfl rfl rfl rfl ?_
          refine ev_qN f_X11_tray (nx := 44) (r := []) rfl rfl rfl rfl rfl rfl rfl (c_lay_1 hI (ar2) (ar3) l21 u23) rfl hX rfl (fun gi25 gl25 gr25 hI hX hC25 q25 => ?_)
          have q25 : ((gi25 63 2).toInt = ar3.toInt ∧ (gi25 63 1).toInt = ar2.toInt) ∧ (∀ j : Nat, j < 60 → gl25 64 j = 0) := q25
          obtain ⟨l27, u27⟩ := hI.b (hI.wf.s (k := 63) rfl) (t_bdK rfl : t_bd 9 2 = some ((-1), 60))
          refine ev_loc f_X11_tray (nx := 45) rfl rfl rfl rfl ?_
          refine ev_inV1 f_X11_tray (nx := 48) (lo2 := [(0, .ref 0)]) rfl rfl rfl rfl f_X11_grant (hI.wf.s rfl) rfl rfl rfl rfl rfl ?_
          refine ev_loc f_X11_grant (nx := 1) rfl rfl rfl rfl ?_
          refine ev_ic f_X11_grant (nx := 2) (v := 0) rfl (by decide) rfl ?_
          refine ev_putIT f_X11_grant (nx := 5) rfl (hI.wf.s rfl) rfl rfl rfl (hI.put0 (hI.wf.s rfl) rfl rfl) (hX.upI rfl) (fun g28 e28 hI hX => ?_)
          refine ev_ic f_X11_grant (nx := 6) (v := 1) rfl (by decide) rfl ?_
          refine ev_retK1 f_X11_grant rfl rfl rfl ?_
          exact ev_ret f_X11_tray rfl rfl rfl ⟨_, _, _, rfl, hI, hX, ⟨_, rfl, (Int.le_trans (by decide : (0:Int) ≤ 1) (by decide : (1:Int) ≤ (1:Int32).toInt)), (by decide : (1:Int32).toInt ≤ (1:Int)), (show ((0 ≤ (1 : Int) ∧ (1 : Int) ≤ 1) ∧ ((1 : Int) = 1 ↔ (0 ≤ ar2.toInt ∧ ar2.toInt ≤ 3 ∧ 0 ≤ ar3.toInt ∧ ar3.toInt ≤ 60)) ∧ ((0 ≤ ar2.toInt ∧ ar2.toInt ≤ 3 ∧ 0 ≤ ar3.toInt ∧ ar3.toInt ≤ 60) → (g28 63 2).toInt = ar3.toInt ∧ (g28 63 1).toInt = ar2.toInt) ∧ (¬ (0 ≤ ar2.toInt ∧ ar2.toInt ≤ 3 ∧ 0 ≤ ar3.toInt ∧ ar3.toInt ≤ 60) → (g28 63 2).toInt = (gi 63 2).toInt ∧ (g28 63 1).toInt = (gi 63 1).toInt)) ∧ ((0 ≤ ar2.toInt ∧ ar2.toInt ≤ 3 ∧ 0 ≤ ar3.toInt ∧ ar3.toInt ≤ 60) → ∀ j : Nat, j < 60 → gl25 64 j = 0) ∧ (¬ (0 ≤ ar2.toInt ∧ ar2.toInt ≤ 3 ∧ 0 ≤ ar3.toInt ∧ ar3.toInt ≤ 60) → ∀ j : Nat, gl25 64 j = gl 64 j) from ⟨(show ((0 ≤ (1 : Int) ∧ (1 : Int) ≤ 1) ∧ ((1 : Int) = 1 ↔ (0 ≤ ar2.toInt ∧ ar2.toInt ≤ 3 ∧ 0 ≤ ar3.toInt ∧ ar3.toInt ≤ 60)) ∧ ((0 ≤ ar2.toInt ∧ ar2.toInt ≤ 3 ∧ 0 ≤ ar3.toInt ∧ ar3.toInt ≤ 60) → (g28 63 2).toInt = ar3.toInt ∧ (g28 63 1).toInt = ar2.toInt) ∧ (¬ (0 ≤ ar2.toInt ∧ ar2.toInt ≤ 3 ∧ 0 ≤ ar3.toInt ∧ ar3.toInt ≤ 60) → (g28 63 2).toInt = (gi 63 2).toInt ∧ (g28 63 1).toInt = (gi 63 1).toInt)) from (by have ff29 : (g28 63 2).toInt = (gi25 63 2).toInt := congrArg Int32.toInt ((by rw [e28]; exact x_up2_off (Or.inr (by decide)) : g28 63 2 = gi25 63 2).trans rfl); have ff30 : (g28 63 1).toInt = (gi25 63 1).toInt := congrArg Int32.toInt ((by rw [e28]; exact x_up2_off (Or.inr (by decide)) : g28 63 1 = gi25 63 1).trans rfl); omega)), fun _ => q25.2, fun h => absurd (show _ from ⟨by omega, by omega, by omega, by omega⟩) h⟩)⟩⟩
        · have l31 : 61 ≤ ar3.toInt := t_ltl (t_nle h22) (by decide : (60:Int) ≤ (60:Int32).toInt) rfl
          refine ev_loc f_X11_tray (nx := 28) rfl rfl rfl rfl ?_
          refine ev_ic f_X11_tray (nx := 29) (v := 1) rfl (by decide) rfl ?_
          refine ev_inV2 f_X11_tray (nx := 32) (lo2 := [(0, .ref 0), (1, .int 1)]) rfl rfl rfl rfl f_X11_deny (hI.wf.s rfl) rfl rfl rfl rfl rfl ?_
          refine ev_loc f_X11_deny (nx := 1) rfl rfl rfl rfl ?_
          refine ev_loc f_X11_deny (nx := 2) rfl rfl rfl rfl ?_
          refine ev_putIT f_X11_deny (nx := 5) rfl (hI.wf.s rfl) rfl rfl rfl (hI.put0 (hI.wf.s rfl) rfl rfl) (hX.upI rfl) (fun g32 e32 hI hX => ?_)
          refine ev_ic f_X11_deny (nx := 6) (v := 0) rfl (by decide) rfl ?_
          refine ev_retK1 f_X11_deny rfl rfl rfl ?_
          exact ev_ret f_X11_tray rfl rfl rfl ⟨_, _, _, rfl, hI, hX, ⟨_, rfl, (by decide : (0:Int) ≤ (0:Int32).toInt), (Int.le_trans (by decide : (0:Int32).toInt ≤ (0:Int)) (by decide : (0:Int) ≤ 1)), (show ((0 ≤ (0 : Int) ∧ (0 : Int) ≤ 1) ∧ ((0 : Int) = 1 ↔ (0 ≤ ar2.toInt ∧ ar2.toInt ≤ 3 ∧ 0 ≤ ar3.toInt ∧ ar3.toInt ≤ 60)) ∧ ((0 ≤ ar2.toInt ∧ ar2.toInt ≤ 3 ∧ 0 ≤ ar3.toInt ∧ ar3.toInt ≤ 60) → (g32 63 2).toInt = ar3.toInt ∧ (g32 63 1).toInt = ar2.toInt) ∧ (¬ (0 ≤ ar2.toInt ∧ ar2.toInt ≤ 3 ∧ 0 ≤ ar3.toInt ∧ ar3.toInt ≤ 60) → (g32 63 2).toInt = (gi 63 2).toInt ∧ (g32 63 1).toInt = (gi 63 1).toInt)) ∧ ((0 ≤ ar2.toInt ∧ ar2.toInt ≤ 3 ∧ 0 ≤ ar3.toInt ∧ ar3.toInt ≤ 60) → ∀ j : Nat, j < 60 → gl 64 j = 0) ∧ (¬ (0 ≤ ar2.toInt ∧ ar2.toInt ≤ 3 ∧ 0 ≤ ar3.toInt ∧ ar3.toInt ≤ 60) → ∀ j : Nat, gl 64 j = gl 64 j) from ⟨(show ((0 ≤ (0 : Int) ∧ (0 : Int) ≤ 1) ∧ ((0 : Int) = 1 ↔ (0 ≤ ar2.toInt ∧ ar2.toInt ≤ 3 ∧ 0 ≤ ar3.toInt ∧ ar3.toInt ≤ 60)) ∧ ((0 ≤ ar2.toInt ∧ ar2.toInt ≤ 3 ∧ 0 ≤ ar3.toInt ∧ ar3.toInt ≤ 60) → (g32 63 2).toInt = ar3.toInt ∧ (g32 63 1).toInt = ar2.toInt) ∧ (¬ (0 ≤ ar2.toInt ∧ ar2.toInt ≤ 3 ∧ 0 ≤ ar3.toInt ∧ ar3.toInt ≤ 60) → (g32 63 2).toInt = (gi 63 2).toInt ∧ (g32 63 1).toInt = (gi 63 1).toInt)) from (by have ff33 : (g32 63 2).toInt = (gi 63 2).toInt := congrArg Int32.toInt ((by rw [e32]; exact x_up2_off (Or.inr (by decide)) : g32 63 2 = gi 63 2).trans rfl); have ff34 : (g32 63 1).toInt = (gi 63 1).toInt := congrArg Int32.toInt ((by rw [e32]; exact x_up2_off (Or.inr (by decide)) : g32 63 1 = gi 63 1).trans rfl); omega)), fun h => absurd h (by omega), fun _ j => rfl⟩)⟩⟩
noncomputable def wl_m_tray_1 : List (Nat × Nat) := [(69, 2), (72, 110001), (73, 110001), (74, 6010119)]
noncomputable def Q_m_tray_1 (gi : Nat → Nat → Int32) (gl : Nat → Nat → Int64) (gr : Nat → Nat → Value) (ar2 : Int32) (ar3 : Int32) : Int32 → (Nat → Nat → Int32) → (Nat → Nat → Int64) → (Nat → Nat → Value) → Prop := fun (v : Int32) (gi2 : Nat → Nat → Int32) (gl2 : Nat → Nat → Int64) (gr2 : Nat → Nat → Value) => ((0 ≤ v.toInt ∧ v.toInt ≤ 1) ∧ (v.toInt = 1 ↔ (0 ≤ ar2.toInt ∧ ar2.toInt ≤ 3 ∧ 0 ≤ ar3.toInt ∧ ar3.toInt ≤ 60)) ∧ ((0 ≤ ar2.toInt ∧ ar2.toInt ≤ 3 ∧ 0 ≤ ar3.toInt ∧ ar3.toInt ≤ 60) → (gi2 73 1).toInt = ar3.toInt ∧ (gi2 72 1).toInt = ar2.toInt) ∧ (¬ (0 ≤ ar2.toInt ∧ ar2.toInt ≤ 3 ∧ 0 ≤ ar3.toInt ∧ ar3.toInt ≤ 60) → (gi2 73 1).toInt = (gi 73 1).toInt ∧ (gi2 72 1).toInt = (gi 72 1).toInt)) ∧ ((0 ≤ ar2.toInt ∧ ar2.toInt ≤ 3 ∧ 0 ≤ ar3.toInt ∧ ar3.toInt ≤ 60) → ∀ j : Nat, (j : Int) < ar3.toInt → gl2 74 (60 + j) = 0) ∧ (¬ (0 ≤ ar2.toInt ∧ ar2.toInt ≤ 3 ∧ 0 ≤ ar3.toInt ∧ ar3.toInt ≤ 60) → ∀ j : Nat, gl2 74 j = gl 74 j) ∧ (∀ m : Nat, (m < 60 ∨ 120 ≤ m) → gl2 74 m = gl 74 m)
theorem c_m_tray_1 {X : x_Ext} {d : Nat} {sh : List (Nat ⊕ (Nat × Nat))} {gi : Nat → Nat → Int32} {gl : Nat → Nat → Int64} {gr : Nat → Nat → Value} (hI : t_I sh gi gr) (ar2 : Int32) (ar3 : Int32) : x_Me X (d + 2) n_X12_tray [.ref 69, .int 1, .int ar2, .int ar3] (sh, gi, gl, gr) (t_PI wl_m_tray_1 sh gi gl gr 0 1 (Q_m_tray_1 gi gl gr ar2 ar3)) := by
  have hX : t_X wl_m_tray_1 sh gi gl gr gi gl gr := t_X.rf
  refine me_i f_X12_tray (hI.wf.s rfl) rfl rfl rfl ?_
  obtain ⟨l1, u1⟩ := hI.ab (by decide +kernel : t_abr 72 1 1 0 3 = true) (Nat.le_refl _) (Nat.le_refl _)
  obtain ⟨l2, u2⟩ := hI.ab (by decide +kernel : t_abr 73 1 1 (-1) 60 = true) (Nat.le_refl _) (Nat.le_refl _)
  refine ev_loc f_X12_tray (nx := 1) rfl rfl rfl rfl ?_
  refine ev_inS1 f_X12_tray (nx := 4) (lo2 := [(0, .int 1)]) rfl rfl rfl rfl f_X12_isTray rfl rfl rfl rfl ?_
  refine ev_loc f_X12_isTray (nx := 1) rfl rfl rfl rfl ?_
  refine ev_f f_X12_isTray (t1 := 13) (t2 := 4) rfl rfl rfl (by decide) ?_
  refine ev_loc f_X12_isTray (nx := 5) rfl rfl rfl rfl ?_
  refine ev_ic f_X12_isTray (nx := 6) (v := 4) rfl (by decide) rfl ?_
  refine ev_f f_X12_isTray (t1 := 13) (t2 := 9) rfl rfl rfl (by decide) ?_
  refine ev_ic f_X12_isTray (nx := 10) (v := 1) rfl (by decide) rfl ?_
  refine ev_jmp f_X12_isTray (nx := 14) rfl rfl rfl ?_
  refine ev_retK1 f_X12_isTray rfl rfl rfl ?_
  refine ev_f f_X12_tray (t1 := 26) (t2 := 7) rfl rfl rfl (by decide) ?_
  refine ev_loc f_X12_tray (nx := 8) rfl rfl rfl rfl ?_
  refine ev_if f_X12_tray (t1 := 26) (t2 := 11) rfl rfl rfl (fun h3 => ?_) (fun h3 => ?_)
  · have u4 : ar2.toInt ≤ (-1) := t_ltu h3 (by decide : (0:Int32).toInt ≤ (0:Int)) rfl
    refine ev_loc f_X12_tray (nx := 27) rfl rfl rfl rfl ?_
    refine ev_ic f_X12_tray (nx := 28) (v := 1) rfl (by decide) rfl ?_
    refine ev_inV2 f_X12_tray (nx := 31) (lo2 := [(0, .ref 69), (1, .int 1)]) rfl rfl rfl rfl f_X12_is (hI.wf.s rfl) rfl rfl rfl rfl rfl ?_
    refine ev_loc f_X12_is (nx := 1) rfl rfl rfl rfl ?_
    refine ev_loc f_X12_is (nx := 2) rfl rfl rfl rfl ?_
    refine ev_putIT f_X12_is (nx := 5) rfl (hI.wf.s rfl) rfl rfl rfl (hI.put0 (hI.wf.s rfl) rfl rfl) (hX.upI rfl) (fun g5 e5 hI hX => ?_)
    refine ev_loc f_X12_is (nx := 6) rfl rfl rfl rfl ?_
    refine ev_f f_X12_is (t1 := 9) (t2 := 13) rfl rfl rfl (by decide) ?_
    refine ev_ic f_X12_is (nx := 14) (v := 0) rfl (by decide) rfl ?_
    refine ev_retK1 f_X12_is rfl rfl rfl ?_
    exact ev_ret f_X12_tray rfl rfl rfl ⟨_, _, _, rfl, hI, hX, ⟨_, rfl, (by decide : (0:Int) ≤ (0:Int32).toInt), (Int.le_trans (by decide : (0:Int32).toInt ≤ (0:Int)) (by decide : (0:Int) ≤ 1)), (show ((0 ≤ (0 : Int) ∧ (0 : Int) ≤ 1) ∧ ((0 : Int) = 1 ↔ (0 ≤ ar2.toInt ∧ ar2.toInt ≤ 3 ∧ 0 ≤ ar3.toInt ∧ ar3.toInt ≤ 60)) ∧ ((0 ≤ ar2.toInt ∧ ar2.toInt ≤ 3 ∧ 0 ≤ ar3.toInt ∧ ar3.toInt ≤ 60) → (g5 73 1).toInt = ar3.toInt ∧ (g5 72 1).toInt = ar2.toInt) ∧ (¬ (0 ≤ ar2.toInt ∧ ar2.toInt ≤ 3 ∧ 0 ≤ ar3.toInt ∧ ar3.toInt ≤ 60) → (g5 73 1).toInt = (gi 73 1).toInt ∧ (g5 72 1).toInt = (gi 72 1).toInt)) ∧ ((0 ≤ ar2.toInt ∧ ar2.toInt ≤ 3 ∧ 0 ≤ ar3.toInt ∧ ar3.toInt ≤ 60) → ∀ j : Nat, (j : Int) < ar3.toInt → gl 74 (60 + j) = 0) ∧ (¬ (0 ≤ ar2.toInt ∧ ar2.toInt ≤ 3 ∧ 0 ≤ ar3.toInt ∧ ar3.toInt ≤ 60) → ∀ j : Nat, gl 74 j = gl 74 j) ∧ (∀ m : Nat, (m < 60 ∨ 120 ≤ m) → gl 74 m = gl 74 m) from ⟨(show ((0 ≤ (0 : Int) ∧ (0 : Int) ≤ 1) ∧ ((0 : Int) = 1 ↔ (0 ≤ ar2.toInt ∧ ar2.toInt ≤ 3 ∧ 0 ≤ ar3.toInt ∧ ar3.toInt ≤ 60)) ∧ ((0 ≤ ar2.toInt ∧ ar2.toInt ≤ 3 ∧ 0 ≤ ar3.toInt ∧ ar3.toInt ≤ 60) → (g5 73 1).toInt = ar3.toInt ∧ (g5 72 1).toInt = ar2.toInt) ∧ (¬ (0 ≤ ar2.toInt ∧ ar2.toInt ≤ 3 ∧ 0 ≤ ar3.toInt ∧ ar3.toInt ≤ 60) → (g5 73 1).toInt = (gi 73 1).toInt ∧ (g5 72 1).toInt = (gi 72 1).toInt)) from (by have ff6 : (g5 73 1).toInt = (gi 73 1).toInt := congrArg Int32.toInt ((by rw [e5]; exact x_up2_off (Or.inr (by decide)) : g5 73 1 = gi 73 1).trans rfl); have ff7 : (g5 72 1).toInt = (gi 72 1).toInt := congrArg Int32.toInt ((by rw [e5]; exact x_up2_off (Or.inr (by decide)) : g5 72 1 = gi 72 1).trans rfl); omega)), fun h => absurd h (by omega), fun _ j => rfl, fun m h => rfl⟩)⟩⟩
  · have l8 : 0 ≤ ar2.toInt := t_lel (t_nlt h3) (by decide : (0:Int) ≤ (0:Int32).toInt)
    refine ev_loc f_X12_tray (nx := 12) rfl rfl rfl rfl ?_
    refine ev_ic f_X12_tray (nx := 13) (v := 3) rfl (by decide) rfl ?_
    refine ev_if f_X12_tray (t1 := 26) (t2 := 16) rfl rfl rfl (fun h9 => ?_) (fun h9 => ?_)
    · have l10 : 4 ≤ ar2.toInt := t_ltl h9 (by decide : (3:Int) ≤ (3:Int32).toInt) rfl
      refine ev_loc f_X12_tray (nx := 27) rfl rfl rfl rfl ?_
      refine ev_ic f_X12_tray (nx := 28) (v := 1) rfl (by decide) rfl ?_
      refine ev_inV2 f_X12_tray (nx := 31) (lo2 := [(0, .ref 69), (1, .int 1)]) rfl rfl rfl rfl f_X12_is (hI.wf.s rfl) rfl rfl rfl rfl rfl ?_
      refine ev_loc f_X12_is (nx := 1) rfl rfl rfl rfl ?_
      refine ev_loc f_X12_is (nx := 2) rfl rfl rfl rfl ?_
      refine ev_putIT f_X12_is (nx := 5) rfl (hI.wf.s rfl) rfl rfl rfl (hI.put0 (hI.wf.s rfl) rfl rfl) (hX.upI rfl) (fun g11 e11 hI hX => ?_)
      refine ev_loc f_X12_is (nx := 6) rfl rfl rfl rfl ?_
      refine ev_f f_X12_is (t1 := 9) (t2 := 13) rfl rfl rfl (by decide) ?_
      refine ev_ic f_X12_is (nx := 14) (v := 0) rfl (by decide) rfl ?_
      refine ev_retK1 f_X12_is rfl rfl rfl ?_
      exact ev_ret f_X12_tray rfl rfl rfl ⟨_, _, _, rfl, hI, hX, ⟨_, rfl, (by decide : (0:Int) ≤ (0:Int32).toInt), (Int.le_trans (by decide : (0:Int32).toInt ≤ (0:Int)) (by decide : (0:Int) ≤ 1)), (show ((0 ≤ (0 : Int) ∧ (0 : Int) ≤ 1) ∧ ((0 : Int) = 1 ↔ (0 ≤ ar2.toInt ∧ ar2.toInt ≤ 3 ∧ 0 ≤ ar3.toInt ∧ ar3.toInt ≤ 60)) ∧ ((0 ≤ ar2.toInt ∧ ar2.toInt ≤ 3 ∧ 0 ≤ ar3.toInt ∧ ar3.toInt ≤ 60) → (g11 73 1).toInt = ar3.toInt ∧ (g11 72 1).toInt = ar2.toInt) ∧ (¬ (0 ≤ ar2.toInt ∧ ar2.toInt ≤ 3 ∧ 0 ≤ ar3.toInt ∧ ar3.toInt ≤ 60) → (g11 73 1).toInt = (gi 73 1).toInt ∧ (g11 72 1).toInt = (gi 72 1).toInt)) ∧ ((0 ≤ ar2.toInt ∧ ar2.toInt ≤ 3 ∧ 0 ≤ ar3.toInt ∧ ar3.toInt ≤ 60) → ∀ j : Nat, (j : Int) < ar3.toInt → gl 74 (60 + j) = 0) ∧ (¬ (0 ≤ ar2.toInt ∧ ar2.toInt ≤ 3 ∧ 0 ≤ ar3.toInt ∧ ar3.toInt ≤ 60) → ∀ j : Nat, gl 74 j = gl 74 j) ∧ (∀ m : Nat, (m < 60 ∨ 120 ≤ m) → gl 74 m = gl 74 m) from ⟨(show ((0 ≤ (0 : Int) ∧ (0 : Int) ≤ 1) ∧ ((0 : Int) = 1 ↔ (0 ≤ ar2.toInt ∧ ar2.toInt ≤ 3 ∧ 0 ≤ ar3.toInt ∧ ar3.toInt ≤ 60)) ∧ ((0 ≤ ar2.toInt ∧ ar2.toInt ≤ 3 ∧ 0 ≤ ar3.toInt ∧ ar3.toInt ≤ 60) → (g11 73 1).toInt = ar3.toInt ∧ (g11 72 1).toInt = ar2.toInt) ∧ (¬ (0 ≤ ar2.toInt ∧ ar2.toInt ≤ 3 ∧ 0 ≤ ar3.toInt ∧ ar3.toInt ≤ 60) → (g11 73 1).toInt = (gi 73 1).toInt ∧ (g11 72 1).toInt = (gi 72 1).toInt)) from (by have ff12 : (g11 73 1).toInt = (gi 73 1).toInt := congrArg Int32.toInt ((by rw [e11]; exact x_up2_off (Or.inr (by decide)) : g11 73 1 = gi 73 1).trans rfl); have ff13 : (g11 72 1).toInt = (gi 72 1).toInt := congrArg Int32.toInt ((by rw [e11]; exact x_up2_off (Or.inr (by decide)) : g11 72 1 = gi 72 1).trans rfl); omega)), fun h => absurd h (by omega), fun _ j => rfl, fun m h => rfl⟩)⟩⟩
    · have u14 : ar2.toInt ≤ 3 := t_leu (t_nlt h9) (by decide : (3:Int32).toInt ≤ (3:Int))
      refine ev_loc f_X12_tray (nx := 17) rfl rfl rfl rfl ?_
      refine ev_if f_X12_tray (t1 := 26) (t2 := 20) rfl rfl rfl (fun h15 => ?_) (fun h15 => ?_)
      · have u16 : ar3.toInt ≤ (-1) := t_ltu h15 (by decide : (0:Int32).toInt ≤ (0:Int)) rfl
        refine ev_loc f_X12_tray (nx := 27) rfl rfl rfl rfl ?_
        refine ev_ic f_X12_tray (nx := 28) (v := 1) rfl (by decide) rfl ?_
        refine ev_inV2 f_X12_tray (nx := 31) (lo2 := [(0, .ref 69), (1, .int 1)]) rfl rfl rfl rfl f_X12_is (hI.wf.s rfl) rfl rfl rfl rfl rfl ?_
        refine ev_loc f_X12_is (nx := 1) rfl rfl rfl rfl ?_
        refine ev_loc f_X12_is (nx := 2) rfl rfl rfl rfl ?_
        refine ev_putIT f_X12_is (nx := 5) rfl (hI.wf.s rfl) rfl rfl rfl (hI.put0 (hI.wf.s rfl) rfl rfl) (hX.upI rfl) (fun g17 e17 hI hX => ?_)
        refine ev_loc f_X12_is (nx := 6) rfl rfl rfl rfl ?_
        refine ev_f f_X12_is (t1 := 9) (t2 := 13) rfl rfl rfl (by decide) ?_
        refine ev_ic f_X12_is (nx := 14) (v := 0) rfl (by decide) rfl ?_
        refine ev_retK1 f_X12_is rfl rfl rfl ?_
        exact ev_ret f_X12_tray rfl rfl rfl ⟨_, _, _, rfl, hI, hX, ⟨_, rfl, (by decide : (0:Int) ≤ (0:Int32).toInt), (Int.le_trans (by decide : (0:Int32).toInt ≤ (0:Int)) (by decide : (0:Int) ≤ 1)), (show ((0 ≤ (0 : Int) ∧ (0 : Int) ≤ 1) ∧ ((0 : Int) = 1 ↔ (0 ≤ ar2.toInt ∧ ar2.toInt ≤ 3 ∧ 0 ≤ ar3.toInt ∧ ar3.toInt ≤ 60)) ∧ ((0 ≤ ar2.toInt ∧ ar2.toInt ≤ 3 ∧ 0 ≤ ar3.toInt ∧ ar3.toInt ≤ 60) → (g17 73 1).toInt = ar3.toInt ∧ (g17 72 1).toInt = ar2.toInt) ∧ (¬ (0 ≤ ar2.toInt ∧ ar2.toInt ≤ 3 ∧ 0 ≤ ar3.toInt ∧ ar3.toInt ≤ 60) → (g17 73 1).toInt = (gi 73 1).toInt ∧ (g17 72 1).toInt = (gi 72 1).toInt)) ∧ ((0 ≤ ar2.toInt ∧ ar2.toInt ≤ 3 ∧ 0 ≤ ar3.toInt ∧ ar3.toInt ≤ 60) → ∀ j : Nat, (j : Int) < ar3.toInt → gl 74 (60 + j) = 0) ∧ (¬ (0 ≤ ar2.toInt ∧ ar2.toInt ≤ 3 ∧ 0 ≤ ar3.toInt ∧ ar3.toInt ≤ 60) → ∀ j : Nat, gl 74 j = gl 74 j) ∧ (∀ m : Nat, (m < 60 ∨ 120 ≤ m) → gl 74 m = gl 74 m) from ⟨(show ((0 ≤ (0 : Int) ∧ (0 : Int) ≤ 1) ∧ ((0 : Int) = 1 ↔ (0 ≤ ar2.toInt ∧ ar2.toInt ≤ 3 ∧ 0 ≤ ar3.toInt ∧ ar3.toInt ≤ 60)) ∧ ((0 ≤ ar2.toInt ∧ ar2.toInt ≤ 3 ∧ 0 ≤ ar3.toInt ∧ ar3.toInt ≤ 60) → (g17 73 1).toInt = ar3.toInt ∧ (g17 72 1).toInt = ar2.toInt) ∧ (¬ (0 ≤ ar2.toInt ∧ ar2.toInt ≤ 3 ∧ 0 ≤ ar3.toInt ∧ ar3.toInt ≤ 60) → (g17 73 1).toInt = (gi 73 1).toInt ∧ (g17 72 1).toInt = (gi 72 1).toInt)) from (by have ff18 : (g17 73 1).toInt = (gi 73 1).toInt := congrArg Int32.toInt ((by rw [e17]; exact x_up2_off (Or.inr (by decide)) : g17 73 1 = gi 73 1).trans rfl); have ff19 : (g17 72 1).toInt = (gi 72 1).toInt := congrArg Int32.toInt ((by rw [e17]; exact x_up2_off (Or.inr (by decide)) : g17 72 1 = gi 72 1).trans rfl); omega)), fun h => absurd h (by omega), fun _ j => rfl, fun m h => rfl⟩)⟩⟩
      · have l20 : 0 ≤ ar3.toInt := t_lel (t_nlt h15) (by decide : (0:Int) ≤ (0:Int32).toInt)
        refine ev_loc f_X12_tray (nx := 21) rfl rfl rfl rfl ?_
        refine ev_bp f_X12_tray (nx := 23) (v := 60) rfl (by decide) rfl ?_
        refine ev_if f_X12_tray (t1 := 32) (t2 := 26) rfl rfl rfl (fun h21 => ?_) (fun h21 => ?_)
        · have u22 : ar3.toInt ≤ 60 := t_leu h21 (by decide : (60:Int32).toInt ≤ (60:Int))
          refine ev_loc f_X12_tray (nx := 33) rfl rfl rfl rfl ?_
          refine ev_getR f_X12_tray (nx := 36) rfl (hI.wf.s rfl) rfl rfl (hI.wf.r rfl) rfl rfl ?_
          refine ev_loc f_X12_tray (nx := 37) rfl rfl rfl rfl ?_
          refine ev_loc f_X12_tray (nx := 38) rfl rfl rfl rfl ?_
          refine ev_iastT f_X12_tray (nx := 39) rfl (hI.wf.s rfl) (by decide : (1:Int) ≤ (1:Int32).toInt) (by decide) (by decide : (1:Int32).toInt ≤ (1:Int)) (by decide) rfl (hI.astL (hI.wf.s rfl) (by decide +kernel : t_abw 72 1 1 0 3 = true) (t_cl1 (by decide : (1:Int) ≤ (1:Int32).toInt) (by decide)) (t_cl2 (by decide : (1:Int) ≤ (1:Int32).toInt) (by decide : (1:Int32).toInt ≤ (1:Int)) (by decide) (by decide)) l8 u14 rfl) (hX.upI (t_inR (p := 1) (m := 1) rfl (by decide : (1:Int) ≤ (1:Int32).toInt) (by decide) (by decide : (1:Int32).toInt ≤ (1:Int)) (by decide) (by decide))) (fun g23 e23 hI hX => ?_)
          refine ev_loc f_X12_tray (nx := 40) rfl rfl rfl rfl ?_
          refine ev_getR f_X12_tray (nx := 43) rfl (hI.wf.s rfl) rfl rfl (hI.wf.r rfl) rfl rfl ?_
          refine ev_loc f_X12_tray (nx := 44) rfl rfl rfl rfl ?_
          refine ev_loc f_X12_tray (nx := 45) rfl rfl rfl rfl ?_
          refine ev_iastT f_X12_tray (nx := 46) rfl (hI.wf.s rfl) (by decide : (1:Int) ≤ (1:Int32).toInt) (by decide) (by decide : (1:Int32).toInt ≤ (1:Int)) (by decide) rfl (hI.astL (hI.wf.s rfl) (by decide +kernel : t_abw 73 1 1 0 60 = true) (t_cl1 (by decide : (1:Int) ≤ (1:Int32).toInt) (by decide)) (t_cl2 (by decide : (1:Int) ≤ (1:Int32).toInt) (by decide : (1:Int32).toInt ≤ (1:Int)) (by decide) (by decide)) l20 u22 rfl) (hX.upI (t_inR (p := 1) (m := 1) rfl (by decide : (1:Int) ≤ (1:Int32).toInt) (by decide) (by decide : (1:Int32).toInt ≤ (1:Int)) (by decide) (by decide))) (fun g24 e24 hI hX => ?_)
          refine ev_ic f_X12_tray (nx := 47) (v := 0) rfl (by decide) rfl ?_
          refine ev_loc f_X12_tray (nx := 49) (lo' := [(4, .int 0), (0, .ref 69), (1, .int 1), (2, .int ar2), (3, .int ar3)]) rfl rfl rfl rfl ?_
          have L25 : ∀ (m25 : Nat) (gi25 : Nat → Nat → Int32) (gl25 : Nat → Nat → Int64) (gr25 : Nat → Nat → Value) (y25_4 : Int32), t_I sh gi25 gr25 → t_X wl_m_tray_1 sh gi gl gr gi25 gl25 gr25 → 0 ≤ y25_4.toInt → y25_4.toInt ≤ 60 → gi25 72 1 = ar2 → gi25 73 1 = ar3 → (∀ j : Nat, (j : Int) < y25_4.toInt → gl25 74 (60 + j) = 0) → (∀ m : Nat, (m < 60 ∨ 120 ≤ m) → gl25 74 m = gl 74 m) → (60 - y25_4.toInt).toNat = m25 → x_Ev X (d + 2) n_X12_tray 49 [(4, .int y25_4), (0, .ref 69), (1, .int 1), (2, .int ar2), (3, .int ar3)] [] (sh, gi25, gl25, gr25) (t_PI wl_m_tray_1 sh gi gl gr 0 1 (Q_m_tray_1 gi gl gr ar2 ar3)) := by
            intro m25
            induction m25 using Nat.strongRecOn with
            | _ m25 ih25 =>
            intro gi25 gl25 gr25 y25_4 hI hX l25_4 u25_4 c25_0 c25_1 j25_0 j25_1 hm25
            refine ev_loc f_X12_tray (nx := 51) rfl rfl rfl rfl ?_
            refine ev_loc f_X12_tray (nx := 52) rfl rfl rfl rfl ?_
            refine ev_if f_X12_tray (t1 := 74) (t2 := 55) rfl rfl rfl (fun h26 => ?_) (fun h26 => ?_)
            · have r27 : ar3.toInt ≤ y25_4.toInt := Int32.le_iff_toInt_le.mp h26
              refine ev_loc f_X12_tray (nx := 75) rfl rfl rfl rfl ?_
              refine ev_ic f_X12_tray (nx := 76) (v := 0) rfl (by decide) rfl ?_
              refine ev_inV2 f_X12_tray (nx := 79) (lo2 := [(0, .ref 69), (1, .int 0)]) rfl rfl rfl rfl f_X12_is (hI.wf.s rfl) rfl rfl rfl rfl rfl ?_
              refine ev_loc f_X12_is (nx := 1) rfl rfl rfl rfl ?_
              refine ev_loc f_X12_is (nx := 2) rfl rfl rfl rfl ?_
              refine ev_putIT f_X12_is (nx := 5) rfl (hI.wf.s rfl) rfl rfl rfl (hI.put0 (hI.wf.s rfl) rfl rfl) (hX.upI rfl) (fun g28 e28 hI hX => ?_)
              refine ev_loc f_X12_is (nx := 6) rfl rfl rfl rfl ?_
              refine ev_t f_X12_is (t1 := 9) (t2 := 13) rfl rfl rfl (by decide) ?_
              refine ev_ic f_X12_is (nx := 10) (v := 1) rfl (by decide) rfl ?_
              refine ev_jmp f_X12_is (nx := 14) rfl rfl rfl ?_
              refine ev_retK1 f_X12_is rfl rfl rfl ?_
              exact ev_ret f_X12_tray rfl rfl rfl ⟨_, _, _, rfl, hI, hX, ⟨_, rfl, (Int.le_trans (by decide : (0:Int) ≤ 1) (by decide : (1:Int) ≤ (1:Int32).toInt)), (by decide : (1:Int32).toInt ≤ (1:Int)), (show ((0 ≤ (1 : Int) ∧ (1 : Int) ≤ 1) ∧ ((1 : Int) = 1 ↔ (0 ≤ ar2.toInt ∧ ar2.toInt ≤ 3 ∧ 0 ≤ ar3.toInt ∧ ar3.toInt ≤ 60)) ∧ ((0 ≤ ar2.toInt ∧ ar2.toInt ≤ 3 ∧ 0 ≤ ar3.toInt ∧ ar3.toInt ≤ 60) → (g28 73 1).toInt = ar3.toInt ∧ (g28 72 1).toInt = ar2.toInt) ∧ (¬ (0 ≤ ar2.toInt ∧ ar2.toInt ≤ 3 ∧ 0 ≤ ar3.toInt ∧ ar3.toInt ≤ 60) → (g28 73 1).toInt = (gi 73 1).toInt ∧ (g28 72 1).toInt = (gi 72 1).toInt)) ∧ ((0 ≤ ar2.toInt ∧ ar2.toInt ≤ 3 ∧ 0 ≤ ar3.toInt ∧ ar3.toInt ≤ 60) → ∀ j : Nat, (j : Int) < ar3.toInt → gl25 74 (60 + j) = 0) ∧ (¬ (0 ≤ ar2.toInt ∧ ar2.toInt ≤ 3 ∧ 0 ≤ ar3.toInt ∧ ar3.toInt ≤ 60) → ∀ j : Nat, gl25 74 j = gl 74 j) ∧ (∀ m : Nat, (m < 60 ∨ 120 ≤ m) → gl25 74 m = gl 74 m) from ⟨(show ((0 ≤ (1 : Int) ∧ (1 : Int) ≤ 1) ∧ ((1 : Int) = 1 ↔ (0 ≤ ar2.toInt ∧ ar2.toInt ≤ 3 ∧ 0 ≤ ar3.toInt ∧ ar3.toInt ≤ 60)) ∧ ((0 ≤ ar2.toInt ∧ ar2.toInt ≤ 3 ∧ 0 ≤ ar3.toInt ∧ ar3.toInt ≤ 60) → (g28 73 1).toInt = ar3.toInt ∧ (g28 72 1).toInt = ar2.toInt) ∧ (¬ (0 ≤ ar2.toInt ∧ ar2.toInt ≤ 3 ∧ 0 ≤ ar3.toInt ∧ ar3.toInt ≤ 60) → (g28 73 1).toInt = (gi 73 1).toInt ∧ (g28 72 1).toInt = (gi 72 1).toInt)) from (by have ff29 : (g28 73 1).toInt = ar3.toInt := congrArg Int32.toInt ((by rw [e28]; exact x_up2_off (Or.inr (by decide)) : g28 73 1 = gi25 73 1).trans c25_1); have ff30 : (g28 72 1).toInt = ar2.toInt := congrArg Int32.toInt ((by rw [e28]; exact x_up2_off (Or.inr (by decide)) : g28 72 1 = gi25 72 1).trans c25_0); omega)), fun _ j h => j25_0 j (by omega), fun h => absurd (show _ from ⟨by omega, by omega, by omega, by omega⟩) h, j25_1⟩)⟩⟩
            · have r31 : y25_4.toInt < ar3.toInt := Int32.lt_iff_toInt_lt.mp (t_nle h26)
              have u32 : y25_4.toInt ≤ 59 := t_ltu (t_nle h26) u22 rfl
              have l33 : 1 ≤ ar3.toInt := t_ltl (t_nle h26) l25_4 rfl
              refine ev_loc f_X12_tray (nx := 56) rfl rfl rfl rfl ?_
              refine ev_getR f_X12_tray (nx := 59) rfl (hI.wf.s rfl) rfl rfl (hI.wf.r rfl) rfl rfl ?_
              refine ev_bp f_X12_tray (nx := 61) (v := 60) rfl (by decide) rfl ?_
              refine ev_loc f_X12_tray (nx := 62) rfl rfl rfl rfl ?_
              refine ev_aluvI f_X12_tray (nx := 63) (w := 60) rfl rfl rfl (by decide) rfl ?_
              refine ev_loc f_X12_tray (nx := 65) rfl rfl rfl rfl ?_
              refine ev_addK f_X12_tray (nx := 66) (c := 60) (l := 60) (u := 119) rfl (by decide) l25_4 u32 rfl rfl (by decide) (by decide) rfl (fun z34 e34 l34 u34 => ?_)
              refine ev_lc f_X12_tray (nx := 67) (v := 0) rfl (by decide) rfl ?_
              refine ev_lastT f_X12_tray (nx := 68) rfl (hI.wf.s rfl) l34 (by decide) u34 (by decide) rfl (hX.upL (t_inR (p := 60) (m := 119) rfl l34 (by decide) u34 (by decide) (by decide))) (fun g35 e35 hX => ?_)
              refine ev_incR f_X12_tray (nx := 71) (c := 1) (l := 1) (u := 60) rfl rfl (by decide) (by decide) l25_4 u32 rfl rfl (by decide) (by decide) rfl (fun z36 e36 l36 u36 => ?_)
              refine ev_jmp f_X12_tray (nx := 49) rfl rfl rfl ?_
              refine ev_sub (lo := [(4, .int z36), (0, .ref 69), (1, .int 1), (2, .int ar2), (3, .int ar3)]) rfl (t_sc rfl (t_sc rfl (t_sc rfl (t_sc rfl (t_sc rfl t_sn))))) ?_
              exact ih25 _ (by omega) gi25 g35 gr25 (z36) hI hX  (Int.le_trans (by decide : (0:Int) ≤ 1) l36) u36 c25_0 c25_1 (by intro j hj; by_cases h : 60 + j = z34.toNatClampNeg; (rw [h, e35, x_up2_at]); (rw [e35, x_up2_off (Or.inr h)]; exact j25_0 j (by have hc := t_clamp (i := z34) (by omega); omega))) (by intro m hm; rw [e35, x_up2_off (Or.inr (by have hc := t_clamp (i := z34) (by omega); omega))]; exact j25_1 m hm) rfl
          refine ev_sub (lo := [(4, .int 0), (0, .ref 69), (1, .int 1), (2, .int ar2), (3, .int ar3)]) rfl (t_sc rfl (t_sc rfl (t_sc rfl (t_sc rfl (t_sc rfl t_sn))))) ?_
          exact L25 _ g24 gl gr (0) hI hX  (by decide : (0:Int) ≤ (0:Int32).toInt) (Int.le_trans (by decide : (0:Int32).toInt ≤ (0:Int)) (by decide : (0:Int) ≤ 60)) ((by rw [e24]; exact x_up2_off (Or.inl (by decide)) : g24 72 1 = g23 72 1).trans (by rw [e23]; exact x_up2_at _ _ _ _ : g23 72 1 = ar2)) (by rw [e24]; exact x_up2_at _ _ _ _ : g24 73 1 = ar3) (fun j h => absurd h (by have : (0 : Int32).toInt = 0 := rfl; omega)) (fun m h => rfl) rfl
        · have l37 : 61 ≤ ar3.toInt := t_ltl (t_nle h21) (by decide : (60:Int) ≤ (60:Int32).toInt) rfl
          refine ev_loc f_X12_tray (nx := 27) rfl rfl rfl rfl ?_
          refine ev_ic f_X12_tray (nx := 28) (v := 1) rfl (by decide) rfl ?_
          refine ev_inV2 f_X12_tray (nx := 31) (lo2 := [(0, .ref 69), (1, .int 1)]) rfl rfl rfl rfl f_X12_is (hI.wf.s rfl) rfl rfl rfl rfl rfl ?_
          refine ev_loc f_X12_is (nx := 1) rfl rfl rfl rfl ?_
          refine ev_loc f_X12_is (nx := 2) rfl rfl rfl rfl ?_
          refine ev_putIT f_X12_is (nx := 5) rfl (hI.wf.s rfl) rfl rfl rfl (hI.put0 (hI.wf.s rfl) rfl rfl) (hX.upI rfl) (fun g38 e38 hI hX => ?_)
          refine ev_loc f_X12_is (nx := 6) rfl rfl rfl rfl ?_
          refine ev_f f_X12_is (t1 := 9) (t2 := 13) rfl rfl rfl (by decide) ?_
          refine ev_ic f_X12_is (nx := 14) (v := 0) rfl (by decide) rfl ?_
          refine ev_retK1 f_X12_is rfl rfl rfl ?_
          exact ev_ret f_X12_tray rfl rfl rfl ⟨_, _, _, rfl, hI, hX, ⟨_, rfl, (by decide : (0:Int) ≤ (0:Int32).toInt), (Int.le_trans (by decide : (0:Int32).toInt ≤ (0:Int)) (by decide : (0:Int) ≤ 1)), (show ((0 ≤ (0 : Int) ∧ (0 : Int) ≤ 1) ∧ ((0 : Int) = 1 ↔ (0 ≤ ar2.toInt ∧ ar2.toInt ≤ 3 ∧ 0 ≤ ar3.toInt ∧ ar3.toInt ≤ 60)) ∧ ((0 ≤ ar2.toInt ∧ ar2.toInt ≤ 3 ∧ 0 ≤ ar3.toInt ∧ ar3.toInt ≤ 60) → (g38 73 1).toInt = ar3.toInt ∧ (g38 72 1).toInt = ar2.toInt) ∧ (¬ (0 ≤ ar2.toInt ∧ ar2.toInt ≤ 3 ∧ 0 ≤ ar3.toInt ∧ ar3.toInt ≤ 60) → (g38 73 1).toInt = (gi 73 1).toInt ∧ (g38 72 1).toInt = (gi 72 1).toInt)) ∧ ((0 ≤ ar2.toInt ∧ ar2.toInt ≤ 3 ∧ 0 ≤ ar3.toInt ∧ ar3.toInt ≤ 60) → ∀ j : Nat, (j : Int) < ar3.toInt → gl 74 (60 + j) = 0) ∧ (¬ (0 ≤ ar2.toInt ∧ ar2.toInt ≤ 3 ∧ 0 ≤ ar3.toInt ∧ ar3.toInt ≤ 60) → ∀ j : Nat, gl 74 j = gl 74 j) ∧ (∀ m : Nat, (m < 60 ∨ 120 ≤ m) → gl 74 m = gl 74 m) from ⟨(show ((0 ≤ (0 : Int) ∧ (0 : Int) ≤ 1) ∧ ((0 : Int) = 1 ↔ (0 ≤ ar2.toInt ∧ ar2.toInt ≤ 3 ∧ 0 ≤ ar3.toInt ∧ ar3.toInt ≤ 60)) ∧ ((0 ≤ ar2.toInt ∧ ar2.toInt ≤ 3 ∧ 0 ≤ ar3.toInt ∧ ar3.toInt ≤ 60) → (g38 73 1).toInt = ar3.toInt ∧ (g38 72 1).toInt = ar2.toInt) ∧ (¬ (0 ≤ ar2.toInt ∧ ar2.toInt ≤ 3 ∧ 0 ≤ ar3.toInt ∧ ar3.toInt ≤ 60) → (g38 73 1).toInt = (gi 73 1).toInt ∧ (g38 72 1).toInt = (gi 72 1).toInt)) from (by have ff39 : (g38 73 1).toInt = (gi 73 1).toInt := congrArg Int32.toInt ((by rw [e38]; exact x_up2_off (Or.inr (by decide)) : g38 73 1 = gi 73 1).trans rfl); have ff40 : (g38 72 1).toInt = (gi 72 1).toInt := congrArg Int32.toInt ((by rw [e38]; exact x_up2_off (Or.inr (by decide)) : g38 72 1 = gi 72 1).trans rfl); omega)), fun h => absurd h (by omega), fun _ j => rfl, fun m h => rfl⟩)⟩⟩
noncomputable def wl_lay_2 : List (Nat × Nat) := [(65, 1), (65, 2), (66, 9999)]
noncomputable def Q_lay_2 (gi : Nat → Nat → Int32) (gl : Nat → Nat → Int64) (gr : Nat → Nat → Value) (ar1 : Int32) (ar2 : Int32) : (Nat → Nat → Int32) → (Nat → Nat → Int64) → (Nat → Nat → Value) → Prop := fun (gi2 : Nat → Nat → Int32) (gl2 : Nat → Nat → Int64) (gr2 : Nat → Nat → Value) => ((gi2 65 2).toInt = ar2.toInt ∧ (gi2 65 1).toInt = ar1.toInt) ∧ (∀ j : Nat, j < 60 → gl2 66 j = 0)
theorem c_lay_2 {X : x_Ext} {d : Nat} {sh : List (Nat ⊕ (Nat × Nat))} {gi : Nat → Nat → Int32} {gl : Nat → Nat → Int64} {gr : Nat → Nat → Value} (hI : t_I sh gi gr) (ar1 : Int32) (ar2 : Int32) (l_a2 : 0 ≤ ar2.toInt) (u_a2 : ar2.toInt ≤ 60) : x_Me X (d + 1) n_X10_lay [.ref 65, .int ar1, .int ar2] (sh, gi, gl, gr) (t_PN wl_lay_2 sh gi gl gr (Q_lay_2 gi gl gr ar1 ar2)) := by
  have hX : t_X wl_lay_2 sh gi gl gr gi gl gr := t_X.rf
  refine me_i f_X10_lay (hI.wf.s rfl) rfl rfl rfl ?_
  obtain ⟨l2, u2⟩ := hI.b (hI.wf.s (k := 65) rfl) (t_bdK rfl : t_bd 9 2 = some ((-1), 60))
  refine ev_loc f_X10_lay (nx := 1) rfl rfl rfl rfl ?_
  refine ev_loc f_X10_lay (nx := 2) rfl rfl rfl rfl ?_
  refine ev_putIT f_X10_lay (nx := 5) rfl (hI.wf.s rfl) rfl rfl rfl (hI.put0 (hI.wf.s rfl) rfl rfl) (hX.upI rfl) (fun g3 e3 hI hX => ?_)
  refine ev_loc f_X10_lay (nx := 6) rfl rfl rfl rfl ?_
  refine ev_loc f_X10_lay (nx := 7) rfl rfl rfl rfl ?_
  refine ev_putIT f_X10_lay (nx := 10) rfl (hI.wf.s rfl) rfl rfl rfl (hI.putB (hI.wf.s rfl) rfl rfl l_a2 (by decide) u_a2 (by decide)) (hX.upI rfl) (fun g4 e4 hI hX => ?_)
  refine ev_ic f_X10_lay (nx := 11) (v := 0) rfl (by decide) rfl ?_
  refine ev_loc f_X10_lay (nx := 12) (lo' := [(3, .int 0), (0, .ref 65), (1, .int ar1), (2, .int ar2)]) rfl rfl rfl rfl ?_
  have L5 : ∀ (m5 : Nat) (gi5 : Nat → Nat → Int32) (gl5 : Nat → Nat → Int64) (gr5 : Nat → Nat → Value) (y5_3 : Int32), t_I sh gi5 gr5 → t_X wl_lay_2 sh gi gl gr gi5 gl5 gr5 → 0 ≤ y5_3.toInt → y5_3.toInt ≤ 60 → gi5 65 1 = ar1 → gi5 65 2 = ar2 → (∀ j : Nat, (j : Int) < y5_3.toInt → gl5 66 j = 0) → (60 - y5_3.toInt).toNat = m5 → x_Ev X (d + 1) n_X10_lay 12 [(3, .int y5_3), (0, .ref 65), (1, .int ar1), (2, .int ar2)] [] (sh, gi5, gl5, gr5) (t_PN wl_lay_2 sh gi gl gr (Q_lay_2 gi gl gr ar1 ar2)) := by
    intro m5
    induction m5 using Nat.strongRecOn with
    | _ m5 ih5 =>
    intro gi5 gl5 gr5 y5_3 hI hX l5_3 u5_3 c5_0 c5_1 j5_0 hm5
    refine ev_loc f_X10_lay (nx := 13) rfl rfl rfl rfl ?_
    refine ev_loc f_X10_lay (nx := 14) rfl rfl rfl rfl ?_
    refine ev_getR f_X10_lay (nx := 17) rfl (hI.wf.s rfl) rfl rfl (hI.wf.r rfl) rfl rfl ?_
    refine ev_alenv f_X10_lay (nx := 18) (w := 60) rfl (hI.wf.s rfl) rfl (by decide) rfl ?_
    refine ev_if f_X10_lay (t1 := 34) (t2 := 21) rfl rfl rfl (fun h6 => ?_) (fun h6 => ?_)
    · have l7 : 60 ≤ y5_3.toInt := t_lel h6 (by decide : (60:Int) ≤ (60:Int32).toInt)
      exact ev_ret f_X10_lay rfl rfl rfl ⟨_, _, _, rfl, hI, hX, ⟨rfl, (show ((gi5 65 2).toInt = ar2.toInt ∧ (gi5 65 1).toInt = ar1.toInt) ∧ (∀ j : Nat, j < 60 → gl5 66 j = 0) from ⟨(by have ff8 : (gi5 65 2).toInt = ar2.toInt := congrArg Int32.toInt c5_1; have ff9 : (gi5 65 1).toInt = ar1.toInt := congrArg Int32.toInt c5_0; omega), fun j h => j5_0 j (by omega)⟩)⟩⟩
    · have u10 : y5_3.toInt ≤ 59 := t_ltu (t_nle h6) (by decide : (60:Int32).toInt ≤ (60:Int)) rfl
      refine ev_loc f_X10_lay (nx := 22) rfl rfl rfl rfl ?_
      refine ev_getR f_X10_lay (nx := 25) rfl (hI.wf.s rfl) rfl rfl (hI.wf.r rfl) rfl rfl ?_
      refine ev_loc f_X10_lay (nx := 26) rfl rfl rfl rfl ?_
      refine ev_lc f_X10_lay (nx := 27) (v := 0) rfl (by decide) rfl ?_
      refine ev_lastT f_X10_lay (nx := 28) rfl (hI.wf.s rfl) l5_3 (by decide) u10 (by decide) rfl (hX.upL (t_inA_ok rfl)) (fun g11 e11 hX => ?_)
      refine ev_incR f_X10_lay (nx := 31) (c := 1) (l := 1) (u := 60) rfl rfl (by decide) (by decide) l5_3 u10 rfl rfl (by decide) (by decide) rfl (fun z12 e12 l12 u12 => ?_)
      refine ev_jmp f_X10_lay (nx := 12) rfl rfl rfl ?_
      refine ev_sub (lo := [(3, .int z12), (0, .ref 65), (1, .int ar1), (2, .int ar2)]) rfl (t_sc rfl (t_sc rfl (t_sc rfl (t_sc rfl t_sn)))) ?_
      exact ih5 _ (by omega) gi5 g11 gr5 (z12) hI hX  (Int.le_trans (by decide : (0:Int) ≤ 1) l12) u12 c5_0 c5_1 (by intro j hj; by_cases h : j = y5_3.toNatClampNeg; (rw [h, e11, x_up2_at]); (rw [e11, x_up2_off (Or.inr h)]; exact j5_0 j (by have hc := t_clamp (i := y5_3) (by omega); omega))) rfl
  refine ev_sub (lo := [(3, .int 0), (0, .ref 65), (1, .int ar1), (2, .int ar2)]) rfl (t_sc rfl (t_sc rfl (t_sc rfl (t_sc rfl t_sn)))) ?_
  exact L5 _ g4 gl gr (0) hI hX  (by decide : (0:Int) ≤ (0:Int32).toInt) (Int.le_trans (by decide : (0:Int32).toInt ≤ (0:Int)) (by decide : (0:Int) ≤ 60)) ((by rw [e4]; exact x_up2_off (Or.inr (by decide)) : g4 65 1 = g3 65 1).trans (by rw [e3]; exact x_up2_at _ _ _ _ : g3 65 1 = ar1)) (by rw [e4]; exact x_up2_at _ _ _ _ : g4 65 2 = ar2) (fun j h => absurd h (by have : (0 : Int32).toInt = 0 := rfl; omega)) rfl
noncomputable def wl_h_tray_2 : List (Nat × Nat) := [(0, 0), (65, 1), (65, 2), (66, 9999)]
noncomputable def Q_h_tray_2 (gi : Nat → Nat → Int32) (gl : Nat → Nat → Int64) (gr : Nat → Nat → Value) (ar2 : Int32) (ar3 : Int32) : Int32 → (Nat → Nat → Int32) → (Nat → Nat → Int64) → (Nat → Nat → Value) → Prop := fun (v : Int32) (gi2 : Nat → Nat → Int32) (gl2 : Nat → Nat → Int64) (gr2 : Nat → Nat → Value) => ((0 ≤ v.toInt ∧ v.toInt ≤ 1) ∧ (v.toInt = 1 ↔ (0 ≤ ar2.toInt ∧ ar2.toInt ≤ 3 ∧ 0 ≤ ar3.toInt ∧ ar3.toInt ≤ 60)) ∧ ((0 ≤ ar2.toInt ∧ ar2.toInt ≤ 3 ∧ 0 ≤ ar3.toInt ∧ ar3.toInt ≤ 60) → (gi2 65 2).toInt = ar3.toInt ∧ (gi2 65 1).toInt = ar2.toInt) ∧ (¬ (0 ≤ ar2.toInt ∧ ar2.toInt ≤ 3 ∧ 0 ≤ ar3.toInt ∧ ar3.toInt ≤ 60) → (gi2 65 2).toInt = (gi 65 2).toInt ∧ (gi2 65 1).toInt = (gi 65 1).toInt)) ∧ ((0 ≤ ar2.toInt ∧ ar2.toInt ≤ 3 ∧ 0 ≤ ar3.toInt ∧ ar3.toInt ≤ 60) → ∀ j : Nat, j < 60 → gl2 66 j = 0) ∧ (¬ (0 ≤ ar2.toInt ∧ ar2.toInt ≤ 3 ∧ 0 ≤ ar3.toInt ∧ ar3.toInt ≤ 60) → ∀ j : Nat, gl2 66 j = gl 66 j)
theorem c_h_tray_2 {X : x_Ext} {d : Nat} {sh : List (Nat ⊕ (Nat × Nat))} {gi : Nat → Nat → Int32} {gl : Nat → Nat → Int64} {gr : Nat → Nat → Value} (hI : t_I sh gi gr) (ar2 : Int32) (ar3 : Int32) : x_Me X (d + 2) n_X11_tray [.ref 0, .int 2, .int ar2, .int ar3] (sh, gi, gl, gr) (t_PI wl_h_tray_2 sh gi gl gr 0 1 (Q_h_tray_2 gi gl gr ar2 ar3)) := by
  have hX : t_X wl_h_tray_2 sh gi gl gr gi gl gr := t_X.rf
  refine me_i f_X11_tray (hI.wf.s rfl) rfl rfl rfl ?_
  obtain ⟨l2, u2⟩ := hI.b (hI.wf.s (k := 65) rfl) (t_bdK rfl : t_bd 9 2 = some ((-1), 60))
  refine ev_loc f_X11_tray (nx := 1) rfl rfl rfl rfl ?_
  refine ev_loc f_X11_tray (nx := 2) rfl rfl rfl rfl ?_
  refine ev_inV2 f_X11_tray (nx := 5) (lo2 := [(0, .ref 0), (1, .int 2)]) rfl rfl rfl rfl f_X11_isTray (hI.wf.s rfl) rfl rfl rfl rfl rfl ?_
  refine ev_loc f_X11_isTray (nx := 1) rfl rfl rfl rfl ?_
  refine ev_f f_X11_isTray (t1 := 26) (t2 := 4) rfl rfl rfl (by decide) ?_
  refine ev_loc f_X11_isTray (nx := 5) rfl rfl rfl rfl ?_
  refine ev_loc f_X11_isTray (nx := 6) rfl rfl rfl rfl ?_
  refine ev_getR f_X11_isTray (nx := 9) rfl (hI.wf.s rfl) rfl rfl (hI.wf.r rfl) rfl rfl ?_
  refine ev_alenv f_X11_isTray (nx := 10) (w := 4) rfl (hI.wf.s rfl) rfl (by decide) rfl ?_
  refine ev_f f_X11_isTray (t1 := 26) (t2 := 13) rfl rfl rfl (by decide) ?_
  refine ev_loc f_X11_isTray (nx := 14) rfl rfl rfl rfl ?_
  refine ev_getR f_X11_isTray (nx := 17) rfl (hI.wf.s rfl) rfl rfl (hI.wf.r rfl) rfl rfl ?_
  refine ev_loc f_X11_isTray (nx := 18) rfl rfl rfl rfl ?_
  refine ev_aald f_X11_isTray (nx := 19) rfl (hI.wf.s rfl) rfl (t_idx (n := 4) (by decide : (2:Int) ≤ (2:Int32).toInt) (by decide) (by decide : (2:Int32).toInt ≤ (2:Int)) (by decide)).1 (t_idx (n := 4) (by decide : (2:Int) ≤ (2:Int32).toInt) (by decide) (by decide : (2:Int32).toInt ≤ (2:Int)) (by decide)).2 (hI.wf.r rfl) rfl rfl ?_
  refine ev_jmp f_X11_isTray (nx := 22) rfl rfl rfl ?_
  refine ev_ic f_X11_isTray (nx := 23) (v := 1) rfl (by decide) rfl ?_
  refine ev_jmp f_X11_isTray (nx := 27) rfl rfl rfl ?_
  refine ev_retK1 f_X11_isTray rfl rfl rfl ?_
  refine ev_f f_X11_tray (t1 := 27) (t2 := 8) rfl rfl rfl (by decide) ?_
  refine ev_loc f_X11_tray (nx := 9) rfl rfl rfl rfl ?_
  refine ev_if f_X11_tray (t1 := 27) (t2 := 12) rfl rfl rfl (fun h4 => ?_) (fun h4 => ?_)
  · have u5 : ar2.toInt ≤ (-1) := t_ltu h4 (by decide : (0:Int32).toInt ≤ (0:Int)) rfl
    refine ev_loc f_X11_tray (nx := 28) rfl rfl rfl rfl ?_
    refine ev_ic f_X11_tray (nx := 29) (v := 1) rfl (by decide) rfl ?_
    refine ev_inV2 f_X11_tray (nx := 32) (lo2 := [(0, .ref 0), (1, .int 1)]) rfl rfl rfl rfl f_X11_deny (hI.wf.s rfl) rfl rfl rfl rfl rfl ?_
    refine ev_loc f_X11_deny (nx := 1) rfl rfl rfl rfl ?_
    refine ev_loc f_X11_deny (nx := 2) rfl rfl rfl rfl ?_
    refine ev_putIT f_X11_deny (nx := 5) rfl (hI.wf.s rfl) rfl rfl rfl (hI.put0 (hI.wf.s rfl) rfl rfl) (hX.upI rfl) (fun g6 e6 hI hX => ?_)
    refine ev_ic f_X11_deny (nx := 6) (v := 0) rfl (by decide) rfl ?_
    refine ev_retK1 f_X11_deny rfl rfl rfl ?_
    exact ev_ret f_X11_tray rfl rfl rfl ⟨_, _, _, rfl, hI, hX, ⟨_, rfl, (by decide : (0:Int) ≤ (0:Int32).toInt), (Int.le_trans (by decide : (0:Int32).toInt ≤ (0:Int)) (by decide : (0:Int) ≤ 1)), (show ((0 ≤ (0 : Int) ∧ (0 : Int) ≤ 1) ∧ ((0 : Int) = 1 ↔ (0 ≤ ar2.toInt ∧ ar2.toInt ≤ 3 ∧ 0 ≤ ar3.toInt ∧ ar3.toInt ≤ 60)) ∧ ((0 ≤ ar2.toInt ∧ ar2.toInt ≤ 3 ∧ 0 ≤ ar3.toInt ∧ ar3.toInt ≤ 60) → (g6 65 2).toInt = ar3.toInt ∧ (g6 65 1).toInt = ar2.toInt) ∧ (¬ (0 ≤ ar2.toInt ∧ ar2.toInt ≤ 3 ∧ 0 ≤ ar3.toInt ∧ ar3.toInt ≤ 60) → (g6 65 2).toInt = (gi 65 2).toInt ∧ (g6 65 1).toInt = (gi 65 1).toInt)) ∧ ((0 ≤ ar2.toInt ∧ ar2.toInt ≤ 3 ∧ 0 ≤ ar3.toInt ∧ ar3.toInt ≤ 60) → ∀ j : Nat, j < 60 → gl 66 j = 0) ∧ (¬ (0 ≤ ar2.toInt ∧ ar2.toInt ≤ 3 ∧ 0 ≤ ar3.toInt ∧ ar3.toInt ≤ 60) → ∀ j : Nat, gl 66 j = gl 66 j) from ⟨(show ((0 ≤ (0 : Int) ∧ (0 : Int) ≤ 1) ∧ ((0 : Int) = 1 ↔ (0 ≤ ar2.toInt ∧ ar2.toInt ≤ 3 ∧ 0 ≤ ar3.toInt ∧ ar3.toInt ≤ 60)) ∧ ((0 ≤ ar2.toInt ∧ ar2.toInt ≤ 3 ∧ 0 ≤ ar3.toInt ∧ ar3.toInt ≤ 60) → (g6 65 2).toInt = ar3.toInt ∧ (g6 65 1).toInt = ar2.toInt) ∧ (¬ (0 ≤ ar2.toInt ∧ ar2.toInt ≤ 3 ∧ 0 ≤ ar3.toInt ∧ ar3.toInt ≤ 60) → (g6 65 2).toInt = (gi 65 2).toInt ∧ (g6 65 1).toInt = (gi 65 1).toInt)) from (by have ff7 : (g6 65 2).toInt = (gi 65 2).toInt := congrArg Int32.toInt ((by rw [e6]; exact x_up2_off (Or.inr (by decide)) : g6 65 2 = gi 65 2).trans rfl); have ff8 : (g6 65 1).toInt = (gi 65 1).toInt := congrArg Int32.toInt ((by rw [e6]; exact x_up2_off (Or.inr (by decide)) : g6 65 1 = gi 65 1).trans rfl); omega)), fun h => absurd h (by omega), fun _ j => rfl⟩)⟩⟩
  · have l9 : 0 ≤ ar2.toInt := t_lel (t_nlt h4) (by decide : (0:Int) ≤ (0:Int32).toInt)
    refine ev_loc f_X11_tray (nx := 13) rfl rfl rfl rfl ?_
    refine ev_ic f_X11_tray (nx := 14) (v := 3) rfl (by decide) rfl ?_
    refine ev_if f_X11_tray (t1 := 27) (t2 := 17) rfl rfl rfl (fun h10 => ?_) (fun h10 => ?_)
    · have l11 : 4 ≤ ar2.toInt := t_ltl h10 (by decide : (3:Int) ≤ (3:Int32).toInt) rfl
      refine ev_loc f_X11_tray (nx := 28) rfl rfl rfl rfl ?_
      refine ev_ic f_X11_tray (nx := 29) (v := 1) rfl (by decide) rfl ?_
      refine ev_inV2 f_X11_tray (nx := 32) (lo2 := [(0, .ref 0), (1, .int 1)]) rfl rfl rfl rfl f_X11_deny (hI.wf.s rfl) rfl rfl rfl rfl rfl ?_
      refine ev_loc f_X11_deny (nx := 1) rfl rfl rfl rfl ?_
      refine ev_loc f_X11_deny (nx := 2) rfl rfl rfl rfl ?_
      refine ev_putIT f_X11_deny (nx := 5) rfl (hI.wf.s rfl) rfl rfl rfl (hI.put0 (hI.wf.s rfl) rfl rfl) (hX.upI rfl) (fun g12 e12 hI hX => ?_)
      refine ev_ic f_X11_deny (nx := 6) (v := 0) rfl (by decide) rfl ?_
      refine ev_retK1 f_X11_deny rfl rfl rfl ?_
      exact ev_ret f_X11_tray rfl rfl rfl ⟨_, _, _, rfl, hI, hX, ⟨_, rfl, (by decide : (0:Int) ≤ (0:Int32).toInt), (Int.le_trans (by decide : (0:Int32).toInt ≤ (0:Int)) (by decide : (0:Int) ≤ 1)), (show ((0 ≤ (0 : Int) ∧ (0 : Int) ≤ 1) ∧ ((0 : Int) = 1 ↔ (0 ≤ ar2.toInt ∧ ar2.toInt ≤ 3 ∧ 0 ≤ ar3.toInt ∧ ar3.toInt ≤ 60)) ∧ ((0 ≤ ar2.toInt ∧ ar2.toInt ≤ 3 ∧ 0 ≤ ar3.toInt ∧ ar3.toInt ≤ 60) → (g12 65 2).toInt = ar3.toInt ∧ (g12 65 1).toInt = ar2.toInt) ∧ (¬ (0 ≤ ar2.toInt ∧ ar2.toInt ≤ 3 ∧ 0 ≤ ar3.toInt ∧ ar3.toInt ≤ 60) → (g12 65 2).toInt = (gi 65 2).toInt ∧ (g12 65 1).toInt = (gi 65 1).toInt)) ∧ ((0 ≤ ar2.toInt ∧ ar2.toInt ≤ 3 ∧ 0 ≤ ar3.toInt ∧ ar3.toInt ≤ 60) → ∀ j : Nat, j < 60 → gl 66 j = 0) ∧ (¬ (0 ≤ ar2.toInt ∧ ar2.toInt ≤ 3 ∧ 0 ≤ ar3.toInt ∧ ar3.toInt ≤ 60) → ∀ j : Nat, gl 66 j = gl 66 j) from ⟨(show ((0 ≤ (0 : Int) ∧ (0 : Int) ≤ 1) ∧ ((0 : Int) = 1 ↔ (0 ≤ ar2.toInt ∧ ar2.toInt ≤ 3 ∧ 0 ≤ ar3.toInt ∧ ar3.toInt ≤ 60)) ∧ ((0 ≤ ar2.toInt ∧ ar2.toInt ≤ 3 ∧ 0 ≤ ar3.toInt ∧ ar3.toInt ≤ 60) → (g12 65 2).toInt = ar3.toInt ∧ (g12 65 1).toInt = ar2.toInt) ∧ (¬ (0 ≤ ar2.toInt ∧ ar2.toInt ≤ 3 ∧ 0 ≤ ar3.toInt ∧ ar3.toInt ≤ 60) → (g12 65 2).toInt = (gi 65 2).toInt ∧ (g12 65 1).toInt = (gi 65 1).toInt)) from (by have ff13 : (g12 65 2).toInt = (gi 65 2).toInt := congrArg Int32.toInt ((by rw [e12]; exact x_up2_off (Or.inr (by decide)) : g12 65 2 = gi 65 2).trans rfl); have ff14 : (g12 65 1).toInt = (gi 65 1).toInt := congrArg Int32.toInt ((by rw [e12]; exact x_up2_off (Or.inr (by decide)) : g12 65 1 = gi 65 1).trans rfl); omega)), fun h => absurd h (by omega), fun _ j => rfl⟩)⟩⟩
    · have u15 : ar2.toInt ≤ 3 := t_leu (t_nlt h10) (by decide : (3:Int32).toInt ≤ (3:Int))
      refine ev_loc f_X11_tray (nx := 18) rfl rfl rfl rfl ?_
      refine ev_if f_X11_tray (t1 := 27) (t2 := 21) rfl rfl rfl (fun h16 => ?_) (fun h16 => ?_)
      · have u17 : ar3.toInt ≤ (-1) := t_ltu h16 (by decide : (0:Int32).toInt ≤ (0:Int)) rfl
        refine ev_loc f_X11_tray (nx := 28) rfl rfl rfl rfl ?_
        refine ev_ic f_X11_tray (nx := 29) (v := 1) rfl (by decide) rfl ?_
        refine ev_inV2 f_X11_tray (nx := 32) (lo2 := [(0, .ref 0), (1, .int 1)]) rfl rfl rfl rfl f_X11_deny (hI.wf.s rfl) rfl rfl rfl rfl rfl ?_
        refine ev_loc f_X11_deny (nx := 1) rfl rfl rfl rfl ?_
        refine ev_loc f_X11_deny (nx := 2) rfl rfl rfl rfl ?_
        refine ev_putIT f_X11_deny (nx := 5) rfl (hI.wf.s rfl) rfl rfl rfl (hI.put0 (hI.wf.s rfl) rfl rfl) (hX.upI rfl) (fun g18 e18 hI hX => ?_)
        refine ev_ic f_X11_deny (nx := 6) (v := 0) rfl (by decide) rfl ?_
        refine ev_retK1 f_X11_deny rfl rfl rfl ?_
        exact ev_ret f_X11_tray rfl rfl rfl ⟨_, _, _, rfl, hI, hX, ⟨_, rfl, (by decide : (0:Int) ≤ (0:Int32).toInt), (Int.le_trans (by decide : (0:Int32).toInt ≤ (0:Int)) (by decide : (0:Int) ≤ 1)), (show ((0 ≤ (0 : Int) ∧ (0 : Int) ≤ 1) ∧ ((0 : Int) = 1 ↔ (0 ≤ ar2.toInt ∧ ar2.toInt ≤ 3 ∧ 0 ≤ ar3.toInt ∧ ar3.toInt ≤ 60)) ∧ ((0 ≤ ar2.toInt ∧ ar2.toInt ≤ 3 ∧ 0 ≤ ar3.toInt ∧ ar3.toInt ≤ 60) → (g18 65 2).toInt = ar3.toInt ∧ (g18 65 1).toInt = ar2.toInt) ∧ (¬ (0 ≤ ar2.toInt ∧ ar2.toInt ≤ 3 ∧ 0 ≤ ar3.toInt ∧ ar3.toInt ≤ 60) → (g18 65 2).toInt = (gi 65 2).toInt ∧ (g18 65 1).toInt = (gi 65 1).toInt)) ∧ ((0 ≤ ar2.toInt ∧ ar2.toInt ≤ 3 ∧ 0 ≤ ar3.toInt ∧ ar3.toInt ≤ 60) → ∀ j : Nat, j < 60 → gl 66 j = 0) ∧ (¬ (0 ≤ ar2.toInt ∧ ar2.toInt ≤ 3 ∧ 0 ≤ ar3.toInt ∧ ar3.toInt ≤ 60) → ∀ j : Nat, gl 66 j = gl 66 j) from ⟨(show ((0 ≤ (0 : Int) ∧ (0 : Int) ≤ 1) ∧ ((0 : Int) = 1 ↔ (0 ≤ ar2.toInt ∧ ar2.toInt ≤ 3 ∧ 0 ≤ ar3.toInt ∧ ar3.toInt ≤ 60)) ∧ ((0 ≤ ar2.toInt ∧ ar2.toInt ≤ 3 ∧ 0 ≤ ar3.toInt ∧ ar3.toInt ≤ 60) → (g18 65 2).toInt = ar3.toInt ∧ (g18 65 1).toInt = ar2.toInt) ∧ (¬ (0 ≤ ar2.toInt ∧ ar2.toInt ≤ 3 ∧ 0 ≤ ar3.toInt ∧ ar3.toInt ≤ 60) → (g18 65 2).toInt = (gi 65 2).toInt ∧ (g18 65 1).toInt = (gi 65 1).toInt)) from (by have ff19 : (g18 65 2).toInt = (gi 65 2).toInt := congrArg Int32.toInt ((by rw [e18]; exact x_up2_off (Or.inr (by decide)) : g18 65 2 = gi 65 2).trans rfl); have ff20 : (g18 65 1).toInt = (gi 65 1).toInt := congrArg Int32.toInt ((by rw [e18]; exact x_up2_off (Or.inr (by decide)) : g18 65 1 = gi 65 1).trans rfl); omega)), fun h => absurd h (by omega), fun _ j => rfl⟩)⟩⟩
      · have l21 : 0 ≤ ar3.toInt := t_lel (t_nlt h16) (by decide : (0:Int) ≤ (0:Int32).toInt)
        refine ev_loc f_X11_tray (nx := 22) rfl rfl rfl rfl ?_
        refine ev_bp f_X11_tray (nx := 24) (v := 60) rfl (by decide) rfl ?_
        refine ev_if f_X11_tray (t1 := 33) (t2 := 27) rfl rfl rfl (fun h22 => ?_) (fun h22 => ?_)
        · have u23 : ar3.toInt ≤ 60 := t_leu h22 (by decide : (60:Int32).toInt ≤ (60:Int))
          refine ev_loc f_X11_tray (nx := 34) rfl rfl rfl rfl ?_
          refine ev_getR f_X11_tray (nx := 37) rfl (hI.wf.s rfl) rfl rfl (hI.wf.r rfl) rfl rfl ?_
          refine ev_loc f_X11_tray (nx := 38) rfl rfl rfl rfl ?_
          refine ev_aald f_X11_tray (nx := 39) rfl (hI.wf.s rfl) rfl (t_idx (n := 4) (by decide : (2:Int) ≤ (2:Int32).toInt) (by decide) (by decide : (2:Int32).toInt ≤ (2:Int)) (by decide)).1 (t_idx (n := 4) (by decide : (2:Int) ≤ (2:Int32).toInt) (by decide) (by decide : (2:Int32).toInt ≤ (2:Int)) (by decide)).2 (hI.wf.r rfl) rfl rfl ?_
          refine ev_loc f_X11_tray (nx := 40) rfl rfl rfl rfl ?_
          refine ev_loc f_X11_tray (nx := 41) rfl rfl rfl rfl ?_
          refine ev_qN f_X11_tray (nx := 44) (r := []) rfl rfl rfl rfl rfl rfl rfl (c_lay_2 hI (ar2) (ar3) l21 u23) rfl hX rfl (fun gi25 gl25 gr25 hI hX hC25 q25 => ?_)
          have q25 : ((gi25 65 2).toInt = ar3.toInt ∧ (gi25 65 1).toInt = ar2.toInt) ∧ (∀ j : Nat, j < 60 → gl25 66 j = 0) := q25
          obtain ⟨l27, u27⟩ := hI.b (hI.wf.s (k := 65) rfl) (t_bdK rfl : t_bd 9 2 = some ((-1), 60))
          refine ev_loc f_X11_tray (nx := 45) rfl rfl rfl rfl ?_
          refine ev_inV1 f_X11_tray (nx := 48) (lo2 := [(0, .ref 0)]) rfl rfl rfl rfl f_X11_grant (hI.wf.s rfl) rfl rfl rfl rfl rfl ?_
          refine ev_loc f_X11_grant (nx := 1) rfl rfl rfl rfl ?_
          refine ev_ic f_X11_grant (nx := 2) (v := 0) rfl (by decide) rfl ?_
          refine ev_putIT f_X11_grant (nx := 5) rfl (hI.wf.s rfl) rfl rfl rfl (hI.put0 (hI.wf.s rfl) rfl rfl) (hX.upI rfl) (fun g28 e28 hI hX => ?_)
          refine ev_ic f_X11_grant (nx := 6) (v := 1) rfl (by decide) rfl ?_
          refine ev_retK1 f_X11_grant rfl rfl rfl ?_
          exact ev_ret f_X11_tray rfl rfl rfl ⟨_, _, _, rfl, hI, hX, ⟨_, rfl, (Int.le_trans (by decide : (0:Int) ≤ 1) (by decide : (1:Int) ≤ (1:Int32).toInt)), (by decide : (1:Int32).toInt ≤ (1:Int)), (show ((0 ≤ (1 : Int) ∧ (1 : Int) ≤ 1) ∧ ((1 : Int) = 1 ↔ (0 ≤ ar2.toInt ∧ ar2.toInt ≤ 3 ∧ 0 ≤ ar3.toInt ∧ ar3.toInt ≤ 60)) ∧ ((0 ≤ ar2.toInt ∧ ar2.toInt ≤ 3 ∧ 0 ≤ ar3.toInt ∧ ar3.toInt ≤ 60) → (g28 65 2).toInt = ar3.toInt ∧ (g28 65 1).toInt = ar2.toInt) ∧ (¬ (0 ≤ ar2.toInt ∧ ar2.toInt ≤ 3 ∧ 0 ≤ ar3.toInt ∧ ar3.toInt ≤ 60) → (g28 65 2).toInt = (gi 65 2).toInt ∧ (g28 65 1).toInt = (gi 65 1).toInt)) ∧ ((0 ≤ ar2.toInt ∧ ar2.toInt ≤ 3 ∧ 0 ≤ ar3.toInt ∧ ar3.toInt ≤ 60) → ∀ j : Nat, j < 60 → gl25 66 j = 0) ∧ (¬ (0 ≤ ar2.toInt ∧ ar2.toInt ≤ 3 ∧ 0 ≤ ar3.toInt ∧ ar3.toInt ≤ 60) → ∀ j : Nat, gl25 66 j = gl 66 j) from ⟨(show ((0 ≤ (1 : Int) ∧ (1 : Int) ≤ 1) ∧ ((1 : Int) = 1 ↔ (0 ≤ ar2.toInt ∧ ar2.toInt ≤ 3 ∧ 0 ≤ ar3.toInt ∧ ar3.toInt ≤ 60)) ∧ ((0 ≤ ar2.toInt ∧ ar2.toInt ≤ 3 ∧ 0 ≤ ar3.toInt ∧ ar3.toInt ≤ 60) → (g28 65 2).toInt = ar3.toInt ∧ (g28 65 1).toInt = ar2.toInt) ∧ (¬ (0 ≤ ar2.toInt ∧ ar2.toInt ≤ 3 ∧ 0 ≤ ar3.toInt ∧ ar3.toInt ≤ 60) → (g28 65 2).toInt = (gi 65 2).toInt ∧ (g28 65 1).toInt = (gi 65 1).toInt)) from (by have ff29 : (g28 65 2).toInt = (gi25 65 2).toInt := congrArg Int32.toInt ((by rw [e28]; exact x_up2_off (Or.inr (by decide)) : g28 65 2 = gi25 65 2).trans rfl); have ff30 : (g28 65 1).toInt = (gi25 65 1).toInt := congrArg Int32.toInt ((by rw [e28]; exact x_up2_off (Or.inr (by decide)) : g28 65 1 = gi25 65 1).trans rfl); omega)), fun _ => q25.2, fun h => absurd (show _ from ⟨by omega, by omega, by omega, by omega⟩) h⟩)⟩⟩
        · have l31 : 61 ≤ ar3.toInt := t_ltl (t_nle h22) (by decide : (60:Int) ≤ (60:Int32).toInt) rfl
          refine ev_loc f_X11_tray (nx := 28) rfl rfl rfl rfl ?_
          refine ev_ic f_X11_tray (nx := 29) (v := 1) rfl (by decide) rfl ?_
          refine ev_inV2 f_X11_tray (nx := 32) (lo2 := [(0, .ref 0), (1, .int 1)]) rfl rfl rfl rfl f_X11_deny (hI.wf.s rfl) rfl rfl rfl rfl rfl ?_
          refine ev_loc f_X11_deny (nx := 1) rfl rfl rfl rfl ?_
          refine ev_loc f_X11_deny (nx := 2) rfl rfl rfl rfl ?_
          refine ev_putIT f_X11_deny (nx := 5) rfl (hI.wf.s rfl) rfl rfl rfl (hI.put0 (hI.wf.s rfl) rfl rfl) (hX.upI rfl) (fun g32 e32 hI hX => ?_)
          refine ev_ic f_X11_deny (nx := 6) (v := 0) rfl (by decide) rfl ?_
          refine ev_retK1 f_X11_deny rfl rfl rfl ?_
          exact ev_ret f_X11_tray rfl rfl rfl ⟨_, _, _, rfl, hI, hX, ⟨_, rfl, (by decide : (0:Int) ≤ (0:Int32).toInt), (Int.le_trans (by decide : (0:Int32).toInt ≤ (0:Int)) (by decide : (0:Int) ≤ 1)), (show ((0 ≤ (0 : Int) ∧ (0 : Int) ≤ 1) ∧ ((0 : Int) = 1 ↔ (0 ≤ ar2.toInt ∧ ar2.toInt ≤ 3 ∧ 0 ≤ ar3.toInt ∧ ar3.toInt ≤ 60)) ∧ ((0 ≤ ar2.toInt ∧ ar2.toInt ≤ 3 ∧ 0 ≤ ar3.toInt ∧ ar3.toInt ≤ 60) → (g32 65 2).toInt = ar3.toInt ∧ (g32 65 1).toInt = ar2.toInt) ∧ (¬ (0 ≤ ar2.toInt ∧ ar2.toInt ≤ 3 ∧ 0 ≤ ar3.toInt ∧ ar3.toInt ≤ 60) → (g32 65 2).toInt = (gi 65 2).toInt ∧ (g32 65 1).toInt = (gi 65 1).toInt)) ∧ ((0 ≤ ar2.toInt ∧ ar2.toInt ≤ 3 ∧ 0 ≤ ar3.toInt ∧ ar3.toInt ≤ 60) → ∀ j : Nat, j < 60 → gl 66 j = 0) ∧ (¬ (0 ≤ ar2.toInt ∧ ar2.toInt ≤ 3 ∧ 0 ≤ ar3.toInt ∧ ar3.toInt ≤ 60) → ∀ j : Nat, gl 66 j = gl 66 j) from ⟨(show ((0 ≤ (0 : Int) ∧ (0 : Int) ≤ 1) ∧ ((0 : Int) = 1 ↔ (0 ≤ ar2.toInt ∧ ar2.toInt ≤ 3 ∧ 0 ≤ ar3.toInt ∧ ar3.toInt ≤ 60)) ∧ ((0 ≤ ar2.toInt ∧ ar2.toInt ≤ 3 ∧ 0 ≤ ar3.toInt ∧ ar3.toInt ≤ 60) → (g32 65 2).toInt = ar3.toInt ∧ (g32 65 1).toInt = ar2.toInt) ∧ (¬ (0 ≤ ar2.toInt ∧ ar2.toInt ≤ 3 ∧ 0 ≤ ar3.toInt ∧ ar3.toInt ≤ 60) → (g32 65 2).toInt = (gi 65 2).toInt ∧ (g32 65 1).toInt = (gi 65 1).toInt)) from (by have ff33 : (g32 65 2).toInt = (gi 65 2).toInt := congrArg Int32.toInt ((by rw [e32]; exact x_up2_off (Or.inr (by decide)) : g32 65 2 = gi 65 2).trans rfl); have ff34 : (g32 65 1).toInt = (gi 65 1).toInt := congrArg Int32.toInt ((by rw [e32]; exact x_up2_off (Or.inr (by decide)) : g32 65 1 = gi 65 1).trans rfl); omega)), fun h => absurd h (by omega), fun _ j => rfl⟩)⟩⟩
noncomputable def wl_m_tray_2 : List (Nat × Nat) := [(69, 2), (72, 210002), (73, 210002), (74, 12010179)]
noncomputable def Q_m_tray_2 (gi : Nat → Nat → Int32) (gl : Nat → Nat → Int64) (gr : Nat → Nat → Value) (ar2 : Int32) (ar3 : Int32) : Int32 → (Nat → Nat → Int32) → (Nat → Nat → Int64) → (Nat → Nat → Value) → Prop := fun (v : Int32) (gi2 : Nat → Nat → Int32) (gl2 : Nat → Nat → Int64) (gr2 : Nat → Nat → Value) => ((0 ≤ v.toInt ∧ v.toInt ≤ 1) ∧ (v.toInt = 1 ↔ (0 ≤ ar2.toInt ∧ ar2.toInt ≤ 3 ∧ 0 ≤ ar3.toInt ∧ ar3.toInt ≤ 60)) ∧ ((0 ≤ ar2.toInt ∧ ar2.toInt ≤ 3 ∧ 0 ≤ ar3.toInt ∧ ar3.toInt ≤ 60) → (gi2 73 2).toInt = ar3.toInt ∧ (gi2 72 2).toInt = ar2.toInt) ∧ (¬ (0 ≤ ar2.toInt ∧ ar2.toInt ≤ 3 ∧ 0 ≤ ar3.toInt ∧ ar3.toInt ≤ 60) → (gi2 73 2).toInt = (gi 73 2).toInt ∧ (gi2 72 2).toInt = (gi 72 2).toInt)) ∧ ((0 ≤ ar2.toInt ∧ ar2.toInt ≤ 3 ∧ 0 ≤ ar3.toInt ∧ ar3.toInt ≤ 60) → ∀ j : Nat, (j : Int) < ar3.toInt → gl2 74 (120 + j) = 0) ∧ (¬ (0 ≤ ar2.toInt ∧ ar2.toInt ≤ 3 ∧ 0 ≤ ar3.toInt ∧ ar3.toInt ≤ 60) → ∀ j : Nat, gl2 74 j = gl 74 j) ∧ (∀ m : Nat, (m < 120 ∨ 180 ≤ m) → gl2 74 m = gl 74 m)
theorem c_m_tray_2 {X : x_Ext} {d : Nat} {sh : List (Nat ⊕ (Nat × Nat))} {gi : Nat → Nat → Int32} {gl : Nat → Nat → Int64} {gr : Nat → Nat → Value} (hI : t_I sh gi gr) (ar2 : Int32) (ar3 : Int32) : x_Me X (d + 2) n_X12_tray [.ref 69, .int 2, .int ar2, .int ar3] (sh, gi, gl, gr) (t_PI wl_m_tray_2 sh gi gl gr 0 1 (Q_m_tray_2 gi gl gr ar2 ar3)) := by
  have hX : t_X wl_m_tray_2 sh gi gl gr gi gl gr := t_X.rf
  refine me_i f_X12_tray (hI.wf.s rfl) rfl rfl rfl ?_
  obtain ⟨l1, u1⟩ := hI.ab (by decide +kernel : t_abr 72 2 2 0 3 = true) (Nat.le_refl _) (Nat.le_refl _)
  obtain ⟨l2, u2⟩ := hI.ab (by decide +kernel : t_abr 73 2 2 (-1) 60 = true) (Nat.le_refl _) (Nat.le_refl _)
  refine ev_loc f_X12_tray (nx := 1) rfl rfl rfl rfl ?_
  refine ev_inS1 f_X12_tray (nx := 4) (lo2 := [(0, .int 2)]) rfl rfl rfl rfl f_X12_isTray rfl rfl rfl rfl ?_
  refine ev_loc f_X12_isTray (nx := 1) rfl rfl rfl rfl ?_
  refine ev_f f_X12_isTray (t1 := 13) (t2 := 4) rfl rfl rfl (by decide) ?_
  refine ev_loc f_X12_isTray (nx := 5) rfl rfl rfl rfl ?_
  refine ev_ic f_X12_isTray (nx := 6) (v := 4) rfl (by decide) rfl ?_
  refine ev_f f_X12_isTray (t1 := 13) (t2 := 9) rfl rfl rfl (by decide) ?_
  refine ev_ic f_X12_isTray (nx := 10) (v := 1) rfl (by decide) rfl ?_
  refine ev_jmp f_X12_isTray (nx := 14) rfl rfl rfl ?_
  refine ev_retK1 f_X12_isTray rfl rfl rfl ?_
  refine ev_f f_X12_tray (t1 := 26) (t2 := 7) rfl rfl rfl (by decide) ?_
  refine ev_loc f_X12_tray (nx := 8) rfl rfl rfl rfl ?_
  refine ev_if f_X12_tray (t1 := 26) (t2 := 11) rfl rfl rfl (fun h3 => ?_) (fun h3 => ?_)
  · have u4 : ar2.toInt ≤ (-1) := t_ltu h3 (by decide : (0:Int32).toInt ≤ (0:Int)) rfl
    refine ev_loc f_X12_tray (nx := 27) rfl rfl rfl rfl ?_
    refine ev_ic f_X12_tray (nx := 28) (v := 1) rfl (by decide) rfl ?_
    refine ev_inV2 f_X12_tray (nx := 31) (lo2 := [(0, .ref 69), (1, .int 1)]) rfl rfl rfl rfl f_X12_is (hI.wf.s rfl) rfl rfl rfl rfl rfl ?_
    refine ev_loc f_X12_is (nx := 1) rfl rfl rfl rfl ?_
    refine ev_loc f_X12_is (nx := 2) rfl rfl rfl rfl ?_
    refine ev_putIT f_X12_is (nx := 5) rfl (hI.wf.s rfl) rfl rfl rfl (hI.put0 (hI.wf.s rfl) rfl rfl) (hX.upI rfl) (fun g5 e5 hI hX => ?_)
    refine ev_loc f_X12_is (nx := 6) rfl rfl rfl rfl ?_
    refine ev_f f_X12_is (t1 := 9) (t2 := 13) rfl rfl rfl (by decide) ?_
    refine ev_ic f_X12_is (nx := 14) (v := 0) rfl (by decide) rfl ?_
    refine ev_retK1 f_X12_is rfl rfl rfl ?_
    exact ev_ret f_X12_tray rfl rfl rfl ⟨_, _, _, rfl, hI, hX, ⟨_, rfl, (by decide : (0:Int) ≤ (0:Int32).toInt), (Int.le_trans (by decide : (0:Int32).toInt ≤ (0:Int)) (by decide : (0:Int) ≤ 1)), (show ((0 ≤ (0 : Int) ∧ (0 : Int) ≤ 1) ∧ ((0 : Int) = 1 ↔ (0 ≤ ar2.toInt ∧ ar2.toInt ≤ 3 ∧ 0 ≤ ar3.toInt ∧ ar3.toInt ≤ 60)) ∧ ((0 ≤ ar2.toInt ∧ ar2.toInt ≤ 3 ∧ 0 ≤ ar3.toInt ∧ ar3.toInt ≤ 60) → (g5 73 2).toInt = ar3.toInt ∧ (g5 72 2).toInt = ar2.toInt) ∧ (¬ (0 ≤ ar2.toInt ∧ ar2.toInt ≤ 3 ∧ 0 ≤ ar3.toInt ∧ ar3.toInt ≤ 60) → (g5 73 2).toInt = (gi 73 2).toInt ∧ (g5 72 2).toInt = (gi 72 2).toInt)) ∧ ((0 ≤ ar2.toInt ∧ ar2.toInt ≤ 3 ∧ 0 ≤ ar3.toInt ∧ ar3.toInt ≤ 60) → ∀ j : Nat, (j : Int) < ar3.toInt → gl 74 (120 + j) = 0) ∧ (¬ (0 ≤ ar2.toInt ∧ ar2.toInt ≤ 3 ∧ 0 ≤ ar3.toInt ∧ ar3.toInt ≤ 60) → ∀ j : Nat, gl 74 j = gl 74 j) ∧ (∀ m : Nat, (m < 120 ∨ 180 ≤ m) → gl 74 m = gl 74 m) from ⟨(show ((0 ≤ (0 : Int) ∧ (0 : Int) ≤ 1) ∧ ((0 : Int) = 1 ↔ (0 ≤ ar2.toInt ∧ ar2.toInt ≤ 3 ∧ 0 ≤ ar3.toInt ∧ ar3.toInt ≤ 60)) ∧ ((0 ≤ ar2.toInt ∧ ar2.toInt ≤ 3 ∧ 0 ≤ ar3.toInt ∧ ar3.toInt ≤ 60) → (g5 73 2).toInt = ar3.toInt ∧ (g5 72 2).toInt = ar2.toInt) ∧ (¬ (0 ≤ ar2.toInt ∧ ar2.toInt ≤ 3 ∧ 0 ≤ ar3.toInt ∧ ar3.toInt ≤ 60) → (g5 73 2).toInt = (gi 73 2).toInt ∧ (g5 72 2).toInt = (gi 72 2).toInt)) from (by have ff6 : (g5 73 2).toInt = (gi 73 2).toInt := congrArg Int32.toInt ((by rw [e5]; exact x_up2_off (Or.inl (by decide)) : g5 73 2 = gi 73 2).trans rfl); have ff7 : (g5 72 2).toInt = (gi 72 2).toInt := congrArg Int32.toInt ((by rw [e5]; exact x_up2_off (Or.inl (by decide)) : g5 72 2 = gi 72 2).trans rfl); omega)), fun h => absurd h (by omega), fun _ j => rfl, fun m h => rfl⟩)⟩⟩
  · have l8 : 0 ≤ ar2.toInt := t_lel (t_nlt h3) (by decide : (0:Int) ≤ (0:Int32).toInt)
    refine ev_loc f_X12_tray (nx := 12) rfl rfl rfl rfl ?_
    refine ev_ic f_X12_tray (nx := 13) (v := 3) rfl (by decide) rfl ?_
    refine ev_if f_X12_tray (t1 := 26) (t2 := 16) rfl rfl rfl (fun h9 => ?_) (fun h9 => ?_)
    · have l10 : 4 ≤ ar2.toInt := t_ltl h9 (by decide : (3:Int) ≤ (3:Int32).toInt) rfl
      refine ev_loc f_X12_tray (nx := 27) rfl rfl rfl rfl ?_
      refine ev_ic f_X12_tray (nx := 28) (v := 1) rfl (by decide) rfl ?_
      refine ev_inV2 f_X12_tray (nx := 31) (lo2 := [(0, .ref 69), (1, .int 1)]) rfl rfl rfl rfl f_X12_is (hI.wf.s rfl) rfl rfl rfl rfl rfl ?_
      refine ev_loc f_X12_is (nx := 1) rfl rfl rfl rfl ?_
      refine ev_loc f_X12_is (nx := 2) rfl rfl rfl rfl ?_
      refine ev_putIT f_X12_is (nx := 5) rfl (hI.wf.s rfl) rfl rfl rfl (hI.put0 (hI.wf.s rfl) rfl rfl) (hX.upI rfl) (fun g11 e11 hI hX => ?_)
      refine ev_loc f_X12_is (nx := 6) rfl rfl rfl rfl ?_
      refine ev_f f_X12_is (t1 := 9) (t2 := 13) rfl rfl rfl (by decide) ?_
      refine ev_ic f_X12_is (nx := 14) (v := 0) rfl (by decide) rfl ?_
      refine ev_retK1 f_X12_is rfl rfl rfl ?_
      exact ev_ret f_X12_tray rfl rfl rfl ⟨_, _, _, rfl, hI, hX, ⟨_, rfl, (by decide : (0:Int) ≤ (0:Int32).toInt), (Int.le_trans (by decide : (0:Int32).toInt ≤ (0:Int)) (by decide : (0:Int) ≤ 1)), (show ((0 ≤ (0 : Int) ∧ (0 : Int) ≤ 1) ∧ ((0 : Int) = 1 ↔ (0 ≤ ar2.toInt ∧ ar2.toInt ≤ 3 ∧ 0 ≤ ar3.toInt ∧ ar3.toInt ≤ 60)) ∧ ((0 ≤ ar2.toInt ∧ ar2.toInt ≤ 3 ∧ 0 ≤ ar3.toInt ∧ ar3.toInt ≤ 60) → (g11 73 2).toInt = ar3.toInt ∧ (g11 72 2).toInt = ar2.toInt) ∧ (¬ (0 ≤ ar2.toInt ∧ ar2.toInt ≤ 3 ∧ 0 ≤ ar3.toInt ∧ ar3.toInt ≤ 60) → (g11 73 2).toInt = (gi 73 2).toInt ∧ (g11 72 2).toInt = (gi 72 2).toInt)) ∧ ((0 ≤ ar2.toInt ∧ ar2.toInt ≤ 3 ∧ 0 ≤ ar3.toInt ∧ ar3.toInt ≤ 60) → ∀ j : Nat, (j : Int) < ar3.toInt → gl 74 (120 + j) = 0) ∧ (¬ (0 ≤ ar2.toInt ∧ ar2.toInt ≤ 3 ∧ 0 ≤ ar3.toInt ∧ ar3.toInt ≤ 60) → ∀ j : Nat, gl 74 j = gl 74 j) ∧ (∀ m : Nat, (m < 120 ∨ 180 ≤ m) → gl 74 m = gl 74 m) from ⟨(show ((0 ≤ (0 : Int) ∧ (0 : Int) ≤ 1) ∧ ((0 : Int) = 1 ↔ (0 ≤ ar2.toInt ∧ ar2.toInt ≤ 3 ∧ 0 ≤ ar3.toInt ∧ ar3.toInt ≤ 60)) ∧ ((0 ≤ ar2.toInt ∧ ar2.toInt ≤ 3 ∧ 0 ≤ ar3.toInt ∧ ar3.toInt ≤ 60) → (g11 73 2).toInt = ar3.toInt ∧ (g11 72 2).toInt = ar2.toInt) ∧ (¬ (0 ≤ ar2.toInt ∧ ar2.toInt ≤ 3 ∧ 0 ≤ ar3.toInt ∧ ar3.toInt ≤ 60) → (g11 73 2).toInt = (gi 73 2).toInt ∧ (g11 72 2).toInt = (gi 72 2).toInt)) from (by have ff12 : (g11 73 2).toInt = (gi 73 2).toInt := congrArg Int32.toInt ((by rw [e11]; exact x_up2_off (Or.inl (by decide)) : g11 73 2 = gi 73 2).trans rfl); have ff13 : (g11 72 2).toInt = (gi 72 2).toInt := congrArg Int32.toInt ((by rw [e11]; exact x_up2_off (Or.inl (by decide)) : g11 72 2 = gi 72 2).trans rfl); omega)), fun h => absurd h (by omega), fun _ j => rfl, fun m h => rfl⟩)⟩⟩
    · have u14 : ar2.toInt ≤ 3 := t_leu (t_nlt h9) (by decide : (3:Int32).toInt ≤ (3:Int))
      refine ev_loc f_X12_tray (nx := 17) rfl rfl rfl rfl ?_
      refine ev_if f_X12_tray (t1 := 26) (t2 := 20) rfl rfl rfl (fun h15 => ?_) (fun h15 => ?_)
      · have u16 : ar3.toInt ≤ (-1) := t_ltu h15 (by decide : (0:Int32).toInt ≤ (0:Int)) rfl
        refine ev_loc f_X12_tray (nx := 27) rfl rfl rfl rfl ?_
        refine ev_ic f_X12_tray (nx := 28) (v := 1) rfl (by decide) rfl ?_
        refine ev_inV2 f_X12_tray (nx := 31) (lo2 := [(0, .ref 69), (1, .int 1)]) rfl rfl rfl rfl f_X12_is (hI.wf.s rfl) rfl rfl rfl rfl rfl ?_
        refine ev_loc f_X12_is (nx := 1) rfl rfl rfl rfl ?_
        refine ev_loc f_X12_is (nx := 2) rfl rfl rfl rfl ?_
        refine ev_putIT f_X12_is (nx := 5) rfl (hI.wf.s rfl) rfl rfl rfl (hI.put0 (hI.wf.s rfl) rfl rfl) (hX.upI rfl) (fun g17 e17 hI hX => ?_)
        refine ev_loc f_X12_is (nx := 6) rfl rfl rfl rfl ?_
        refine ev_f f_X12_is (t1 := 9) (t2 := 13) rfl rfl rfl (by decide) ?_
        refine ev_ic f_X12_is (nx := 14) (v := 0) rfl (by decide) rfl ?_
        refine ev_retK1 f_X12_is rfl rfl rfl ?_
        exact ev_ret f_X12_tray rfl rfl rfl ⟨_, _, _, rfl, hI, hX, ⟨_, rfl, (by decide : (0:Int) ≤ (0:Int32).toInt), (Int.le_trans (by decide : (0:Int32).toInt ≤ (0:Int)) (by decide : (0:Int) ≤ 1)), (show ((0 ≤ (0 : Int) ∧ (0 : Int) ≤ 1) ∧ ((0 : Int) = 1 ↔ (0 ≤ ar2.toInt ∧ ar2.toInt ≤ 3 ∧ 0 ≤ ar3.toInt ∧ ar3.toInt ≤ 60)) ∧ ((0 ≤ ar2.toInt ∧ ar2.toInt ≤ 3 ∧ 0 ≤ ar3.toInt ∧ ar3.toInt ≤ 60) → (g17 73 2).toInt = ar3.toInt ∧ (g17 72 2).toInt = ar2.toInt) ∧ (¬ (0 ≤ ar2.toInt ∧ ar2.toInt ≤ 3 ∧ 0 ≤ ar3.toInt ∧ ar3.toInt ≤ 60) → (g17 73 2).toInt = (gi 73 2).toInt ∧ (g17 72 2).toInt = (gi 72 2).toInt)) ∧ ((0 ≤ ar2.toInt ∧ ar2.toInt ≤ 3 ∧ 0 ≤ ar3.toInt ∧ ar3.toInt ≤ 60) → ∀ j : Nat, (j : Int) < ar3.toInt → gl 74 (120 + j) = 0) ∧ (¬ (0 ≤ ar2.toInt ∧ ar2.toInt ≤ 3 ∧ 0 ≤ ar3.toInt ∧ ar3.toInt ≤ 60) → ∀ j : Nat, gl 74 j = gl 74 j) ∧ (∀ m : Nat, (m < 120 ∨ 180 ≤ m) → gl 74 m = gl 74 m) from ⟨(show ((0 ≤ (0 : Int) ∧ (0 : Int) ≤ 1) ∧ ((0 : Int) = 1 ↔ (0 ≤ ar2.toInt ∧ ar2.toInt ≤ 3 ∧ 0 ≤ ar3.toInt ∧ ar3.toInt ≤ 60)) ∧ ((0 ≤ ar2.toInt ∧ ar2.toInt ≤ 3 ∧ 0 ≤ ar3.toInt ∧ ar3.toInt ≤ 60) → (g17 73 2).toInt = ar3.toInt ∧ (g17 72 2).toInt = ar2.toInt) ∧ (¬ (0 ≤ ar2.toInt ∧ ar2.toInt ≤ 3 ∧ 0 ≤ ar3.toInt ∧ ar3.toInt ≤ 60) → (g17 73 2).toInt = (gi 73 2).toInt ∧ (g17 72 2).toInt = (gi 72 2).toInt)) from (by have ff18 : (g17 73 2).toInt = (gi 73 2).toInt := congrArg Int32.toInt ((by rw [e17]; exact x_up2_off (Or.inl (by decide)) : g17 73 2 = gi 73 2).trans rfl); have ff19 : (g17 72 2).toInt = (gi 72 2).toInt := congrArg Int32.toInt ((by rw [e17]; exact x_up2_off (Or.inl (by decide)) : g17 72 2 = gi 72 2).trans rfl); omega)), fun h => absurd h (by omega), fun _ j => rfl, fun m h => rfl⟩)⟩⟩
      · have l20 : 0 ≤ ar3.toInt := t_lel (t_nlt h15) (by decide : (0:Int) ≤ (0:Int32).toInt)
        refine ev_loc f_X12_tray (nx := 21) rfl rfl rfl rfl ?_
        refine ev_bp f_X12_tray (nx := 23) (v := 60) rfl (by decide) rfl ?_
        refine ev_if f_X12_tray (t1 := 32) (t2 := 26) rfl rfl rfl (fun h21 => ?_) (fun h21 => ?_)
        · have u22 : ar3.toInt ≤ 60 := t_leu h21 (by decide : (60:Int32).toInt ≤ (60:Int))
          refine ev_loc f_X12_tray (nx := 33) rfl rfl rfl rfl ?_
          refine ev_getR f_X12_tray (nx := 36) rfl (hI.wf.s rfl) rfl rfl (hI.wf.r rfl) rfl rfl ?_
          refine ev_loc f_X12_tray (nx := 37) rfl rfl rfl rfl ?_
          refine ev_loc f_X12_tray (nx := 38) rfl rfl rfl rfl ?_
          refine ev_iastT f_X12_tray (nx := 39) rfl (hI.wf.s rfl) (by decide : (2:Int) ≤ (2:Int32).toInt) (by decide) (by decide : (2:Int32).toInt ≤ (2:Int)) (by decide) rfl (hI.astL (hI.wf.s rfl) (by decide +kernel : t_abw 72 2 2 0 3 = true) (t_cl1 (by decide : (2:Int) ≤ (2:Int32).toInt) (by decide)) (t_cl2 (by decide : (2:Int) ≤ (2:Int32).toInt) (by decide : (2:Int32).toInt ≤ (2:Int)) (by decide) (by decide)) l8 u14 rfl) (hX.upI (t_inR (p := 2) (m := 2) rfl (by decide : (2:Int) ≤ (2:Int32).toInt) (by decide) (by decide : (2:Int32).toInt ≤ (2:Int)) (by decide) (by decide))) (fun g23 e23 hI hX => ?_)
          refine ev_loc f_X12_tray (nx := 40) rfl rfl rfl rfl ?_
          refine ev_getR f_X12_tray (nx := 43) rfl (hI.wf.s rfl) rfl rfl (hI.wf.r rfl) rfl rfl ?_
          refine ev_loc f_X12_tray (nx := 44) rfl rfl rfl rfl ?_
          refine ev_loc f_X12_tray (nx := 45) rfl rfl rfl rfl ?_
          refine ev_iastT f_X12_tray (nx := 46) rfl (hI.wf.s rfl) (by decide : (2:Int) ≤ (2:Int32).toInt) (by decide) (by decide : (2:Int32).toInt ≤ (2:Int)) (by decide) rfl (hI.astL (hI.wf.s rfl) (by decide +kernel : t_abw 73 2 2 0 60 = true) (t_cl1 (by decide : (2:Int) ≤ (2:Int32).toInt) (by decide)) (t_cl2 (by decide : (2:Int) ≤ (2:Int32).toInt) (by decide : (2:Int32).toInt ≤ (2:Int)) (by decide) (by decide)) l20 u22 rfl) (hX.upI (t_inR (p := 2) (m := 2) rfl (by decide : (2:Int) ≤ (2:Int32).toInt) (by decide) (by decide : (2:Int32).toInt ≤ (2:Int)) (by decide) (by decide))) (fun g24 e24 hI hX => ?_)
          refine ev_ic f_X12_tray (nx := 47) (v := 0) rfl (by decide) rfl ?_
          refine ev_loc f_X12_tray (nx := 49) (lo' := [(4, .int 0), (0, .ref 69), (1, .int 2), (2, .int ar2), (3, .int ar3)]) rfl rfl rfl rfl ?_
          have L25 : ∀ (m25 : Nat) (gi25 : Nat → Nat → Int32) (gl25 : Nat → Nat → Int64) (gr25 : Nat → Nat → Value) (y25_4 : Int32), t_I sh gi25 gr25 → t_X wl_m_tray_2 sh gi gl gr gi25 gl25 gr25 → 0 ≤ y25_4.toInt → y25_4.toInt ≤ 60 → gi25 72 2 = ar2 → gi25 73 2 = ar3 → (∀ j : Nat, (j : Int) < y25_4.toInt → gl25 74 (120 + j) = 0) → (∀ m : Nat, (m < 120 ∨ 180 ≤ m) → gl25 74 m = gl 74 m) → (60 - y25_4.toInt).toNat = m25 → x_Ev X (d + 2) n_X12_tray 49 [(4, .int y25_4), (0, .ref 69), (1, .int 2), (2, .int ar2), (3, .int ar3)] [] (sh, gi25, gl25, gr25) (t_PI wl_m_tray_2 sh gi gl gr 0 1 (Q_m_tray_2 gi gl gr ar2 ar3)) := by
            intro m25
            induction m25 using Nat.strongRecOn with
            | _ m25 ih25 =>
            intro gi25 gl25 gr25 y25_4 hI hX l25_4 u25_4 c25_0 c25_1 j25_0 j25_1 hm25
            refine ev_loc f_X12_tray (nx := 51) rfl rfl rfl rfl ?_
            refine ev_loc f_X12_tray (nx := 52) rfl rfl rfl rfl ?_
            refine ev_if f_X12_tray (t1 := 74) (t2 := 55) rfl rfl rfl (fun h26 => ?_) (fun h26 => ?_)
            · have r27 : ar3.toInt ≤ y25_4.toInt := Int32.le_iff_toInt_le.mp h26
              refine ev_loc f_X12_tray (nx := 75) rfl rfl rfl rfl ?_
              refine ev_ic f_X12_tray (nx := 76) (v := 0) rfl (by decide) rfl ?_
              refine ev_inV2 f_X12_tray (nx := 79) (lo2 := [(0, .ref 69), (1, .int 0)]) rfl rfl rfl rfl f_X12_is (hI.wf.s rfl) rfl rfl rfl rfl rfl ?_
              refine ev_loc f_X12_is (nx := 1) rfl rfl rfl rfl ?_
              refine ev_loc f_X12_is (nx := 2) rfl rfl rfl rfl ?_
              refine ev_putIT f_X12_is (nx := 5) rfl (hI.wf.s rfl) rfl rfl rfl (hI.put0 (hI.wf.s rfl) rfl rfl) (hX.upI rfl) (fun g28 e28 hI hX => ?_)
              refine ev_loc f_X12_is (nx := 6) rfl rfl rfl rfl ?_
              refine ev_t f_X12_is (t1 := 9) (t2 := 13) rfl rfl rfl (by decide) ?_
              refine ev_ic f_X12_is (nx := 10) (v := 1) rfl (by decide) rfl ?_
              refine ev_jmp f_X12_is (nx := 14) rfl rfl rfl ?_
              refine ev_retK1 f_X12_is rfl rfl rfl ?_
              exact ev_ret f_X12_tray rfl rfl rfl ⟨_, _, _, rfl, hI, hX, ⟨_, rfl, (Int.le_trans (by decide : (0:Int) ≤ 1) (by decide : (1:Int) ≤ (1:Int32).toInt)), (by decide : (1:Int32).toInt ≤ (1:Int)), (show ((0 ≤ (1 : Int) ∧ (1 : Int) ≤ 1) ∧ ((1 : Int) = 1 ↔ (0 ≤ ar2.toInt ∧ ar2.toInt ≤ 3 ∧ 0 ≤ ar3.toInt ∧ ar3.toInt ≤ 60)) ∧ ((0 ≤ ar2.toInt ∧ ar2.toInt ≤ 3 ∧ 0 ≤ ar3.toInt ∧ ar3.toInt ≤ 60) → (g28 73 2).toInt = ar3.toInt ∧ (g28 72 2).toInt = ar2.toInt) ∧ (¬ (0 ≤ ar2.toInt ∧ ar2.toInt ≤ 3 ∧ 0 ≤ ar3.toInt ∧ ar3.toInt ≤ 60) → (g28 73 2).toInt = (gi 73 2).toInt ∧ (g28 72 2).toInt = (gi 72 2).toInt)) ∧ ((0 ≤ ar2.toInt ∧ ar2.toInt ≤ 3 ∧ 0 ≤ ar3.toInt ∧ ar3.toInt ≤ 60) → ∀ j : Nat, (j : Int) < ar3.toInt → gl25 74 (120 + j) = 0) ∧ (¬ (0 ≤ ar2.toInt ∧ ar2.toInt ≤ 3 ∧ 0 ≤ ar3.toInt ∧ ar3.toInt ≤ 60) → ∀ j : Nat, gl25 74 j = gl 74 j) ∧ (∀ m : Nat, (m < 120 ∨ 180 ≤ m) → gl25 74 m = gl 74 m) from ⟨(show ((0 ≤ (1 : Int) ∧ (1 : Int) ≤ 1) ∧ ((1 : Int) = 1 ↔ (0 ≤ ar2.toInt ∧ ar2.toInt ≤ 3 ∧ 0 ≤ ar3.toInt ∧ ar3.toInt ≤ 60)) ∧ ((0 ≤ ar2.toInt ∧ ar2.toInt ≤ 3 ∧ 0 ≤ ar3.toInt ∧ ar3.toInt ≤ 60) → (g28 73 2).toInt = ar3.toInt ∧ (g28 72 2).toInt = ar2.toInt) ∧ (¬ (0 ≤ ar2.toInt ∧ ar2.toInt ≤ 3 ∧ 0 ≤ ar3.toInt ∧ ar3.toInt ≤ 60) → (g28 73 2).toInt = (gi 73 2).toInt ∧ (g28 72 2).toInt = (gi 72 2).toInt)) from (by have ff29 : (g28 73 2).toInt = ar3.toInt := congrArg Int32.toInt ((by rw [e28]; exact x_up2_off (Or.inl (by decide)) : g28 73 2 = gi25 73 2).trans c25_1); have ff30 : (g28 72 2).toInt = ar2.toInt := congrArg Int32.toInt ((by rw [e28]; exact x_up2_off (Or.inl (by decide)) : g28 72 2 = gi25 72 2).trans c25_0); omega)), fun _ j h => j25_0 j (by omega), fun h => absurd (show _ from ⟨by omega, by omega, by omega, by omega⟩) h, j25_1⟩)⟩⟩
            · have r31 : y25_4.toInt < ar3.toInt := Int32.lt_iff_toInt_lt.mp (t_nle h26)
              have u32 : y25_4.toInt ≤ 59 := t_ltu (t_nle h26) u22 rfl
              have l33 : 1 ≤ ar3.toInt := t_ltl (t_nle h26) l25_4 rfl
              refine ev_loc f_X12_tray (nx := 56) rfl rfl rfl rfl ?_
              refine ev_getR f_X12_tray (nx := 59) rfl (hI.wf.s rfl) rfl rfl (hI.wf.r rfl) rfl rfl ?_
              refine ev_bp f_X12_tray (nx := 61) (v := 60) rfl (by decide) rfl ?_
              refine ev_loc f_X12_tray (nx := 62) rfl rfl rfl rfl ?_
              refine ev_aluvI f_X12_tray (nx := 63) (w := 120) rfl rfl rfl (by decide) rfl ?_
              refine ev_loc f_X12_tray (nx := 65) rfl rfl rfl rfl ?_
              refine ev_addK f_X12_tray (nx := 66) (c := 120) (l := 120) (u := 179) rfl (by decide) l25_4 u32 rfl rfl (by decide) (by decide) rfl (fun z34 e34 l34 u34 => ?_)
              refine ev_lc f_X12_tray (nx := 67) (v := 0) rfl (by decide) rfl ?_
              refine ev_lastT f_X12_tray (nx := 68) rfl (hI.wf.s rfl) l34 (by decide) u34 (by decide) rfl (hX.upL (t_inR (p := 120) (m := 179) rfl l34 (by decide) u34 (by decide) (by decide))) (fun g35 e35 hX => ?_)
              refine ev_incR f_X12_tray (nx := 71) (c := 1) (l := 1) (u := 60) rfl rfl (by decide) (by decide) l25_4 u32 rfl rfl (by decide) (by decide) rfl (fun z36 e36 l36 u36 => ?_)
              refine ev_jmp f_X12_tray (nx := 49) rfl rfl rfl ?_
              refine ev_sub (lo := [(4, .int z36), (0, .ref 69), (1, .int 2), (2, .int ar2), (3, .int ar3)]) rfl (t_sc rfl (t_sc rfl (t_sc rfl (t_sc rfl (t_sc rfl t_sn))))) ?_
              exact ih25 _ (by omega) gi25 g35 gr25 (z36) hI hX  (Int.le_trans (by decide : (0:Int) ≤ 1) l36) u36 c25_0 c25_1 (by intro j hj; by_cases h : 120 + j = z34.toNatClampNeg; (rw [h, e35, x_up2_at]); (rw [e35, x_up2_off (Or.inr h)]; exact j25_0 j (by have hc := t_clamp (i := z34) (by omega); omega))) (by intro m hm; rw [e35, x_up2_off (Or.inr (by have hc := t_clamp (i := z34) (by omega); omega))]; exact j25_1 m hm) rfl
          refine ev_sub (lo := [(4, .int 0), (0, .ref 69), (1, .int 2), (2, .int ar2), (3, .int ar3)]) rfl (t_sc rfl (t_sc rfl (t_sc rfl (t_sc rfl (t_sc rfl t_sn))))) ?_
          exact L25 _ g24 gl gr (0) hI hX  (by decide : (0:Int) ≤ (0:Int32).toInt) (Int.le_trans (by decide : (0:Int32).toInt ≤ (0:Int)) (by decide : (0:Int) ≤ 60)) ((by rw [e24]; exact x_up2_off (Or.inl (by decide)) : g24 72 2 = g23 72 2).trans (by rw [e23]; exact x_up2_at _ _ _ _ : g23 72 2 = ar2)) (by rw [e24]; exact x_up2_at _ _ _ _ : g24 73 2 = ar3) (fun j h => absurd h (by have : (0 : Int32).toInt = 0 := rfl; omega)) (fun m h => rfl) rfl
        · have l37 : 61 ≤ ar3.toInt := t_ltl (t_nle h21) (by decide : (60:Int) ≤ (60:Int32).toInt) rfl
          refine ev_loc f_X12_tray (nx := 27) rfl rfl rfl rfl ?_
          refine ev_ic f_X12_tray (nx := 28) (v := 1) rfl (by decide) rfl ?_
          refine ev_inV2 f_X12_tray (nx := 31) (lo2 := [(0, .ref 69), (1, .int 1)]) rfl rfl rfl rfl f_X12_is (hI.wf.s rfl) rfl rfl rfl rfl rfl ?_
          refine ev_loc f_X12_is (nx := 1) rfl rfl rfl rfl ?_
          refine ev_loc f_X12_is (nx := 2) rfl rfl rfl rfl ?_
          refine ev_putIT f_X12_is (nx := 5) rfl (hI.wf.s rfl) rfl rfl rfl (hI.put0 (hI.wf.s rfl) rfl rfl) (hX.upI rfl) (fun g38 e38 hI hX => ?_)
          refine ev_loc f_X12_is (nx := 6) rfl rfl rfl rfl ?_
          refine ev_f f_X12_is (t1 := 9) (t2 := 13) rfl rfl rfl (by decide) ?_
          refine ev_ic f_X12_is (nx := 14) (v := 0) rfl (by decide) rfl ?_
          refine ev_retK1 f_X12_is rfl rfl rfl ?_
          exact ev_ret f_X12_tray rfl rfl rfl ⟨_, _, _, rfl, hI, hX, ⟨_, rfl, (by decide : (0:Int) ≤ (0:Int32).toInt), (Int.le_trans (by decide : (0:Int32).toInt ≤ (0:Int)) (by decide : (0:Int) ≤ 1)), (show ((0 ≤ (0 : Int) ∧ (0 : Int) ≤ 1) ∧ ((0 : Int) = 1 ↔ (0 ≤ ar2.toInt ∧ ar2.toInt ≤ 3 ∧ 0 ≤ ar3.toInt ∧ ar3.toInt ≤ 60)) ∧ ((0 ≤ ar2.toInt ∧ ar2.toInt ≤ 3 ∧ 0 ≤ ar3.toInt ∧ ar3.toInt ≤ 60) → (g38 73 2).toInt = ar3.toInt ∧ (g38 72 2).toInt = ar2.toInt) ∧ (¬ (0 ≤ ar2.toInt ∧ ar2.toInt ≤ 3 ∧ 0 ≤ ar3.toInt ∧ ar3.toInt ≤ 60) → (g38 73 2).toInt = (gi 73 2).toInt ∧ (g38 72 2).toInt = (gi 72 2).toInt)) ∧ ((0 ≤ ar2.toInt ∧ ar2.toInt ≤ 3 ∧ 0 ≤ ar3.toInt ∧ ar3.toInt ≤ 60) → ∀ j : Nat, (j : Int) < ar3.toInt → gl 74 (120 + j) = 0) ∧ (¬ (0 ≤ ar2.toInt ∧ ar2.toInt ≤ 3 ∧ 0 ≤ ar3.toInt ∧ ar3.toInt ≤ 60) → ∀ j : Nat, gl 74 j = gl 74 j) ∧ (∀ m : Nat, (m < 120 ∨ 180 ≤ m) → gl 74 m = gl 74 m) from ⟨(show ((0 ≤ (0 : Int) ∧ (0 : Int) ≤ 1) ∧ ((0 : Int) = 1 ↔ (0 ≤ ar2.toInt ∧ ar2.toInt ≤ 3 ∧ 0 ≤ ar3.toInt ∧ ar3.toInt ≤ 60)) ∧ ((0 ≤ ar2.toInt ∧ ar2.toInt ≤ 3 ∧ 0 ≤ ar3.toInt ∧ ar3.toInt ≤ 60) → (g38 73 2).toInt = ar3.toInt ∧ (g38 72 2).toInt = ar2.toInt) ∧ (¬ (0 ≤ ar2.toInt ∧ ar2.toInt ≤ 3 ∧ 0 ≤ ar3.toInt ∧ ar3.toInt ≤ 60) → (g38 73 2).toInt = (gi 73 2).toInt ∧ (g38 72 2).toInt = (gi 72 2).toInt)) from (by have ff39 : (g38 73 2).toInt = (gi 73 2).toInt := congrArg Int32.toInt ((by rw [e38]; exact x_up2_off (Or.inl (by decide)) : g38 73 2 = gi 73 2).trans rfl); have ff40 : (g38 72 2).toInt = (gi 72 2).toInt := congrArg Int32.toInt ((by rw [e38]; exact x_up2_off (Or.inl (by decide)) : g38 72 2 = gi 72 2).trans rfl); omega)), fun h => absurd h (by omega), fun _ j => rfl, fun m h => rfl⟩)⟩⟩
noncomputable def wl_lay_3 : List (Nat × Nat) := [(67, 1), (67, 2), (68, 9999)]
noncomputable def Q_lay_3 (gi : Nat → Nat → Int32) (gl : Nat → Nat → Int64) (gr : Nat → Nat → Value) (ar1 : Int32) (ar2 : Int32) : (Nat → Nat → Int32) → (Nat → Nat → Int64) → (Nat → Nat → Value) → Prop := fun (gi2 : Nat → Nat → Int32) (gl2 : Nat → Nat → Int64) (gr2 : Nat → Nat → Value) => ((gi2 67 2).toInt = ar2.toInt ∧ (gi2 67 1).toInt = ar1.toInt) ∧ (∀ j : Nat, j < 60 → gl2 68 j = 0)
theorem c_lay_3 {X : x_Ext} {d : Nat} {sh : List (Nat ⊕ (Nat × Nat))} {gi : Nat → Nat → Int32} {gl : Nat → Nat → Int64} {gr : Nat → Nat → Value} (hI : t_I sh gi gr) (ar1 : Int32) (ar2 : Int32) (l_a2 : 0 ≤ ar2.toInt) (u_a2 : ar2.toInt ≤ 60) : x_Me X (d + 1) n_X10_lay [.ref 67, .int ar1, .int ar2] (sh, gi, gl, gr) (t_PN wl_lay_3 sh gi gl gr (Q_lay_3 gi gl gr ar1 ar2)) := by
  have hX : t_X wl_lay_3 sh gi gl gr gi gl gr := t_X.rf
  refine me_i f_X10_lay (hI.wf.s rfl) rfl rfl rfl ?_
  obtain ⟨l2, u2⟩ := hI.b (hI.wf.s (k := 67) rfl) (t_bdK rfl : t_bd 9 2 = some ((-1), 60))
  refine ev_loc f_X10_lay (nx := 1) rfl rfl rfl rfl ?_
  refine ev_loc f_X10_lay (nx := 2) rfl rfl rfl rfl ?_
  refine ev_putIT f_X10_lay (nx := 5) rfl (hI.wf.s rfl) rfl rfl rfl (hI.put0 (hI.wf.s rfl) rfl rfl) (hX.upI rfl) (fun g3 e3 hI hX => ?_)
  refine ev_loc f_X10_lay (nx := 6) rfl rfl rfl rfl ?_
  refine ev_loc f_X10_lay (nx := 7) rfl rfl rfl rfl ?_
  refine ev_putIT f_X10_lay (nx := 10) rfl (hI.wf.s rfl) rfl rfl rfl (hI.putB (hI.wf.s rfl) rfl rfl l_a2 (by decide) u_a2 (by decide)) (hX.upI rfl) (fun g4 e4 hI hX => ?_)
  refine ev_ic f_X10_lay (nx := 11) (v := 0) rfl (by decide) rfl ?_
  refine ev_loc f_X10_lay (nx := 12) (lo' := [(3, .int 0), (0, .ref 67), (1, .int ar1), (2, .int ar2)]) rfl rfl rfl rfl ?_
  have L5 : ∀ (m5 : Nat) (gi5 : Nat → Nat → Int32) (gl5 : Nat → Nat → Int64) (gr5 : Nat → Nat → Value) (y5_3 : Int32), t_I sh gi5 gr5 → t_X wl_lay_3 sh gi gl gr gi5 gl5 gr5 → 0 ≤ y5_3.toInt → y5_3.toInt ≤ 60 → gi5 67 1 = ar1 → gi5 67 2 = ar2 → (∀ j : Nat, (j : Int) < y5_3.toInt → gl5 68 j = 0) → (60 - y5_3.toInt).toNat = m5 → x_Ev X (d + 1) n_X10_lay 12 [(3, .int y5_3), (0, .ref 67), (1, .int ar1), (2, .int ar2)] [] (sh, gi5, gl5, gr5) (t_PN wl_lay_3 sh gi gl gr (Q_lay_3 gi gl gr ar1 ar2)) := by
    intro m5
    induction m5 using Nat.strongRecOn with
    | _ m5 ih5 =>
    intro gi5 gl5 gr5 y5_3 hI hX l5_3 u5_3 c5_0 c5_1 j5_0 hm5
    refine ev_loc f_X10_lay (nx := 13) rfl rfl rfl rfl ?_
    refine ev_loc f_X10_lay (nx := 14) rfl rfl rfl rfl ?_
    refine ev_getR f_X10_lay (nx := 17) rfl (hI.wf.s rfl) rfl rfl (hI.wf.r rfl) rfl rfl ?_
    refine ev_alenv f_X10_lay (nx := 18) (w := 60) rfl (hI.wf.s rfl) rfl (by decide) rfl ?_
    refine ev_if f_X10_lay (t1 := 34) (t2 := 21) rfl rfl rfl (fun h6 => ?_) (fun h6 => ?_)
    · have l7 : 60 ≤ y5_3.toInt := t_lel h6 (by decide : (60:Int) ≤ (60:Int32).toInt)
      exact ev_ret f_X10_lay rfl rfl rfl ⟨_, _, _, rfl, hI, hX, ⟨rfl, (show ((gi5 67 2).toInt = ar2.toInt ∧ (gi5 67 1).toInt = ar1.toInt) ∧ (∀ j : Nat, j < 60 → gl5 68 j = 0) from ⟨(by have ff8 : (gi5 67 2).toInt = ar2.toInt := congrArg Int32.toInt c5_1; have ff9 : (gi5 67 1).toInt = ar1.toInt := congrArg Int32.toInt c5_0; omega), fun j h => j5_0 j (by omega)⟩)⟩⟩
    · have u10 : y5_3.toInt ≤ 59 := t_ltu (t_nle h6) (by decide : (60:Int32).toInt ≤ (60:Int)) rfl
      refine ev_loc f_X10_lay (nx := 22) rfl rfl rfl rfl ?_
      refine ev_getR f_X10_lay (nx := 25) rfl (hI.wf.s rfl) rfl rfl (hI.wf.r rfl) rfl rfl ?_
      refine ev_loc f_X10_lay (nx := 26) rfl rfl rfl rfl ?_
      refine ev_lc f_X10_lay (nx := 27) (v := 0) rfl (by decide) rfl ?_
      refine ev_lastT f_X10_lay (nx := 28) rfl (hI.wf.s rfl) l5_3 (by decide) u10 (by decide) rfl (hX.upL (t_inA_ok rfl)) (fun g11 e11 hX => ?_)
      refine ev_incR f_X10_lay (nx := 31) (c := 1) (l := 1) (u := 60) rfl rfl (by decide) (by decide) l5_3 u10 rfl rfl (by decide) (by decide) rfl (fun z12 e12 l12 u12 => ?_)
      refine ev_jmp f_X10_lay (nx := 12) rfl rfl rfl ?_
      refine ev_sub (lo := [(3, .int z12), (0, .ref 67), (1, .int ar1), (2, .int ar2)]) rfl (t_sc rfl (t_sc rfl (t_sc rfl (t_sc rfl t_sn)))) ?_
      exact ih5 _ (by omega) gi5 g11 gr5 (z12) hI hX  (Int.le_trans (by decide : (0:Int) ≤ 1) l12) u12 c5_0 c5_1 (by intro j hj; by_cases h : j = y5_3.toNatClampNeg; (rw [h, e11, x_up2_at]); (rw [e11, x_up2_off (Or.inr h)]; exact j5_0 j (by have hc := t_clamp (i := y5_3) (by omega); omega))) rfl
  refine ev_sub (lo := [(3, .int 0), (0, .ref 67), (1, .int ar1), (2, .int ar2)]) rfl (t_sc rfl (t_sc rfl (t_sc rfl (t_sc rfl t_sn)))) ?_
  exact L5 _ g4 gl gr (0) hI hX  (by decide : (0:Int) ≤ (0:Int32).toInt) (Int.le_trans (by decide : (0:Int32).toInt ≤ (0:Int)) (by decide : (0:Int) ≤ 60)) ((by rw [e4]; exact x_up2_off (Or.inr (by decide)) : g4 67 1 = g3 67 1).trans (by rw [e3]; exact x_up2_at _ _ _ _ : g3 67 1 = ar1)) (by rw [e4]; exact x_up2_at _ _ _ _ : g4 67 2 = ar2) (fun j h => absurd h (by have : (0 : Int32).toInt = 0 := rfl; omega)) rfl
noncomputable def wl_h_tray_3 : List (Nat × Nat) := [(0, 0), (67, 1), (67, 2), (68, 9999)]
noncomputable def Q_h_tray_3 (gi : Nat → Nat → Int32) (gl : Nat → Nat → Int64) (gr : Nat → Nat → Value) (ar2 : Int32) (ar3 : Int32) : Int32 → (Nat → Nat → Int32) → (Nat → Nat → Int64) → (Nat → Nat → Value) → Prop := fun (v : Int32) (gi2 : Nat → Nat → Int32) (gl2 : Nat → Nat → Int64) (gr2 : Nat → Nat → Value) => ((0 ≤ v.toInt ∧ v.toInt ≤ 1) ∧ (v.toInt = 1 ↔ (0 ≤ ar2.toInt ∧ ar2.toInt ≤ 3 ∧ 0 ≤ ar3.toInt ∧ ar3.toInt ≤ 60)) ∧ ((0 ≤ ar2.toInt ∧ ar2.toInt ≤ 3 ∧ 0 ≤ ar3.toInt ∧ ar3.toInt ≤ 60) → (gi2 67 2).toInt = ar3.toInt ∧ (gi2 67 1).toInt = ar2.toInt) ∧ (¬ (0 ≤ ar2.toInt ∧ ar2.toInt ≤ 3 ∧ 0 ≤ ar3.toInt ∧ ar3.toInt ≤ 60) → (gi2 67 2).toInt = (gi 67 2).toInt ∧ (gi2 67 1).toInt = (gi 67 1).toInt)) ∧ ((0 ≤ ar2.toInt ∧ ar2.toInt ≤ 3 ∧ 0 ≤ ar3.toInt ∧ ar3.toInt ≤ 60) → ∀ j : Nat, j < 60 → gl2 68 j = 0) ∧ (¬ (0 ≤ ar2.toInt ∧ ar2.toInt ≤ 3 ∧ 0 ≤ ar3.toInt ∧ ar3.toInt ≤ 60) → ∀ j : Nat, gl2 68 j = gl 68 j)
theorem c_h_tray_3 {X : x_Ext} {d : Nat} {sh : List (Nat ⊕ (Nat × Nat))} {gi : Nat → Nat → Int32} {gl : Nat → Nat → Int64} {gr : Nat → Nat → Value} (hI : t_I sh gi gr) (ar2 : Int32) (ar3 : Int32) : x_Me X (d + 2) n_X11_tray [.ref 0, .int 3, .int ar2, .int ar3] (sh, gi, gl, gr) (t_PI wl_h_tray_3 sh gi gl gr 0 1 (Q_h_tray_3 gi gl gr ar2 ar3)) := by
  have hX : t_X wl_h_tray_3 sh gi gl gr gi gl gr := t_X.rf
  refine me_i f_X11_tray (hI.wf.s rfl) rfl rfl rfl ?_
  obtain ⟨l2, u2⟩ := hI.b (hI.wf.s (k := 67) rfl) (t_bdK rfl : t_bd 9 2 = some ((-1), 60))
  refine ev_loc f_X11_tray (nx := 1) rfl rfl rfl rfl ?_
  refine ev_loc f_X11_tray (nx := 2) rfl rfl rfl rfl ?_
  refine ev_inV2 f_X11_tray (nx := 5) (lo2 := [(0, .ref 0), (1, .int 3)]) rfl rfl rfl rfl f_X11_isTray (hI.wf.s rfl) rfl rfl rfl rfl rfl ?_
  refine ev_loc f_X11_isTray (nx := 1) rfl rfl rfl rfl ?_
  refine ev_f f_X11_isTray (t1 := 26) (t2 := 4) rfl rfl rfl (by decide) ?_
  refine ev_loc f_X11_isTray (nx := 5) rfl rfl rfl rfl ?_
  refine ev_loc f_X11_isTray (nx := 6) rfl rfl rfl rfl ?_
  refine ev_getR f_X11_isTray (nx := 9) rfl (hI.wf.s rfl) rfl rfl (hI.wf.r rfl) rfl rfl ?_
  refine ev_alenv f_X11_isTray (nx := 10) (w := 4) rfl (hI.wf.s rfl) rfl (by decide) rfl ?_
  refine ev_f f_X11_isTray (t1 := 26) (t2 := 13) rfl rfl rfl (by decide) ?_
  refine ev_loc f_X11_isTray (nx := 14) rfl rfl rfl rfl ?_
  refine ev_getR f_X11_isTray (nx := 17) rfl (hI.wf.s rfl) rfl rfl (hI.wf.r rfl) rfl rfl ?_
  refine ev_loc f_X11_isTray (nx := 18) rfl rfl rfl rfl ?_
  refine ev_aald f_X11_isTray (nx := 19) rfl (hI.wf.s rfl) rfl (t_idx (n := 4) (by decide : (3:Int) ≤ (3:Int32).toInt) (by decide) (by decide : (3:Int32).toInt ≤ (3:Int)) (by decide)).1 (t_idx (n := 4) (by decide : (3:Int) ≤ (3:Int32).toInt) (by decide) (by decide : (3:Int32).toInt ≤ (3:Int)) (by decide)).2 (hI.wf.r rfl) rfl rfl ?_
  refine ev_jmp f_X11_isTray (nx := 22) rfl rfl rfl ?_
  refine ev_ic f_X11_isTray (nx := 23) (v := 1) rfl (by decide) rfl ?_
  refine ev_jmp f_X11_isTray (nx := 27) rfl rfl rfl ?_
  refine ev_retK1 f_X11_isTray rfl rfl rfl ?_
  refine ev_f f_X11_tray (t1 := 27) (t2 := 8) rfl rfl rfl (by decide) ?_
  refine ev_loc f_X11_tray (nx := 9) rfl rfl rfl rfl ?_
  refine ev_if f_X11_tray (t1 := 27) (t2 := 12) rfl rfl rfl (fun h4 => ?_) (fun h4 => ?_)
  · have u5 : ar2.toInt ≤ (-1) := t_ltu h4 (by decide : (0:Int32).toInt ≤ (0:Int)) rfl
    refine ev_loc f_X11_tray (nx := 28) rfl rfl rfl rfl ?_
    refine ev_ic f_X11_tray (nx := 29) (v := 1) rfl (by decide) rfl ?_
    refine ev_inV2 f_X11_tray (nx := 32) (lo2 := [(0, .ref 0), (1, .int 1)]) rfl rfl rfl rfl f_X11_deny (hI.wf.s rfl) rfl rfl rfl rfl rfl ?_
    refine ev_loc f_X11_deny (nx := 1) rfl rfl rfl rfl ?_
    refine ev_loc f_X11_deny (nx := 2) rfl rfl rfl rfl ?_
    refine ev_putIT f_X11_deny (nx := 5) rfl (hI.wf.s rfl) rfl rfl rfl (hI.put0 (hI.wf.s rfl) rfl rfl) (hX.upI rfl) (fun g6 e6 hI hX => ?_)
    refine ev_ic f_X11_deny (nx := 6) (v := 0) rfl (by decide) rfl ?_
    refine ev_retK1 f_X11_deny rfl rfl rfl ?_
    exact ev_ret f_X11_tray rfl rfl rfl ⟨_, _, _, rfl, hI, hX, ⟨_, rfl, (by decide : (0:Int) ≤ (0:Int32).toInt), (Int.le_trans (by decide : (0:Int32).toInt ≤ (0:Int)) (by decide : (0:Int) ≤ 1)), (show ((0 ≤ (0 : Int) ∧ (0 : Int) ≤ 1) ∧ ((0 : Int) = 1 ↔ (0 ≤ ar2.toInt ∧ ar2.toInt ≤ 3 ∧ 0 ≤ ar3.toInt ∧ ar3.toInt ≤ 60)) ∧ ((0 ≤ ar2.toInt ∧ ar2.toInt ≤ 3 ∧ 0 ≤ ar3.toInt ∧ ar3.toInt ≤ 60) → (g6 67 2).toInt = ar3.toInt ∧ (g6 67 1).toInt = ar2.toInt) ∧ (¬ (0 ≤ ar2.toInt ∧ ar2.toInt ≤ 3 ∧ 0 ≤ ar3.toInt ∧ ar3.toInt ≤ 60) → (g6 67 2).toInt = (gi 67 2).toInt ∧ (g6 67 1).toInt = (gi 67 1).toInt)) ∧ ((0 ≤ ar2.toInt ∧ ar2.toInt ≤ 3 ∧ 0 ≤ ar3.toInt ∧ ar3.toInt ≤ 60) → ∀ j : Nat, j < 60 → gl 68 j = 0) ∧ (¬ (0 ≤ ar2.toInt ∧ ar2.toInt ≤ 3 ∧ 0 ≤ ar3.toInt ∧ ar3.toInt ≤ 60) → ∀ j : Nat, gl 68 j = gl 68 j) from ⟨(show ((0 ≤ (0 : Int) ∧ (0 : Int) ≤ 1) ∧ ((0 : Int) = 1 ↔ (0 ≤ ar2.toInt ∧ ar2.toInt ≤ 3 ∧ 0 ≤ ar3.toInt ∧ ar3.toInt ≤ 60)) ∧ ((0 ≤ ar2.toInt ∧ ar2.toInt ≤ 3 ∧ 0 ≤ ar3.toInt ∧ ar3.toInt ≤ 60) → (g6 67 2).toInt = ar3.toInt ∧ (g6 67 1).toInt = ar2.toInt) ∧ (¬ (0 ≤ ar2.toInt ∧ ar2.toInt ≤ 3 ∧ 0 ≤ ar3.toInt ∧ ar3.toInt ≤ 60) → (g6 67 2).toInt = (gi 67 2).toInt ∧ (g6 67 1).toInt = (gi 67 1).toInt)) from (by have ff7 : (g6 67 2).toInt = (gi 67 2).toInt := congrArg Int32.toInt ((by rw [e6]; exact x_up2_off (Or.inr (by decide)) : g6 67 2 = gi 67 2).trans rfl); have ff8 : (g6 67 1).toInt = (gi 67 1).toInt := congrArg Int32.toInt ((by rw [e6]; exact x_up2_off (Or.inr (by decide)) : g6 67 1 = gi 67 1).trans rfl); omega)), fun h => absurd h (by omega), fun _ j => rfl⟩)⟩⟩
  · have l9 : 0 ≤ ar2.toInt := t_lel (t_nlt h4) (by decide : (0:Int) ≤ (0:Int32).toInt)
    refine ev_loc f_X11_tray (nx := 13) rfl rfl rfl rfl ?_
    refine ev_ic f_X11_tray (nx := 14) (v := 3) rfl (by decide) rfl ?_
    refine ev_if f_X11_tray (t1 := 27) (t2 := 17) rfl rfl rfl (fun h10 => ?_) (fun h10 => ?_)
    · have l11 : 4 ≤ ar2.toInt := t_ltl h10 (by decide : (3:Int) ≤ (3:Int32).toInt) rfl
      refine ev_loc f_X11_tray (nx := 28) rfl rfl rfl rfl ?_
      refine ev_ic f_X11_tray (nx := 29) (v := 1) rfl (by decide) rfl ?_
      refine ev_inV2 f_X11_tray (nx := 32) (lo2 := [(0, .ref 0), (1, .int 1)]) rfl rfl rfl rfl f_X11_deny (hI.wf.s rfl) rfl rfl rfl rfl rfl ?_
      refine ev_loc f_X11_deny (nx := 1) rfl rfl rfl rfl ?_
      refine ev_loc f_X11_deny (nx := 2) rfl rfl rfl rfl ?_
      refine ev_putIT f_X11_deny (nx := 5) rfl (hI.wf.s rfl) rfl rfl rfl (hI.put0 (hI.wf.s rfl) rfl rfl) (hX.upI rfl) (fun g12 e12 hI hX => ?_)
      refine ev_ic f_X11_deny (nx := 6) (v := 0) rfl (by decide) rfl ?_
      refine ev_retK1 f_X11_deny rfl rfl rfl ?_
      exact ev_ret f_X11_tray rfl rfl rfl ⟨_, _, _, rfl, hI, hX, ⟨_, rfl, (by decide : (0:Int) ≤ (0:Int32).toInt), (Int.le_trans (by decide : (0:Int32).toInt ≤ (0:Int)) (by decide : (0:Int) ≤ 1)), (show ((0 ≤ (0 : Int) ∧ (0 : Int) ≤ 1) ∧ ((0 : Int) = 1 ↔ (0 ≤ ar2.toInt ∧ ar2.toInt ≤ 3 ∧ 0 ≤ ar3.toInt ∧ ar3.toInt ≤ 60)) ∧ ((0 ≤ ar2.toInt ∧ ar2.toInt ≤ 3 ∧ 0 ≤ ar3.toInt ∧ ar3.toInt ≤ 60) → (g12 67 2).toInt = ar3.toInt ∧ (g12 67 1).toInt = ar2.toInt) ∧ (¬ (0 ≤ ar2.toInt ∧ ar2.toInt ≤ 3 ∧ 0 ≤ ar3.toInt ∧ ar3.toInt ≤ 60) → (g12 67 2).toInt = (gi 67 2).toInt ∧ (g12 67 1).toInt = (gi 67 1).toInt)) ∧ ((0 ≤ ar2.toInt ∧ ar2.toInt ≤ 3 ∧ 0 ≤ ar3.toInt ∧ ar3.toInt ≤ 60) → ∀ j : Nat, j < 60 → gl 68 j = 0) ∧ (¬ (0 ≤ ar2.toInt ∧ ar2.toInt ≤ 3 ∧ 0 ≤ ar3.toInt ∧ ar3.toInt ≤ 60) → ∀ j : Nat, gl 68 j = gl 68 j) from ⟨(show ((0 ≤ (0 : Int) ∧ (0 : Int) ≤ 1) ∧ ((0 : Int) = 1 ↔ (0 ≤ ar2.toInt ∧ ar2.toInt ≤ 3 ∧ 0 ≤ ar3.toInt ∧ ar3.toInt ≤ 60)) ∧ ((0 ≤ ar2.toInt ∧ ar2.toInt ≤ 3 ∧ 0 ≤ ar3.toInt ∧ ar3.toInt ≤ 60) → (g12 67 2).toInt = ar3.toInt ∧ (g12 67 1).toInt = ar2.toInt) ∧ (¬ (0 ≤ ar2.toInt ∧ ar2.toInt ≤ 3 ∧ 0 ≤ ar3.toInt ∧ ar3.toInt ≤ 60) → (g12 67 2).toInt = (gi 67 2).toInt ∧ (g12 67 1).toInt = (gi 67 1).toInt)) from (by have ff13 : (g12 67 2).toInt = (gi 67 2).toInt := congrArg Int32.toInt ((by rw [e12]; exact x_up2_off (Or.inr (by decide)) : g12 67 2 = gi 67 2).trans rfl); have ff14 : (g12 67 1).toInt = (gi 67 1).toInt := congrArg Int32.toInt ((by rw [e12]; exact x_up2_off (Or.inr (by decide)) : g12 67 1 = gi 67 1).trans rfl); omega)), fun h => absurd h (by omega), fun _ j => rfl⟩)⟩⟩
    · have u15 : ar2.toInt ≤ 3 := t_leu (t_nlt h10) (by decide : (3:Int32).toInt ≤ (3:Int))
      refine ev_loc f_X11_tray (nx := 18) rfl rfl rfl rfl ?_
      refine ev_if f_X11_tray (t1 := 27) (t2 := 21) rfl rfl rfl (fun h16 => ?_) (fun h16 => ?_)
      · have u17 : ar3.toInt ≤ (-1) := t_ltu h16 (by decide : (0:Int32).toInt ≤ (0:Int)) rfl
        refine ev_loc f_X11_tray (nx := 28) rfl rfl rfl rfl ?_
        refine ev_ic f_X11_tray (nx := 29) (v := 1) rfl (by decide) rfl ?_
        refine ev_inV2 f_X11_tray (nx := 32) (lo2 := [(0, .ref 0), (1, .int 1)]) rfl rfl rfl rfl f_X11_deny (hI.wf.s rfl) rfl rfl rfl rfl rfl ?_
        refine ev_loc f_X11_deny (nx := 1) rfl rfl rfl rfl ?_
        refine ev_loc f_X11_deny (nx := 2) rfl rfl rfl rfl ?_
        refine ev_putIT f_X11_deny (nx := 5) rfl (hI.wf.s rfl) rfl rfl rfl (hI.put0 (hI.wf.s rfl) rfl rfl) (hX.upI rfl) (fun g18 e18 hI hX => ?_)
        refine ev_ic f_X11_deny (nx := 6) (v := 0) rfl (by decide) rfl ?_
        refine ev_retK1 f_X11_deny rfl rfl rfl ?_
        exact ev_ret f_X11_tray rfl rfl rfl ⟨_, _, _, rfl, hI, hX, ⟨_, rfl, (by decide : (0:Int) ≤ (0:Int32).toInt), (Int.le_trans (by decide : (0:Int32).toInt ≤ (0:Int)) (by decide : (0:Int) ≤ 1)), (show ((0 ≤ (0 : Int) ∧ (0 : Int) ≤ 1) ∧ ((0 : Int) = 1 ↔ (0 ≤ ar2.toInt ∧ ar2.toInt ≤ 3 ∧ 0 ≤ ar3.toInt ∧ ar3.toInt ≤ 60)) ∧ ((0 ≤ ar2.toInt ∧ ar2.toInt ≤ 3 ∧ 0 ≤ ar3.toInt ∧ ar3.toInt ≤ 60) → (g18 67 2).toInt = ar3.toInt ∧ (g18 67 1).toInt = ar2.toInt) ∧ (¬ (0 ≤ ar2.toInt ∧ ar2.toInt ≤ 3 ∧ 0 ≤ ar3.toInt ∧ ar3.toInt ≤ 60) → (g18 67 2).toInt = (gi 67 2).toInt ∧ (g18 67 1).toInt = (gi 67 1).toInt)) ∧ ((0 ≤ ar2.toInt ∧ ar2.toInt ≤ 3 ∧ 0 ≤ ar3.toInt ∧ ar3.toInt ≤ 60) → ∀ j : Nat, j < 60 → gl 68 j = 0) ∧ (¬ (0 ≤ ar2.toInt ∧ ar2.toInt ≤ 3 ∧ 0 ≤ ar3.toInt ∧ ar3.toInt ≤ 60) → ∀ j : Nat, gl 68 j = gl 68 j) from ⟨(show ((0 ≤ (0 : Int) ∧ (0 : Int) ≤ 1) ∧ ((0 : Int) = 1 ↔ (0 ≤ ar2.toInt ∧ ar2.toInt ≤ 3 ∧ 0 ≤ ar3.toInt ∧ ar3.toInt ≤ 60)) ∧ ((0 ≤ ar2.toInt ∧ ar2.toInt ≤ 3 ∧ 0 ≤ ar3.toInt ∧ ar3.toInt ≤ 60) → (g18 67 2).toInt = ar3.toInt ∧ (g18 67 1).toInt = ar2.toInt) ∧ (¬ (0 ≤ ar2.toInt ∧ ar2.toInt ≤ 3 ∧ 0 ≤ ar3.toInt ∧ ar3.toInt ≤ 60) → (g18 67 2).toInt = (gi 67 2).toInt ∧ (g18 67 1).toInt = (gi 67 1).toInt)) from (by have ff19 : (g18 67 2).toInt = (gi 67 2).toInt := congrArg Int32.toInt ((by rw [e18]; exact x_up2_off (Or.inr (by decide)) : g18 67 2 = gi 67 2).trans rfl); have ff20 : (g18 67 1).toInt = (gi 67 1).toInt := congrArg Int32.toInt ((by rw [e18]; exact x_up2_off (Or.inr (by decide)) : g18 67 1 = gi 67 1).trans rfl); omega)), fun h => absurd h (by omega), fun _ j => rfl⟩)⟩⟩
      · have l21 : 0 ≤ ar3.toInt := t_lel (t_nlt h16) (by decide : (0:Int) ≤ (0:Int32).toInt)
        refine ev_loc f_X11_tray (nx := 22) rfl rfl rfl rfl ?_
        refine ev_bp f_X11_tray (nx := 24) (v := 60) rfl (by decide) rfl ?_
        refine ev_if f_X11_tray (t1 := 33) (t2 := 27) rfl rfl rfl (fun h22 => ?_) (fun h22 => ?_)
        · have u23 : ar3.toInt ≤ 60 := t_leu h22 (by decide : (60:Int32).toInt ≤ (60:Int))
          refine ev_loc f_X11_tray (nx := 34) rfl rfl rfl rfl ?_
          refine ev_getR f_X11_tray (nx := 37) rfl (hI.wf.s rfl) rfl rfl (hI.wf.r rfl) rfl rfl ?_
          refine ev_loc f_X11_tray (nx := 38) rfl rfl rfl rfl ?_
          refine ev_aald f_X11_tray (nx := 39) rfl (hI.wf.s rfl) rfl (t_idx (n := 4) (by decide : (3:Int) ≤ (3:Int32).toInt) (by decide) (by decide : (3:Int32).toInt ≤ (3:Int)) (by decide)).1 (t_idx (n := 4) (by decide : (3:Int) ≤ (3:Int32).toInt) (by decide) (by decide : (3:Int32).toInt ≤ (3:Int)) (by decide)).2 (hI.wf.r rfl) rfl rfl ?_
          refine ev_loc f_X11_tray (nx := 40) rfl rfl rfl rfl ?_
          refine ev_loc f_X11_tray (nx := 41) rfl rfl rfl rfl ?_
          refine ev_qN f_X11_tray (nx := 44) (r := []) rfl rfl rfl rfl rfl rfl rfl (c_lay_3 hI (ar2) (ar3) l21 u23) rfl hX rfl (fun gi25 gl25 gr25 hI hX hC25 q25 => ?_)
          have q25 : ((gi25 67 2).toInt = ar3.toInt ∧ (gi25 67 1).toInt = ar2.toInt) ∧ (∀ j : Nat, j < 60 → gl25 68 j = 0) := q25
          obtain ⟨l27, u27⟩ := hI.b (hI.wf.s (k := 67) rfl) (t_bdK rfl : t_bd 9 2 = some ((-1), 60))
          refine ev_loc f_X11_tray (nx := 45) rfl rfl rfl rfl ?_
          refine ev_inV1 f_X11_tray (nx := 48) (lo2 := [(0, .ref 0)]) rfl rfl rfl rfl f_X11_grant (hI.wf.s rfl) rfl rfl rfl rfl rfl ?_
          refine ev_loc f_X11_grant (nx := 1) rfl rfl rfl rfl ?_
          refine ev_ic f_X11_grant (nx := 2) (v := 0) rfl (by decide) rfl ?_
          refine ev_putIT f_X11_grant (nx := 5) rfl (hI.wf.s rfl) rfl rfl rfl (hI.put0 (hI.wf.s rfl) rfl rfl) (hX.upI rfl) (fun g28 e28 hI hX => ?_)
          refine ev_ic f_X11_grant (nx := 6) (v := 1) rfl (by decide) rfl ?_
          refine ev_retK1 f_X11_grant rfl rfl rfl ?_
          exact ev_ret f_X11_tray rfl rfl rfl ⟨_, _, _, rfl, hI, hX, ⟨_, rfl, (Int.le_trans (by decide : (0:Int) ≤ 1) (by decide : (1:Int) ≤ (1:Int32).toInt)), (by decide : (1:Int32).toInt ≤ (1:Int)), (show ((0 ≤ (1 : Int) ∧ (1 : Int) ≤ 1) ∧ ((1 : Int) = 1 ↔ (0 ≤ ar2.toInt ∧ ar2.toInt ≤ 3 ∧ 0 ≤ ar3.toInt ∧ ar3.toInt ≤ 60)) ∧ ((0 ≤ ar2.toInt ∧ ar2.toInt ≤ 3 ∧ 0 ≤ ar3.toInt ∧ ar3.toInt ≤ 60) → (g28 67 2).toInt = ar3.toInt ∧ (g28 67 1).toInt = ar2.toInt) ∧ (¬ (0 ≤ ar2.toInt ∧ ar2.toInt ≤ 3 ∧ 0 ≤ ar3.toInt ∧ ar3.toInt ≤ 60) → (g28 67 2).toInt = (gi 67 2).toInt ∧ (g28 67 1).toInt = (gi 67 1).toInt)) ∧ ((0 ≤ ar2.toInt ∧ ar2.toInt ≤ 3 ∧ 0 ≤ ar3.toInt ∧ ar3.toInt ≤ 60) → ∀ j : Nat, j < 60 → gl25 68 j = 0) ∧ (¬ (0 ≤ ar2.toInt ∧ ar2.toInt ≤ 3 ∧ 0 ≤ ar3.toInt ∧ ar3.toInt ≤ 60) → ∀ j : Nat, gl25 68 j = gl 68 j) from ⟨(show ((0 ≤ (1 : Int) ∧ (1 : Int) ≤ 1) ∧ ((1 : Int) = 1 ↔ (0 ≤ ar2.toInt ∧ ar2.toInt ≤ 3 ∧ 0 ≤ ar3.toInt ∧ ar3.toInt ≤ 60)) ∧ ((0 ≤ ar2.toInt ∧ ar2.toInt ≤ 3 ∧ 0 ≤ ar3.toInt ∧ ar3.toInt ≤ 60) → (g28 67 2).toInt = ar3.toInt ∧ (g28 67 1).toInt = ar2.toInt) ∧ (¬ (0 ≤ ar2.toInt ∧ ar2.toInt ≤ 3 ∧ 0 ≤ ar3.toInt ∧ ar3.toInt ≤ 60) → (g28 67 2).toInt = (gi 67 2).toInt ∧ (g28 67 1).toInt = (gi 67 1).toInt)) from (by have ff29 : (g28 67 2).toInt = (gi25 67 2).toInt := congrArg Int32.toInt ((by rw [e28]; exact x_up2_off (Or.inr (by decide)) : g28 67 2 = gi25 67 2).trans rfl); have ff30 : (g28 67 1).toInt = (gi25 67 1).toInt := congrArg Int32.toInt ((by rw [e28]; exact x_up2_off (Or.inr (by decide)) : g28 67 1 = gi25 67 1).trans rfl); omega)), fun _ => q25.2, fun h => absurd (show _ from ⟨by omega, by omega, by omega, by omega⟩) h⟩)⟩⟩
        · have l31 : 61 ≤ ar3.toInt := t_ltl (t_nle h22) (by decide : (60:Int) ≤ (60:Int32).toInt) rfl
          refine ev_loc f_X11_tray (nx := 28) rfl rfl rfl rfl ?_
          refine ev_ic f_X11_tray (nx := 29) (v := 1) rfl (by decide) rfl ?_
          refine ev_inV2 f_X11_tray (nx := 32) (lo2 := [(0, .ref 0), (1, .int 1)]) rfl rfl rfl rfl f_X11_deny (hI.wf.s rfl) rfl rfl rfl rfl rfl ?_
          refine ev_loc f_X11_deny (nx := 1) rfl rfl rfl rfl ?_
          refine ev_loc f_X11_deny (nx := 2) rfl rfl rfl rfl ?_
          refine ev_putIT f_X11_deny (nx := 5) rfl (hI.wf.s rfl) rfl rfl rfl (hI.put0 (hI.wf.s rfl) rfl rfl) (hX.upI rfl) (fun g32 e32 hI hX => ?_)
          refine ev_ic f_X11_deny (nx := 6) (v := 0) rfl (by decide) rfl ?_
          refine ev_retK1 f_X11_deny rfl rfl rfl ?_
          exact ev_ret f_X11_tray rfl rfl rfl ⟨_, _, _, rfl, hI, hX, ⟨_, rfl, (by decide : (0:Int) ≤ (0:Int32).toInt), (Int.le_trans (by decide : (0:Int32).toInt ≤ (0:Int)) (by decide : (0:Int) ≤ 1)), (show ((0 ≤ (0 : Int) ∧ (0 : Int) ≤ 1) ∧ ((0 : Int) = 1 ↔ (0 ≤ ar2.toInt ∧ ar2.toInt ≤ 3 ∧ 0 ≤ ar3.toInt ∧ ar3.toInt ≤ 60)) ∧ ((0 ≤ ar2.toInt ∧ ar2.toInt ≤ 3 ∧ 0 ≤ ar3.toInt ∧ ar3.toInt ≤ 60) → (g32 67 2).toInt = ar3.toInt ∧ (g32 67 1).toInt = ar2.toInt) ∧ (¬ (0 ≤ ar2.toInt ∧ ar2.toInt ≤ 3 ∧ 0 ≤ ar3.toInt ∧ ar3.toInt ≤ 60) → (g32 67 2).toInt = (gi 67 2).toInt ∧ (g32 67 1).toInt = (gi 67 1).toInt)) ∧ ((0 ≤ ar2.toInt ∧ ar2.toInt ≤ 3 ∧ 0 ≤ ar3.toInt ∧ ar3.toInt ≤ 60) → ∀ j : Nat, j < 60 → gl 68 j = 0) ∧ (¬ (0 ≤ ar2.toInt ∧ ar2.toInt ≤ 3 ∧ 0 ≤ ar3.toInt ∧ ar3.toInt ≤ 60) → ∀ j : Nat, gl 68 j = gl 68 j) from ⟨(show ((0 ≤ (0 : Int) ∧ (0 : Int) ≤ 1) ∧ ((0 : Int) = 1 ↔ (0 ≤ ar2.toInt ∧ ar2.toInt ≤ 3 ∧ 0 ≤ ar3.toInt ∧ ar3.toInt ≤ 60)) ∧ ((0 ≤ ar2.toInt ∧ ar2.toInt ≤ 3 ∧ 0 ≤ ar3.toInt ∧ ar3.toInt ≤ 60) → (g32 67 2).toInt = ar3.toInt ∧ (g32 67 1).toInt = ar2.toInt) ∧ (¬ (0 ≤ ar2.toInt ∧ ar2.toInt ≤ 3 ∧ 0 ≤ ar3.toInt ∧ ar3.toInt ≤ 60) → (g32 67 2).toInt = (gi 67 2).toInt ∧ (g32 67 1).toInt = (gi 67 1).toInt)) from (by have ff33 : (g32 67 2).toInt = (gi 67 2).toInt := congrArg Int32.toInt ((by rw [e32]; exact x_up2_off (Or.inr (by decide)) : g32 67 2 = gi 67 2).trans rfl); have ff34 : (g32 67 1).toInt = (gi 67 1).toInt := congrArg Int32.toInt ((by rw [e32]; exact x_up2_off (Or.inr (by decide)) : g32 67 1 = gi 67 1).trans rfl); omega)), fun h => absurd h (by omega), fun _ j => rfl⟩)⟩⟩
noncomputable def wl_m_tray_3 : List (Nat × Nat) := [(69, 2), (72, 310003), (73, 310003), (74, 18010239)]
noncomputable def Q_m_tray_3 (gi : Nat → Nat → Int32) (gl : Nat → Nat → Int64) (gr : Nat → Nat → Value) (ar2 : Int32) (ar3 : Int32) : Int32 → (Nat → Nat → Int32) → (Nat → Nat → Int64) → (Nat → Nat → Value) → Prop := fun (v : Int32) (gi2 : Nat → Nat → Int32) (gl2 : Nat → Nat → Int64) (gr2 : Nat → Nat → Value) => ((0 ≤ v.toInt ∧ v.toInt ≤ 1) ∧ (v.toInt = 1 ↔ (0 ≤ ar2.toInt ∧ ar2.toInt ≤ 3 ∧ 0 ≤ ar3.toInt ∧ ar3.toInt ≤ 60)) ∧ ((0 ≤ ar2.toInt ∧ ar2.toInt ≤ 3 ∧ 0 ≤ ar3.toInt ∧ ar3.toInt ≤ 60) → (gi2 73 3).toInt = ar3.toInt ∧ (gi2 72 3).toInt = ar2.toInt) ∧ (¬ (0 ≤ ar2.toInt ∧ ar2.toInt ≤ 3 ∧ 0 ≤ ar3.toInt ∧ ar3.toInt ≤ 60) → (gi2 73 3).toInt = (gi 73 3).toInt ∧ (gi2 72 3).toInt = (gi 72 3).toInt)) ∧ ((0 ≤ ar2.toInt ∧ ar2.toInt ≤ 3 ∧ 0 ≤ ar3.toInt ∧ ar3.toInt ≤ 60) → ∀ j : Nat, (j : Int) < ar3.toInt → gl2 74 (180 + j) = 0) ∧ (¬ (0 ≤ ar2.toInt ∧ ar2.toInt ≤ 3 ∧ 0 ≤ ar3.toInt ∧ ar3.toInt ≤ 60) → ∀ j : Nat, gl2 74 j = gl 74 j) ∧ (∀ m : Nat, (m < 180 ∨ 240 ≤ m) → gl2 74 m = gl 74 m)
theorem c_m_tray_3 {X : x_Ext} {d : Nat} {sh : List (Nat ⊕ (Nat × Nat))} {gi : Nat → Nat → Int32} {gl : Nat → Nat → Int64} {gr : Nat → Nat → Value} (hI : t_I sh gi gr) (ar2 : Int32) (ar3 : Int32) : x_Me X (d + 2) n_X12_tray [.ref 69, .int 3, .int ar2, .int ar3] (sh, gi, gl, gr) (t_PI wl_m_tray_3 sh gi gl gr 0 1 (Q_m_tray_3 gi gl gr ar2 ar3)) := by
  have hX : t_X wl_m_tray_3 sh gi gl gr gi gl gr := t_X.rf
  refine me_i f_X12_tray (hI.wf.s rfl) rfl rfl rfl ?_
  obtain ⟨l1, u1⟩ := hI.ab (by decide +kernel : t_abr 72 3 3 0 3 = true) (Nat.le_refl _) (Nat.le_refl _)
  obtain ⟨l2, u2⟩ := hI.ab (by decide +kernel : t_abr 73 3 3 (-1) 60 = true) (Nat.le_refl _) (Nat.le_refl _)
  refine ev_loc f_X12_tray (nx := 1) rfl rfl rfl rfl ?_
  refine ev_inS1 f_X12_tray (nx := 4) (lo2 := [(0, .int 3)]) rfl rfl rfl rfl f_X12_isTray rfl rfl rfl rfl ?_
  refine ev_loc f_X12_isTray (nx := 1) rfl rfl rfl rfl ?_
  refine ev_f f_X12_isTray (t1 := 13) (t2 := 4) rfl rfl rfl (by decide) ?_
  refine ev_loc f_X12_isTray (nx := 5) rfl rfl rfl rfl ?_
  refine ev_ic f_X12_isTray (nx := 6) (v := 4) rfl (by decide) rfl ?_
  refine ev_f f_X12_isTray (t1 := 13) (t2 := 9) rfl rfl rfl (by decide) ?_
  refine ev_ic f_X12_isTray (nx := 10) (v := 1) rfl (by decide) rfl ?_
  refine ev_jmp f_X12_isTray (nx := 14) rfl rfl rfl ?_
  refine ev_retK1 f_X12_isTray rfl rfl rfl ?_
  refine ev_f f_X12_tray (t1 := 26) (t2 := 7) rfl rfl rfl (by decide) ?_
  refine ev_loc f_X12_tray (nx := 8) rfl rfl rfl rfl ?_
  refine ev_if f_X12_tray (t1 := 26) (t2 := 11) rfl rfl rfl (fun h3 => ?_) (fun h3 => ?_)
  · have u4 : ar2.toInt ≤ (-1) := t_ltu h3 (by decide : (0:Int32).toInt ≤ (0:Int)) rfl
    refine ev_loc f_X12_tray (nx := 27) rfl rfl rfl rfl ?_
    refine ev_ic f_X12_tray (nx := 28) (v := 1) rfl (by decide) rfl ?_
    refine ev_inV2 f_X12_tray (nx := 31) (lo2 := [(0, .ref 69), (1, .int 1)]) rfl rfl rfl rfl f_X12_is (hI.wf.s rfl) rfl rfl rfl rfl rfl ?_
    refine ev_loc f_X12_is (nx := 1) rfl rfl rfl rfl ?_
    refine ev_loc f_X12_is (nx := 2) rfl rfl rfl rfl ?_
    refine ev_putIT f_X12_is (nx := 5) rfl (hI.wf.s rfl) rfl rfl rfl (hI.put0 (hI.wf.s rfl) rfl rfl) (hX.upI rfl) (fun g5 e5 hI hX => ?_)
    refine ev_loc f_X12_is (nx := 6) rfl rfl rfl rfl ?_
    refine ev_f f_X12_is (t1 := 9) (t2 := 13) rfl rfl rfl (by decide) ?_
    refine ev_ic f_X12_is (nx := 14) (v := 0) rfl (by decide) rfl ?_
    refine ev_retK1 f_X12_is rfl rfl rfl ?_
    exact ev_ret f_X12_tray rfl rfl rfl ⟨_, _, _, rfl, hI, hX, ⟨_, rfl, (by decide : (0:Int) ≤ (0:Int32).toInt), (Int.le_trans (by decide : (0:Int32).toInt ≤ (0:Int)) (by decide : (0:Int) ≤ 1)), (show ((0 ≤ (0 : Int) ∧ (0 : Int) ≤ 1) ∧ ((0 : Int) = 1 ↔ (0 ≤ ar2.toInt ∧ ar2.toInt ≤ 3 ∧ 0 ≤ ar3.toInt ∧ ar3.toInt ≤ 60)) ∧ ((0 ≤ ar2.toInt ∧ ar2.toInt ≤ 3 ∧ 0 ≤ ar3.toInt ∧ ar3.toInt ≤ 60) → (g5 73 3).toInt = ar3.toInt ∧ (g5 72 3).toInt = ar2.toInt) ∧ (¬ (0 ≤ ar2.toInt ∧ ar2.toInt ≤ 3 ∧ 0 ≤ ar3.toInt ∧ ar3.toInt ≤ 60) → (g5 73 3).toInt = (gi 73 3).toInt ∧ (g5 72 3).toInt = (gi 72 3).toInt)) ∧ ((0 ≤ ar2.toInt ∧ ar2.toInt ≤ 3 ∧ 0 ≤ ar3.toInt ∧ ar3.toInt ≤ 60) → ∀ j : Nat, (j : Int) < ar3.toInt → gl 74 (180 + j) = 0) ∧ (¬ (0 ≤ ar2.toInt ∧ ar2.toInt ≤ 3 ∧ 0 ≤ ar3.toInt ∧ ar3.toInt ≤ 60) → ∀ j : Nat, gl 74 j = gl 74 j) ∧ (∀ m : Nat, (m < 180 ∨ 240 ≤ m) → gl 74 m = gl 74 m) from ⟨(show ((0 ≤ (0 : Int) ∧ (0 : Int) ≤ 1) ∧ ((0 : Int) = 1 ↔ (0 ≤ ar2.toInt ∧ ar2.toInt ≤ 3 ∧ 0 ≤ ar3.toInt ∧ ar3.toInt ≤ 60)) ∧ ((0 ≤ ar2.toInt ∧ ar2.toInt ≤ 3 ∧ 0 ≤ ar3.toInt ∧ ar3.toInt ≤ 60) → (g5 73 3).toInt = ar3.toInt ∧ (g5 72 3).toInt = ar2.toInt) ∧ (¬ (0 ≤ ar2.toInt ∧ ar2.toInt ≤ 3 ∧ 0 ≤ ar3.toInt ∧ ar3.toInt ≤ 60) → (g5 73 3).toInt = (gi 73 3).toInt ∧ (g5 72 3).toInt = (gi 72 3).toInt)) from (by have ff6 : (g5 73 3).toInt = (gi 73 3).toInt := congrArg Int32.toInt ((by rw [e5]; exact x_up2_off (Or.inr (by decide)) : g5 73 3 = gi 73 3).trans rfl); have ff7 : (g5 72 3).toInt = (gi 72 3).toInt := congrArg Int32.toInt ((by rw [e5]; exact x_up2_off (Or.inr (by decide)) : g5 72 3 = gi 72 3).trans rfl); omega)), fun h => absurd h (by omega), fun _ j => rfl, fun m h => rfl⟩)⟩⟩
  · have l8 : 0 ≤ ar2.toInt := t_lel (t_nlt h3) (by decide : (0:Int) ≤ (0:Int32).toInt)
    refine ev_loc f_X12_tray (nx := 12) rfl rfl rfl rfl ?_
    refine ev_ic f_X12_tray (nx := 13) (v := 3) rfl (by decide) rfl ?_
    refine ev_if f_X12_tray (t1 := 26) (t2 := 16) rfl rfl rfl (fun h9 => ?_) (fun h9 => ?_)
    · have l10 : 4 ≤ ar2.toInt := t_ltl h9 (by decide : (3:Int) ≤ (3:Int32).toInt) rfl
      refine ev_loc f_X12_tray (nx := 27) rfl rfl rfl rfl ?_
      refine ev_ic f_X12_tray (nx := 28) (v := 1) rfl (by decide) rfl ?_
      refine ev_inV2 f_X12_tray (nx := 31) (lo2 := [(0, .ref 69), (1, .int 1)]) rfl rfl rfl rfl f_X12_is (hI.wf.s rfl) rfl rfl rfl rfl rfl ?_
      refine ev_loc f_X12_is (nx := 1) rfl rfl rfl rfl ?_
      refine ev_loc f_X12_is (nx := 2) rfl rfl rfl rfl ?_
      refine ev_putIT f_X12_is (nx := 5) rfl (hI.wf.s rfl) rfl rfl rfl (hI.put0 (hI.wf.s rfl) rfl rfl) (hX.upI rfl) (fun g11 e11 hI hX => ?_)
      refine ev_loc f_X12_is (nx := 6) rfl rfl rfl rfl ?_
      refine ev_f f_X12_is (t1 := 9) (t2 := 13) rfl rfl rfl (by decide) ?_
      refine ev_ic f_X12_is (nx := 14) (v := 0) rfl (by decide) rfl ?_
      refine ev_retK1 f_X12_is rfl rfl rfl ?_
      exact ev_ret f_X12_tray rfl rfl rfl ⟨_, _, _, rfl, hI, hX, ⟨_, rfl, (by decide : (0:Int) ≤ (0:Int32).toInt), (Int.le_trans (by decide : (0:Int32).toInt ≤ (0:Int)) (by decide : (0:Int) ≤ 1)), (show ((0 ≤ (0 : Int) ∧ (0 : Int) ≤ 1) ∧ ((0 : Int) = 1 ↔ (0 ≤ ar2.toInt ∧ ar2.toInt ≤ 3 ∧ 0 ≤ ar3.toInt ∧ ar3.toInt ≤ 60)) ∧ ((0 ≤ ar2.toInt ∧ ar2.toInt ≤ 3 ∧ 0 ≤ ar3.toInt ∧ ar3.toInt ≤ 60) → (g11 73 3).toInt = ar3.toInt ∧ (g11 72 3).toInt = ar2.toInt) ∧ (¬ (0 ≤ ar2.toInt ∧ ar2.toInt ≤ 3 ∧ 0 ≤ ar3.toInt ∧ ar3.toInt ≤ 60) → (g11 73 3).toInt = (gi 73 3).toInt ∧ (g11 72 3).toInt = (gi 72 3).toInt)) ∧ ((0 ≤ ar2.toInt ∧ ar2.toInt ≤ 3 ∧ 0 ≤ ar3.toInt ∧ ar3.toInt ≤ 60) → ∀ j : Nat, (j : Int) < ar3.toInt → gl 74 (180 + j) = 0) ∧ (¬ (0 ≤ ar2.toInt ∧ ar2.toInt ≤ 3 ∧ 0 ≤ ar3.toInt ∧ ar3.toInt ≤ 60) → ∀ j : Nat, gl 74 j = gl 74 j) ∧ (∀ m : Nat, (m < 180 ∨ 240 ≤ m) → gl 74 m = gl 74 m) from ⟨(show ((0 ≤ (0 : Int) ∧ (0 : Int) ≤ 1) ∧ ((0 : Int) = 1 ↔ (0 ≤ ar2.toInt ∧ ar2.toInt ≤ 3 ∧ 0 ≤ ar3.toInt ∧ ar3.toInt ≤ 60)) ∧ ((0 ≤ ar2.toInt ∧ ar2.toInt ≤ 3 ∧ 0 ≤ ar3.toInt ∧ ar3.toInt ≤ 60) → (g11 73 3).toInt = ar3.toInt ∧ (g11 72 3).toInt = ar2.toInt) ∧ (¬ (0 ≤ ar2.toInt ∧ ar2.toInt ≤ 3 ∧ 0 ≤ ar3.toInt ∧ ar3.toInt ≤ 60) → (g11 73 3).toInt = (gi 73 3).toInt ∧ (g11 72 3).toInt = (gi 72 3).toInt)) from (by have ff12 : (g11 73 3).toInt = (gi 73 3).toInt := congrArg Int32.toInt ((by rw [e11]; exact x_up2_off (Or.inr (by decide)) : g11 73 3 = gi 73 3).trans rfl); have ff13 : (g11 72 3).toInt = (gi 72 3).toInt := congrArg Int32.toInt ((by rw [e11]; exact x_up2_off (Or.inr (by decide)) : g11 72 3 = gi 72 3).trans rfl); omega)), fun h => absurd h (by omega), fun _ j => rfl, fun m h => rfl⟩)⟩⟩
    · have u14 : ar2.toInt ≤ 3 := t_leu (t_nlt h9) (by decide : (3:Int32).toInt ≤ (3:Int))
      refine ev_loc f_X12_tray (nx := 17) rfl rfl rfl rfl ?_
      refine ev_if f_X12_tray (t1 := 26) (t2 := 20) rfl rfl rfl (fun h15 => ?_) (fun h15 => ?_)
      · have u16 : ar3.toInt ≤ (-1) := t_ltu h15 (by decide : (0:Int32).toInt ≤ (0:Int)) rfl
        refine ev_loc f_X12_tray (nx := 27) rfl rfl rfl rfl ?_
        refine ev_ic f_X12_tray (nx := 28) (v := 1) rfl (by decide) rfl ?_
        refine ev_inV2 f_X12_tray (nx := 31) (lo2 := [(0, .ref 69), (1, .int 1)]) rfl rfl rfl rfl f_X12_is (hI.wf.s rfl) rfl rfl rfl rfl rfl ?_
        refine ev_loc f_X12_is (nx := 1) rfl rfl rfl rfl ?_
        refine ev_loc f_X12_is (nx := 2) rfl rfl rfl rfl ?_
        refine ev_putIT f_X12_is (nx := 5) rfl (hI.wf.s rfl) rfl rfl rfl (hI.put0 (hI.wf.s rfl) rfl rfl) (hX.upI rfl) (fun g17 e17 hI hX => ?_)
        refine ev_loc f_X12_is (nx := 6) rfl rfl rfl rfl ?_
        refine ev_f f_X12_is (t1 := 9) (t2 := 13) rfl rfl rfl (by decide) ?_
        refine ev_ic f_X12_is (nx := 14) (v := 0) rfl (by decide) rfl ?_
        refine ev_retK1 f_X12_is rfl rfl rfl ?_
        exact ev_ret f_X12_tray rfl rfl rfl ⟨_, _, _, rfl, hI, hX, ⟨_, rfl, (by decide : (0:Int) ≤ (0:Int32).toInt), (Int.le_trans (by decide : (0:Int32).toInt ≤ (0:Int)) (by decide : (0:Int) ≤ 1)), (show ((0 ≤ (0 : Int) ∧ (0 : Int) ≤ 1) ∧ ((0 : Int) = 1 ↔ (0 ≤ ar2.toInt ∧ ar2.toInt ≤ 3 ∧ 0 ≤ ar3.toInt ∧ ar3.toInt ≤ 60)) ∧ ((0 ≤ ar2.toInt ∧ ar2.toInt ≤ 3 ∧ 0 ≤ ar3.toInt ∧ ar3.toInt ≤ 60) → (g17 73 3).toInt = ar3.toInt ∧ (g17 72 3).toInt = ar2.toInt) ∧ (¬ (0 ≤ ar2.toInt ∧ ar2.toInt ≤ 3 ∧ 0 ≤ ar3.toInt ∧ ar3.toInt ≤ 60) → (g17 73 3).toInt = (gi 73 3).toInt ∧ (g17 72 3).toInt = (gi 72 3).toInt)) ∧ ((0 ≤ ar2.toInt ∧ ar2.toInt ≤ 3 ∧ 0 ≤ ar3.toInt ∧ ar3.toInt ≤ 60) → ∀ j : Nat, (j : Int) < ar3.toInt → gl 74 (180 + j) = 0) ∧ (¬ (0 ≤ ar2.toInt ∧ ar2.toInt ≤ 3 ∧ 0 ≤ ar3.toInt ∧ ar3.toInt ≤ 60) → ∀ j : Nat, gl 74 j = gl 74 j) ∧ (∀ m : Nat, (m < 180 ∨ 240 ≤ m) → gl 74 m = gl 74 m) from ⟨(show ((0 ≤ (0 : Int) ∧ (0 : Int) ≤ 1) ∧ ((0 : Int) = 1 ↔ (0 ≤ ar2.toInt ∧ ar2.toInt ≤ 3 ∧ 0 ≤ ar3.toInt ∧ ar3.toInt ≤ 60)) ∧ ((0 ≤ ar2.toInt ∧ ar2.toInt ≤ 3 ∧ 0 ≤ ar3.toInt ∧ ar3.toInt ≤ 60) → (g17 73 3).toInt = ar3.toInt ∧ (g17 72 3).toInt = ar2.toInt) ∧ (¬ (0 ≤ ar2.toInt ∧ ar2.toInt ≤ 3 ∧ 0 ≤ ar3.toInt ∧ ar3.toInt ≤ 60) → (g17 73 3).toInt = (gi 73 3).toInt ∧ (g17 72 3).toInt = (gi 72 3).toInt)) from (by have ff18 : (g17 73 3).toInt = (gi 73 3).toInt := congrArg Int32.toInt ((by rw [e17]; exact x_up2_off (Or.inr (by decide)) : g17 73 3 = gi 73 3).trans rfl); have ff19 : (g17 72 3).toInt = (gi 72 3).toInt := congrArg Int32.toInt ((by rw [e17]; exact x_up2_off (Or.inr (by decide)) : g17 72 3 = gi 72 3).trans rfl); omega)), fun h => absurd h (by omega), fun _ j => rfl, fun m h => rfl⟩)⟩⟩
      · have l20 : 0 ≤ ar3.toInt := t_lel (t_nlt h15) (by decide : (0:Int) ≤ (0:Int32).toInt)
        refine ev_loc f_X12_tray (nx := 21) rfl rfl rfl rfl ?_
        refine ev_bp f_X12_tray (nx := 23) (v := 60) rfl (by decide) rfl ?_
        refine ev_if f_X12_tray (t1 := 32) (t2 := 26) rfl rfl rfl (fun h21 => ?_) (fun h21 => ?_)
        · have u22 : ar3.toInt ≤ 60 := t_leu h21 (by decide : (60:Int32).toInt ≤ (60:Int))
          refine ev_loc f_X12_tray (nx := 33) rfl rfl rfl rfl ?_
          refine ev_getR f_X12_tray (nx := 36) rfl (hI.wf.s rfl) rfl rfl (hI.wf.r rfl) rfl rfl ?_
          refine ev_loc f_X12_tray (nx := 37) rfl rfl rfl rfl ?_
          refine ev_loc f_X12_tray (nx := 38) rfl rfl rfl rfl ?_
          refine ev_iastT f_X12_tray (nx := 39) rfl (hI.wf.s rfl) (by decide : (3:Int) ≤ (3:Int32).toInt) (by decide) (by decide : (3:Int32).toInt ≤ (3:Int)) (by decide) rfl (hI.astL (hI.wf.s rfl) (by decide +kernel : t_abw 72 3 3 0 3 = true) (t_cl1 (by decide : (3:Int) ≤ (3:Int32).toInt) (by decide)) (t_cl2 (by decide : (3:Int) ≤ (3:Int32).toInt) (by decide : (3:Int32).toInt ≤ (3:Int)) (by decide) (by decide)) l8 u14 rfl) (hX.upI (t_inR (p := 3) (m := 3) rfl (by decide : (3:Int) ≤ (3:Int32).toInt) (by decide) (by decide : (3:Int32).toInt ≤ (3:Int)) (by decide) (by decide))) (fun g23 e23 hI hX => ?_)
          refine ev_loc f_X12_tray (nx := 40) rfl rfl rfl rfl ?_
          refine ev_getR f_X12_tray (nx := 43) rfl (hI.wf.s rfl) rfl rfl (hI.wf.r rfl) rfl rfl ?_
          refine ev_loc f_X12_tray (nx := 44) rfl rfl rfl rfl ?_
          refine ev_loc f_X12_tray (nx := 45) rfl rfl rfl rfl ?_
          refine ev_iastT f_X12_tray (nx := 46) rfl (hI.wf.s rfl) (by decide : (3:Int) ≤ (3:Int32).toInt) (by decide) (by decide : (3:Int32).toInt ≤ (3:Int)) (by decide) rfl (hI.astL (hI.wf.s rfl) (by decide +kernel : t_abw 73 3 3 0 60 = true) (t_cl1 (by decide : (3:Int) ≤ (3:Int32).toInt) (by decide)) (t_cl2 (by decide : (3:Int) ≤ (3:Int32).toInt) (by decide : (3:Int32).toInt ≤ (3:Int)) (by decide) (by decide)) l20 u22 rfl) (hX.upI (t_inR (p := 3) (m := 3) rfl (by decide : (3:Int) ≤ (3:Int32).toInt) (by decide) (by decide : (3:Int32).toInt ≤ (3:Int)) (by decide) (by decide))) (fun g24 e24 hI hX => ?_)
          refine ev_ic f_X12_tray (nx := 47) (v := 0) rfl (by decide) rfl ?_
          refine ev_loc f_X12_tray (nx := 49) (lo' := [(4, .int 0), (0, .ref 69), (1, .int 3), (2, .int ar2), (3, .int ar3)]) rfl rfl rfl rfl ?_
          have L25 : ∀ (m25 : Nat) (gi25 : Nat → Nat → Int32) (gl25 : Nat → Nat → Int64) (gr25 : Nat → Nat → Value) (y25_4 : Int32), t_I sh gi25 gr25 → t_X wl_m_tray_3 sh gi gl gr gi25 gl25 gr25 → 0 ≤ y25_4.toInt → y25_4.toInt ≤ 60 → gi25 72 3 = ar2 → gi25 73 3 = ar3 → (∀ j : Nat, (j : Int) < y25_4.toInt → gl25 74 (180 + j) = 0) → (∀ m : Nat, (m < 180 ∨ 240 ≤ m) → gl25 74 m = gl 74 m) → (60 - y25_4.toInt).toNat = m25 → x_Ev X (d + 2) n_X12_tray 49 [(4, .int y25_4), (0, .ref 69), (1, .int 3), (2, .int ar2), (3, .int ar3)] [] (sh, gi25, gl25, gr25) (t_PI wl_m_tray_3 sh gi gl gr 0 1 (Q_m_tray_3 gi gl gr ar2 ar3)) := by
            intro m25
            induction m25 using Nat.strongRecOn with
            | _ m25 ih25 =>
            intro gi25 gl25 gr25 y25_4 hI hX l25_4 u25_4 c25_0 c25_1 j25_0 j25_1 hm25
            refine ev_loc f_X12_tray (nx := 51) rfl rfl rfl rfl ?_
            refine ev_loc f_X12_tray (nx := 52) rfl rfl rfl rfl ?_
            refine ev_if f_X12_tray (t1 := 74) (t2 := 55) rfl rfl rfl (fun h26 => ?_) (fun h26 => ?_)
            · have r27 : ar3.toInt ≤ y25_4.toInt := Int32.le_iff_toInt_le.mp h26
              refine ev_loc f_X12_tray (nx := 75) rfl rfl rfl rfl ?_
              refine ev_ic f_X12_tray (nx := 76) (v := 0) rfl (by decide) rfl ?_
              refine ev_inV2 f_X12_tray (nx := 79) (lo2 := [(0, .ref 69), (1, .int 0)]) rfl rfl rfl rfl f_X12_is (hI.wf.s rfl) rfl rfl rfl rfl rfl ?_
              refine ev_loc f_X12_is (nx := 1) rfl rfl rfl rfl ?_
              refine ev_loc f_X12_is (nx := 2) rfl rfl rfl rfl ?_
              refine ev_putIT f_X12_is (nx := 5) rfl (hI.wf.s rfl) rfl rfl rfl (hI.put0 (hI.wf.s rfl) rfl rfl) (hX.upI rfl) (fun g28 e28 hI hX => ?_)
              refine ev_loc f_X12_is (nx := 6) rfl rfl rfl rfl ?_
              refine ev_t f_X12_is (t1 := 9) (t2 := 13) rfl rfl rfl (by decide) ?_
              refine ev_ic f_X12_is (nx := 10) (v := 1) rfl (by decide) rfl ?_
              refine ev_jmp f_X12_is (nx := 14) rfl rfl rfl ?_
              refine ev_retK1 f_X12_is rfl rfl rfl ?_
              exact ev_ret f_X12_tray rfl rfl rfl ⟨_, _, _, rfl, hI, hX, ⟨_, rfl, (Int.le_trans (by decide : (0:Int) ≤ 1) (by decide : (1:Int) ≤ (1:Int32).toInt)), (by decide : (1:Int32).toInt ≤ (1:Int)), (show ((0 ≤ (1 : Int) ∧ (1 : Int) ≤ 1) ∧ ((1 : Int) = 1 ↔ (0 ≤ ar2.toInt ∧ ar2.toInt ≤ 3 ∧ 0 ≤ ar3.toInt ∧ ar3.toInt ≤ 60)) ∧ ((0 ≤ ar2.toInt ∧ ar2.toInt ≤ 3 ∧ 0 ≤ ar3.toInt ∧ ar3.toInt ≤ 60) → (g28 73 3).toInt = ar3.toInt ∧ (g28 72 3).toInt = ar2.toInt) ∧ (¬ (0 ≤ ar2.toInt ∧ ar2.toInt ≤ 3 ∧ 0 ≤ ar3.toInt ∧ ar3.toInt ≤ 60) → (g28 73 3).toInt = (gi 73 3).toInt ∧ (g28 72 3).toInt = (gi 72 3).toInt)) ∧ ((0 ≤ ar2.toInt ∧ ar2.toInt ≤ 3 ∧ 0 ≤ ar3.toInt ∧ ar3.toInt ≤ 60) → ∀ j : Nat, (j : Int) < ar3.toInt → gl25 74 (180 + j) = 0) ∧ (¬ (0 ≤ ar2.toInt ∧ ar2.toInt ≤ 3 ∧ 0 ≤ ar3.toInt ∧ ar3.toInt ≤ 60) → ∀ j : Nat, gl25 74 j = gl 74 j) ∧ (∀ m : Nat, (m < 180 ∨ 240 ≤ m) → gl25 74 m = gl 74 m) from ⟨(show ((0 ≤ (1 : Int) ∧ (1 : Int) ≤ 1) ∧ ((1 : Int) = 1 ↔ (0 ≤ ar2.toInt ∧ ar2.toInt ≤ 3 ∧ 0 ≤ ar3.toInt ∧ ar3.toInt ≤ 60)) ∧ ((0 ≤ ar2.toInt ∧ ar2.toInt ≤ 3 ∧ 0 ≤ ar3.toInt ∧ ar3.toInt ≤ 60) → (g28 73 3).toInt = ar3.toInt ∧ (g28 72 3).toInt = ar2.toInt) ∧ (¬ (0 ≤ ar2.toInt ∧ ar2.toInt ≤ 3 ∧ 0 ≤ ar3.toInt ∧ ar3.toInt ≤ 60) → (g28 73 3).toInt = (gi 73 3).toInt ∧ (g28 72 3).toInt = (gi 72 3).toInt)) from (by have ff29 : (g28 73 3).toInt = ar3.toInt := congrArg Int32.toInt ((by rw [e28]; exact x_up2_off (Or.inr (by decide)) : g28 73 3 = gi25 73 3).trans c25_1); have ff30 : (g28 72 3).toInt = ar2.toInt := congrArg Int32.toInt ((by rw [e28]; exact x_up2_off (Or.inr (by decide)) : g28 72 3 = gi25 72 3).trans c25_0); omega)), fun _ j h => j25_0 j (by omega), fun h => absurd (show _ from ⟨by omega, by omega, by omega, by omega⟩) h, j25_1⟩)⟩⟩
            · have r31 : y25_4.toInt < ar3.toInt := Int32.lt_iff_toInt_lt.mp (t_nle h26)
              have u32 : y25_4.toInt ≤ 59 := t_ltu (t_nle h26) u22 rfl
              have l33 : 1 ≤ ar3.toInt := t_ltl (t_nle h26) l25_4 rfl
              refine ev_loc f_X12_tray (nx := 56) rfl rfl rfl rfl ?_
              refine ev_getR f_X12_tray (nx := 59) rfl (hI.wf.s rfl) rfl rfl (hI.wf.r rfl) rfl rfl ?_
              refine ev_bp f_X12_tray (nx := 61) (v := 60) rfl (by decide) rfl ?_
              refine ev_loc f_X12_tray (nx := 62) rfl rfl rfl rfl ?_
              refine ev_aluvI f_X12_tray (nx := 63) (w := 180) rfl rfl rfl (by decide) rfl ?_
              refine ev_loc f_X12_tray (nx := 65) rfl rfl rfl rfl ?_
              refine ev_addK f_X12_tray (nx := 66) (c := 180) (l := 180) (u := 239) rfl (by decide) l25_4 u32 rfl rfl (by decide) (by decide) rfl (fun z34 e34 l34 u34 => ?_)
              refine ev_lc f_X12_tray (nx := 67) (v := 0) rfl (by decide) rfl ?_
              refine ev_lastT f_X12_tray (nx := 68) rfl (hI.wf.s rfl) l34 (by decide) u34 (by decide) rfl (hX.upL (t_inR (p := 180) (m := 239) rfl l34 (by decide) u34 (by decide) (by decide))) (fun g35 e35 hX => ?_)
              refine ev_incR f_X12_tray (nx := 71) (c := 1) (l := 1) (u := 60) rfl rfl (by decide) (by decide) l25_4 u32 rfl rfl (by decide) (by decide) rfl (fun z36 e36 l36 u36 => ?_)
              refine ev_jmp f_X12_tray (nx := 49) rfl rfl rfl ?_
              refine ev_sub (lo := [(4, .int z36), (0, .ref 69), (1, .int 3), (2, .int ar2), (3, .int ar3)]) rfl (t_sc rfl (t_sc rfl (t_sc rfl (t_sc rfl (t_sc rfl t_sn))))) ?_
              exact ih25 _ (by omega) gi25 g35 gr25 (z36) hI hX  (Int.le_trans (by decide : (0:Int) ≤ 1) l36) u36 c25_0 c25_1 (by intro j hj; by_cases h : 180 + j = z34.toNatClampNeg; (rw [h, e35, x_up2_at]); (rw [e35, x_up2_off (Or.inr h)]; exact j25_0 j (by have hc := t_clamp (i := z34) (by omega); omega))) (by intro m hm; rw [e35, x_up2_off (Or.inr (by have hc := t_clamp (i := z34) (by omega); omega))]; exact j25_1 m hm) rfl
          refine ev_sub (lo := [(4, .int 0), (0, .ref 69), (1, .int 3), (2, .int ar2), (3, .int ar3)]) rfl (t_sc rfl (t_sc rfl (t_sc rfl (t_sc rfl (t_sc rfl t_sn))))) ?_
          exact L25 _ g24 gl gr (0) hI hX  (by decide : (0:Int) ≤ (0:Int32).toInt) (Int.le_trans (by decide : (0:Int32).toInt ≤ (0:Int)) (by decide : (0:Int) ≤ 60)) ((by rw [e24]; exact x_up2_off (Or.inl (by decide)) : g24 72 3 = g23 72 3).trans (by rw [e23]; exact x_up2_at _ _ _ _ : g23 72 3 = ar2)) (by rw [e24]; exact x_up2_at _ _ _ _ : g24 73 3 = ar3) (fun j h => absurd h (by have : (0 : Int32).toInt = 0 := rfl; omega)) (fun m h => rfl) rfl
        · have l37 : 61 ≤ ar3.toInt := t_ltl (t_nle h21) (by decide : (60:Int) ≤ (60:Int32).toInt) rfl
          refine ev_loc f_X12_tray (nx := 27) rfl rfl rfl rfl ?_
          refine ev_ic f_X12_tray (nx := 28) (v := 1) rfl (by decide) rfl ?_
          refine ev_inV2 f_X12_tray (nx := 31) (lo2 := [(0, .ref 69), (1, .int 1)]) rfl rfl rfl rfl f_X12_is (hI.wf.s rfl) rfl rfl rfl rfl rfl ?_
          refine ev_loc f_X12_is (nx := 1) rfl rfl rfl rfl ?_
          refine ev_loc f_X12_is (nx := 2) rfl rfl rfl rfl ?_
          refine ev_putIT f_X12_is (nx := 5) rfl (hI.wf.s rfl) rfl rfl rfl (hI.put0 (hI.wf.s rfl) rfl rfl) (hX.upI rfl) (fun g38 e38 hI hX => ?_)
          refine ev_loc f_X12_is (nx := 6) rfl rfl rfl rfl ?_
          refine ev_f f_X12_is (t1 := 9) (t2 := 13) rfl rfl rfl (by decide) ?_
          refine ev_ic f_X12_is (nx := 14) (v := 0) rfl (by decide) rfl ?_
          refine ev_retK1 f_X12_is rfl rfl rfl ?_
          exact ev_ret f_X12_tray rfl rfl rfl ⟨_, _, _, rfl, hI, hX, ⟨_, rfl, (by decide : (0:Int) ≤ (0:Int32).toInt), (Int.le_trans (by decide : (0:Int32).toInt ≤ (0:Int)) (by decide : (0:Int) ≤ 1)), (show ((0 ≤ (0 : Int) ∧ (0 : Int) ≤ 1) ∧ ((0 : Int) = 1 ↔ (0 ≤ ar2.toInt ∧ ar2.toInt ≤ 3 ∧ 0 ≤ ar3.toInt ∧ ar3.toInt ≤ 60)) ∧ ((0 ≤ ar2.toInt ∧ ar2.toInt ≤ 3 ∧ 0 ≤ ar3.toInt ∧ ar3.toInt ≤ 60) → (g38 73 3).toInt = ar3.toInt ∧ (g38 72 3).toInt = ar2.toInt) ∧ (¬ (0 ≤ ar2.toInt ∧ ar2.toInt ≤ 3 ∧ 0 ≤ ar3.toInt ∧ ar3.toInt ≤ 60) → (g38 73 3).toInt = (gi 73 3).toInt ∧ (g38 72 3).toInt = (gi 72 3).toInt)) ∧ ((0 ≤ ar2.toInt ∧ ar2.toInt ≤ 3 ∧ 0 ≤ ar3.toInt ∧ ar3.toInt ≤ 60) → ∀ j : Nat, (j : Int) < ar3.toInt → gl 74 (180 + j) = 0) ∧ (¬ (0 ≤ ar2.toInt ∧ ar2.toInt ≤ 3 ∧ 0 ≤ ar3.toInt ∧ ar3.toInt ≤ 60) → ∀ j : Nat, gl 74 j = gl 74 j) ∧ (∀ m : Nat, (m < 180 ∨ 240 ≤ m) → gl 74 m = gl 74 m) from ⟨(show ((0 ≤ (0 : Int) ∧ (0 : Int) ≤ 1) ∧ ((0 : Int) = 1 ↔ (0 ≤ ar2.toInt ∧ ar2.toInt ≤ 3 ∧ 0 ≤ ar3.toInt ∧ ar3.toInt ≤ 60)) ∧ ((0 ≤ ar2.toInt ∧ ar2.toInt ≤ 3 ∧ 0 ≤ ar3.toInt ∧ ar3.toInt ≤ 60) → (g38 73 3).toInt = ar3.toInt ∧ (g38 72 3).toInt = ar2.toInt) ∧ (¬ (0 ≤ ar2.toInt ∧ ar2.toInt ≤ 3 ∧ 0 ≤ ar3.toInt ∧ ar3.toInt ≤ 60) → (g38 73 3).toInt = (gi 73 3).toInt ∧ (g38 72 3).toInt = (gi 72 3).toInt)) from (by have ff39 : (g38 73 3).toInt = (gi 73 3).toInt := congrArg Int32.toInt ((by rw [e38]; exact x_up2_off (Or.inr (by decide)) : g38 73 3 = gi 73 3).trans rfl); have ff40 : (g38 72 3).toInt = (gi 72 3).toInt := congrArg Int32.toInt ((by rw [e38]; exact x_up2_off (Or.inr (by decide)) : g38 72 3 = gi 72 3).trans rfl); omega)), fun h => absurd h (by omega), fun _ j => rfl, fun m h => rfl⟩)⟩⟩
noncomputable def wl_h_tray_l : List (Nat × Nat) := [(0, 0)]
noncomputable def Q_h_tray_l (gi : Nat → Nat → Int32) (gl : Nat → Nat → Int64) (gr : Nat → Nat → Value) (ar1 : Int32) (ar2 : Int32) (ar3 : Int32) : Int32 → (Nat → Nat → Int32) → (Nat → Nat → Int64) → (Nat → Nat → Value) → Prop := fun (v : Int32) (gi2 : Nat → Nat → Int32) (gl2 : Nat → Nat → Int64) (gr2 : Nat → Nat → Value) => v.toInt = 0
theorem c_h_tray_l {X : x_Ext} {d : Nat} {sh : List (Nat ⊕ (Nat × Nat))} {gi : Nat → Nat → Int32} {gl : Nat → Nat → Int64} {gr : Nat → Nat → Value} (hI : t_I sh gi gr) (ar1 : Int32) (u_a1 : ar1.toInt ≤ (-1)) (ar2 : Int32) (ar3 : Int32) : x_Me X (d + 2) n_X11_tray [.ref 0, .int ar1, .int ar2, .int ar3] (sh, gi, gl, gr) (t_PI wl_h_tray_l sh gi gl gr 0 0 (Q_h_tray_l gi gl gr ar1 ar2 ar3)) := by
  have hX : t_X wl_h_tray_l sh gi gl gr gi gl gr := t_X.rf
  refine me_i f_X11_tray (hI.wf.s rfl) rfl rfl rfl ?_
  refine ev_loc f_X11_tray (nx := 1) rfl rfl rfl rfl ?_
  refine ev_loc f_X11_tray (nx := 2) rfl rfl rfl rfl ?_
  refine ev_inV2 f_X11_tray (nx := 5) (lo2 := [(0, .ref 0), (1, .int ar1)]) rfl rfl rfl rfl f_X11_isTray (hI.wf.s rfl) rfl rfl rfl rfl rfl ?_
  refine ev_loc f_X11_isTray (nx := 1) rfl rfl rfl rfl ?_
  refine ev_t f_X11_isTray (t1 := 26) (t2 := 4) rfl rfl rfl (t_ltT u_a1 (by decide : (0:Int) ≤ (0:Int32).toInt) (by decide)) ?_
  refine ev_ic f_X11_isTray (nx := 27) (v := 0) rfl (by decide) rfl ?_
  refine ev_retK1 f_X11_isTray rfl rfl rfl ?_
  refine ev_t f_X11_tray (t1 := 27) (t2 := 8) rfl rfl rfl (by decide) ?_
  refine ev_loc f_X11_tray (nx := 28) rfl rfl rfl rfl ?_
  refine ev_ic f_X11_tray (nx := 29) (v := 1) rfl (by decide) rfl ?_
  refine ev_inV2 f_X11_tray (nx := 32) (lo2 := [(0, .ref 0), (1, .int 1)]) rfl rfl rfl rfl f_X11_deny (hI.wf.s rfl) rfl rfl rfl rfl rfl ?_
  refine ev_loc f_X11_deny (nx := 1) rfl rfl rfl rfl ?_
  refine ev_loc f_X11_deny (nx := 2) rfl rfl rfl rfl ?_
  refine ev_putIT f_X11_deny (nx := 5) rfl (hI.wf.s rfl) rfl rfl rfl (hI.put0 (hI.wf.s rfl) rfl rfl) (hX.upI rfl) (fun g1 e1 hI hX => ?_)
  refine ev_ic f_X11_deny (nx := 6) (v := 0) rfl (by decide) rfl ?_
  refine ev_retK1 f_X11_deny rfl rfl rfl ?_
  exact ev_ret f_X11_tray rfl rfl rfl ⟨_, _, _, rfl, hI, hX, ⟨_, rfl, (by decide : (0:Int) ≤ (0:Int32).toInt), (by decide : (0:Int32).toInt ≤ (0:Int)), (show (0 : Int) = 0 from (by omega))⟩⟩
noncomputable def wl_m_tray_l : List (Nat × Nat) := [(69, 2)]
noncomputable def Q_m_tray_l (gi : Nat → Nat → Int32) (gl : Nat → Nat → Int64) (gr : Nat → Nat → Value) (ar1 : Int32) (ar2 : Int32) (ar3 : Int32) : Int32 → (Nat → Nat → Int32) → (Nat → Nat → Int64) → (Nat → Nat → Value) → Prop := fun (v : Int32) (gi2 : Nat → Nat → Int32) (gl2 : Nat → Nat → Int64) (gr2 : Nat → Nat → Value) => v.toInt = 0
theorem c_m_tray_l {X : x_Ext} {d : Nat} {sh : List (Nat ⊕ (Nat × Nat))} {gi : Nat → Nat → Int32} {gl : Nat → Nat → Int64} {gr : Nat → Nat → Value} (hI : t_I sh gi gr) (ar1 : Int32) (u_a1 : ar1.toInt ≤ (-1)) (ar2 : Int32) (ar3 : Int32) : x_Me X (d + 2) n_X12_tray [.ref 69, .int ar1, .int ar2, .int ar3] (sh, gi, gl, gr) (t_PI wl_m_tray_l sh gi gl gr 0 0 (Q_m_tray_l gi gl gr ar1 ar2 ar3)) := by
  have hX : t_X wl_m_tray_l sh gi gl gr gi gl gr := t_X.rf
  refine me_i f_X12_tray (hI.wf.s rfl) rfl rfl rfl ?_
  refine ev_loc f_X12_tray (nx := 1) rfl rfl rfl rfl ?_
  refine ev_inS1 f_X12_tray (nx := 4) (lo2 := [(0, .int ar1)]) rfl rfl rfl rfl f_X12_isTray rfl rfl rfl rfl ?_
  refine ev_loc f_X12_isTray (nx := 1) rfl rfl rfl rfl ?_
  refine ev_t f_X12_isTray (t1 := 13) (t2 := 4) rfl rfl rfl (t_ltT u_a1 (by decide : (0:Int) ≤ (0:Int32).toInt) (by decide)) ?_
  refine ev_ic f_X12_isTray (nx := 14) (v := 0) rfl (by decide) rfl ?_
  refine ev_retK1 f_X12_isTray rfl rfl rfl ?_
  refine ev_t f_X12_tray (t1 := 26) (t2 := 7) rfl rfl rfl (by decide) ?_
  refine ev_loc f_X12_tray (nx := 27) rfl rfl rfl rfl ?_
  refine ev_ic f_X12_tray (nx := 28) (v := 1) rfl (by decide) rfl ?_
  refine ev_inV2 f_X12_tray (nx := 31) (lo2 := [(0, .ref 69), (1, .int 1)]) rfl rfl rfl rfl f_X12_is (hI.wf.s rfl) rfl rfl rfl rfl rfl ?_
  refine ev_loc f_X12_is (nx := 1) rfl rfl rfl rfl ?_
  refine ev_loc f_X12_is (nx := 2) rfl rfl rfl rfl ?_
  refine ev_putIT f_X12_is (nx := 5) rfl (hI.wf.s rfl) rfl rfl rfl (hI.put0 (hI.wf.s rfl) rfl rfl) (hX.upI rfl) (fun g1 e1 hI hX => ?_)
  refine ev_loc f_X12_is (nx := 6) rfl rfl rfl rfl ?_
  refine ev_f f_X12_is (t1 := 9) (t2 := 13) rfl rfl rfl (by decide) ?_
  refine ev_ic f_X12_is (nx := 14) (v := 0) rfl (by decide) rfl ?_
  refine ev_retK1 f_X12_is rfl rfl rfl ?_
  exact ev_ret f_X12_tray rfl rfl rfl ⟨_, _, _, rfl, hI, hX, ⟨_, rfl, (by decide : (0:Int) ≤ (0:Int32).toInt), (by decide : (0:Int32).toInt ≤ (0:Int)), (show (0 : Int) = 0 from (by omega))⟩⟩
noncomputable def wl_h_write_l : List (Nat × Nat) := [(0, 0)]
noncomputable def Q_h_write_l (gi : Nat → Nat → Int32) (gl : Nat → Nat → Int64) (gr : Nat → Nat → Value) (ar1 : Int32) (ar2 : Int32) (ar3 : Int64) : Int32 → (Nat → Nat → Int32) → (Nat → Nat → Int64) → (Nat → Nat → Value) → Prop := fun (v : Int32) (gi2 : Nat → Nat → Int32) (gl2 : Nat → Nat → Int64) (gr2 : Nat → Nat → Value) => v.toInt = 0
theorem c_h_write_l {X : x_Ext} {d : Nat} {sh : List (Nat ⊕ (Nat × Nat))} {gi : Nat → Nat → Int32} {gl : Nat → Nat → Int64} {gr : Nat → Nat → Value} (hI : t_I sh gi gr) (ar1 : Int32) (u_a1 : ar1.toInt ≤ (-1)) (ar2 : Int32) (ar3 : Int64) : x_Me X (d + 3) n_X11_write [.ref 0, .int ar1, .int ar2, .long ar3] (sh, gi, gl, gr) (t_PI wl_h_write_l sh gi gl gr 0 0 (Q_h_write_l gi gl gr ar1 ar2 ar3)) := by
  have hX : t_X wl_h_write_l sh gi gl gr gi gl gr := t_X.rf
  refine me_i f_X11_write (hI.wf.s rfl) rfl rfl rfl ?_
  refine ev_loc f_X11_write (nx := 1) rfl rfl rfl rfl ?_
  refine ev_loc f_X11_write (nx := 2) rfl rfl rfl rfl ?_
  refine ev_loc f_X11_write (nx := 3) rfl rfl rfl rfl ?_
  refine ev_inV3 f_X11_write (nx := 6) (lo2 := [(0, .ref 0), (1, .int ar1), (2, .int ar2)]) rfl rfl rfl rfl f_X11_wrongPlace (hI.wf.s rfl) rfl rfl rfl rfl rfl ?_
  refine ev_loc f_X11_wrongPlace (nx := 1) rfl rfl rfl rfl ?_
  refine ev_loc f_X11_wrongPlace (nx := 2) rfl rfl rfl rfl ?_
  refine ev_inV2 f_X11_wrongPlace (nx := 5) (lo2 := [(0, .ref 0), (1, .int ar1)]) rfl rfl rfl rfl f_X11_isTray (hI.wf.s rfl) rfl rfl rfl rfl rfl ?_
  refine ev_loc f_X11_isTray (nx := 1) rfl rfl rfl rfl ?_
  refine ev_t f_X11_isTray (t1 := 26) (t2 := 4) rfl rfl rfl (t_ltT u_a1 (by decide : (0:Int) ≤ (0:Int32).toInt) (by decide)) ?_
  refine ev_ic f_X11_isTray (nx := 27) (v := 0) rfl (by decide) rfl ?_
  refine ev_retK1 f_X11_isTray rfl rfl rfl ?_
  refine ev_t f_X11_wrongPlace (t1 := 8) (t2 := 10) rfl rfl rfl (by decide) ?_
  refine ev_ic f_X11_wrongPlace (nx := 9) (v := 1) rfl (by decide) rfl ?_
  refine ev_retK1 f_X11_wrongPlace rfl rfl rfl ?_
  refine ev_loc f_X11_write (nx := 8) (lo' := [(5, .int 1), (0, .ref 0), (1, .int ar1), (2, .int ar2), (3, .long ar3)]) rfl rfl rfl rfl ?_
  refine ev_loc f_X11_write (nx := 10) rfl rfl rfl rfl ?_
  refine ev_f f_X11_write (t1 := 20) (t2 := 13) rfl rfl rfl (by decide) ?_
  refine ev_loc f_X11_write (nx := 14) rfl rfl rfl rfl ?_
  refine ev_loc f_X11_write (nx := 16) rfl rfl rfl rfl ?_
  refine ev_inV2 f_X11_write (nx := 19) (lo2 := [(0, .ref 0), (1, .int 1)]) rfl rfl rfl rfl f_X11_deny (hI.wf.s rfl) rfl rfl rfl rfl rfl ?_
  refine ev_loc f_X11_deny (nx := 1) rfl rfl rfl rfl ?_
  refine ev_loc f_X11_deny (nx := 2) rfl rfl rfl rfl ?_
  refine ev_putIT f_X11_deny (nx := 5) rfl (hI.wf.s rfl) rfl rfl rfl (hI.put0 (hI.wf.s rfl) rfl rfl) (hX.upI rfl) (fun g1 e1 hI hX => ?_)
  refine ev_ic f_X11_deny (nx := 6) (v := 0) rfl (by decide) rfl ?_
  refine ev_retK1 f_X11_deny rfl rfl rfl ?_
  exact ev_ret f_X11_write rfl rfl rfl ⟨_, _, _, rfl, hI, hX, ⟨_, rfl, (by decide : (0:Int) ≤ (0:Int32).toInt), (by decide : (0:Int32).toInt ≤ (0:Int)), (show (0 : Int) = 0 from (by omega))⟩⟩
noncomputable def wl_m_write_l : List (Nat × Nat) := [(69, 2)]
noncomputable def Q_m_write_l (gi : Nat → Nat → Int32) (gl : Nat → Nat → Int64) (gr : Nat → Nat → Value) (ar1 : Int32) (ar2 : Int32) (ar3 : Int64) : Int32 → (Nat → Nat → Int32) → (Nat → Nat → Int64) → (Nat → Nat → Value) → Prop := fun (v : Int32) (gi2 : Nat → Nat → Int32) (gl2 : Nat → Nat → Int64) (gr2 : Nat → Nat → Value) => v.toInt = 0
theorem c_m_write_l {X : x_Ext} {d : Nat} {sh : List (Nat ⊕ (Nat × Nat))} {gi : Nat → Nat → Int32} {gl : Nat → Nat → Int64} {gr : Nat → Nat → Value} (hI : t_I sh gi gr) (ar1 : Int32) (u_a1 : ar1.toInt ≤ (-1)) (ar2 : Int32) (ar3 : Int64) : x_Me X (d + 3) n_X12_write [.ref 69, .int ar1, .int ar2, .long ar3] (sh, gi, gl, gr) (t_PI wl_m_write_l sh gi gl gr 0 0 (Q_m_write_l gi gl gr ar1 ar2 ar3)) := by
  have hX : t_X wl_m_write_l sh gi gl gr gi gl gr := t_X.rf
  refine me_i f_X12_write (hI.wf.s rfl) rfl rfl rfl ?_
  refine ev_loc f_X12_write (nx := 1) rfl rfl rfl rfl ?_
  refine ev_loc f_X12_write (nx := 2) rfl rfl rfl rfl ?_
  refine ev_loc f_X12_write (nx := 3) rfl rfl rfl rfl ?_
  refine ev_inV3 f_X12_write (nx := 6) (lo2 := [(0, .ref 69), (1, .int ar1), (2, .int ar2)]) rfl rfl rfl rfl f_X12_wrongPlace (hI.wf.s rfl) rfl rfl rfl rfl rfl ?_
  refine ev_loc f_X12_wrongPlace (nx := 1) rfl rfl rfl rfl ?_
  refine ev_inS1 f_X12_wrongPlace (nx := 4) (lo2 := [(0, .int ar1)]) rfl rfl rfl rfl f_X12_isTray rfl rfl rfl rfl ?_
  refine ev_loc f_X12_isTray (nx := 1) rfl rfl rfl rfl ?_
  refine ev_t f_X12_isTray (t1 := 13) (t2 := 4) rfl rfl rfl (t_ltT u_a1 (by decide : (0:Int) ≤ (0:Int32).toInt) (by decide)) ?_
  refine ev_ic f_X12_isTray (nx := 14) (v := 0) rfl (by decide) rfl ?_
  refine ev_retK1 f_X12_isTray rfl rfl rfl ?_
  refine ev_t f_X12_wrongPlace (t1 := 7) (t2 := 11) rfl rfl rfl (by decide) ?_
  refine ev_ic f_X12_wrongPlace (nx := 8) (v := 1) rfl (by decide) rfl ?_
  refine ev_jmp f_X12_wrongPlace (nx := 44) rfl rfl rfl ?_
  refine ev_retK1 f_X12_wrongPlace rfl rfl rfl ?_
  refine ev_loc f_X12_write (nx := 8) (lo' := [(5, .int 1), (0, .ref 69), (1, .int ar1), (2, .int ar2), (3, .long ar3)]) rfl rfl rfl rfl ?_
  refine ev_loc f_X12_write (nx := 10) rfl rfl rfl rfl ?_
  refine ev_f f_X12_write (t1 := 13) (t2 := 34) rfl rfl rfl (by decide) ?_
  refine ev_loc f_X12_write (nx := 35) rfl rfl rfl rfl ?_
  refine ev_loc f_X12_write (nx := 37) rfl rfl rfl rfl ?_
  refine ev_inV2 f_X12_write (nx := 40) (lo2 := [(0, .ref 69), (1, .int 1)]) rfl rfl rfl rfl f_X12_is (hI.wf.s rfl) rfl rfl rfl rfl rfl ?_
  refine ev_loc f_X12_is (nx := 1) rfl rfl rfl rfl ?_
  refine ev_loc f_X12_is (nx := 2) rfl rfl rfl rfl ?_
  refine ev_putIT f_X12_is (nx := 5) rfl (hI.wf.s rfl) rfl rfl rfl (hI.put0 (hI.wf.s rfl) rfl rfl) (hX.upI rfl) (fun g1 e1 hI hX => ?_)
  refine ev_loc f_X12_is (nx := 6) rfl rfl rfl rfl ?_
  refine ev_f f_X12_is (t1 := 9) (t2 := 13) rfl rfl rfl (by decide) ?_
  refine ev_ic f_X12_is (nx := 14) (v := 0) rfl (by decide) rfl ?_
  refine ev_retK1 f_X12_is rfl rfl rfl ?_
  exact ev_ret f_X12_write rfl rfl rfl ⟨_, _, _, rfl, hI, hX, ⟨_, rfl, (by decide : (0:Int) ≤ (0:Int32).toInt), (by decide : (0:Int32).toInt ≤ (0:Int)), (show (0 : Int) = 0 from (by omega))⟩⟩
noncomputable def wl_h_pour_fl : List (Nat × Nat) := [(0, 0)]
noncomputable def Q_h_pour_fl (gi : Nat → Nat → Int32) (gl : Nat → Nat → Int64) (gr : Nat → Nat → Value) (ar1 : Int32) (ar2 : Int32) (ar3 : Int32) (ar4 : Int32) (ar5 : Int32) : Int32 → (Nat → Nat → Int32) → (Nat → Nat → Int64) → (Nat → Nat → Value) → Prop := fun (v : Int32) (gi2 : Nat → Nat → Int32) (gl2 : Nat → Nat → Int64) (gr2 : Nat → Nat → Value) => v.toInt = 0
theorem c_h_pour_fl {X : x_Ext} {d : Nat} {sh : List (Nat ⊕ (Nat × Nat))} {gi : Nat → Nat → Int32} {gl : Nat → Nat → Int64} {gr : Nat → Nat → Value} (hI : t_I sh gi gr) (ar1 : Int32) (u_a1 : ar1.toInt ≤ (-1)) (ar2 : Int32) (ar3 : Int32) (ar4 : Int32) (ar5 : Int32) : x_Me X (d + 2) n_X11_pour [.ref 0, .int ar1, .int ar2, .int ar3, .int ar4, .int ar5] (sh, gi, gl, gr) (t_PI wl_h_pour_fl sh gi gl gr 0 0 (Q_h_pour_fl gi gl gr ar1 ar2 ar3 ar4 ar5)) := by
  have hX : t_X wl_h_pour_fl sh gi gl gr gi gl gr := t_X.rf
  refine me_i f_X11_pour (hI.wf.s rfl) rfl rfl rfl ?_
  refine ev_loc f_X11_pour (nx := 1) rfl rfl rfl rfl ?_
  refine ev_loc f_X11_pour (nx := 2) rfl rfl rfl rfl ?_
  refine ev_inV2 f_X11_pour (nx := 5) (lo2 := [(0, .ref 0), (1, .int ar1)]) rfl rfl rfl rfl f_X11_isTray (hI.wf.s rfl) rfl rfl rfl rfl rfl ?_
  refine ev_loc f_X11_isTray (nx := 1) rfl rfl rfl rfl ?_
  refine ev_t f_X11_isTray (t1 := 26) (t2 := 4) rfl rfl rfl (t_ltT u_a1 (by decide : (0:Int) ≤ (0:Int32).toInt) (by decide)) ?_
  refine ev_ic f_X11_isTray (nx := 27) (v := 0) rfl (by decide) rfl ?_
  refine ev_retK1 f_X11_isTray rfl rfl rfl ?_
  refine ev_t f_X11_pour (t1 := 30) (t2 := 8) rfl rfl rfl (by decide) ?_
  refine ev_loc f_X11_pour (nx := 31) rfl rfl rfl rfl ?_
  refine ev_ic f_X11_pour (nx := 32) (v := 1) rfl (by decide) rfl ?_
  refine ev_inV2 f_X11_pour (nx := 35) (lo2 := [(0, .ref 0), (1, .int 1)]) rfl rfl rfl rfl f_X11_deny (hI.wf.s rfl) rfl rfl rfl rfl rfl ?_
  refine ev_loc f_X11_deny (nx := 1) rfl rfl rfl rfl ?_
  refine ev_loc f_X11_deny (nx := 2) rfl rfl rfl rfl ?_
  refine ev_putIT f_X11_deny (nx := 5) rfl (hI.wf.s rfl) rfl rfl rfl (hI.put0 (hI.wf.s rfl) rfl rfl) (hX.upI rfl) (fun g1 e1 hI hX => ?_)
  refine ev_ic f_X11_deny (nx := 6) (v := 0) rfl (by decide) rfl ?_
  refine ev_retK1 f_X11_deny rfl rfl rfl ?_
  exact ev_ret f_X11_pour rfl rfl rfl ⟨_, _, _, rfl, hI, hX, ⟨_, rfl, (by decide : (0:Int) ≤ (0:Int32).toInt), (by decide : (0:Int32).toInt ≤ (0:Int)), (show (0 : Int) = 0 from (by omega))⟩⟩
noncomputable def wl_m_pour_fl : List (Nat × Nat) := [(69, 2)]
noncomputable def Q_m_pour_fl (gi : Nat → Nat → Int32) (gl : Nat → Nat → Int64) (gr : Nat → Nat → Value) (ar1 : Int32) (ar2 : Int32) (ar3 : Int32) (ar4 : Int32) (ar5 : Int32) : Int32 → (Nat → Nat → Int32) → (Nat → Nat → Int64) → (Nat → Nat → Value) → Prop := fun (v : Int32) (gi2 : Nat → Nat → Int32) (gl2 : Nat → Nat → Int64) (gr2 : Nat → Nat → Value) => v.toInt = 0
theorem c_m_pour_fl {X : x_Ext} {d : Nat} {sh : List (Nat ⊕ (Nat × Nat))} {gi : Nat → Nat → Int32} {gl : Nat → Nat → Int64} {gr : Nat → Nat → Value} (hI : t_I sh gi gr) (ar1 : Int32) (u_a1 : ar1.toInt ≤ (-1)) (ar2 : Int32) (ar3 : Int32) (ar4 : Int32) (ar5 : Int32) : x_Me X (d + 2) n_X12_pour [.ref 69, .int ar1, .int ar2, .int ar3, .int ar4, .int ar5] (sh, gi, gl, gr) (t_PI wl_m_pour_fl sh gi gl gr 0 0 (Q_m_pour_fl gi gl gr ar1 ar2 ar3 ar4 ar5)) := by
  have hX : t_X wl_m_pour_fl sh gi gl gr gi gl gr := t_X.rf
  refine me_i f_X12_pour (hI.wf.s rfl) rfl rfl rfl ?_
  refine ev_loc f_X12_pour (nx := 1) rfl rfl rfl rfl ?_
  refine ev_inS1 f_X12_pour (nx := 4) (lo2 := [(0, .int ar1)]) rfl rfl rfl rfl f_X12_isTray rfl rfl rfl rfl ?_
  refine ev_loc f_X12_isTray (nx := 1) rfl rfl rfl rfl ?_
  refine ev_t f_X12_isTray (t1 := 13) (t2 := 4) rfl rfl rfl (t_ltT u_a1 (by decide : (0:Int) ≤ (0:Int32).toInt) (by decide)) ?_
  refine ev_ic f_X12_isTray (nx := 14) (v := 0) rfl (by decide) rfl ?_
  refine ev_retK1 f_X12_isTray rfl rfl rfl ?_
  refine ev_t f_X12_pour (t1 := 28) (t2 := 7) rfl rfl rfl (by decide) ?_
  refine ev_loc f_X12_pour (nx := 29) rfl rfl rfl rfl ?_
  refine ev_ic f_X12_pour (nx := 30) (v := 1) rfl (by decide) rfl ?_
  refine ev_inV2 f_X12_pour (nx := 33) (lo2 := [(0, .ref 69), (1, .int 1)]) rfl rfl rfl rfl f_X12_is (hI.wf.s rfl) rfl rfl rfl rfl rfl ?_
  refine ev_loc f_X12_is (nx := 1) rfl rfl rfl rfl ?_
  refine ev_loc f_X12_is (nx := 2) rfl rfl rfl rfl ?_
  refine ev_putIT f_X12_is (nx := 5) rfl (hI.wf.s rfl) rfl rfl rfl (hI.put0 (hI.wf.s rfl) rfl rfl) (hX.upI rfl) (fun g1 e1 hI hX => ?_)
  refine ev_loc f_X12_is (nx := 6) rfl rfl rfl rfl ?_
  refine ev_f f_X12_is (t1 := 9) (t2 := 13) rfl rfl rfl (by decide) ?_
  refine ev_ic f_X12_is (nx := 14) (v := 0) rfl (by decide) rfl ?_
  refine ev_retK1 f_X12_is rfl rfl rfl ?_
  exact ev_ret f_X12_pour rfl rfl rfl ⟨_, _, _, rfl, hI, hX, ⟨_, rfl, (by decide : (0:Int) ≤ (0:Int32).toInt), (by decide : (0:Int32).toInt ≤ (0:Int)), (show (0 : Int) = 0 from (by omega))⟩⟩
noncomputable def wl_h_pour_tl : List (Nat × Nat) := [(0, 0)]
noncomputable def Q_h_pour_tl (gi : Nat → Nat → Int32) (gl : Nat → Nat → Int64) (gr : Nat → Nat → Value) (ar1 : Int32) (ar2 : Int32) (ar3 : Int32) (ar4 : Int32) (ar5 : Int32) : Int32 → (Nat → Nat → Int32) → (Nat → Nat → Int64) → (Nat → Nat → Value) → Prop := fun (v : Int32) (gi2 : Nat → Nat → Int32) (gl2 : Nat → Nat → Int64) (gr2 : Nat → Nat → Value) => v.toInt = 0
theorem c_h_pour_tl {X : x_Ext} {d : Nat} {sh : List (Nat ⊕ (Nat × Nat))} {gi : Nat → Nat → Int32} {gl : Nat → Nat → Int64} {gr : Nat → Nat → Value} (hI : t_I sh gi gr) (ar1 : Int32) (ar2 : Int32) (ar3 : Int32) (u_a3 : ar3.toInt ≤ (-1)) (ar4 : Int32) (ar5 : Int32) : x_Me X (d + 2) n_X11_pour [.ref 0, .int ar1, .int ar2, .int ar3, .int ar4, .int ar5] (sh, gi, gl, gr) (t_PI wl_h_pour_tl sh gi gl gr 0 0 (Q_h_pour_tl gi gl gr ar1 ar2 ar3 ar4 ar5)) := by
  have hX : t_X wl_h_pour_tl sh gi gl gr gi gl gr := t_X.rf
  refine me_i f_X11_pour (hI.wf.s rfl) rfl rfl rfl ?_
  refine ev_loc f_X11_pour (nx := 1) rfl rfl rfl rfl ?_
  refine ev_loc f_X11_pour (nx := 2) rfl rfl rfl rfl ?_
  refine ev_inV2 f_X11_pour (nx := 5) (lo2 := [(0, .ref 0), (1, .int ar1)]) rfl rfl rfl rfl f_X11_isTray (hI.wf.s rfl) rfl rfl rfl rfl rfl ?_
  refine ev_loc f_X11_isTray (nx := 1) rfl rfl rfl rfl ?_
  refine ev_if f_X11_isTray (t1 := 26) (t2 := 4) rfl rfl rfl (fun h1 => ?_) (fun h1 => ?_)
  · have u2 : ar1.toInt ≤ (-1) := t_ltu h1 (by decide : (0:Int32).toInt ≤ (0:Int)) rfl
    refine ev_ic f_X11_isTray (nx := 27) (v := 0) rfl (by decide) rfl ?_
    refine ev_retK1 f_X11_isTray rfl rfl rfl ?_
    refine ev_t f_X11_pour (t1 := 30) (t2 := 8) rfl rfl rfl (by decide) ?_
    refine ev_loc f_X11_pour (nx := 31) rfl rfl rfl rfl ?_
    refine ev_ic f_X11_pour (nx := 32) (v := 1) rfl (by decide) rfl ?_
    refine ev_inV2 f_X11_pour (nx := 35) (lo2 := [(0, .ref 0), (1, .int 1)]) rfl rfl rfl rfl f_X11_deny (hI.wf.s rfl) rfl rfl rfl rfl rfl ?_
    refine ev_loc f_X11_deny (nx := 1) rfl rfl rfl rfl ?_
    refine ev_loc f_X11_deny (nx := 2) rfl rfl rfl rfl ?_
    refine ev_putIT f_X11_deny (nx := 5) rfl (hI.wf.s rfl) rfl rfl rfl (hI.put0 (hI.wf.s rfl) rfl rfl) (hX.upI rfl) (fun g3 e3 hI hX => ?_)
    refine ev_ic f_X11_deny (nx := 6) (v := 0) rfl (by decide) rfl ?_
    refine ev_retK1 f_X11_deny rfl rfl rfl ?_
    exact ev_ret f_X11_pour rfl rfl rfl ⟨_, _, _, rfl, hI, hX, ⟨_, rfl, (by decide : (0:Int) ≤ (0:Int32).toInt), (by decide : (0:Int32).toInt ≤ (0:Int)), (show (0 : Int) = 0 from (by omega))⟩⟩
  · have l4 : 0 ≤ ar1.toInt := t_lel (t_nlt h1) (by decide : (0:Int) ≤ (0:Int32).toInt)
    refine ev_loc f_X11_isTray (nx := 5) rfl rfl rfl rfl ?_
    refine ev_loc f_X11_isTray (nx := 6) rfl rfl rfl rfl ?_
    refine ev_getR f_X11_isTray (nx := 9) rfl (hI.wf.s rfl) rfl rfl (hI.wf.r rfl) rfl rfl ?_
    refine ev_alenv f_X11_isTray (nx := 10) (w := 4) rfl (hI.wf.s rfl) rfl (by decide) rfl ?_
    refine ev_if f_X11_isTray (t1 := 26) (t2 := 13) rfl rfl rfl (fun h5 => ?_) (fun h5 => ?_)
    · have l6 : 4 ≤ ar1.toInt := t_lel h5 (by decide : (4:Int) ≤ (4:Int32).toInt)
      refine ev_ic f_X11_isTray (nx := 27) (v := 0) rfl (by decide) rfl ?_
      refine ev_retK1 f_X11_isTray rfl rfl rfl ?_
      refine ev_t f_X11_pour (t1 := 30) (t2 := 8) rfl rfl rfl (by decide) ?_
      refine ev_loc f_X11_pour (nx := 31) rfl rfl rfl rfl ?_
      refine ev_ic f_X11_pour (nx := 32) (v := 1) rfl (by decide) rfl ?_
      refine ev_inV2 f_X11_pour (nx := 35) (lo2 := [(0, .ref 0), (1, .int 1)]) rfl rfl rfl rfl f_X11_deny (hI.wf.s rfl) rfl rfl rfl rfl rfl ?_
      refine ev_loc f_X11_deny (nx := 1) rfl rfl rfl rfl ?_
      refine ev_loc f_X11_deny (nx := 2) rfl rfl rfl rfl ?_
      refine ev_putIT f_X11_deny (nx := 5) rfl (hI.wf.s rfl) rfl rfl rfl (hI.put0 (hI.wf.s rfl) rfl rfl) (hX.upI rfl) (fun g7 e7 hI hX => ?_)
      refine ev_ic f_X11_deny (nx := 6) (v := 0) rfl (by decide) rfl ?_
      refine ev_retK1 f_X11_deny rfl rfl rfl ?_
      exact ev_ret f_X11_pour rfl rfl rfl ⟨_, _, _, rfl, hI, hX, ⟨_, rfl, (by decide : (0:Int) ≤ (0:Int32).toInt), (by decide : (0:Int32).toInt ≤ (0:Int)), (show (0 : Int) = 0 from (by omega))⟩⟩
    · have u8 : ar1.toInt ≤ 3 := t_ltu (t_nle h5) (by decide : (4:Int32).toInt ≤ (4:Int)) rfl
      refine ev_loc f_X11_isTray (nx := 14) rfl rfl rfl rfl ?_
      refine ev_getR f_X11_isTray (nx := 17) rfl (hI.wf.s rfl) rfl rfl (hI.wf.r rfl) rfl rfl ?_
      refine ev_loc f_X11_isTray (nx := 18) rfl rfl rfl rfl ?_
      obtain ⟨a9, e9, p9⟩ := t_tray hI.wf l4 (by decide) u8 (by decide)
      refine ev_aald f_X11_isTray (nx := 19) rfl (hI.wf.s rfl) rfl (t_idx (n := 4) l4 (by decide) u8 (by decide)).1 (t_idx (n := 4) l4 (by decide) u8 (by decide)).2 e9 rfl rfl ?_
      refine ev_jmp f_X11_isTray (nx := 22) rfl rfl rfl ?_
      refine ev_ic f_X11_isTray (nx := 23) (v := 1) rfl (by decide) rfl ?_
      refine ev_jmp f_X11_isTray (nx := 27) rfl rfl rfl ?_
      refine ev_retK1 f_X11_isTray rfl rfl rfl ?_
      refine ev_f f_X11_pour (t1 := 30) (t2 := 8) rfl rfl rfl (by decide) ?_
      refine ev_loc f_X11_pour (nx := 9) rfl rfl rfl rfl ?_
      refine ev_loc f_X11_pour (nx := 10) rfl rfl rfl rfl ?_
      refine ev_inV2 f_X11_pour (nx := 13) (lo2 := [(0, .ref 0), (1, .int ar3)]) rfl rfl rfl rfl f_X11_isTray (hI.wf.s rfl) rfl rfl rfl rfl rfl ?_
      refine ev_loc f_X11_isTray (nx := 1) rfl rfl rfl rfl ?_
      refine ev_t f_X11_isTray (t1 := 26) (t2 := 4) rfl rfl rfl (t_ltT u_a3 (by decide : (0:Int) ≤ (0:Int32).toInt) (by decide)) ?_
      refine ev_ic f_X11_isTray (nx := 27) (v := 0) rfl (by decide) rfl ?_
      refine ev_retK1 f_X11_isTray rfl rfl rfl ?_
      refine ev_t f_X11_pour (t1 := 30) (t2 := 16) rfl rfl rfl (by decide) ?_
      refine ev_loc f_X11_pour (nx := 31) rfl rfl rfl rfl ?_
      refine ev_ic f_X11_pour (nx := 32) (v := 1) rfl (by decide) rfl ?_
      refine ev_inV2 f_X11_pour (nx := 35) (lo2 := [(0, .ref 0), (1, .int 1)]) rfl rfl rfl rfl f_X11_deny (hI.wf.s rfl) rfl rfl rfl rfl rfl ?_
      refine ev_loc f_X11_deny (nx := 1) rfl rfl rfl rfl ?_
      refine ev_loc f_X11_deny (nx := 2) rfl rfl rfl rfl ?_
      refine ev_putIT f_X11_deny (nx := 5) rfl (hI.wf.s rfl) rfl rfl rfl (hI.put0 (hI.wf.s rfl) rfl rfl) (hX.upI rfl) (fun g10 e10 hI hX => ?_)
      refine ev_ic f_X11_deny (nx := 6) (v := 0) rfl (by decide) rfl ?_
      refine ev_retK1 f_X11_deny rfl rfl rfl ?_
      exact ev_ret f_X11_pour rfl rfl rfl ⟨_, _, _, rfl, hI, hX, ⟨_, rfl, (by decide : (0:Int) ≤ (0:Int32).toInt), (by decide : (0:Int32).toInt ≤ (0:Int)), (show (0 : Int) = 0 from (by omega))⟩⟩
noncomputable def wl_m_pour_tl : List (Nat × Nat) := [(69, 2)]
noncomputable def Q_m_pour_tl (gi : Nat → Nat → Int32) (gl : Nat → Nat → Int64) (gr : Nat → Nat → Value) (ar1 : Int32) (ar2 : Int32) (ar3 : Int32) (ar4 : Int32) (ar5 : Int32) : Int32 → (Nat → Nat → Int32) → (Nat → Nat → Int64) → (Nat → Nat → Value) → Prop := fun (v : Int32) (gi2 : Nat → Nat → Int32) (gl2 : Nat → Nat → Int64) (gr2 : Nat → Nat → Value) => v.toInt = 0
theorem c_m_pour_tl {X : x_Ext} {d : Nat} {sh : List (Nat ⊕ (Nat × Nat))} {gi : Nat → Nat → Int32} {gl : Nat → Nat → Int64} {gr : Nat → Nat → Value} (hI : t_I sh gi gr) (ar1 : Int32) (ar2 : Int32) (ar3 : Int32) (u_a3 : ar3.toInt ≤ (-1)) (ar4 : Int32) (ar5 : Int32) : x_Me X (d + 2) n_X12_pour [.ref 69, .int ar1, .int ar2, .int ar3, .int ar4, .int ar5] (sh, gi, gl, gr) (t_PI wl_m_pour_tl sh gi gl gr 0 0 (Q_m_pour_tl gi gl gr ar1 ar2 ar3 ar4 ar5)) := by
  have hX : t_X wl_m_pour_tl sh gi gl gr gi gl gr := t_X.rf
  refine me_i f_X12_pour (hI.wf.s rfl) rfl rfl rfl ?_
  refine ev_loc f_X12_pour (nx := 1) rfl rfl rfl rfl ?_
  refine ev_inS1 f_X12_pour (nx := 4) (lo2 := [(0, .int ar1)]) rfl rfl rfl rfl f_X12_isTray rfl rfl rfl rfl ?_
  refine ev_loc f_X12_isTray (nx := 1) rfl rfl rfl rfl ?_
  refine ev_if f_X12_isTray (t1 := 13) (t2 := 4) rfl rfl rfl (fun h1 => ?_) (fun h1 => ?_)
  · have u2 : ar1.toInt ≤ (-1) := t_ltu h1 (by decide : (0:Int32).toInt ≤ (0:Int)) rfl
    refine ev_ic f_X12_isTray (nx := 14) (v := 0) rfl (by decide) rfl ?_
    refine ev_retK1 f_X12_isTray rfl rfl rfl ?_
    refine ev_t f_X12_pour (t1 := 28) (t2 := 7) rfl rfl rfl (by decide) ?_
    refine ev_loc f_X12_pour (nx := 29) rfl rfl rfl rfl ?_
    refine ev_ic f_X12_pour (nx := 30) (v := 1) rfl (by decide) rfl ?_
    refine ev_inV2 f_X12_pour (nx := 33) (lo2 := [(0, .ref 69), (1, .int 1)]) rfl rfl rfl rfl f_X12_is (hI.wf.s rfl) rfl rfl rfl rfl rfl ?_
    refine ev_loc f_X12_is (nx := 1) rfl rfl rfl rfl ?_
    refine ev_loc f_X12_is (nx := 2) rfl rfl rfl rfl ?_
    refine ev_putIT f_X12_is (nx := 5) rfl (hI.wf.s rfl) rfl rfl rfl (hI.put0 (hI.wf.s rfl) rfl rfl) (hX.upI rfl) (fun g3 e3 hI hX => ?_)
    refine ev_loc f_X12_is (nx := 6) rfl rfl rfl rfl ?_
    refine ev_f f_X12_is (t1 := 9) (t2 := 13) rfl rfl rfl (by decide) ?_
    refine ev_ic f_X12_is (nx := 14) (v := 0) rfl (by decide) rfl ?_
    refine ev_retK1 f_X12_is rfl rfl rfl ?_
    exact ev_ret f_X12_pour rfl rfl rfl ⟨_, _, _, rfl, hI, hX, ⟨_, rfl, (by decide : (0:Int) ≤ (0:Int32).toInt), (by decide : (0:Int32).toInt ≤ (0:Int)), (show (0 : Int) = 0 from (by omega))⟩⟩
  · have l4 : 0 ≤ ar1.toInt := t_lel (t_nlt h1) (by decide : (0:Int) ≤ (0:Int32).toInt)
    refine ev_loc f_X12_isTray (nx := 5) rfl rfl rfl rfl ?_
    refine ev_ic f_X12_isTray (nx := 6) (v := 4) rfl (by decide) rfl ?_
    refine ev_if f_X12_isTray (t1 := 13) (t2 := 9) rfl rfl rfl (fun h5 => ?_) (fun h5 => ?_)
    · have l6 : 4 ≤ ar1.toInt := t_lel h5 (by decide : (4:Int) ≤ (4:Int32).toInt)
      refine ev_ic f_X12_isTray (nx := 14) (v := 0) rfl (by decide) rfl ?_
      refine ev_retK1 f_X12_isTray rfl rfl rfl ?_
      refine ev_t f_X12_pour (t1 := 28) (t2 := 7) rfl rfl rfl (by decide) ?_
      refine ev_loc f_X12_pour (nx := 29) rfl rfl rfl rfl ?_
      refine ev_ic f_X12_pour (nx := 30) (v := 1) rfl (by decide) rfl ?_
      refine ev_inV2 f_X12_pour (nx := 33) (lo2 := [(0, .ref 69), (1, .int 1)]) rfl rfl rfl rfl f_X12_is (hI.wf.s rfl) rfl rfl rfl rfl rfl ?_
      refine ev_loc f_X12_is (nx := 1) rfl rfl rfl rfl ?_
      refine ev_loc f_X12_is (nx := 2) rfl rfl rfl rfl ?_
      refine ev_putIT f_X12_is (nx := 5) rfl (hI.wf.s rfl) rfl rfl rfl (hI.put0 (hI.wf.s rfl) rfl rfl) (hX.upI rfl) (fun g7 e7 hI hX => ?_)
      refine ev_loc f_X12_is (nx := 6) rfl rfl rfl rfl ?_
      refine ev_f f_X12_is (t1 := 9) (t2 := 13) rfl rfl rfl (by decide) ?_
      refine ev_ic f_X12_is (nx := 14) (v := 0) rfl (by decide) rfl ?_
      refine ev_retK1 f_X12_is rfl rfl rfl ?_
      exact ev_ret f_X12_pour rfl rfl rfl ⟨_, _, _, rfl, hI, hX, ⟨_, rfl, (by decide : (0:Int) ≤ (0:Int32).toInt), (by decide : (0:Int32).toInt ≤ (0:Int)), (show (0 : Int) = 0 from (by omega))⟩⟩
    · have u8 : ar1.toInt ≤ 3 := t_ltu (t_nle h5) (by decide : (4:Int32).toInt ≤ (4:Int)) rfl
      refine ev_ic f_X12_isTray (nx := 10) (v := 1) rfl (by decide) rfl ?_
      refine ev_jmp f_X12_isTray (nx := 14) rfl rfl rfl ?_
      refine ev_retK1 f_X12_isTray rfl rfl rfl ?_
      refine ev_f f_X12_pour (t1 := 28) (t2 := 7) rfl rfl rfl (by decide) ?_
      refine ev_loc f_X12_pour (nx := 8) rfl rfl rfl rfl ?_
      refine ev_inS1 f_X12_pour (nx := 11) (lo2 := [(0, .int ar3)]) rfl rfl rfl rfl f_X12_isTray rfl rfl rfl rfl ?_
      refine ev_loc f_X12_isTray (nx := 1) rfl rfl rfl rfl ?_
      refine ev_t f_X12_isTray (t1 := 13) (t2 := 4) rfl rfl rfl (t_ltT u_a3 (by decide : (0:Int) ≤ (0:Int32).toInt) (by decide)) ?_
      refine ev_ic f_X12_isTray (nx := 14) (v := 0) rfl (by decide) rfl ?_
      refine ev_retK1 f_X12_isTray rfl rfl rfl ?_
      refine ev_t f_X12_pour (t1 := 28) (t2 := 14) rfl rfl rfl (by decide) ?_
      refine ev_loc f_X12_pour (nx := 29) rfl rfl rfl rfl ?_
      refine ev_ic f_X12_pour (nx := 30) (v := 1) rfl (by decide) rfl ?_
      refine ev_inV2 f_X12_pour (nx := 33) (lo2 := [(0, .ref 69), (1, .int 1)]) rfl rfl rfl rfl f_X12_is (hI.wf.s rfl) rfl rfl rfl rfl rfl ?_
      refine ev_loc f_X12_is (nx := 1) rfl rfl rfl rfl ?_
      refine ev_loc f_X12_is (nx := 2) rfl rfl rfl rfl ?_
      refine ev_putIT f_X12_is (nx := 5) rfl (hI.wf.s rfl) rfl rfl rfl (hI.put0 (hI.wf.s rfl) rfl rfl) (hX.upI rfl) (fun g9 e9 hI hX => ?_)
      refine ev_loc f_X12_is (nx := 6) rfl rfl rfl rfl ?_
      refine ev_f f_X12_is (t1 := 9) (t2 := 13) rfl rfl rfl (by decide) ?_
      refine ev_ic f_X12_is (nx := 14) (v := 0) rfl (by decide) rfl ?_
      refine ev_retK1 f_X12_is rfl rfl rfl ?_
      exact ev_ret f_X12_pour rfl rfl rfl ⟨_, _, _, rfl, hI, hX, ⟨_, rfl, (by decide : (0:Int) ≤ (0:Int32).toInt), (by decide : (0:Int32).toInt ≤ (0:Int)), (show (0 : Int) = 0 from (by omega))⟩⟩
noncomputable def wl_h_tray_h : List (Nat × Nat) := [(0, 0)]
noncomputable def Q_h_tray_h (gi : Nat → Nat → Int32) (gl : Nat → Nat → Int64) (gr : Nat → Nat → Value) (ar1 : Int32) (ar2 : Int32) (ar3 : Int32) : Int32 → (Nat → Nat → Int32) → (Nat → Nat → Int64) → (Nat → Nat → Value) → Prop := fun (v : Int32) (gi2 : Nat → Nat → Int32) (gl2 : Nat → Nat → Int64) (gr2 : Nat → Nat → Value) => v.toInt = 0
theorem c_h_tray_h {X : x_Ext} {d : Nat} {sh : List (Nat ⊕ (Nat × Nat))} {gi : Nat → Nat → Int32} {gl : Nat → Nat → Int64} {gr : Nat → Nat → Value} (hI : t_I sh gi gr) (ar1 : Int32) (l_a1 : 4 ≤ ar1.toInt) (ar2 : Int32) (ar3 : Int32) : x_Me X (d + 2) n_X11_tray [.ref 0, .int ar1, .int ar2, .int ar3] (sh, gi, gl, gr) (t_PI wl_h_tray_h sh gi gl gr 0 0 (Q_h_tray_h gi gl gr ar1 ar2 ar3)) := by
  have hX : t_X wl_h_tray_h sh gi gl gr gi gl gr := t_X.rf
  refine me_i f_X11_tray (hI.wf.s rfl) rfl rfl rfl ?_
  refine ev_loc f_X11_tray (nx := 1) rfl rfl rfl rfl ?_
  refine ev_loc f_X11_tray (nx := 2) rfl rfl rfl rfl ?_
  refine ev_inV2 f_X11_tray (nx := 5) (lo2 := [(0, .ref 0), (1, .int ar1)]) rfl rfl rfl rfl f_X11_isTray (hI.wf.s rfl) rfl rfl rfl rfl rfl ?_
  refine ev_loc f_X11_isTray (nx := 1) rfl rfl rfl rfl ?_
  refine ev_f f_X11_isTray (t1 := 26) (t2 := 4) rfl rfl rfl (t_ltF (by decide : (0:Int32).toInt ≤ (0:Int)) l_a1 (by decide)) ?_
  refine ev_loc f_X11_isTray (nx := 5) rfl rfl rfl rfl ?_
  refine ev_loc f_X11_isTray (nx := 6) rfl rfl rfl rfl ?_
  refine ev_getR f_X11_isTray (nx := 9) rfl (hI.wf.s rfl) rfl rfl (hI.wf.r rfl) rfl rfl ?_
  refine ev_alenv f_X11_isTray (nx := 10) (w := 4) rfl (hI.wf.s rfl) rfl (by decide) rfl ?_
  refine ev_t f_X11_isTray (t1 := 26) (t2 := 13) rfl rfl rfl (t_leT (by decide : (4:Int32).toInt ≤ (4:Int)) l_a1 (by decide)) ?_
  refine ev_ic f_X11_isTray (nx := 27) (v := 0) rfl (by decide) rfl ?_
  refine ev_retK1 f_X11_isTray rfl rfl rfl ?_
  refine ev_t f_X11_tray (t1 := 27) (t2 := 8) rfl rfl rfl (by decide) ?_
  refine ev_loc f_X11_tray (nx := 28) rfl rfl rfl rfl ?_
  refine ev_ic f_X11_tray (nx := 29) (v := 1) rfl (by decide) rfl ?_
  refine ev_inV2 f_X11_tray (nx := 32) (lo2 := [(0, .ref 0), (1, .int 1)]) rfl rfl rfl rfl f_X11_deny (hI.wf.s rfl) rfl rfl rfl rfl rfl ?_
  refine ev_loc f_X11_deny (nx := 1) rfl rfl rfl rfl ?_
  refine ev_loc f_X11_deny (nx := 2) rfl rfl rfl rfl ?_
  refine ev_putIT f_X11_deny (nx := 5) rfl (hI.wf.s rfl) rfl rfl rfl (hI.put0 (hI.wf.s rfl) rfl rfl) (hX.upI rfl) (fun g1 e1 hI hX => ?_)
  refine ev_ic f_X11_deny (nx := 6) (v := 0) rfl (by decide) rfl ?_
  refine ev_retK1 f_X11_deny rfl rfl rfl ?_
  exact ev_ret f_X11_tray rfl rfl rfl ⟨_, _, _, rfl, hI, hX, ⟨_, rfl, (by decide : (0:Int) ≤ (0:Int32).toInt), (by decide : (0:Int32).toInt ≤ (0:Int)), (show (0 : Int) = 0 from (by omega))⟩⟩
noncomputable def wl_m_tray_h : List (Nat × Nat) := [(69, 2)]
noncomputable def Q_m_tray_h (gi : Nat → Nat → Int32) (gl : Nat → Nat → Int64) (gr : Nat → Nat → Value) (ar1 : Int32) (ar2 : Int32) (ar3 : Int32) : Int32 → (Nat → Nat → Int32) → (Nat → Nat → Int64) → (Nat → Nat → Value) → Prop := fun (v : Int32) (gi2 : Nat → Nat → Int32) (gl2 : Nat → Nat → Int64) (gr2 : Nat → Nat → Value) => v.toInt = 0
theorem c_m_tray_h {X : x_Ext} {d : Nat} {sh : List (Nat ⊕ (Nat × Nat))} {gi : Nat → Nat → Int32} {gl : Nat → Nat → Int64} {gr : Nat → Nat → Value} (hI : t_I sh gi gr) (ar1 : Int32) (l_a1 : 4 ≤ ar1.toInt) (ar2 : Int32) (ar3 : Int32) : x_Me X (d + 2) n_X12_tray [.ref 69, .int ar1, .int ar2, .int ar3] (sh, gi, gl, gr) (t_PI wl_m_tray_h sh gi gl gr 0 0 (Q_m_tray_h gi gl gr ar1 ar2 ar3)) := by
  have hX : t_X wl_m_tray_h sh gi gl gr gi gl gr := t_X.rf
  refine me_i f_X12_tray (hI.wf.s rfl) rfl rfl rfl ?_
  refine ev_loc f_X12_tray (nx := 1) rfl rfl rfl rfl ?_
  refine ev_inS1 f_X12_tray (nx := 4) (lo2 := [(0, .int ar1)]) rfl rfl rfl rfl f_X12_isTray rfl rfl rfl rfl ?_
  refine ev_loc f_X12_isTray (nx := 1) rfl rfl rfl rfl ?_
  refine ev_f f_X12_isTray (t1 := 13) (t2 := 4) rfl rfl rfl (t_ltF (by decide : (0:Int32).toInt ≤ (0:Int)) l_a1 (by decide)) ?_
  refine ev_loc f_X12_isTray (nx := 5) rfl rfl rfl rfl ?_
  refine ev_ic f_X12_isTray (nx := 6) (v := 4) rfl (by decide) rfl ?_
  refine ev_t f_X12_isTray (t1 := 13) (t2 := 9) rfl rfl rfl (t_leT (by decide : (4:Int32).toInt ≤ (4:Int)) l_a1 (by decide)) ?_
  refine ev_ic f_X12_isTray (nx := 14) (v := 0) rfl (by decide) rfl ?_
  refine ev_retK1 f_X12_isTray rfl rfl rfl ?_
  refine ev_t f_X12_tray (t1 := 26) (t2 := 7) rfl rfl rfl (by decide) ?_
  refine ev_loc f_X12_tray (nx := 27) rfl rfl rfl rfl ?_
  refine ev_ic f_X12_tray (nx := 28) (v := 1) rfl (by decide) rfl ?_
  refine ev_inV2 f_X12_tray (nx := 31) (lo2 := [(0, .ref 69), (1, .int 1)]) rfl rfl rfl rfl f_X12_is (hI.wf.s rfl) rfl rfl rfl rfl rfl ?_
  refine ev_loc f_X12_is (nx := 1) rfl rfl rfl rfl ?_
  refine ev_loc f_X12_is (nx := 2) rfl rfl rfl rfl ?_
  refine ev_putIT f_X12_is (nx := 5) rfl (hI.wf.s rfl) rfl rfl rfl (hI.put0 (hI.wf.s rfl) rfl rfl) (hX.upI rfl) (fun g1 e1 hI hX => ?_)
  refine ev_loc f_X12_is (nx := 6) rfl rfl rfl rfl ?_
  refine ev_f f_X12_is (t1 := 9) (t2 := 13) rfl rfl rfl (by decide) ?_
  refine ev_ic f_X12_is (nx := 14) (v := 0) rfl (by decide) rfl ?_
  refine ev_retK1 f_X12_is rfl rfl rfl ?_
  exact ev_ret f_X12_tray rfl rfl rfl ⟨_, _, _, rfl, hI, hX, ⟨_, rfl, (by decide : (0:Int) ≤ (0:Int32).toInt), (by decide : (0:Int32).toInt ≤ (0:Int)), (show (0 : Int) = 0 from (by omega))⟩⟩
noncomputable def wl_h_write_h : List (Nat × Nat) := [(0, 0)]
noncomputable def Q_h_write_h (gi : Nat → Nat → Int32) (gl : Nat → Nat → Int64) (gr : Nat → Nat → Value) (ar1 : Int32) (ar2 : Int32) (ar3 : Int64) : Int32 → (Nat → Nat → Int32) → (Nat → Nat → Int64) → (Nat → Nat → Value) → Prop := fun (v : Int32) (gi2 : Nat → Nat → Int32) (gl2 : Nat → Nat → Int64) (gr2 : Nat → Nat → Value) => v.toInt = 0
theorem c_h_write_h {X : x_Ext} {d : Nat} {sh : List (Nat ⊕ (Nat × Nat))} {gi : Nat → Nat → Int32} {gl : Nat → Nat → Int64} {gr : Nat → Nat → Value} (hI : t_I sh gi gr) (ar1 : Int32) (l_a1 : 4 ≤ ar1.toInt) (ar2 : Int32) (ar3 : Int64) : x_Me X (d + 3) n_X11_write [.ref 0, .int ar1, .int ar2, .long ar3] (sh, gi, gl, gr) (t_PI wl_h_write_h sh gi gl gr 0 0 (Q_h_write_h gi gl gr ar1 ar2 ar3)) := by
  have hX : t_X wl_h_write_h sh gi gl gr gi gl gr := t_X.rf
  refine me_i f_X11_write (hI.wf.s rfl) rfl rfl rfl ?_
  refine ev_loc f_X11_write (nx := 1) rfl rfl rfl rfl ?_
  refine ev_loc f_X11_write (nx := 2) rfl rfl rfl rfl ?_
  refine ev_loc f_X11_write (nx := 3) rfl rfl rfl rfl ?_
  refine ev_inV3 f_X11_write (nx := 6) (lo2 := [(0, .ref 0), (1, .int ar1), (2, .int ar2)]) rfl rfl rfl rfl f_X11_wrongPlace (hI.wf.s rfl) rfl rfl rfl rfl rfl ?_
  refine ev_loc f_X11_wrongPlace (nx := 1) rfl rfl rfl rfl ?_
  refine ev_loc f_X11_wrongPlace (nx := 2) rfl rfl rfl rfl ?_
  refine ev_inV2 f_X11_wrongPlace (nx := 5) (lo2 := [(0, .ref 0), (1, .int ar1)]) rfl rfl rfl rfl f_X11_isTray (hI.wf.s rfl) rfl rfl rfl rfl rfl ?_
  refine ev_loc f_X11_isTray (nx := 1) rfl rfl rfl rfl ?_
  refine ev_f f_X11_isTray (t1 := 26) (t2 := 4) rfl rfl rfl (t_ltF (by decide : (0:Int32).toInt ≤ (0:Int)) l_a1 (by decide)) ?_
  refine ev_loc f_X11_isTray (nx := 5) rfl rfl rfl rfl ?_
  refine ev_loc f_X11_isTray (nx := 6) rfl rfl rfl rfl ?_
  refine ev_getR f_X11_isTray (nx := 9) rfl (hI.wf.s rfl) rfl rfl (hI.wf.r rfl) rfl rfl ?_
  refine ev_alenv f_X11_isTray (nx := 10) (w := 4) rfl (hI.wf.s rfl) rfl (by decide) rfl ?_
  refine ev_t f_X11_isTray (t1 := 26) (t2 := 13) rfl rfl rfl (t_leT (by decide : (4:Int32).toInt ≤ (4:Int)) l_a1 (by decide)) ?_
  refine ev_ic f_X11_isTray (nx := 27) (v := 0) rfl (by decide) rfl ?_
  refine ev_retK1 f_X11_isTray rfl rfl rfl ?_
  refine ev_t f_X11_wrongPlace (t1 := 8) (t2 := 10) rfl rfl rfl (by decide) ?_
  refine ev_ic f_X11_wrongPlace (nx := 9) (v := 1) rfl (by decide) rfl ?_
  refine ev_retK1 f_X11_wrongPlace rfl rfl rfl ?_
  refine ev_loc f_X11_write (nx := 8) (lo' := [(5, .int 1), (0, .ref 0), (1, .int ar1), (2, .int ar2), (3, .long ar3)]) rfl rfl rfl rfl ?_
  refine ev_loc f_X11_write (nx := 10) rfl rfl rfl rfl ?_
  refine ev_f f_X11_write (t1 := 20) (t2 := 13) rfl rfl rfl (by decide) ?_
  refine ev_loc f_X11_write (nx := 14) rfl rfl rfl rfl ?_
  refine ev_loc f_X11_write (nx := 16) rfl rfl rfl rfl ?_
  refine ev_inV2 f_X11_write (nx := 19) (lo2 := [(0, .ref 0), (1, .int 1)]) rfl rfl rfl rfl f_X11_deny (hI.wf.s rfl) rfl rfl rfl rfl rfl ?_
  refine ev_loc f_X11_deny (nx := 1) rfl rfl rfl rfl ?_
  refine ev_loc f_X11_deny (nx := 2) rfl rfl rfl rfl ?_
  refine ev_putIT f_X11_deny (nx := 5) rfl (hI.wf.s rfl) rfl rfl rfl (hI.put0 (hI.wf.s rfl) rfl rfl) (hX.upI rfl) (fun g1 e1 hI hX => ?_)
  refine ev_ic f_X11_deny (nx := 6) (v := 0) rfl (by decide) rfl ?_
  refine ev_retK1 f_X11_deny rfl rfl rfl ?_
  exact ev_ret f_X11_write rfl rfl rfl ⟨_, _, _, rfl, hI, hX, ⟨_, rfl, (by decide : (0:Int) ≤ (0:Int32).toInt), (by decide : (0:Int32).toInt ≤ (0:Int)), (show (0 : Int) = 0 from (by omega))⟩⟩
noncomputable def wl_m_write_h : List (Nat × Nat) := [(69, 2)]
noncomputable def Q_m_write_h (gi : Nat → Nat → Int32) (gl : Nat → Nat → Int64) (gr : Nat → Nat → Value) (ar1 : Int32) (ar2 : Int32) (ar3 : Int64) : Int32 → (Nat → Nat → Int32) → (Nat → Nat → Int64) → (Nat → Nat → Value) → Prop := fun (v : Int32) (gi2 : Nat → Nat → Int32) (gl2 : Nat → Nat → Int64) (gr2 : Nat → Nat → Value) => v.toInt = 0
theorem c_m_write_h {X : x_Ext} {d : Nat} {sh : List (Nat ⊕ (Nat × Nat))} {gi : Nat → Nat → Int32} {gl : Nat → Nat → Int64} {gr : Nat → Nat → Value} (hI : t_I sh gi gr) (ar1 : Int32) (l_a1 : 4 ≤ ar1.toInt) (ar2 : Int32) (ar3 : Int64) : x_Me X (d + 3) n_X12_write [.ref 69, .int ar1, .int ar2, .long ar3] (sh, gi, gl, gr) (t_PI wl_m_write_h sh gi gl gr 0 0 (Q_m_write_h gi gl gr ar1 ar2 ar3)) := by
  have hX : t_X wl_m_write_h sh gi gl gr gi gl gr := t_X.rf
  refine me_i f_X12_write (hI.wf.s rfl) rfl rfl rfl ?_
  refine ev_loc f_X12_write (nx := 1) rfl rfl rfl rfl ?_
  refine ev_loc f_X12_write (nx := 2) rfl rfl rfl rfl ?_
  refine ev_loc f_X12_write (nx := 3) rfl rfl rfl rfl ?_
  refine ev_inV3 f_X12_write (nx := 6) (lo2 := [(0, .ref 69), (1, .int ar1), (2, .int ar2)]) rfl rfl rfl rfl f_X12_wrongPlace (hI.wf.s rfl) rfl rfl rfl rfl rfl ?_
  refine ev_loc f_X12_wrongPlace (nx := 1) rfl rfl rfl rfl ?_
  refine ev_inS1 f_X12_wrongPlace (nx := 4) (lo2 := [(0, .int ar1)]) rfl rfl rfl rfl f_X12_isTray rfl rfl rfl rfl ?_
  refine ev_loc f_X12_isTray (nx := 1) rfl rfl rfl rfl ?_
  refine ev_f f_X12_isTray (t1 := 13) (t2 := 4) rfl rfl rfl (t_ltF (by decide : (0:Int32).toInt ≤ (0:Int)) l_a1 (by decide)) ?_
  refine ev_loc f_X12_isTray (nx := 5) rfl rfl rfl rfl ?_
  refine ev_ic f_X12_isTray (nx := 6) (v := 4) rfl (by decide) rfl ?_
  refine ev_t f_X12_isTray (t1 := 13) (t2 := 9) rfl rfl rfl (t_leT (by decide : (4:Int32).toInt ≤ (4:Int)) l_a1 (by decide)) ?_
  refine ev_ic f_X12_isTray (nx := 14) (v := 0) rfl (by decide) rfl ?_
  refine ev_retK1 f_X12_isTray rfl rfl rfl ?_
  refine ev_t f_X12_wrongPlace (t1 := 7) (t2 := 11) rfl rfl rfl (by decide) ?_
  refine ev_ic f_X12_wrongPlace (nx := 8) (v := 1) rfl (by decide) rfl ?_
  refine ev_jmp f_X12_wrongPlace (nx := 44) rfl rfl rfl ?_
  refine ev_retK1 f_X12_wrongPlace rfl rfl rfl ?_
  refine ev_loc f_X12_write (nx := 8) (lo' := [(5, .int 1), (0, .ref 69), (1, .int ar1), (2, .int ar2), (3, .long ar3)]) rfl rfl rfl rfl ?_
  refine ev_loc f_X12_write (nx := 10) rfl rfl rfl rfl ?_
  refine ev_f f_X12_write (t1 := 13) (t2 := 34) rfl rfl rfl (by decide) ?_
  refine ev_loc f_X12_write (nx := 35) rfl rfl rfl rfl ?_
  refine ev_loc f_X12_write (nx := 37) rfl rfl rfl rfl ?_
  refine ev_inV2 f_X12_write (nx := 40) (lo2 := [(0, .ref 69), (1, .int 1)]) rfl rfl rfl rfl f_X12_is (hI.wf.s rfl) rfl rfl rfl rfl rfl ?_
  refine ev_loc f_X12_is (nx := 1) rfl rfl rfl rfl ?_
  refine ev_loc f_X12_is (nx := 2) rfl rfl rfl rfl ?_
  refine ev_putIT f_X12_is (nx := 5) rfl (hI.wf.s rfl) rfl rfl rfl (hI.put0 (hI.wf.s rfl) rfl rfl) (hX.upI rfl) (fun g1 e1 hI hX => ?_)
  refine ev_loc f_X12_is (nx := 6) rfl rfl rfl rfl ?_
  refine ev_f f_X12_is (t1 := 9) (t2 := 13) rfl rfl rfl (by decide) ?_
  refine ev_ic f_X12_is (nx := 14) (v := 0) rfl (by decide) rfl ?_
  refine ev_retK1 f_X12_is rfl rfl rfl ?_
  exact ev_ret f_X12_write rfl rfl rfl ⟨_, _, _, rfl, hI, hX, ⟨_, rfl, (by decide : (0:Int) ≤ (0:Int32).toInt), (by decide : (0:Int32).toInt ≤ (0:Int)), (show (0 : Int) = 0 from (by omega))⟩⟩
noncomputable def wl_h_pour_fh : List (Nat × Nat) := [(0, 0)]
noncomputable def Q_h_pour_fh (gi : Nat → Nat → Int32) (gl : Nat → Nat → Int64) (gr : Nat → Nat → Value) (ar1 : Int32) (ar2 : Int32) (ar3 : Int32) (ar4 : Int32) (ar5 : Int32) : Int32 → (Nat → Nat → Int32) → (Nat → Nat → Int64) → (Nat → Nat → Value) → Prop := fun (v : Int32) (gi2 : Nat → Nat → Int32) (gl2 : Nat → Nat → Int64) (gr2 : Nat → Nat → Value) => v.toInt = 0
theorem c_h_pour_fh {X : x_Ext} {d : Nat} {sh : List (Nat ⊕ (Nat × Nat))} {gi : Nat → Nat → Int32} {gl : Nat → Nat → Int64} {gr : Nat → Nat → Value} (hI : t_I sh gi gr) (ar1 : Int32) (l_a1 : 4 ≤ ar1.toInt) (ar2 : Int32) (ar3 : Int32) (ar4 : Int32) (ar5 : Int32) : x_Me X (d + 2) n_X11_pour [.ref 0, .int ar1, .int ar2, .int ar3, .int ar4, .int ar5] (sh, gi, gl, gr) (t_PI wl_h_pour_fh sh gi gl gr 0 0 (Q_h_pour_fh gi gl gr ar1 ar2 ar3 ar4 ar5)) := by
  have hX : t_X wl_h_pour_fh sh gi gl gr gi gl gr := t_X.rf
  refine me_i f_X11_pour (hI.wf.s rfl) rfl rfl rfl ?_
  refine ev_loc f_X11_pour (nx := 1) rfl rfl rfl rfl ?_
  refine ev_loc f_X11_pour (nx := 2) rfl rfl rfl rfl ?_
  refine ev_inV2 f_X11_pour (nx := 5) (lo2 := [(0, .ref 0), (1, .int ar1)]) rfl rfl rfl rfl f_X11_isTray (hI.wf.s rfl) rfl rfl rfl rfl rfl ?_
  refine ev_loc f_X11_isTray (nx := 1) rfl rfl rfl rfl ?_
  refine ev_f f_X11_isTray (t1 := 26) (t2 := 4) rfl rfl rfl (t_ltF (by decide : (0:Int32).toInt ≤ (0:Int)) l_a1 (by decide)) ?_
  refine ev_loc f_X11_isTray (nx := 5) rfl rfl rfl rfl ?_
  refine ev_loc f_X11_isTray (nx := 6) rfl rfl rfl rfl ?_
  refine ev_getR f_X11_isTray (nx := 9) rfl (hI.wf.s rfl) rfl rfl (hI.wf.r rfl) rfl rfl ?_
  refine ev_alenv f_X11_isTray (nx := 10) (w := 4) rfl (hI.wf.s rfl) rfl (by decide) rfl ?_
  refine ev_t f_X11_isTray (t1 := 26) (t2 := 13) rfl rfl rfl (t_leT (by decide : (4:Int32).toInt ≤ (4:Int)) l_a1 (by decide)) ?_
  refine ev_ic f_X11_isTray (nx := 27) (v := 0) rfl (by decide) rfl ?_
  refine ev_retK1 f_X11_isTray rfl rfl rfl ?_
  refine ev_t f_X11_pour (t1 := 30) (t2 := 8) rfl rfl rfl (by decide) ?_
  refine ev_loc f_X11_pour (nx := 31) rfl rfl rfl rfl ?_
  refine ev_ic f_X11_pour (nx := 32) (v := 1) rfl (by decide) rfl ?_
  refine ev_inV2 f_X11_pour (nx := 35) (lo2 := [(0, .ref 0), (1, .int 1)]) rfl rfl rfl rfl f_X11_deny (hI.wf.s rfl) rfl rfl rfl rfl rfl ?_
  refine ev_loc f_X11_deny (nx := 1) rfl rfl rfl rfl ?_
  refine ev_loc f_X11_deny (nx := 2) rfl rfl rfl rfl ?_
  refine ev_putIT f_X11_deny (nx := 5) rfl (hI.wf.s rfl) rfl rfl rfl (hI.put0 (hI.wf.s rfl) rfl rfl) (hX.upI rfl) (fun g1 e1 hI hX => ?_)
  refine ev_ic f_X11_deny (nx := 6) (v := 0) rfl (by decide) rfl ?_
  refine ev_retK1 f_X11_deny rfl rfl rfl ?_
  exact ev_ret f_X11_pour rfl rfl rfl ⟨_, _, _, rfl, hI, hX, ⟨_, rfl, (by decide : (0:Int) ≤ (0:Int32).toInt), (by decide : (0:Int32).toInt ≤ (0:Int)), (show (0 : Int) = 0 from (by omega))⟩⟩
noncomputable def wl_m_pour_fh : List (Nat × Nat) := [(69, 2)]
noncomputable def Q_m_pour_fh (gi : Nat → Nat → Int32) (gl : Nat → Nat → Int64) (gr : Nat → Nat → Value) (ar1 : Int32) (ar2 : Int32) (ar3 : Int32) (ar4 : Int32) (ar5 : Int32) : Int32 → (Nat → Nat → Int32) → (Nat → Nat → Int64) → (Nat → Nat → Value) → Prop := fun (v : Int32) (gi2 : Nat → Nat → Int32) (gl2 : Nat → Nat → Int64) (gr2 : Nat → Nat → Value) => v.toInt = 0
theorem c_m_pour_fh {X : x_Ext} {d : Nat} {sh : List (Nat ⊕ (Nat × Nat))} {gi : Nat → Nat → Int32} {gl : Nat → Nat → Int64} {gr : Nat → Nat → Value} (hI : t_I sh gi gr) (ar1 : Int32) (l_a1 : 4 ≤ ar1.toInt) (ar2 : Int32) (ar3 : Int32) (ar4 : Int32) (ar5 : Int32) : x_Me X (d + 2) n_X12_pour [.ref 69, .int ar1, .int ar2, .int ar3, .int ar4, .int ar5] (sh, gi, gl, gr) (t_PI wl_m_pour_fh sh gi gl gr 0 0 (Q_m_pour_fh gi gl gr ar1 ar2 ar3 ar4 ar5)) := by
  have hX : t_X wl_m_pour_fh sh gi gl gr gi gl gr := t_X.rf
  refine me_i f_X12_pour (hI.wf.s rfl) rfl rfl rfl ?_
  refine ev_loc f_X12_pour (nx := 1) rfl rfl rfl rfl ?_
  refine ev_inS1 f_X12_pour (nx := 4) (lo2 := [(0, .int ar1)]) rfl rfl rfl rfl f_X12_isTray rfl rfl rfl rfl ?_
  refine ev_loc f_X12_isTray (nx := 1) rfl rfl rfl rfl ?_
  refine ev_f f_X12_isTray (t1 := 13) (t2 := 4) rfl rfl rfl (t_ltF (by decide : (0:Int32).toInt ≤ (0:Int)) l_a1 (by decide)) ?_
  refine ev_loc f_X12_isTray (nx := 5) rfl rfl rfl rfl ?_
  refine ev_ic f_X12_isTray (nx := 6) (v := 4) rfl (by decide) rfl ?_
  refine ev_t f_X12_isTray (t1 := 13) (t2 := 9) rfl rfl rfl (t_leT (by decide : (4:Int32).toInt ≤ (4:Int)) l_a1 (by decide)) ?_
  refine ev_ic f_X12_isTray (nx := 14) (v := 0) rfl (by decide) rfl ?_
  refine ev_retK1 f_X12_isTray rfl rfl rfl ?_
  refine ev_t f_X12_pour (t1 := 28) (t2 := 7) rfl rfl rfl (by decide) ?_
  refine ev_loc f_X12_pour (nx := 29) rfl rfl rfl rfl ?_
  refine ev_ic f_X12_pour (nx := 30) (v := 1) rfl (by decide) rfl ?_
  refine ev_inV2 f_X12_pour (nx := 33) (lo2 := [(0, .ref 69), (1, .int 1)]) rfl rfl rfl rfl f_X12_is (hI.wf.s rfl) rfl rfl rfl rfl rfl ?_
  refine ev_loc f_X12_is (nx := 1) rfl rfl rfl rfl ?_
  refine ev_loc f_X12_is (nx := 2) rfl rfl rfl rfl ?_
  refine ev_putIT f_X12_is (nx := 5) rfl (hI.wf.s rfl) rfl rfl rfl (hI.put0 (hI.wf.s rfl) rfl rfl) (hX.upI rfl) (fun g1 e1 hI hX => ?_)
  refine ev_loc f_X12_is (nx := 6) rfl rfl rfl rfl ?_
  refine ev_f f_X12_is (t1 := 9) (t2 := 13) rfl rfl rfl (by decide) ?_
  refine ev_ic f_X12_is (nx := 14) (v := 0) rfl (by decide) rfl ?_
  refine ev_retK1 f_X12_is rfl rfl rfl ?_
  exact ev_ret f_X12_pour rfl rfl rfl ⟨_, _, _, rfl, hI, hX, ⟨_, rfl, (by decide : (0:Int) ≤ (0:Int32).toInt), (by decide : (0:Int32).toInt ≤ (0:Int)), (show (0 : Int) = 0 from (by omega))⟩⟩
noncomputable def wl_h_pour_th : List (Nat × Nat) := [(0, 0)]
noncomputable def Q_h_pour_th (gi : Nat → Nat → Int32) (gl : Nat → Nat → Int64) (gr : Nat → Nat → Value) (ar1 : Int32) (ar2 : Int32) (ar3 : Int32) (ar4 : Int32) (ar5 : Int32) : Int32 → (Nat → Nat → Int32) → (Nat → Nat → Int64) → (Nat → Nat → Value) → Prop := fun (v : Int32) (gi2 : Nat → Nat → Int32) (gl2 : Nat → Nat → Int64) (gr2 : Nat → Nat → Value) => v.toInt = 0
theorem c_h_pour_th {X : x_Ext} {d : Nat} {sh : List (Nat ⊕ (Nat × Nat))} {gi : Nat → Nat → Int32} {gl : Nat → Nat → Int64} {gr : Nat → Nat → Value} (hI : t_I sh gi gr) (ar1 : Int32) (ar2 : Int32) (ar3 : Int32) (l_a3 : 4 ≤ ar3.toInt) (ar4 : Int32) (ar5 : Int32) : x_Me X (d + 2) n_X11_pour [.ref 0, .int ar1, .int ar2, .int ar3, .int ar4, .int ar5] (sh, gi, gl, gr) (t_PI wl_h_pour_th sh gi gl gr 0 0 (Q_h_pour_th gi gl gr ar1 ar2 ar3 ar4 ar5)) := by
  have hX : t_X wl_h_pour_th sh gi gl gr gi gl gr := t_X.rf
  refine me_i f_X11_pour (hI.wf.s rfl) rfl rfl rfl ?_
  refine ev_loc f_X11_pour (nx := 1) rfl rfl rfl rfl ?_
  refine ev_loc f_X11_pour (nx := 2) rfl rfl rfl rfl ?_
  refine ev_inV2 f_X11_pour (nx := 5) (lo2 := [(0, .ref 0), (1, .int ar1)]) rfl rfl rfl rfl f_X11_isTray (hI.wf.s rfl) rfl rfl rfl rfl rfl ?_
  refine ev_loc f_X11_isTray (nx := 1) rfl rfl rfl rfl ?_
  refine ev_if f_X11_isTray (t1 := 26) (t2 := 4) rfl rfl rfl (fun h1 => ?_) (fun h1 => ?_)
  · have u2 : ar1.toInt ≤ (-1) := t_ltu h1 (by decide : (0:Int32).toInt ≤ (0:Int)) rfl
    refine ev_ic f_X11_isTray (nx := 27) (v := 0) rfl (by decide) rfl ?_
    refine ev_retK1 f_X11_isTray rfl rfl rfl ?_
    refine ev_t f_X11_pour (t1 := 30) (t2 := 8) rfl rfl rfl (by decide) ?_
    refine ev_loc f_X11_pour (nx := 31) rfl rfl rfl rfl ?_
    refine ev_ic f_X11_pour (nx := 32) (v := 1) rfl (by decide) rfl ?_
    refine ev_inV2 f_X11_pour (nx := 35) (lo2 := [(0, .ref 0), (1, .int 1)]) rfl rfl rfl rfl f_X11_deny (hI.wf.s rfl) rfl rfl rfl rfl rfl ?_
    refine ev_loc f_X11_deny (nx := 1) rfl rfl rfl rfl ?_
    refine ev_loc f_X11_deny (nx := 2) rfl rfl rfl rfl ?_
    refine ev_putIT f_X11_deny (nx := 5) rfl (hI.wf.s rfl) rfl rfl rfl (hI.put0 (hI.wf.s rfl) rfl rfl) (hX.upI rfl) (fun g3 e3 hI hX => ?_)
    refine ev_ic f_X11_deny (nx := 6) (v := 0) rfl (by decide) rfl ?_
    refine ev_retK1 f_X11_deny rfl rfl rfl ?_
    exact ev_ret f_X11_pour rfl rfl rfl ⟨_, _, _, rfl, hI, hX, ⟨_, rfl, (by decide : (0:Int) ≤ (0:Int32).toInt), (by decide : (0:Int32).toInt ≤ (0:Int)), (show (0 : Int) = 0 from (by omega))⟩⟩
  · have l4 : 0 ≤ ar1.toInt := t_lel (t_nlt h1) (by decide : (0:Int) ≤ (0:Int32).toInt)
    refine ev_loc f_X11_isTray (nx := 5) rfl rfl rfl rfl ?_
    refine ev_loc f_X11_isTray (nx := 6) rfl rfl rfl rfl ?_
    refine ev_getR f_X11_isTray (nx := 9) rfl (hI.wf.s rfl) rfl rfl (hI.wf.r rfl) rfl rfl ?_
    refine ev_alenv f_X11_isTray (nx := 10) (w := 4) rfl (hI.wf.s rfl) rfl (by decide) rfl ?_
    refine ev_if f_X11_isTray (t1 := 26) (t2 := 13) rfl rfl rfl (fun h5 => ?_) (fun h5 => ?_)
    · have l6 : 4 ≤ ar1.toInt := t_lel h5 (by decide : (4:Int) ≤ (4:Int32).toInt)
      refine ev_ic f_X11_isTray (nx := 27) (v := 0) rfl (by decide) rfl ?_
      refine ev_retK1 f_X11_isTray rfl rfl rfl ?_
      refine ev_t f_X11_pour (t1 := 30) (t2 := 8) rfl rfl rfl (by decide) ?_
      refine ev_loc f_X11_pour (nx := 31) rfl rfl rfl rfl ?_
      refine ev_ic f_X11_pour (nx := 32) (v := 1) rfl (by decide) rfl ?_
      refine ev_inV2 f_X11_pour (nx := 35) (lo2 := [(0, .ref 0), (1, .int 1)]) rfl rfl rfl rfl f_X11_deny (hI.wf.s rfl) rfl rfl rfl rfl rfl ?_
      refine ev_loc f_X11_deny (nx := 1) rfl rfl rfl rfl ?_
      refine ev_loc f_X11_deny (nx := 2) rfl rfl rfl rfl ?_
      refine ev_putIT f_X11_deny (nx := 5) rfl (hI.wf.s rfl) rfl rfl rfl (hI.put0 (hI.wf.s rfl) rfl rfl) (hX.upI rfl) (fun g7 e7 hI hX => ?_)
      refine ev_ic f_X11_deny (nx := 6) (v := 0) rfl (by decide) rfl ?_
      refine ev_retK1 f_X11_deny rfl rfl rfl ?_
      exact ev_ret f_X11_pour rfl rfl rfl ⟨_, _, _, rfl, hI, hX, ⟨_, rfl, (by decide : (0:Int) ≤ (0:Int32).toInt), (by decide : (0:Int32).toInt ≤ (0:Int)), (show (0 : Int) = 0 from (by omega))⟩⟩
    · have u8 : ar1.toInt ≤ 3 := t_ltu (t_nle h5) (by decide : (4:Int32).toInt ≤ (4:Int)) rfl
      refine ev_loc f_X11_isTray (nx := 14) rfl rfl rfl rfl ?_
      refine ev_getR f_X11_isTray (nx := 17) rfl (hI.wf.s rfl) rfl rfl (hI.wf.r rfl) rfl rfl ?_
      refine ev_loc f_X11_isTray (nx := 18) rfl rfl rfl rfl ?_
      obtain ⟨a9, e9, p9⟩ := t_tray hI.wf l4 (by decide) u8 (by decide)
      refine ev_aald f_X11_isTray (nx := 19) rfl (hI.wf.s rfl) rfl (t_idx (n := 4) l4 (by decide) u8 (by decide)).1 (t_idx (n := 4) l4 (by decide) u8 (by decide)).2 e9 rfl rfl ?_
      refine ev_jmp f_X11_isTray (nx := 22) rfl rfl rfl ?_
      refine ev_ic f_X11_isTray (nx := 23) (v := 1) rfl (by decide) rfl ?_
      refine ev_jmp f_X11_isTray (nx := 27) rfl rfl rfl ?_
      refine ev_retK1 f_X11_isTray rfl rfl rfl ?_
      refine ev_f f_X11_pour (t1 := 30) (t2 := 8) rfl rfl rfl (by decide) ?_
      refine ev_loc f_X11_pour (nx := 9) rfl rfl rfl rfl ?_
      refine ev_loc f_X11_pour (nx := 10) rfl rfl rfl rfl ?_
      refine ev_inV2 f_X11_pour (nx := 13) (lo2 := [(0, .ref 0), (1, .int ar3)]) rfl rfl rfl rfl f_X11_isTray (hI.wf.s rfl) rfl rfl rfl rfl rfl ?_
      refine ev_loc f_X11_isTray (nx := 1) rfl rfl rfl rfl ?_
      refine ev_f f_X11_isTray (t1 := 26) (t2 := 4) rfl rfl rfl (t_ltF (by decide : (0:Int32).toInt ≤ (0:Int)) l_a3 (by decide)) ?_
      refine ev_loc f_X11_isTray (nx := 5) rfl rfl rfl rfl ?_
      refine ev_loc f_X11_isTray (nx := 6) rfl rfl rfl rfl ?_
      refine ev_getR f_X11_isTray (nx := 9) rfl (hI.wf.s rfl) rfl rfl (hI.wf.r rfl) rfl rfl ?_
      refine ev_alenv f_X11_isTray (nx := 10) (w := 4) rfl (hI.wf.s rfl) rfl (by decide) rfl ?_
      refine ev_t f_X11_isTray (t1 := 26) (t2 := 13) rfl rfl rfl (t_leT (by decide : (4:Int32).toInt ≤ (4:Int)) l_a3 (by decide)) ?_
      refine ev_ic f_X11_isTray (nx := 27) (v := 0) rfl (by decide) rfl ?_
      refine ev_retK1 f_X11_isTray rfl rfl rfl ?_
      refine ev_t f_X11_pour (t1 := 30) (t2 := 16) rfl rfl rfl (by decide) ?_
      refine ev_loc f_X11_pour (nx := 31) rfl rfl rfl rfl ?_
      refine ev_ic f_X11_pour (nx := 32) (v := 1) rfl (by decide) rfl ?_
      refine ev_inV2 f_X11_pour (nx := 35) (lo2 := [(0, .ref 0), (1, .int 1)]) rfl rfl rfl rfl f_X11_deny (hI.wf.s rfl) rfl rfl rfl rfl rfl ?_
      refine ev_loc f_X11_deny (nx := 1) rfl rfl rfl rfl ?_
      refine ev_loc f_X11_deny (nx := 2) rfl rfl rfl rfl ?_
      refine ev_putIT f_X11_deny (nx := 5) rfl (hI.wf.s rfl) rfl rfl rfl (hI.put0 (hI.wf.s rfl) rfl rfl) (hX.upI rfl) (fun g10 e10 hI hX => ?_)
      refine ev_ic f_X11_deny (nx := 6) (v := 0) rfl (by decide) rfl ?_
      refine ev_retK1 f_X11_deny rfl rfl rfl ?_
      exact ev_ret f_X11_pour rfl rfl rfl ⟨_, _, _, rfl, hI, hX, ⟨_, rfl, (by decide : (0:Int) ≤ (0:Int32).toInt), (by decide : (0:Int32).toInt ≤ (0:Int)), (show (0 : Int) = 0 from (by omega))⟩⟩
noncomputable def wl_m_pour_th : List (Nat × Nat) := [(69, 2)]
noncomputable def Q_m_pour_th (gi : Nat → Nat → Int32) (gl : Nat → Nat → Int64) (gr : Nat → Nat → Value) (ar1 : Int32) (ar2 : Int32) (ar3 : Int32) (ar4 : Int32) (ar5 : Int32) : Int32 → (Nat → Nat → Int32) → (Nat → Nat → Int64) → (Nat → Nat → Value) → Prop := fun (v : Int32) (gi2 : Nat → Nat → Int32) (gl2 : Nat → Nat → Int64) (gr2 : Nat → Nat → Value) => v.toInt = 0
theorem c_m_pour_th {X : x_Ext} {d : Nat} {sh : List (Nat ⊕ (Nat × Nat))} {gi : Nat → Nat → Int32} {gl : Nat → Nat → Int64} {gr : Nat → Nat → Value} (hI : t_I sh gi gr) (ar1 : Int32) (ar2 : Int32) (ar3 : Int32) (l_a3 : 4 ≤ ar3.toInt) (ar4 : Int32) (ar5 : Int32) : x_Me X (d + 2) n_X12_pour [.ref 69, .int ar1, .int ar2, .int ar3, .int ar4, .int ar5] (sh, gi, gl, gr) (t_PI wl_m_pour_th sh gi gl gr 0 0 (Q_m_pour_th gi gl gr ar1 ar2 ar3 ar4 ar5)) := by
  have hX : t_X wl_m_pour_th sh gi gl gr gi gl gr := t_X.rf
  refine me_i f_X12_pour (hI.wf.s rfl) rfl rfl rfl ?_
  refine ev_loc f_X12_pour (nx := 1) rfl rfl rfl rfl ?_
  refine ev_inS1 f_X12_pour (nx := 4) (lo2 := [(0, .int ar1)]) rfl rfl rfl rfl f_X12_isTray rfl rfl rfl rfl ?_
  refine ev_loc f_X12_isTray (nx := 1) rfl rfl rfl rfl ?_
  refine ev_if f_X12_isTray (t1 := 13) (t2 := 4) rfl rfl rfl (fun h1 => ?_) (fun h1 => ?_)
  · have u2 : ar1.toInt ≤ (-1) := t_ltu h1 (by decide : (0:Int32).toInt ≤ (0:Int)) rfl
    refine ev_ic f_X12_isTray (nx := 14) (v := 0) rfl (by decide) rfl ?_
    refine ev_retK1 f_X12_isTray rfl rfl rfl ?_
    refine ev_t f_X12_pour (t1 := 28) (t2 := 7) rfl rfl rfl (by decide) ?_
    refine ev_loc f_X12_pour (nx := 29) rfl rfl rfl rfl ?_
    refine ev_ic f_X12_pour (nx := 30) (v := 1) rfl (by decide) rfl ?_
    refine ev_inV2 f_X12_pour (nx := 33) (lo2 := [(0, .ref 69), (1, .int 1)]) rfl rfl rfl rfl f_X12_is (hI.wf.s rfl) rfl rfl rfl rfl rfl ?_
    refine ev_loc f_X12_is (nx := 1) rfl rfl rfl rfl ?_
    refine ev_loc f_X12_is (nx := 2) rfl rfl rfl rfl ?_
    refine ev_putIT f_X12_is (nx := 5) rfl (hI.wf.s rfl) rfl rfl rfl (hI.put0 (hI.wf.s rfl) rfl rfl) (hX.upI rfl) (fun g3 e3 hI hX => ?_)
    refine ev_loc f_X12_is (nx := 6) rfl rfl rfl rfl ?_
    refine ev_f f_X12_is (t1 := 9) (t2 := 13) rfl rfl rfl (by decide) ?_
    refine ev_ic f_X12_is (nx := 14) (v := 0) rfl (by decide) rfl ?_
    refine ev_retK1 f_X12_is rfl rfl rfl ?_
    exact ev_ret f_X12_pour rfl rfl rfl ⟨_, _, _, rfl, hI, hX, ⟨_, rfl, (by decide : (0:Int) ≤ (0:Int32).toInt), (by decide : (0:Int32).toInt ≤ (0:Int)), (show (0 : Int) = 0 from (by omega))⟩⟩
  · have l4 : 0 ≤ ar1.toInt := t_lel (t_nlt h1) (by decide : (0:Int) ≤ (0:Int32).toInt)
    refine ev_loc f_X12_isTray (nx := 5) rfl rfl rfl rfl ?_
    refine ev_ic f_X12_isTray (nx := 6) (v := 4) rfl (by decide) rfl ?_
    refine ev_if f_X12_isTray (t1 := 13) (t2 := 9) rfl rfl rfl (fun h5 => ?_) (fun h5 => ?_)
    · have l6 : 4 ≤ ar1.toInt := t_lel h5 (by decide : (4:Int) ≤ (4:Int32).toInt)
      refine ev_ic f_X12_isTray (nx := 14) (v := 0) rfl (by decide) rfl ?_
      refine ev_retK1 f_X12_isTray rfl rfl rfl ?_
      refine ev_t f_X12_pour (t1 := 28) (t2 := 7) rfl rfl rfl (by decide) ?_
      refine ev_loc f_X12_pour (nx := 29) rfl rfl rfl rfl ?_
      refine ev_ic f_X12_pour (nx := 30) (v := 1) rfl (by decide) rfl ?_
      refine ev_inV2 f_X12_pour (nx := 33) (lo2 := [(0, .ref 69), (1, .int 1)]) rfl rfl rfl rfl f_X12_is (hI.wf.s rfl) rfl rfl rfl rfl rfl ?_
      refine ev_loc f_X12_is (nx := 1) rfl rfl rfl rfl ?_
      refine ev_loc f_X12_is (nx := 2) rfl rfl rfl rfl ?_
      refine ev_putIT f_X12_is (nx := 5) rfl (hI.wf.s rfl) rfl rfl rfl (hI.put0 (hI.wf.s rfl) rfl rfl) (hX.upI rfl) (fun g7 e7 hI hX => ?_)
      refine ev_loc f_X12_is (nx := 6) rfl rfl rfl rfl ?_
      refine ev_f f_X12_is (t1 := 9) (t2 := 13) rfl rfl rfl (by decide) ?_
      refine ev_ic f_X12_is (nx := 14) (v := 0) rfl (by decide) rfl ?_
      refine ev_retK1 f_X12_is rfl rfl rfl ?_
      exact ev_ret f_X12_pour rfl rfl rfl ⟨_, _, _, rfl, hI, hX, ⟨_, rfl, (by decide : (0:Int) ≤ (0:Int32).toInt), (by decide : (0:Int32).toInt ≤ (0:Int)), (show (0 : Int) = 0 from (by omega))⟩⟩
    · have u8 : ar1.toInt ≤ 3 := t_ltu (t_nle h5) (by decide : (4:Int32).toInt ≤ (4:Int)) rfl
      refine ev_ic f_X12_isTray (nx := 10) (v := 1) rfl (by decide) rfl ?_
      refine ev_jmp f_X12_isTray (nx := 14) rfl rfl rfl ?_
      refine ev_retK1 f_X12_isTray rfl rfl rfl ?_
      refine ev_f f_X12_pour (t1 := 28) (t2 := 7) rfl rfl rfl (by decide) ?_
      refine ev_loc f_X12_pour (nx := 8) rfl rfl rfl rfl ?_
      refine ev_inS1 f_X12_pour (nx := 11) (lo2 := [(0, .int ar3)]) rfl rfl rfl rfl f_X12_isTray rfl rfl rfl rfl ?_
      refine ev_loc f_X12_isTray (nx := 1) rfl rfl rfl rfl ?_
      refine ev_f f_X12_isTray (t1 := 13) (t2 := 4) rfl rfl rfl (t_ltF (by decide : (0:Int32).toInt ≤ (0:Int)) l_a3 (by decide)) ?_
      refine ev_loc f_X12_isTray (nx := 5) rfl rfl rfl rfl ?_
      refine ev_ic f_X12_isTray (nx := 6) (v := 4) rfl (by decide) rfl ?_
      refine ev_t f_X12_isTray (t1 := 13) (t2 := 9) rfl rfl rfl (t_leT (by decide : (4:Int32).toInt ≤ (4:Int)) l_a3 (by decide)) ?_
      refine ev_ic f_X12_isTray (nx := 14) (v := 0) rfl (by decide) rfl ?_
      refine ev_retK1 f_X12_isTray rfl rfl rfl ?_
      refine ev_t f_X12_pour (t1 := 28) (t2 := 14) rfl rfl rfl (by decide) ?_
      refine ev_loc f_X12_pour (nx := 29) rfl rfl rfl rfl ?_
      refine ev_ic f_X12_pour (nx := 30) (v := 1) rfl (by decide) rfl ?_
      refine ev_inV2 f_X12_pour (nx := 33) (lo2 := [(0, .ref 69), (1, .int 1)]) rfl rfl rfl rfl f_X12_is (hI.wf.s rfl) rfl rfl rfl rfl rfl ?_
      refine ev_loc f_X12_is (nx := 1) rfl rfl rfl rfl ?_
      refine ev_loc f_X12_is (nx := 2) rfl rfl rfl rfl ?_
      refine ev_putIT f_X12_is (nx := 5) rfl (hI.wf.s rfl) rfl rfl rfl (hI.put0 (hI.wf.s rfl) rfl rfl) (hX.upI rfl) (fun g9 e9 hI hX => ?_)
      refine ev_loc f_X12_is (nx := 6) rfl rfl rfl rfl ?_
      refine ev_f f_X12_is (t1 := 9) (t2 := 13) rfl rfl rfl (by decide) ?_
      refine ev_ic f_X12_is (nx := 14) (v := 0) rfl (by decide) rfl ?_
      refine ev_retK1 f_X12_is rfl rfl rfl ?_
      exact ev_ret f_X12_pour rfl rfl rfl ⟨_, _, _, rfl, hI, hX, ⟨_, rfl, (by decide : (0:Int) ≤ (0:Int32).toInt), (by decide : (0:Int32).toInt ≤ (0:Int)), (show (0 : Int) = 0 from (by omega))⟩⟩
noncomputable def wl_h_write2 : List (Nat × Nat) := [(0, 0), (62, 9999), (64, 9999), (66, 9999), (68, 9999)]
noncomputable def Q_h_write2 (gi : Nat → Nat → Int32) (gl : Nat → Nat → Int64) (gr : Nat → Nat → Value) (ar1 : Int32) (ar2 : Int32) (ar3 : Int64) : Int32 → (Nat → Nat → Int32) → (Nat → Nat → Int64) → (Nat → Nat → Value) → Prop := fun (v : Int32) (gi2 : Nat → Nat → Int32) (gl2 : Nat → Nat → Int64) (gr2 : Nat → Nat → Value) => (0 ≤ v.toInt ∧ v.toInt ≤ 1) ∧ (∀ A R : Nat, gr 1 ar1.toNatClampNeg = .ref A → gr A 0 = .ref R → (0 ≤ ar1.toInt ∧ ar1.toInt ≤ 3) → (v.toInt = 1 ↔ (0 ≤ ar2.toInt ∧ ar2.toInt < (gi A 2).toInt)) ∧ (∀ K j : Nat, K ≠ R → gl2 K j = gl K j) ∧ (∀ j : Nat, gl2 R j = if (0 ≤ ar2.toInt ∧ ar2.toInt < (gi A 2).toInt) ∧ (j : Int) = ar2.toInt then t_cut (gi A 1).toInt ar3 else gl R j))
theorem c_h_write2 {X : x_Ext} {d : Nat} {sh : List (Nat ⊕ (Nat × Nat))} {gi : Nat → Nat → Int32} {gl : Nat → Nat → Int64} {gr : Nat → Nat → Value} (hI : t_I sh gi gr) (ar1 : Int32) (ar2 : Int32) (ar3 : Int64) : x_Me X (d + 3) n_X11_write [.ref 0, .int ar1, .int ar2, .long ar3] (sh, gi, gl, gr) (t_PI wl_h_write2 sh gi gl gr 0 1 (Q_h_write2 gi gl gr ar1 ar2 ar3)) := by
  have hX : t_X wl_h_write2 sh gi gl gr gi gl gr := t_X.rf
  refine me_i f_X11_write (hI.wf.s rfl) rfl rfl rfl ?_
  refine ev_loc f_X11_write (nx := 1) rfl rfl rfl rfl ?_
  refine ev_loc f_X11_write (nx := 2) rfl rfl rfl rfl ?_
  refine ev_loc f_X11_write (nx := 3) rfl rfl rfl rfl ?_
  refine ev_inV3 f_X11_write (nx := 6) (lo2 := [(0, .ref 0), (1, .int ar1), (2, .int ar2)]) rfl rfl rfl rfl f_X11_wrongPlace (hI.wf.s rfl) rfl rfl rfl rfl rfl ?_
  refine ev_loc f_X11_wrongPlace (nx := 1) rfl rfl rfl rfl ?_
  refine ev_loc f_X11_wrongPlace (nx := 2) rfl rfl rfl rfl ?_
  refine ev_inV2 f_X11_wrongPlace (nx := 5) (lo2 := [(0, .ref 0), (1, .int ar1)]) rfl rfl rfl rfl f_X11_isTray (hI.wf.s rfl) rfl rfl rfl rfl rfl ?_
  refine ev_loc f_X11_isTray (nx := 1) rfl rfl rfl rfl ?_
  refine ev_if f_X11_isTray (t1 := 26) (t2 := 4) rfl rfl rfl (fun h1 => ?_) (fun h1 => ?_)
  · have u2 : ar1.toInt ≤ (-1) := t_ltu h1 (by decide : (0:Int32).toInt ≤ (0:Int)) rfl
    refine ev_ic f_X11_isTray (nx := 27) (v := 0) rfl (by decide) rfl ?_
    refine ev_retK1 f_X11_isTray rfl rfl rfl ?_
    refine ev_t f_X11_wrongPlace (t1 := 8) (t2 := 10) rfl rfl rfl (by decide) ?_
    refine ev_ic f_X11_wrongPlace (nx := 9) (v := 1) rfl (by decide) rfl ?_
    refine ev_retK1 f_X11_wrongPlace rfl rfl rfl ?_
    refine ev_loc f_X11_write (nx := 8) (lo' := [(5, .int 1), (0, .ref 0), (1, .int ar1), (2, .int ar2), (3, .long ar3)]) rfl rfl rfl rfl ?_
    refine ev_loc f_X11_write (nx := 10) rfl rfl rfl rfl ?_
    refine ev_f f_X11_write (t1 := 20) (t2 := 13) rfl rfl rfl (by decide) ?_
    refine ev_loc f_X11_write (nx := 14) rfl rfl rfl rfl ?_
    refine ev_loc f_X11_write (nx := 16) rfl rfl rfl rfl ?_
    refine ev_inV2 f_X11_write (nx := 19) (lo2 := [(0, .ref 0), (1, .int 1)]) rfl rfl rfl rfl f_X11_deny (hI.wf.s rfl) rfl rfl rfl rfl rfl ?_
    refine ev_loc f_X11_deny (nx := 1) rfl rfl rfl rfl ?_
    refine ev_loc f_X11_deny (nx := 2) rfl rfl rfl rfl ?_
    refine ev_putIT f_X11_deny (nx := 5) rfl (hI.wf.s rfl) rfl rfl rfl (hI.put0 (hI.wf.s rfl) rfl rfl) (hX.upI rfl) (fun g3 e3 hI hX => ?_)
    refine ev_ic f_X11_deny (nx := 6) (v := 0) rfl (by decide) rfl ?_
    refine ev_retK1 f_X11_deny rfl rfl rfl ?_
    exact ev_ret f_X11_write rfl rfl rfl ⟨_, _, _, rfl, hI, hX, ⟨_, rfl, (by decide : (0:Int) ≤ (0:Int32).toInt), (Int.le_trans (by decide : (0:Int32).toInt ≤ (0:Int)) (by decide : (0:Int) ≤ 1)), (show (0 ≤ (0 : Int) ∧ (0 : Int) ≤ 1) ∧ (∀ A R : Nat, gr 1 ar1.toNatClampNeg = .ref A → gr A 0 = .ref R → (0 ≤ ar1.toInt ∧ ar1.toInt ≤ 3) → ((0 : Int) = 1 ↔ (0 ≤ ar2.toInt ∧ ar2.toInt < (gi A 2).toInt)) ∧ (∀ K j : Nat, K ≠ R → gl K j = gl K j) ∧ (∀ j : Nat, gl R j = if (0 ≤ ar2.toInt ∧ ar2.toInt < (gi A 2).toInt) ∧ (j : Int) = ar2.toInt then t_cut (gi A 1).toInt ar3 else gl R j)) from (by refine ⟨⟨by omega, by omega⟩, fun A R hA hR hi1 => ?_⟩; exact ⟨by omega, fun _ _ _ => rfl, fun j => (if_neg (by omega)).symm⟩))⟩⟩
  · have l4 : 0 ≤ ar1.toInt := t_lel (t_nlt h1) (by decide : (0:Int) ≤ (0:Int32).toInt)
    refine ev_loc f_X11_isTray (nx := 5) rfl rfl rfl rfl ?_
    refine ev_loc f_X11_isTray (nx := 6) rfl rfl rfl rfl ?_
    refine ev_getR f_X11_isTray (nx := 9) rfl (hI.wf.s rfl) rfl rfl (hI.wf.r rfl) rfl rfl ?_
    refine ev_alenv f_X11_isTray (nx := 10) (w := 4) rfl (hI.wf.s rfl) rfl (by decide) rfl ?_
    refine ev_if f_X11_isTray (t1 := 26) (t2 := 13) rfl rfl rfl (fun h5 => ?_) (fun h5 => ?_)
    · have l6 : 4 ≤ ar1.toInt := t_lel h5 (by decide : (4:Int) ≤ (4:Int32).toInt)
      refine ev_ic f_X11_isTray (nx := 27) (v := 0) rfl (by decide) rfl ?_
      refine ev_retK1 f_X11_isTray rfl rfl rfl ?_
      refine ev_t f_X11_wrongPlace (t1 := 8) (t2 := 10) rfl rfl rfl (by decide) ?_
      refine ev_ic f_X11_wrongPlace (nx := 9) (v := 1) rfl (by decide) rfl ?_
      refine ev_retK1 f_X11_wrongPlace rfl rfl rfl ?_
      refine ev_loc f_X11_write (nx := 8) (lo' := [(5, .int 1), (0, .ref 0), (1, .int ar1), (2, .int ar2), (3, .long ar3)]) rfl rfl rfl rfl ?_
      refine ev_loc f_X11_write (nx := 10) rfl rfl rfl rfl ?_
      refine ev_f f_X11_write (t1 := 20) (t2 := 13) rfl rfl rfl (by decide) ?_
      refine ev_loc f_X11_write (nx := 14) rfl rfl rfl rfl ?_
      refine ev_loc f_X11_write (nx := 16) rfl rfl rfl rfl ?_
      refine ev_inV2 f_X11_write (nx := 19) (lo2 := [(0, .ref 0), (1, .int 1)]) rfl rfl rfl rfl f_X11_deny (hI.wf.s rfl) rfl rfl rfl rfl rfl ?_
      refine ev_loc f_X11_deny (nx := 1) rfl rfl rfl rfl ?_
      refine ev_loc f_X11_deny (nx := 2) rfl rfl rfl rfl ?_
      refine ev_putIT f_X11_deny (nx := 5) rfl (hI.wf.s rfl) rfl rfl rfl (hI.put0 (hI.wf.s rfl) rfl rfl) (hX.upI rfl) (fun g7 e7 hI hX => ?_)
      refine ev_ic f_X11_deny (nx := 6) (v := 0) rfl (by decide) rfl ?_
      refine ev_retK1 f_X11_deny rfl rfl rfl ?_
      exact ev_ret f_X11_write rfl rfl rfl ⟨_, _, _, rfl, hI, hX, ⟨_, rfl, (by decide : (0:Int) ≤ (0:Int32).toInt), (Int.le_trans (by decide : (0:Int32).toInt ≤ (0:Int)) (by decide : (0:Int) ≤ 1)), (show (0 ≤ (0 : Int) ∧ (0 : Int) ≤ 1) ∧ (∀ A R : Nat, gr 1 ar1.toNatClampNeg = .ref A → gr A 0 = .ref R → (0 ≤ ar1.toInt ∧ ar1.toInt ≤ 3) → ((0 : Int) = 1 ↔ (0 ≤ ar2.toInt ∧ ar2.toInt < (gi A 2).toInt)) ∧ (∀ K j : Nat, K ≠ R → gl K j = gl K j) ∧ (∀ j : Nat, gl R j = if (0 ≤ ar2.toInt ∧ ar2.toInt < (gi A 2).toInt) ∧ (j : Int) = ar2.toInt then t_cut (gi A 1).toInt ar3 else gl R j)) from (by refine ⟨⟨by omega, by omega⟩, fun A R hA hR hi1 => ?_⟩; exact ⟨by omega, fun _ _ _ => rfl, fun j => (if_neg (by omega)).symm⟩))⟩⟩
    · have u8 : ar1.toInt ≤ 3 := t_ltu (t_nle h5) (by decide : (4:Int32).toInt ≤ (4:Int)) rfl
      refine ev_loc f_X11_isTray (nx := 14) rfl rfl rfl rfl ?_
      refine ev_getR f_X11_isTray (nx := 17) rfl (hI.wf.s rfl) rfl rfl (hI.wf.r rfl) rfl rfl ?_
      refine ev_loc f_X11_isTray (nx := 18) rfl rfl rfl rfl ?_
      obtain ⟨a9, e9, p9⟩ := t_tray hI.wf l4 (by decide) u8 (by decide)
      refine ev_aald f_X11_isTray (nx := 19) rfl (hI.wf.s rfl) rfl (t_idx (n := 4) l4 (by decide) u8 (by decide)).1 (t_idx (n := 4) l4 (by decide) u8 (by decide)).2 e9 rfl rfl ?_
      refine ev_jmp f_X11_isTray (nx := 22) rfl rfl rfl ?_
      refine ev_ic f_X11_isTray (nx := 23) (v := 1) rfl (by decide) rfl ?_
      refine ev_jmp f_X11_isTray (nx := 27) rfl rfl rfl ?_
      refine ev_retK1 f_X11_isTray rfl rfl rfl ?_
      refine ev_f f_X11_wrongPlace (t1 := 8) (t2 := 10) rfl rfl rfl (by decide) ?_
      refine ev_loc f_X11_wrongPlace (nx := 11) rfl rfl rfl rfl ?_
      refine ev_getR f_X11_wrongPlace (nx := 14) rfl (hI.wf.s rfl) rfl rfl (hI.wf.r rfl) rfl rfl ?_
      refine ev_loc f_X11_wrongPlace (nx := 15) rfl rfl rfl rfl ?_
      obtain ⟨a10, e10, p10⟩ := t_tray hI.wf l4 (by decide) u8 (by decide)
      refine ev_aald f_X11_wrongPlace (nx := 16) rfl (hI.wf.s rfl) rfl (t_idx (n := 4) l4 (by decide) u8 (by decide)).1 (t_idx (n := 4) l4 (by decide) u8 (by decide)).2 e10 rfl rfl ?_
      refine ev_inV1 f_X11_wrongPlace (nx := 19) (lo2 := [(0, .ref a10)]) rfl rfl rfl rfl f_X10_isMissing p10.1 rfl rfl rfl rfl rfl ?_
      refine ev_loc f_X10_isMissing (nx := 1) rfl rfl rfl rfl ?_
      refine ev_getI f_X10_isMissing (nx := 4) rfl p10.1 rfl rfl rfl ?_
      obtain ⟨l11, u11⟩ := hI.b p10.1 (t_bdK rfl : t_bd 9 2 = some ((-1), 60))
      refine ev_ic f_X10_isMissing (nx := 5) (v := -1) rfl (by decide) rfl ?_
      refine ev_if f_X10_isMissing (t1 := 8) (t2 := 12) rfl rfl rfl (fun h12 => ?_) (fun h12 => ?_)
      · have u13 : (gi a10 2).toInt ≤ (-1) := t_equ h12 (by decide : ((-1):Int32).toInt ≤ ((-1):Int))
        refine ev_ic f_X10_isMissing (nx := 9) (v := 1) rfl (by decide) rfl ?_
        refine ev_jmp f_X10_isMissing (nx := 13) rfl rfl rfl ?_
        refine ev_retK1 f_X10_isMissing rfl rfl rfl ?_
        refine ev_f f_X11_wrongPlace (t1 := 24) (t2 := 22) rfl rfl rfl (by decide) ?_
        refine ev_ic f_X11_wrongPlace (nx := 23) (v := 2) rfl (by decide) rfl ?_
        refine ev_retK1 f_X11_wrongPlace rfl rfl rfl ?_
        refine ev_loc f_X11_write (nx := 8) (lo' := [(5, .int 2), (0, .ref 0), (1, .int ar1), (2, .int ar2), (3, .long ar3)]) rfl rfl rfl rfl ?_
        refine ev_loc f_X11_write (nx := 10) rfl rfl rfl rfl ?_
        refine ev_f f_X11_write (t1 := 20) (t2 := 13) rfl rfl rfl (by decide) ?_
        refine ev_loc f_X11_write (nx := 14) rfl rfl rfl rfl ?_
        refine ev_loc f_X11_write (nx := 16) rfl rfl rfl rfl ?_
        refine ev_inV2 f_X11_write (nx := 19) (lo2 := [(0, .ref 0), (1, .int 2)]) rfl rfl rfl rfl f_X11_deny (hI.wf.s rfl) rfl rfl rfl rfl rfl ?_
        refine ev_loc f_X11_deny (nx := 1) rfl rfl rfl rfl ?_
        refine ev_loc f_X11_deny (nx := 2) rfl rfl rfl rfl ?_
        refine ev_putIT f_X11_deny (nx := 5) rfl (hI.wf.s rfl) rfl rfl rfl (hI.put0 (hI.wf.s rfl) rfl rfl) (hX.upI rfl) (fun g14 e14 hI hX => ?_)
        refine ev_ic f_X11_deny (nx := 6) (v := 0) rfl (by decide) rfl ?_
        refine ev_retK1 f_X11_deny rfl rfl rfl ?_
        exact ev_ret f_X11_write rfl rfl rfl ⟨_, _, _, rfl, hI, hX, ⟨_, rfl, (by decide : (0:Int) ≤ (0:Int32).toInt), (Int.le_trans (by decide : (0:Int32).toInt ≤ (0:Int)) (by decide : (0:Int) ≤ 1)), (show (0 ≤ (0 : Int) ∧ (0 : Int) ≤ 1) ∧ (∀ A R : Nat, gr 1 ar1.toNatClampNeg = .ref A → gr A 0 = .ref R → (0 ≤ ar1.toInt ∧ ar1.toInt ≤ 3) → ((0 : Int) = 1 ↔ (0 ≤ ar2.toInt ∧ ar2.toInt < (gi A 2).toInt)) ∧ (∀ K j : Nat, K ≠ R → gl K j = gl K j) ∧ (∀ j : Nat, gl R j = if (0 ≤ ar2.toInt ∧ ar2.toInt < (gi A 2).toInt) ∧ (j : Int) = ar2.toInt then t_cut (gi A 1).toInt ar3 else gl R j)) from (by refine ⟨⟨by omega, by omega⟩, fun A R hA hR hi1 => ?_⟩; rw [e10] at hA; cases hA; have hh := e9.symm.trans e10; cases hh; exact ⟨by omega, fun _ _ _ => rfl, fun j => (if_neg (by omega)).symm⟩))⟩⟩
      · have r15 : (gi a10 2).toInt ≠ (-1) := fun e => h12 (Int32.toInt_inj.mp (e.trans (by decide : ((-1):Int) = ((-1) : Int32).toInt)))
        have l16 : 0 ≤ (gi a10 2).toInt := t_nel h12 l11 rfl rfl
        refine ev_ic f_X10_isMissing (nx := 13) (v := 0) rfl (by decide) rfl ?_
        refine ev_retK1 f_X10_isMissing rfl rfl rfl ?_
        refine ev_t f_X11_wrongPlace (t1 := 24) (t2 := 22) rfl rfl rfl (by decide) ?_
        refine ev_loc f_X11_wrongPlace (nx := 25) rfl rfl rfl rfl ?_
        refine ev_if f_X11_wrongPlace (t1 := 46) (t2 := 28) rfl rfl rfl (fun h17 => ?_) (fun h17 => ?_)
        · have u18 : ar2.toInt ≤ (-1) := t_ltu h17 (by decide : (0:Int32).toInt ≤ (0:Int)) rfl
          refine ev_ic f_X11_wrongPlace (nx := 47) (v := 3) rfl (by decide) rfl ?_
          refine ev_retK1 f_X11_wrongPlace rfl rfl rfl ?_
          refine ev_loc f_X11_write (nx := 8) (lo' := [(5, .int 3), (0, .ref 0), (1, .int ar1), (2, .int ar2), (3, .long ar3)]) rfl rfl rfl rfl ?_
          refine ev_loc f_X11_write (nx := 10) rfl rfl rfl rfl ?_
          refine ev_f f_X11_write (t1 := 20) (t2 := 13) rfl rfl rfl (by decide) ?_
          refine ev_loc f_X11_write (nx := 14) rfl rfl rfl rfl ?_
          refine ev_loc f_X11_write (nx := 16) rfl rfl rfl rfl ?_
          refine ev_inV2 f_X11_write (nx := 19) (lo2 := [(0, .ref 0), (1, .int 3)]) rfl rfl rfl rfl f_X11_deny (hI.wf.s rfl) rfl rfl rfl rfl rfl ?_
          refine ev_loc f_X11_deny (nx := 1) rfl rfl rfl rfl ?_
          refine ev_loc f_X11_deny (nx := 2) rfl rfl rfl rfl ?_
          refine ev_putIT f_X11_deny (nx := 5) rfl (hI.wf.s rfl) rfl rfl rfl (hI.put0 (hI.wf.s rfl) rfl rfl) (hX.upI rfl) (fun g19 e19 hI hX => ?_)
          refine ev_ic f_X11_deny (nx := 6) (v := 0) rfl (by decide) rfl ?_
          refine ev_retK1 f_X11_deny rfl rfl rfl ?_
          exact ev_ret f_X11_write rfl rfl rfl ⟨_, _, _, rfl, hI, hX, ⟨_, rfl, (by decide : (0:Int) ≤ (0:Int32).toInt), (Int.le_trans (by decide : (0:Int32).toInt ≤ (0:Int)) (by decide : (0:Int) ≤ 1)), (show (0 ≤ (0 : Int) ∧ (0 : Int) ≤ 1) ∧ (∀ A R : Nat, gr 1 ar1.toNatClampNeg = .ref A → gr A 0 = .ref R → (0 ≤ ar1.toInt ∧ ar1.toInt ≤ 3) → ((0 : Int) = 1 ↔ (0 ≤ ar2.toInt ∧ ar2.toInt < (gi A 2).toInt)) ∧ (∀ K j : Nat, K ≠ R → gl K j = gl K j) ∧ (∀ j : Nat, gl R j = if (0 ≤ ar2.toInt ∧ ar2.toInt < (gi A 2).toInt) ∧ (j : Int) = ar2.toInt then t_cut (gi A 1).toInt ar3 else gl R j)) from (by refine ⟨⟨by omega, by omega⟩, fun A R hA hR hi1 => ?_⟩; rw [e10] at hA; cases hA; have hh := e9.symm.trans e10; cases hh; exact ⟨by omega, fun _ _ _ => rfl, fun j => (if_neg (by omega)).symm⟩))⟩⟩
        · have l20 : 0 ≤ ar2.toInt := t_lel (t_nlt h17) (by decide : (0:Int) ≤ (0:Int32).toInt)
          refine ev_loc f_X11_wrongPlace (nx := 29) rfl rfl rfl rfl ?_
          refine ev_getR f_X11_wrongPlace (nx := 32) rfl (hI.wf.s rfl) rfl rfl (hI.wf.r rfl) rfl rfl ?_
          refine ev_loc f_X11_wrongPlace (nx := 33) rfl rfl rfl rfl ?_
          obtain ⟨a21, e21, p21⟩ := t_tray hI.wf l4 (by decide) u8 (by decide)
          refine ev_aald f_X11_wrongPlace (nx := 34) rfl (hI.wf.s rfl) rfl (t_idx (n := 4) l4 (by decide) u8 (by decide)).1 (t_idx (n := 4) l4 (by decide) u8 (by decide)).2 e21 rfl rfl ?_
          refine ev_loc f_X11_wrongPlace (nx := 35) rfl rfl rfl rfl ?_
          refine ev_ic f_X11_wrongPlace (nx := 36) (v := 1) rfl (by decide) rfl ?_
          refine ev_inV3 f_X11_wrongPlace (nx := 39) (lo2 := [(0, .ref a21), (1, .int ar2), (2, .int 1)]) rfl rfl rfl rfl f_X10_hasStretch p21.1 rfl rfl rfl rfl rfl ?_
          refine ev_loc f_X10_hasStretch (nx := 1) rfl rfl rfl rfl ?_
          refine ev_loc f_X10_hasStretch (nx := 2) rfl rfl rfl rfl ?_
          refine ev_getI f_X10_hasStretch (nx := 5) rfl p21.1 rfl rfl rfl ?_
          obtain ⟨l22, u22⟩ := hI.b p21.1 (t_bdK rfl : t_bd 9 2 = some ((-1), 60))
          refine ev_if f_X10_hasStretch (t1 := 22) (t2 := 8) rfl rfl rfl (fun h23 => ?_) (fun h23 => ?_)
          · have r24 : (gi a21 2).toInt < ar2.toInt := Int32.lt_iff_toInt_lt.mp h23
            refine ev_ic f_X10_hasStretch (nx := 23) (v := 0) rfl (by decide) rfl ?_
            refine ev_retK1 f_X10_hasStretch rfl rfl rfl ?_
            refine ev_t f_X11_wrongPlace (t1 := 46) (t2 := 42) rfl rfl rfl (by decide) ?_
            refine ev_ic f_X11_wrongPlace (nx := 47) (v := 3) rfl (by decide) rfl ?_
            refine ev_retK1 f_X11_wrongPlace rfl rfl rfl ?_
            refine ev_loc f_X11_write (nx := 8) (lo' := [(5, .int 3), (0, .ref 0), (1, .int ar1), (2, .int ar2), (3, .long ar3)]) rfl rfl rfl rfl ?_
            refine ev_loc f_X11_write (nx := 10) rfl rfl rfl rfl ?_
            refine ev_f f_X11_write (t1 := 20) (t2 := 13) rfl rfl rfl (by decide) ?_
            refine ev_loc f_X11_write (nx := 14) rfl rfl rfl rfl ?_
            refine ev_loc f_X11_write (nx := 16) rfl rfl rfl rfl ?_
            refine ev_inV2 f_X11_write (nx := 19) (lo2 := [(0, .ref 0), (1, .int 3)]) rfl rfl rfl rfl f_X11_deny (hI.wf.s rfl) rfl rfl rfl rfl rfl ?_
            refine ev_loc f_X11_deny (nx := 1) rfl rfl rfl rfl ?_
            refine ev_loc f_X11_deny (nx := 2) rfl rfl rfl rfl ?_
            refine ev_putIT f_X11_deny (nx := 5) rfl (hI.wf.s rfl) rfl rfl rfl (hI.put0 (hI.wf.s rfl) rfl rfl) (hX.upI rfl) (fun g25 e25 hI hX => ?_)
            refine ev_ic f_X11_deny (nx := 6) (v := 0) rfl (by decide) rfl ?_
            refine ev_retK1 f_X11_deny rfl rfl rfl ?_
            exact ev_ret f_X11_write rfl rfl rfl ⟨_, _, _, rfl, hI, hX, ⟨_, rfl, (by decide : (0:Int) ≤ (0:Int32).toInt), (Int.le_trans (by decide : (0:Int32).toInt ≤ (0:Int)) (by decide : (0:Int) ≤ 1)), (show (0 ≤ (0 : Int) ∧ (0 : Int) ≤ 1) ∧ (∀ A R : Nat, gr 1 ar1.toNatClampNeg = .ref A → gr A 0 = .ref R → (0 ≤ ar1.toInt ∧ ar1.toInt ≤ 3) → ((0 : Int) = 1 ↔ (0 ≤ ar2.toInt ∧ ar2.toInt < (gi A 2).toInt)) ∧ (∀ K j : Nat, K ≠ R → gl K j = gl K j) ∧ (∀ j : Nat, gl R j = if (0 ≤ ar2.toInt ∧ ar2.toInt < (gi A 2).toInt) ∧ (j : Int) = ar2.toInt then t_cut (gi A 1).toInt ar3 else gl R j)) from (by refine ⟨⟨by omega, by omega⟩, fun A R hA hR hi1 => ?_⟩; rw [e21] at hA; cases hA; have hh := e9.symm.trans e21; cases hh; have hh := e10.symm.trans e21; cases hh; exact ⟨by omega, fun _ _ _ => rfl, fun j => (if_neg (by omega)).symm⟩))⟩⟩
          · have r26 : ar2.toInt ≤ (gi a21 2).toInt := Int32.le_iff_toInt_le.mp (t_nlt h23)
            have u27 : ar2.toInt ≤ 60 := t_leu (t_nlt h23) u22
            have l28 : 0 ≤ (gi a21 2).toInt := t_lel (t_nlt h23) l20
            refine ev_loc f_X10_hasStretch (nx := 9) rfl rfl rfl rfl ?_
            refine ev_loc f_X10_hasStretch (nx := 10) rfl rfl rfl rfl ?_
            refine ev_gvI f_X10_hasStretch (nx := 13) (w := (gi a21 2)) rfl p21.1 rfl rfl rfl rfl ?_
            refine ev_loc f_X10_hasStretch (nx := 14) rfl rfl rfl rfl ?_
            refine ev_subR f_X10_hasStretch (nx := 15) (l := (-60)) (u := 60) rfl l28 u22 l20 u27 rfl rfl (by decide) (by decide) rfl (fun z29 e29 l29 u29 => ?_)
            refine ev_if f_X10_hasStretch (t1 := 22) (t2 := 18) rfl rfl rfl (fun h30 => ?_) (fun h30 => ?_)
            · have u31 : z29.toInt ≤ 0 := t_ltu h30 (by decide : (1:Int32).toInt ≤ (1:Int)) rfl
              refine ev_ic f_X10_hasStretch (nx := 23) (v := 0) rfl (by decide) rfl ?_
              refine ev_retK1 f_X10_hasStretch rfl rfl rfl ?_
              refine ev_t f_X11_wrongPlace (t1 := 46) (t2 := 42) rfl rfl rfl (by decide) ?_
              refine ev_ic f_X11_wrongPlace (nx := 47) (v := 3) rfl (by decide) rfl ?_
              refine ev_retK1 f_X11_wrongPlace rfl rfl rfl ?_
              refine ev_loc f_X11_write (nx := 8) (lo' := [(5, .int 3), (0, .ref 0), (1, .int ar1), (2, .int ar2), (3, .long ar3)]) rfl rfl rfl rfl ?_
              refine ev_loc f_X11_write (nx := 10) rfl rfl rfl rfl ?_
              refine ev_f f_X11_write (t1 := 20) (t2 := 13) rfl rfl rfl (by decide) ?_
              refine ev_loc f_X11_write (nx := 14) rfl rfl rfl rfl ?_
              refine ev_loc f_X11_write (nx := 16) rfl rfl rfl rfl ?_
              refine ev_inV2 f_X11_write (nx := 19) (lo2 := [(0, .ref 0), (1, .int 3)]) rfl rfl rfl rfl f_X11_deny (hI.wf.s rfl) rfl rfl rfl rfl rfl ?_
              refine ev_loc f_X11_deny (nx := 1) rfl rfl rfl rfl ?_
              refine ev_loc f_X11_deny (nx := 2) rfl rfl rfl rfl ?_
              refine ev_putIT f_X11_deny (nx := 5) rfl (hI.wf.s rfl) rfl rfl rfl (hI.put0 (hI.wf.s rfl) rfl rfl) (hX.upI rfl) (fun g32 e32 hI hX => ?_)
              refine ev_ic f_X11_deny (nx := 6) (v := 0) rfl (by decide) rfl ?_
              refine ev_retK1 f_X11_deny rfl rfl rfl ?_
              exact ev_ret f_X11_write rfl rfl rfl ⟨_, _, _, rfl, hI, hX, ⟨_, rfl, (by decide : (0:Int) ≤ (0:Int32).toInt), (Int.le_trans (by decide : (0:Int32).toInt ≤ (0:Int)) (by decide : (0:Int) ≤ 1)), (show (0 ≤ (0 : Int) ∧ (0 : Int) ≤ 1) ∧ (∀ A R : Nat, gr 1 ar1.toNatClampNeg = .ref A → gr A 0 = .ref R → (0 ≤ ar1.toInt ∧ ar1.toInt ≤ 3) → ((0 : Int) = 1 ↔ (0 ≤ ar2.toInt ∧ ar2.toInt < (gi A 2).toInt)) ∧ (∀ K j : Nat, K ≠ R → gl K j = gl K j) ∧ (∀ j : Nat, gl R j = if (0 ≤ ar2.toInt ∧ ar2.toInt < (gi A 2).toInt) ∧ (j : Int) = ar2.toInt then t_cut (gi A 1).toInt ar3 else gl R j)) from (by refine ⟨⟨by omega, by omega⟩, fun A R hA hR hi1 => ?_⟩; rw [e21] at hA; cases hA; have hh := e9.symm.trans e21; cases hh; have hh := e10.symm.trans e21; cases hh; exact ⟨by omega, fun _ _ _ => rfl, fun j => (if_neg (by omega)).symm⟩))⟩⟩
            · have l33 : 1 ≤ z29.toInt := t_lel (t_nlt h30) (by decide : (1:Int) ≤ (1:Int32).toInt)
              have u34 : ar2.toInt ≤ 59 := by have := u22; omega
              refine ev_ic f_X10_hasStretch (nx := 19) (v := 1) rfl (by decide) rfl ?_
              refine ev_jmp f_X10_hasStretch (nx := 23) rfl rfl rfl ?_
              refine ev_retK1 f_X10_hasStretch rfl rfl rfl ?_
              refine ev_f f_X11_wrongPlace (t1 := 46) (t2 := 42) rfl rfl rfl (by decide) ?_
              refine ev_ic f_X11_wrongPlace (nx := 43) (v := 0) rfl (by decide) rfl ?_
              refine ev_jmp f_X11_wrongPlace (nx := 47) rfl rfl rfl ?_
              refine ev_retK1 f_X11_wrongPlace rfl rfl rfl ?_
              refine ev_loc f_X11_write (nx := 8) (lo' := [(5, .int 0), (0, .ref 0), (1, .int ar1), (2, .int ar2), (3, .long ar3)]) rfl rfl rfl rfl ?_
              refine ev_loc f_X11_write (nx := 10) rfl rfl rfl rfl ?_
              refine ev_t f_X11_write (t1 := 20) (t2 := 13) rfl rfl rfl (by decide) ?_
              refine ev_loc f_X11_write (nx := 21) rfl rfl rfl rfl ?_
              refine ev_getR f_X11_write (nx := 24) rfl (hI.wf.s rfl) rfl rfl (hI.wf.r rfl) rfl rfl ?_
              refine ev_loc f_X11_write (nx := 25) rfl rfl rfl rfl ?_
              obtain ⟨a35, e35, p35⟩ := t_tray hI.wf l4 (by decide) u8 (by decide)
              refine ev_aald f_X11_write (nx := 26) rfl (hI.wf.s rfl) rfl (t_idx (n := 4) l4 (by decide) u8 (by decide)).1 (t_idx (n := 4) l4 (by decide) u8 (by decide)).2 e35 rfl rfl ?_
              refine ev_loc f_X11_write (nx := 27) rfl rfl rfl rfl ?_
              refine ev_loc f_X11_write (nx := 28) rfl rfl rfl rfl ?_
              refine ev_inV3 f_X11_write (nx := 31) (lo2 := [(0, .ref a35), (1, .int ar2), (2, .long ar3)]) rfl rfl rfl rfl f_X10_put p35.1 rfl rfl rfl rfl rfl ?_
              refine ev_loc f_X10_put (nx := 1) rfl rfl rfl rfl ?_
              refine ev_f f_X10_put (t1 := 13) (t2 := 4) rfl rfl rfl (t_ltF (by decide : (0:Int32).toInt ≤ (0:Int)) l20 (by decide)) ?_
              refine ev_loc f_X10_put (nx := 5) rfl rfl rfl rfl ?_
              refine ev_loc f_X10_put (nx := 6) rfl rfl rfl rfl ?_
              have e36 := p35.2.1.1
              have s36 := p35.2.1.2
              refine ev_getR f_X10_put (nx := 9) rfl p35.1 rfl rfl e36 rfl rfl ?_
              refine ev_alenv f_X10_put (nx := 10) (w := 60) rfl s36 rfl (by decide) rfl ?_
              refine ev_t f_X10_put (t1 := 14) (t2 := 13) rfl rfl rfl (t_ltT u34 (by decide : (60:Int) ≤ (60:Int32).toInt) (by decide)) ?_
              refine ev_loc f_X10_put (nx := 15) rfl rfl rfl rfl ?_
              refine ev_getI f_X10_put (nx := 18) rfl p35.1 rfl rfl rfl ?_
              have h37 : (gi a35 1).toInt = 0 ∨ (gi a35 1).toInt = 1 ∨ (gi a35 1).toInt = 2 ∨ ((gi a35 1).toInt ≠ 0 ∧ (gi a35 1).toInt ≠ 1 ∧ (gi a35 1).toInt ≠ 2) := by have := (t_lo (gi a35 1)); have := (t_hi (gi a35 1)); omega
              rcases h37 with h37 | h37 | h37 | h37
              · refine ev_swt f_X10_put (nx := 44) (c := 0) rfl h37 rfl ?_
                refine ev_loc f_X10_put (nx := 45) rfl rfl rfl rfl ?_
                refine ev_getR f_X10_put (nx := 48) (v := .ref (a35 + 1)) rfl p35.1 rfl rfl e36 rfl rfl ?_
                refine ev_loc f_X10_put (nx := 49) rfl rfl rfl rfl ?_
                refine ev_loc f_X10_put (nx := 50) rfl rfl rfl rfl ?_
                refine ev_anyIE f_X10_put (nx := 51) rfl rfl rfl rfl (fun z38 e38 => ?_)
                refine ev_anyIE f_X10_put (nx := 52) rfl rfl rfl rfl (fun z39 e39 => ?_)
                refine ev_anyLE f_X10_put (nx := 53) rfl rfl rfl rfl (fun z40 e40 => ?_)
                have i40 : z40.toInt = z39.toInt := by rw [e40]; exact Int32.toInt_toInt64 _
                refine ev_lastT f_X10_put (nx := 54) rfl s36 l20 (by decide) u34 (by decide) rfl (hX.upL (t_in4A p35.2.2 rfl)) (fun g41 e41 hX => ?_)
                refine ev_jmp f_X10_put (nx := 89) rfl rfl rfl ?_
                refine ev_retK0 f_X10_put rfl rfl rfl ?_
                refine ev_loc f_X11_write (nx := 32) rfl rfl rfl rfl ?_
                refine ev_inV1 f_X11_write (nx := 35) (lo2 := [(0, .ref 0)]) rfl rfl rfl rfl f_X11_grant (hI.wf.s rfl) rfl rfl rfl rfl rfl ?_
                refine ev_loc f_X11_grant (nx := 1) rfl rfl rfl rfl ?_
                refine ev_ic f_X11_grant (nx := 2) (v := 0) rfl (by decide) rfl ?_
                refine ev_putIT f_X11_grant (nx := 5) rfl (hI.wf.s rfl) rfl rfl rfl (hI.put0 (hI.wf.s rfl) rfl rfl) (hX.upI rfl) (fun g42 e42 hI hX => ?_)
                refine ev_ic f_X11_grant (nx := 6) (v := 1) rfl (by decide) rfl ?_
                refine ev_retK1 f_X11_grant rfl rfl rfl ?_
                exact ev_ret f_X11_write rfl rfl rfl ⟨_, _, _, rfl, hI, hX, ⟨_, rfl, (Int.le_trans (by decide : (0:Int) ≤ 1) (by decide : (1:Int) ≤ (1:Int32).toInt)), (by decide : (1:Int32).toInt ≤ (1:Int)), (show (0 ≤ (1 : Int) ∧ (1 : Int) ≤ 1) ∧ (∀ A R : Nat, gr 1 ar1.toNatClampNeg = .ref A → gr A 0 = .ref R → (0 ≤ ar1.toInt ∧ ar1.toInt ≤ 3) → ((1 : Int) = 1 ↔ (0 ≤ ar2.toInt ∧ ar2.toInt < (gi A 2).toInt)) ∧ (∀ K j : Nat, K ≠ R → g41 K j = gl K j) ∧ (∀ j : Nat, g41 R j = if (0 ≤ ar2.toInt ∧ ar2.toInt < (gi A 2).toInt) ∧ (j : Int) = ar2.toInt then t_cut (gi A 1).toInt ar3 else gl R j)) from (by refine ⟨⟨by omega, by omega⟩, fun A R hA hR hi1 => ?_⟩; rw [e35] at hA; cases hA; have hh := e9.symm.trans e35; cases hh; have hh := e10.symm.trans e35; cases hh; have hh := e21.symm.trans e35; cases hh; have hrrR := (e36).symm.trans hR; cases hrrR; exact ⟨by omega, t_wr1 e41, t_wr2 e41 (by omega) (by omega) (by unfold t_cut; first | (rw [if_pos (by omega), e40, e39, e38]) | (rw [if_neg (by omega), if_pos (by omega), e40, e39, e38]) | (rw [if_neg (by omega), if_neg (by omega), if_pos (by omega), e40, e39, e38]) | (rw [if_neg (by omega), if_neg (by omega), if_neg (by omega)]))⟩))⟩⟩
              · refine ev_swt f_X10_put (nx := 57) (c := 1) rfl h37 rfl ?_
                refine ev_loc f_X10_put (nx := 58) rfl rfl rfl rfl ?_
                refine ev_getR f_X10_put (nx := 61) (v := .ref (a35 + 1)) rfl p35.1 rfl rfl e36 rfl rfl ?_
                refine ev_loc f_X10_put (nx := 62) rfl rfl rfl rfl ?_
                refine ev_loc f_X10_put (nx := 63) rfl rfl rfl rfl ?_
                refine ev_anyIE f_X10_put (nx := 64) rfl rfl rfl rfl (fun z43 e43 => ?_)
                refine ev_anyIE f_X10_put (nx := 65) rfl rfl rfl rfl (fun z44 e44 => ?_)
                refine ev_anyLE f_X10_put (nx := 66) rfl rfl rfl rfl (fun z45 e45 => ?_)
                have i45 : z45.toInt = z44.toInt := by rw [e45]; exact Int32.toInt_toInt64 _
                refine ev_lastT f_X10_put (nx := 67) rfl s36 l20 (by decide) u34 (by decide) rfl (hX.upL (t_in4A p35.2.2 rfl)) (fun g46 e46 hX => ?_)
                refine ev_jmp f_X10_put (nx := 89) rfl rfl rfl ?_
                refine ev_retK0 f_X10_put rfl rfl rfl ?_
                refine ev_loc f_X11_write (nx := 32) rfl rfl rfl rfl ?_
                refine ev_inV1 f_X11_write (nx := 35) (lo2 := [(0, .ref 0)]) rfl rfl rfl rfl f_X11_grant (hI.wf.s rfl) rfl rfl rfl rfl rfl ?_
                refine ev_loc f_X11_grant (nx := 1) rfl rfl rfl rfl ?_
                refine ev_ic f_X11_grant (nx := 2) (v := 0) rfl (by decide) rfl ?_
                refine ev_putIT f_X11_grant (nx := 5) rfl (hI.wf.s rfl) rfl rfl rfl (hI.put0 (hI.wf.s rfl) rfl rfl) (hX.upI rfl) (fun g47 e47 hI hX => ?_)
                refine ev_ic f_X11_grant (nx := 6) (v := 1) rfl (by decide) rfl ?_
                refine ev_retK1 f_X11_grant rfl rfl rfl ?_
                exact ev_ret f_X11_write rfl rfl rfl ⟨_, _, _, rfl, hI, hX, ⟨_, rfl, (Int.le_trans (by decide : (0:Int) ≤ 1) (by decide : (1:Int) ≤ (1:Int32).toInt)), (by decide : (1:Int32).toInt ≤ (1:Int)), (show (0 ≤ (1 : Int) ∧ (1 : Int) ≤ 1) ∧ (∀ A R : Nat, gr 1 ar1.toNatClampNeg = .ref A → gr A 0 = .ref R → (0 ≤ ar1.toInt ∧ ar1.toInt ≤ 3) → ((1 : Int) = 1 ↔ (0 ≤ ar2.toInt ∧ ar2.toInt < (gi A 2).toInt)) ∧ (∀ K j : Nat, K ≠ R → g46 K j = gl K j) ∧ (∀ j : Nat, g46 R j = if (0 ≤ ar2.toInt ∧ ar2.toInt < (gi A 2).toInt) ∧ (j : Int) = ar2.toInt then t_cut (gi A 1).toInt ar3 else gl R j)) from (by refine ⟨⟨by omega, by omega⟩, fun A R hA hR hi1 => ?_⟩; rw [e35] at hA; cases hA; have hh := e9.symm.trans e35; cases hh; have hh := e10.symm.trans e35; cases hh; have hh := e21.symm.trans e35; cases hh; have hrrR := (e36).symm.trans hR; cases hrrR; exact ⟨by omega, t_wr1 e46, t_wr2 e46 (by omega) (by omega) (by unfold t_cut; first | (rw [if_pos (by omega), e45, e44, e43]) | (rw [if_neg (by omega), if_pos (by omega), e45, e44, e43]) | (rw [if_neg (by omega), if_neg (by omega), if_pos (by omega), e45, e44, e43]) | (rw [if_neg (by omega), if_neg (by omega), if_neg (by omega)]))⟩))⟩⟩
              · refine ev_swt f_X10_put (nx := 70) (c := 2) rfl h37 rfl ?_
                refine ev_loc f_X10_put (nx := 71) rfl rfl rfl rfl ?_
                refine ev_getR f_X10_put (nx := 74) (v := .ref (a35 + 1)) rfl p35.1 rfl rfl e36 rfl rfl ?_
                refine ev_loc f_X10_put (nx := 75) rfl rfl rfl rfl ?_
                refine ev_loc f_X10_put (nx := 76) rfl rfl rfl rfl ?_
                refine ev_anyIE f_X10_put (nx := 77) rfl rfl rfl rfl (fun z48 e48 => ?_)
                refine ev_anyLE f_X10_put (nx := 78) rfl rfl rfl rfl (fun z49 e49 => ?_)
                have i49 : z49.toInt = z48.toInt := by rw [e49]; exact Int32.toInt_toInt64 _
                refine ev_lastT f_X10_put (nx := 79) rfl s36 l20 (by decide) u34 (by decide) rfl (hX.upL (t_in4A p35.2.2 rfl)) (fun g50 e50 hX => ?_)
                refine ev_jmp f_X10_put (nx := 89) rfl rfl rfl ?_
                refine ev_retK0 f_X10_put rfl rfl rfl ?_
                refine ev_loc f_X11_write (nx := 32) rfl rfl rfl rfl ?_
                refine ev_inV1 f_X11_write (nx := 35) (lo2 := [(0, .ref 0)]) rfl rfl rfl rfl f_X11_grant (hI.wf.s rfl) rfl rfl rfl rfl rfl ?_
                refine ev_loc f_X11_grant (nx := 1) rfl rfl rfl rfl ?_
                refine ev_ic f_X11_grant (nx := 2) (v := 0) rfl (by decide) rfl ?_
                refine ev_putIT f_X11_grant (nx := 5) rfl (hI.wf.s rfl) rfl rfl rfl (hI.put0 (hI.wf.s rfl) rfl rfl) (hX.upI rfl) (fun g51 e51 hI hX => ?_)
                refine ev_ic f_X11_grant (nx := 6) (v := 1) rfl (by decide) rfl ?_
                refine ev_retK1 f_X11_grant rfl rfl rfl ?_
                exact ev_ret f_X11_write rfl rfl rfl ⟨_, _, _, rfl, hI, hX, ⟨_, rfl, (Int.le_trans (by decide : (0:Int) ≤ 1) (by decide : (1:Int) ≤ (1:Int32).toInt)), (by decide : (1:Int32).toInt ≤ (1:Int)), (show (0 ≤ (1 : Int) ∧ (1 : Int) ≤ 1) ∧ (∀ A R : Nat, gr 1 ar1.toNatClampNeg = .ref A → gr A 0 = .ref R → (0 ≤ ar1.toInt ∧ ar1.toInt ≤ 3) → ((1 : Int) = 1 ↔ (0 ≤ ar2.toInt ∧ ar2.toInt < (gi A 2).toInt)) ∧ (∀ K j : Nat, K ≠ R → g50 K j = gl K j) ∧ (∀ j : Nat, g50 R j = if (0 ≤ ar2.toInt ∧ ar2.toInt < (gi A 2).toInt) ∧ (j : Int) = ar2.toInt then t_cut (gi A 1).toInt ar3 else gl R j)) from (by refine ⟨⟨by omega, by omega⟩, fun A R hA hR hi1 => ?_⟩; rw [e35] at hA; cases hA; have hh := e9.symm.trans e35; cases hh; have hh := e10.symm.trans e35; cases hh; have hh := e21.symm.trans e35; cases hh; have hrrR := (e36).symm.trans hR; cases hrrR; exact ⟨by omega, t_wr1 e50, t_wr2 e50 (by omega) (by omega) (by unfold t_cut; first | (rw [if_pos (by omega), e49, e48]) | (rw [if_neg (by omega), if_pos (by omega), e49, e48]) | (rw [if_neg (by omega), if_neg (by omega), if_pos (by omega), e49, e48]) | (rw [if_neg (by omega), if_neg (by omega), if_neg (by omega)]))⟩))⟩⟩
              · refine ev_swtd f_X10_put (nx := 82) rfl (by omega) (by decide) rfl ?_
                refine ev_loc f_X10_put (nx := 83) rfl rfl rfl rfl ?_
                refine ev_getR f_X10_put (nx := 86) (v := .ref (a35 + 1)) rfl p35.1 rfl rfl e36 rfl rfl ?_
                refine ev_loc f_X10_put (nx := 87) rfl rfl rfl rfl ?_
                refine ev_loc f_X10_put (nx := 88) rfl rfl rfl rfl ?_
                refine ev_lastT f_X10_put (nx := 89) rfl s36 l20 (by decide) u34 (by decide) rfl (hX.upL (t_in4A p35.2.2 rfl)) (fun g52 e52 hX => ?_)
                refine ev_retK0 f_X10_put rfl rfl rfl ?_
                refine ev_loc f_X11_write (nx := 32) rfl rfl rfl rfl ?_
                refine ev_inV1 f_X11_write (nx := 35) (lo2 := [(0, .ref 0)]) rfl rfl rfl rfl f_X11_grant (hI.wf.s rfl) rfl rfl rfl rfl rfl ?_
                refine ev_loc f_X11_grant (nx := 1) rfl rfl rfl rfl ?_
                refine ev_ic f_X11_grant (nx := 2) (v := 0) rfl (by decide) rfl ?_
                refine ev_putIT f_X11_grant (nx := 5) rfl (hI.wf.s rfl) rfl rfl rfl (hI.put0 (hI.wf.s rfl) rfl rfl) (hX.upI rfl) (fun g53 e53 hI hX => ?_)
                refine ev_ic f_X11_grant (nx := 6) (v := 1) rfl (by decide) rfl ?_
                refine ev_retK1 f_X11_grant rfl rfl rfl ?_
                exact ev_ret f_X11_write rfl rfl rfl ⟨_, _, _, rfl, hI, hX, ⟨_, rfl, (Int.le_trans (by decide : (0:Int) ≤ 1) (by decide : (1:Int) ≤ (1:Int32).toInt)), (by decide : (1:Int32).toInt ≤ (1:Int)), (show (0 ≤ (1 : Int) ∧ (1 : Int) ≤ 1) ∧ (∀ A R : Nat, gr 1 ar1.toNatClampNeg = .ref A → gr A 0 = .ref R → (0 ≤ ar1.toInt ∧ ar1.toInt ≤ 3) → ((1 : Int) = 1 ↔ (0 ≤ ar2.toInt ∧ ar2.toInt < (gi A 2).toInt)) ∧ (∀ K j : Nat, K ≠ R → g52 K j = gl K j) ∧ (∀ j : Nat, g52 R j = if (0 ≤ ar2.toInt ∧ ar2.toInt < (gi A 2).toInt) ∧ (j : Int) = ar2.toInt then t_cut (gi A 1).toInt ar3 else gl R j)) from (by refine ⟨⟨by omega, by omega⟩, fun A R hA hR hi1 => ?_⟩; rw [e35] at hA; cases hA; have hh := e9.symm.trans e35; cases hh; have hh := e10.symm.trans e35; cases hh; have hh := e21.symm.trans e35; cases hh; have hrrR := (e36).symm.trans hR; cases hrrR; exact ⟨by omega, t_wr1 e52, t_wr2 e52 (by omega) (by omega) (by unfold t_cut; (rw [if_neg (by omega), if_neg (by omega), if_neg (by omega)]))⟩))⟩⟩
noncomputable def wl_m_write2 : List (Nat × Nat) := [(69, 2), (74, 9999)]
noncomputable def Q_m_write2 (gi : Nat → Nat → Int32) (gl : Nat → Nat → Int64) (gr : Nat → Nat → Value) (ar1 : Int32) (ar2 : Int32) (ar3 : Int64) : Int32 → (Nat → Nat → Int32) → (Nat → Nat → Int64) → (Nat → Nat → Value) → Prop := fun (v : Int32) (gi2 : Nat → Nat → Int32) (gl2 : Nat → Nat → Int64) (gr2 : Nat → Nat → Value) => (0 ≤ v.toInt ∧ v.toInt ≤ 1) ∧ ((0 ≤ ar1.toInt ∧ ar1.toInt ≤ 3) → (v.toInt = 1 ↔ (0 ≤ ar2.toInt ∧ ar2.toInt < (gi 73 ar1.toNatClampNeg).toInt)) ∧ (∀ j : Nat, gl2 74 j = if (0 ≤ ar2.toInt ∧ ar2.toInt < (gi 73 ar1.toNatClampNeg).toInt) ∧ (j : Int) = 60 * ar1.toInt + ar2.toInt then t_cut (gi 72 ar1.toNatClampNeg).toInt ar3 else gl 74 j))
theorem c_m_write2 {X : x_Ext} {d : Nat} {sh : List (Nat ⊕ (Nat × Nat))} {gi : Nat → Nat → Int32} {gl : Nat → Nat → Int64} {gr : Nat → Nat → Value} (hI : t_I sh gi gr) (ar1 : Int32) (ar2 : Int32) (ar3 : Int64) : x_Me X (d + 3) n_X12_write [.ref 69, .int ar1, .int ar2, .long ar3] (sh, gi, gl, gr) (t_PI wl_m_write2 sh gi gl gr 0 1 (Q_m_write2 gi gl gr ar1 ar2 ar3)) := by
  have hX : t_X wl_m_write2 sh gi gl gr gi gl gr := t_X.rf
  refine me_i f_X12_write (hI.wf.s rfl) rfl rfl rfl ?_
  refine ev_loc f_X12_write (nx := 1) rfl rfl rfl rfl ?_
  refine ev_loc f_X12_write (nx := 2) rfl rfl rfl rfl ?_
  refine ev_loc f_X12_write (nx := 3) rfl rfl rfl rfl ?_
  refine ev_inV3 f_X12_write (nx := 6) (lo2 := [(0, .ref 69), (1, .int ar1), (2, .int ar2)]) rfl rfl rfl rfl f_X12_wrongPlace (hI.wf.s rfl) rfl rfl rfl rfl rfl ?_
  refine ev_loc f_X12_wrongPlace (nx := 1) rfl rfl rfl rfl ?_
  refine ev_inS1 f_X12_wrongPlace (nx := 4) (lo2 := [(0, .int ar1)]) rfl rfl rfl rfl f_X12_isTray rfl rfl rfl rfl ?_
  refine ev_loc f_X12_isTray (nx := 1) rfl rfl rfl rfl ?_
  refine ev_if f_X12_isTray (t1 := 13) (t2 := 4) rfl rfl rfl (fun h1 => ?_) (fun h1 => ?_)
  · have u2 : ar1.toInt ≤ (-1) := t_ltu h1 (by decide : (0:Int32).toInt ≤ (0:Int)) rfl
    refine ev_ic f_X12_isTray (nx := 14) (v := 0) rfl (by decide) rfl ?_
    refine ev_retK1 f_X12_isTray rfl rfl rfl ?_
    refine ev_t f_X12_wrongPlace (t1 := 7) (t2 := 11) rfl rfl rfl (by decide) ?_
    refine ev_ic f_X12_wrongPlace (nx := 8) (v := 1) rfl (by decide) rfl ?_
    refine ev_jmp f_X12_wrongPlace (nx := 44) rfl rfl rfl ?_
    refine ev_retK1 f_X12_wrongPlace rfl rfl rfl ?_
    refine ev_loc f_X12_write (nx := 8) (lo' := [(5, .int 1), (0, .ref 69), (1, .int ar1), (2, .int ar2), (3, .long ar3)]) rfl rfl rfl rfl ?_
    refine ev_loc f_X12_write (nx := 10) rfl rfl rfl rfl ?_
    refine ev_f f_X12_write (t1 := 13) (t2 := 34) rfl rfl rfl (by decide) ?_
    refine ev_loc f_X12_write (nx := 35) rfl rfl rfl rfl ?_
    refine ev_loc f_X12_write (nx := 37) rfl rfl rfl rfl ?_
    refine ev_inV2 f_X12_write (nx := 40) (lo2 := [(0, .ref 69), (1, .int 1)]) rfl rfl rfl rfl f_X12_is (hI.wf.s rfl) rfl rfl rfl rfl rfl ?_
    refine ev_loc f_X12_is (nx := 1) rfl rfl rfl rfl ?_
    refine ev_loc f_X12_is (nx := 2) rfl rfl rfl rfl ?_
    refine ev_putIT f_X12_is (nx := 5) rfl (hI.wf.s rfl) rfl rfl rfl (hI.put0 (hI.wf.s rfl) rfl rfl) (hX.upI rfl) (fun g3 e3 hI hX => ?_)
    refine ev_loc f_X12_is (nx := 6) rfl rfl rfl rfl ?_
    refine ev_f f_X12_is (t1 := 9) (t2 := 13) rfl rfl rfl (by decide) ?_
    refine ev_ic f_X12_is (nx := 14) (v := 0) rfl (by decide) rfl ?_
    refine ev_retK1 f_X12_is rfl rfl rfl ?_
    exact ev_ret f_X12_write rfl rfl rfl ⟨_, _, _, rfl, hI, hX, ⟨_, rfl, (by decide : (0:Int) ≤ (0:Int32).toInt), (Int.le_trans (by decide : (0:Int32).toInt ≤ (0:Int)) (by decide : (0:Int) ≤ 1)), (show (0 ≤ (0 : Int) ∧ (0 : Int) ≤ 1) ∧ ((0 ≤ ar1.toInt ∧ ar1.toInt ≤ 3) → ((0 : Int) = 1 ↔ (0 ≤ ar2.toInt ∧ ar2.toInt < (gi 73 ar1.toNatClampNeg).toInt)) ∧ (∀ j : Nat, gl 74 j = if (0 ≤ ar2.toInt ∧ ar2.toInt < (gi 73 ar1.toNatClampNeg).toInt) ∧ (j : Int) = 60 * ar1.toInt + ar2.toInt then t_cut (gi 72 ar1.toNatClampNeg).toInt ar3 else gl 74 j)) from (by refine ⟨⟨by omega, by omega⟩, fun hi1 => ?_⟩; exact ⟨by omega, fun j => (if_neg (by omega)).symm⟩))⟩⟩
  · have l4 : 0 ≤ ar1.toInt := t_lel (t_nlt h1) (by decide : (0:Int) ≤ (0:Int32).toInt)
    refine ev_loc f_X12_isTray (nx := 5) rfl rfl rfl rfl ?_
    refine ev_ic f_X12_isTray (nx := 6) (v := 4) rfl (by decide) rfl ?_
    refine ev_if f_X12_isTray (t1 := 13) (t2 := 9) rfl rfl rfl (fun h5 => ?_) (fun h5 => ?_)
    · have l6 : 4 ≤ ar1.toInt := t_lel h5 (by decide : (4:Int) ≤ (4:Int32).toInt)
      refine ev_ic f_X12_isTray (nx := 14) (v := 0) rfl (by decide) rfl ?_
      refine ev_retK1 f_X12_isTray rfl rfl rfl ?_
      refine ev_t f_X12_wrongPlace (t1 := 7) (t2 := 11) rfl rfl rfl (by decide) ?_
      refine ev_ic f_X12_wrongPlace (nx := 8) (v := 1) rfl (by decide) rfl ?_
      refine ev_jmp f_X12_wrongPlace (nx := 44) rfl rfl rfl ?_
      refine ev_retK1 f_X12_wrongPlace rfl rfl rfl ?_
      refine ev_loc f_X12_write (nx := 8) (lo' := [(5, .int 1), (0, .ref 69), (1, .int ar1), (2, .int ar2), (3, .long ar3)]) rfl rfl rfl rfl ?_
      refine ev_loc f_X12_write (nx := 10) rfl rfl rfl rfl ?_
      refine ev_f f_X12_write (t1 := 13) (t2 := 34) rfl rfl rfl (by decide) ?_
      refine ev_loc f_X12_write (nx := 35) rfl rfl rfl rfl ?_
      refine ev_loc f_X12_write (nx := 37) rfl rfl rfl rfl ?_
      refine ev_inV2 f_X12_write (nx := 40) (lo2 := [(0, .ref 69), (1, .int 1)]) rfl rfl rfl rfl f_X12_is (hI.wf.s rfl) rfl rfl rfl rfl rfl ?_
      refine ev_loc f_X12_is (nx := 1) rfl rfl rfl rfl ?_
      refine ev_loc f_X12_is (nx := 2) rfl rfl rfl rfl ?_
      refine ev_putIT f_X12_is (nx := 5) rfl (hI.wf.s rfl) rfl rfl rfl (hI.put0 (hI.wf.s rfl) rfl rfl) (hX.upI rfl) (fun g7 e7 hI hX => ?_)
      refine ev_loc f_X12_is (nx := 6) rfl rfl rfl rfl ?_
      refine ev_f f_X12_is (t1 := 9) (t2 := 13) rfl rfl rfl (by decide) ?_
      refine ev_ic f_X12_is (nx := 14) (v := 0) rfl (by decide) rfl ?_
      refine ev_retK1 f_X12_is rfl rfl rfl ?_
      exact ev_ret f_X12_write rfl rfl rfl ⟨_, _, _, rfl, hI, hX, ⟨_, rfl, (by decide : (0:Int) ≤ (0:Int32).toInt), (Int.le_trans (by decide : (0:Int32).toInt ≤ (0:Int)) (by decide : (0:Int) ≤ 1)), (show (0 ≤ (0 : Int) ∧ (0 : Int) ≤ 1) ∧ ((0 ≤ ar1.toInt ∧ ar1.toInt ≤ 3) → ((0 : Int) = 1 ↔ (0 ≤ ar2.toInt ∧ ar2.toInt < (gi 73 ar1.toNatClampNeg).toInt)) ∧ (∀ j : Nat, gl 74 j = if (0 ≤ ar2.toInt ∧ ar2.toInt < (gi 73 ar1.toNatClampNeg).toInt) ∧ (j : Int) = 60 * ar1.toInt + ar2.toInt then t_cut (gi 72 ar1.toNatClampNeg).toInt ar3 else gl 74 j)) from (by refine ⟨⟨by omega, by omega⟩, fun hi1 => ?_⟩; exact ⟨by omega, fun j => (if_neg (by omega)).symm⟩))⟩⟩
    · have u8 : ar1.toInt ≤ 3 := t_ltu (t_nle h5) (by decide : (4:Int32).toInt ≤ (4:Int)) rfl
      refine ev_ic f_X12_isTray (nx := 10) (v := 1) rfl (by decide) rfl ?_
      refine ev_jmp f_X12_isTray (nx := 14) rfl rfl rfl ?_
      refine ev_retK1 f_X12_isTray rfl rfl rfl ?_
      refine ev_f f_X12_wrongPlace (t1 := 7) (t2 := 11) rfl rfl rfl (by decide) ?_
      refine ev_loc f_X12_wrongPlace (nx := 12) rfl rfl rfl rfl ?_
      refine ev_getR f_X12_wrongPlace (nx := 15) rfl (hI.wf.s rfl) rfl rfl (hI.wf.r rfl) rfl rfl ?_
      refine ev_loc f_X12_wrongPlace (nx := 16) rfl rfl rfl rfl ?_
      refine ev_ialdT f_X12_wrongPlace (nx := 17) rfl (hI.wf.s rfl) l4 (by decide) u8 (by decide) rfl (fun w9 e9 => ?_)
      obtain ⟨l9, u9⟩ := hI.abi e9 (by decide +kernel : t_abr 73 0 3 (-1) 60 = true) l4 (by decide) u8 (by decide)
      refine ev_ic f_X12_wrongPlace (nx := 18) (v := -1) rfl (by decide) rfl ?_
      refine ev_if f_X12_wrongPlace (t1 := 21) (t2 := 25) rfl rfl rfl (fun h10 => ?_) (fun h10 => ?_)
      · have u11 : w9.toInt ≤ (-1) := t_equ h10 (by decide : ((-1):Int32).toInt ≤ ((-1):Int))
        refine ev_ic f_X12_wrongPlace (nx := 22) (v := 2) rfl (by decide) rfl ?_
        refine ev_jmp f_X12_wrongPlace (nx := 44) rfl rfl rfl ?_
        refine ev_retK1 f_X12_wrongPlace rfl rfl rfl ?_
        refine ev_loc f_X12_write (nx := 8) (lo' := [(5, .int 2), (0, .ref 69), (1, .int ar1), (2, .int ar2), (3, .long ar3)]) rfl rfl rfl rfl ?_
        refine ev_loc f_X12_write (nx := 10) rfl rfl rfl rfl ?_
        refine ev_f f_X12_write (t1 := 13) (t2 := 34) rfl rfl rfl (by decide) ?_
        refine ev_loc f_X12_write (nx := 35) rfl rfl rfl rfl ?_
        refine ev_loc f_X12_write (nx := 37) rfl rfl rfl rfl ?_
        refine ev_inV2 f_X12_write (nx := 40) (lo2 := [(0, .ref 69), (1, .int 2)]) rfl rfl rfl rfl f_X12_is (hI.wf.s rfl) rfl rfl rfl rfl rfl ?_
        refine ev_loc f_X12_is (nx := 1) rfl rfl rfl rfl ?_
        refine ev_loc f_X12_is (nx := 2) rfl rfl rfl rfl ?_
        refine ev_putIT f_X12_is (nx := 5) rfl (hI.wf.s rfl) rfl rfl rfl (hI.put0 (hI.wf.s rfl) rfl rfl) (hX.upI rfl) (fun g12 e12 hI hX => ?_)
        refine ev_loc f_X12_is (nx := 6) rfl rfl rfl rfl ?_
        refine ev_f f_X12_is (t1 := 9) (t2 := 13) rfl rfl rfl (by decide) ?_
        refine ev_ic f_X12_is (nx := 14) (v := 0) rfl (by decide) rfl ?_
        refine ev_retK1 f_X12_is rfl rfl rfl ?_
        exact ev_ret f_X12_write rfl rfl rfl ⟨_, _, _, rfl, hI, hX, ⟨_, rfl, (by decide : (0:Int) ≤ (0:Int32).toInt), (Int.le_trans (by decide : (0:Int32).toInt ≤ (0:Int)) (by decide : (0:Int) ≤ 1)), (show (0 ≤ (0 : Int) ∧ (0 : Int) ≤ 1) ∧ ((0 ≤ ar1.toInt ∧ ar1.toInt ≤ 3) → ((0 : Int) = 1 ↔ (0 ≤ ar2.toInt ∧ ar2.toInt < (gi 73 ar1.toNatClampNeg).toInt)) ∧ (∀ j : Nat, gl 74 j = if (0 ≤ ar2.toInt ∧ ar2.toInt < (gi 73 ar1.toNatClampNeg).toInt) ∧ (j : Int) = 60 * ar1.toInt + ar2.toInt then t_cut (gi 72 ar1.toNatClampNeg).toInt ar3 else gl 74 j)) from (by have hfw9 : (gi 73 ar1.toNatClampNeg).toInt = w9.toInt := congrArg Int32.toInt e9.symm; refine ⟨⟨by omega, by omega⟩, fun hi1 => ?_⟩; exact ⟨by omega, fun j => (if_neg (by omega)).symm⟩))⟩⟩
      · have r13 : w9.toInt ≠ (-1) := fun e => h10 (Int32.toInt_inj.mp (e.trans (by decide : ((-1):Int) = ((-1) : Int32).toInt)))
        have l14 : 0 ≤ w9.toInt := t_nel h10 l9 rfl rfl
        refine ev_loc f_X12_wrongPlace (nx := 26) rfl rfl rfl rfl ?_
        refine ev_if f_X12_wrongPlace (t1 := 39) (t2 := 29) rfl rfl rfl (fun h15 => ?_) (fun h15 => ?_)
        · have u16 : ar2.toInt ≤ (-1) := t_ltu h15 (by decide : (0:Int32).toInt ≤ (0:Int)) rfl
          refine ev_ic f_X12_wrongPlace (nx := 40) (v := 3) rfl (by decide) rfl ?_
          refine ev_jmp f_X12_wrongPlace (nx := 44) rfl rfl rfl ?_
          refine ev_retK1 f_X12_wrongPlace rfl rfl rfl ?_
          refine ev_loc f_X12_write (nx := 8) (lo' := [(5, .int 3), (0, .ref 69), (1, .int ar1), (2, .int ar2), (3, .long ar3)]) rfl rfl rfl rfl ?_
          refine ev_loc f_X12_write (nx := 10) rfl rfl rfl rfl ?_
          refine ev_f f_X12_write (t1 := 13) (t2 := 34) rfl rfl rfl (by decide) ?_
          refine ev_loc f_X12_write (nx := 35) rfl rfl rfl rfl ?_
          refine ev_loc f_X12_write (nx := 37) rfl rfl rfl rfl ?_
          refine ev_inV2 f_X12_write (nx := 40) (lo2 := [(0, .ref 69), (1, .int 3)]) rfl rfl rfl rfl f_X12_is (hI.wf.s rfl) rfl rfl rfl rfl rfl ?_
          refine ev_loc f_X12_is (nx := 1) rfl rfl rfl rfl ?_
          refine ev_loc f_X12_is (nx := 2) rfl rfl rfl rfl ?_
          refine ev_putIT f_X12_is (nx := 5) rfl (hI.wf.s rfl) rfl rfl rfl (hI.put0 (hI.wf.s rfl) rfl rfl) (hX.upI rfl) (fun g17 e17 hI hX => ?_)
          refine ev_loc f_X12_is (nx := 6) rfl rfl rfl rfl ?_
          refine ev_f f_X12_is (t1 := 9) (t2 := 13) rfl rfl rfl (by decide) ?_
          refine ev_ic f_X12_is (nx := 14) (v := 0) rfl (by decide) rfl ?_
          refine ev_retK1 f_X12_is rfl rfl rfl ?_
          exact ev_ret f_X12_write rfl rfl rfl ⟨_, _, _, rfl, hI, hX, ⟨_, rfl, (by decide : (0:Int) ≤ (0:Int32).toInt), (Int.le_trans (by decide : (0:Int32).toInt ≤ (0:Int)) (by decide : (0:Int) ≤ 1)), (show (0 ≤ (0 : Int) ∧ (0 : Int) ≤ 1) ∧ ((0 ≤ ar1.toInt ∧ ar1.toInt ≤ 3) → ((0 : Int) = 1 ↔ (0 ≤ ar2.toInt ∧ ar2.toInt < (gi 73 ar1.toNatClampNeg).toInt)) ∧ (∀ j : Nat, gl 74 j = if (0 ≤ ar2.toInt ∧ ar2.toInt < (gi 73 ar1.toNatClampNeg).toInt) ∧ (j : Int) = 60 * ar1.toInt + ar2.toInt then t_cut (gi 72 ar1.toNatClampNeg).toInt ar3 else gl 74 j)) from (by have hfw9 : (gi 73 ar1.toNatClampNeg).toInt = w9.toInt := congrArg Int32.toInt e9.symm; refine ⟨⟨by omega, by omega⟩, fun hi1 => ?_⟩; exact ⟨by omega, fun j => (if_neg (by omega)).symm⟩))⟩⟩
        · have l18 : 0 ≤ ar2.toInt := t_lel (t_nlt h15) (by decide : (0:Int) ≤ (0:Int32).toInt)
          refine ev_loc f_X12_wrongPlace (nx := 30) rfl rfl rfl rfl ?_
          refine ev_loc f_X12_wrongPlace (nx := 31) rfl rfl rfl rfl ?_
          refine ev_getR f_X12_wrongPlace (nx := 34) rfl (hI.wf.s rfl) rfl rfl (hI.wf.r rfl) rfl rfl ?_
          refine ev_loc f_X12_wrongPlace (nx := 35) rfl rfl rfl rfl ?_
          refine ev_ialdT f_X12_wrongPlace (nx := 36) rfl (hI.wf.s rfl) l4 (by decide) u8 (by decide) rfl (fun w19 e19 => ?_)
          rw [e19.trans e9.symm]
          refine ev_if f_X12_wrongPlace (t1 := 43) (t2 := 39) rfl rfl rfl (fun h20 => ?_) (fun h20 => ?_)
          · have r21 : ar2.toInt < w9.toInt := Int32.lt_iff_toInt_lt.mp h20
            have u22 : ar2.toInt ≤ 59 := t_ltu h20 u9 rfl
            have l23 : 1 ≤ w9.toInt := t_ltl h20 l18 rfl
            refine ev_ic f_X12_wrongPlace (nx := 44) (v := 0) rfl (by decide) rfl ?_
            refine ev_retK1 f_X12_wrongPlace rfl rfl rfl ?_
            refine ev_loc f_X12_write (nx := 8) (lo' := [(5, .int 0), (0, .ref 69), (1, .int ar1), (2, .int ar2), (3, .long ar3)]) rfl rfl rfl rfl ?_
            refine ev_loc f_X12_write (nx := 10) rfl rfl rfl rfl ?_
            refine ev_t f_X12_write (t1 := 13) (t2 := 34) rfl rfl rfl (by decide) ?_
            refine ev_loc f_X12_write (nx := 14) rfl rfl rfl rfl ?_
            refine ev_getR f_X12_write (nx := 17) rfl (hI.wf.s rfl) rfl rfl (hI.wf.r rfl) rfl rfl ?_
            refine ev_bp f_X12_write (nx := 19) (v := 60) rfl (by decide) rfl ?_
            refine ev_loc f_X12_write (nx := 20) rfl rfl rfl rfl ?_
            refine ev_mulL f_X12_write (nx := 21) (c := 60) (l := 0) (u := 180) rfl (by decide) (by decide) l4 u8 rfl rfl (by decide) (by decide) rfl (fun z24 e24 l24 u24 => ?_)
            refine ev_loc f_X12_write (nx := 22) rfl rfl rfl rfl ?_
            refine ev_addR f_X12_write (nx := 23) (l := 0) (u := 239) rfl l24 u24 l18 u22 rfl rfl (by decide) (by decide) rfl (fun z25 e25 l25 u25 => ?_)
            refine ev_loc f_X12_write (nx := 24) rfl rfl rfl rfl ?_
            refine ev_loc f_X12_write (nx := 25) rfl rfl rfl rfl ?_
            refine ev_getR f_X12_write (nx := 28) rfl (hI.wf.s rfl) rfl rfl (hI.wf.r rfl) rfl rfl ?_
            refine ev_loc f_X12_write (nx := 29) rfl rfl rfl rfl ?_
            refine ev_ialdT f_X12_write (nx := 30) rfl (hI.wf.s rfl) l4 (by decide) u8 (by decide) rfl (fun w26 e26 => ?_)
            obtain ⟨l26, u26⟩ := hI.abi e26 (by decide +kernel : t_abr 72 0 3 0 3 = true) l4 (by decide) u8 (by decide)
            refine ev_inS2 f_X12_write (nx := 33) (lo2 := [(0, .long ar3), (2, .int w26)]) rfl rfl rfl rfl f_X12_cut rfl rfl rfl rfl ?_
            refine ev_loc f_X12_cut (nx := 1) rfl rfl rfl rfl ?_
            refine ev_if f_X12_cut (t1 := 4) (t2 := 11) rfl rfl rfl (fun h27 => ?_) (fun h27 => ?_)
            · have u28 : w26.toInt ≤ 0 := t_equ h27 (by decide : (0:Int32).toInt ≤ (0:Int))
              refine ev_loc f_X12_cut (nx := 5) rfl rfl rfl rfl ?_
              refine ev_anyIE f_X12_cut (nx := 6) rfl rfl rfl rfl (fun z29 e29 => ?_)
              refine ev_anyIE f_X12_cut (nx := 7) rfl rfl rfl rfl (fun z30 e30 => ?_)
              refine ev_anyLE f_X12_cut (nx := 8) rfl rfl rfl rfl (fun z31 e31 => ?_)
              have i31 : z31.toInt = z30.toInt := by rw [e31]; exact Int32.toInt_toInt64 _
              refine ev_jmp f_X12_cut (nx := 35) rfl rfl rfl ?_
              refine ev_retK1 f_X12_cut rfl rfl rfl ?_
              refine ev_lastT f_X12_write (nx := 34) rfl (hI.wf.s rfl) l25 (by decide) u25 (by decide) rfl (hX.upL (t_inA_ok rfl)) (fun g32 e32 hX => ?_)
              refine ev_loc f_X12_write (nx := 35) rfl rfl rfl rfl ?_
              refine ev_loc f_X12_write (nx := 37) rfl rfl rfl rfl ?_
              refine ev_inV2 f_X12_write (nx := 40) (lo2 := [(0, .ref 69), (1, .int 0)]) rfl rfl rfl rfl f_X12_is (hI.wf.s rfl) rfl rfl rfl rfl rfl ?_
              refine ev_loc f_X12_is (nx := 1) rfl rfl rfl rfl ?_
              refine ev_loc f_X12_is (nx := 2) rfl rfl rfl rfl ?_
              refine ev_putIT f_X12_is (nx := 5) rfl (hI.wf.s rfl) rfl rfl rfl (hI.put0 (hI.wf.s rfl) rfl rfl) (hX.upI rfl) (fun g33 e33 hI hX => ?_)
              refine ev_loc f_X12_is (nx := 6) rfl rfl rfl rfl ?_
              refine ev_t f_X12_is (t1 := 9) (t2 := 13) rfl rfl rfl (by decide) ?_
              refine ev_ic f_X12_is (nx := 10) (v := 1) rfl (by decide) rfl ?_
              refine ev_jmp f_X12_is (nx := 14) rfl rfl rfl ?_
              refine ev_retK1 f_X12_is rfl rfl rfl ?_
              exact ev_ret f_X12_write rfl rfl rfl ⟨_, _, _, rfl, hI, hX, ⟨_, rfl, (Int.le_trans (by decide : (0:Int) ≤ 1) (by decide : (1:Int) ≤ (1:Int32).toInt)), (by decide : (1:Int32).toInt ≤ (1:Int)), (show (0 ≤ (1 : Int) ∧ (1 : Int) ≤ 1) ∧ ((0 ≤ ar1.toInt ∧ ar1.toInt ≤ 3) → ((1 : Int) = 1 ↔ (0 ≤ ar2.toInt ∧ ar2.toInt < (gi 73 ar1.toNatClampNeg).toInt)) ∧ (∀ j : Nat, g32 74 j = if (0 ≤ ar2.toInt ∧ ar2.toInt < (gi 73 ar1.toNatClampNeg).toInt) ∧ (j : Int) = 60 * ar1.toInt + ar2.toInt then t_cut (gi 72 ar1.toNatClampNeg).toInt ar3 else gl 74 j)) from (by have hfw9 : (gi 73 ar1.toNatClampNeg).toInt = w9.toInt := congrArg Int32.toInt e9.symm; have hfw26 : (gi 72 ar1.toNatClampNeg).toInt = w26.toInt := congrArg Int32.toInt e26.symm; refine ⟨⟨by omega, by omega⟩, fun hi1 => ?_⟩; exact ⟨by omega, t_wr3 e32 (by omega) (by omega) (by omega) (by unfold t_cut; first | (rw [if_pos (by omega), e31, e30, e29]) | (rw [if_neg (by omega), if_pos (by omega), e31, e30, e29]) | (rw [if_neg (by omega), if_neg (by omega), if_pos (by omega), e31, e30, e29]) | (rw [if_neg (by omega), if_neg (by omega), if_neg (by omega)]))⟩))⟩⟩
            · have r34 : w26.toInt ≠ 0 := fun e => h27 (Int32.toInt_inj.mp (e.trans (by decide : (0:Int) = (0 : Int32).toInt)))
              have l35 : 1 ≤ w26.toInt := t_nel h27 l26 rfl rfl
              refine ev_loc f_X12_cut (nx := 12) rfl rfl rfl rfl ?_
              refine ev_ic f_X12_cut (nx := 13) (v := 1) rfl (by decide) rfl ?_
              refine ev_if f_X12_cut (t1 := 16) (t2 := 23) rfl rfl rfl (fun h36 => ?_) (fun h36 => ?_)
              · have u37 : w26.toInt ≤ 1 := t_equ h36 (by decide : (1:Int32).toInt ≤ (1:Int))
                refine ev_loc f_X12_cut (nx := 17) rfl rfl rfl rfl ?_
                refine ev_anyIE f_X12_cut (nx := 18) rfl rfl rfl rfl (fun z38 e38 => ?_)
                refine ev_anyIE f_X12_cut (nx := 19) rfl rfl rfl rfl (fun z39 e39 => ?_)
                refine ev_anyLE f_X12_cut (nx := 20) rfl rfl rfl rfl (fun z40 e40 => ?_)
                have i40 : z40.toInt = z39.toInt := by rw [e40]; exact Int32.toInt_toInt64 _
                refine ev_jmp f_X12_cut (nx := 35) rfl rfl rfl ?_
                refine ev_retK1 f_X12_cut rfl rfl rfl ?_
                refine ev_lastT f_X12_write (nx := 34) rfl (hI.wf.s rfl) l25 (by decide) u25 (by decide) rfl (hX.upL (t_inA_ok rfl)) (fun g41 e41 hX => ?_)
                refine ev_loc f_X12_write (nx := 35) rfl rfl rfl rfl ?_
                refine ev_loc f_X12_write (nx := 37) rfl rfl rfl rfl ?_
                refine ev_inV2 f_X12_write (nx := 40) (lo2 := [(0, .ref 69), (1, .int 0)]) rfl rfl rfl rfl f_X12_is (hI.wf.s rfl) rfl rfl rfl rfl rfl ?_
                refine ev_loc f_X12_is (nx := 1) rfl rfl rfl rfl ?_
                refine ev_loc f_X12_is (nx := 2) rfl rfl rfl rfl ?_
                refine ev_putIT f_X12_is (nx := 5) rfl (hI.wf.s rfl) rfl rfl rfl (hI.put0 (hI.wf.s rfl) rfl rfl) (hX.upI rfl) (fun g42 e42 hI hX => ?_)
                refine ev_loc f_X12_is (nx := 6) rfl rfl rfl rfl ?_
                refine ev_t f_X12_is (t1 := 9) (t2 := 13) rfl rfl rfl (by decide) ?_
                refine ev_ic f_X12_is (nx := 10) (v := 1) rfl (by decide) rfl ?_
                refine ev_jmp f_X12_is (nx := 14) rfl rfl rfl ?_
                refine ev_retK1 f_X12_is rfl rfl rfl ?_
                exact ev_ret f_X12_write rfl rfl rfl ⟨_, _, _, rfl, hI, hX, ⟨_, rfl, (Int.le_trans (by decide : (0:Int) ≤ 1) (by decide : (1:Int) ≤ (1:Int32).toInt)), (by decide : (1:Int32).toInt ≤ (1:Int)), (show (0 ≤ (1 : Int) ∧ (1 : Int) ≤ 1) ∧ ((0 ≤ ar1.toInt ∧ ar1.toInt ≤ 3) → ((1 : Int) = 1 ↔ (0 ≤ ar2.toInt ∧ ar2.toInt < (gi 73 ar1.toNatClampNeg).toInt)) ∧ (∀ j : Nat, g41 74 j = if (0 ≤ ar2.toInt ∧ ar2.toInt < (gi 73 ar1.toNatClampNeg).toInt) ∧ (j : Int) = 60 * ar1.toInt + ar2.toInt then t_cut (gi 72 ar1.toNatClampNeg).toInt ar3 else gl 74 j)) from (by have hfw9 : (gi 73 ar1.toNatClampNeg).toInt = w9.toInt := congrArg Int32.toInt e9.symm; have hfw26 : (gi 72 ar1.toNatClampNeg).toInt = w26.toInt := congrArg Int32.toInt e26.symm; refine ⟨⟨by omega, by omega⟩, fun hi1 => ?_⟩; exact ⟨by omega, t_wr3 e41 (by omega) (by omega) (by omega) (by unfold t_cut; first | (rw [if_pos (by omega), e40, e39, e38]) | (rw [if_neg (by omega), if_pos (by omega), e40, e39, e38]) | (rw [if_neg (by omega), if_neg (by omega), if_pos (by omega), e40, e39, e38]) | (rw [if_neg (by omega), if_neg (by omega), if_neg (by omega)]))⟩))⟩⟩
              · have r43 : w26.toInt ≠ 1 := fun e => h36 (Int32.toInt_inj.mp (e.trans (by decide : (1:Int) = (1 : Int32).toInt)))
                have l44 : 2 ≤ w26.toInt := t_nel h36 l35 rfl rfl
                refine ev_loc f_X12_cut (nx := 24) rfl rfl rfl rfl ?_
                refine ev_ic f_X12_cut (nx := 25) (v := 2) rfl (by decide) rfl ?_
                refine ev_if f_X12_cut (t1 := 28) (t2 := 34) rfl rfl rfl (fun h45 => ?_) (fun h45 => ?_)
                · have u46 : w26.toInt ≤ 2 := t_equ h45 (by decide : (2:Int32).toInt ≤ (2:Int))
                  refine ev_loc f_X12_cut (nx := 29) rfl rfl rfl rfl ?_
                  refine ev_anyIE f_X12_cut (nx := 30) rfl rfl rfl rfl (fun z47 e47 => ?_)
                  refine ev_anyLE f_X12_cut (nx := 31) rfl rfl rfl rfl (fun z48 e48 => ?_)
                  have i48 : z48.toInt = z47.toInt := by rw [e48]; exact Int32.toInt_toInt64 _
                  refine ev_jmp f_X12_cut (nx := 35) rfl rfl rfl ?_
                  refine ev_retK1 f_X12_cut rfl rfl rfl ?_
                  refine ev_lastT f_X12_write (nx := 34) rfl (hI.wf.s rfl) l25 (by decide) u25 (by decide) rfl (hX.upL (t_inA_ok rfl)) (fun g49 e49 hX => ?_)
                  refine ev_loc f_X12_write (nx := 35) rfl rfl rfl rfl ?_
                  refine ev_loc f_X12_write (nx := 37) rfl rfl rfl rfl ?_
                  refine ev_inV2 f_X12_write (nx := 40) (lo2 := [(0, .ref 69), (1, .int 0)]) rfl rfl rfl rfl f_X12_is (hI.wf.s rfl) rfl rfl rfl rfl rfl ?_
                  refine ev_loc f_X12_is (nx := 1) rfl rfl rfl rfl ?_
                  refine ev_loc f_X12_is (nx := 2) rfl rfl rfl rfl ?_
                  refine ev_putIT f_X12_is (nx := 5) rfl (hI.wf.s rfl) rfl rfl rfl (hI.put0 (hI.wf.s rfl) rfl rfl) (hX.upI rfl) (fun g50 e50 hI hX => ?_)
                  refine ev_loc f_X12_is (nx := 6) rfl rfl rfl rfl ?_
                  refine ev_t f_X12_is (t1 := 9) (t2 := 13) rfl rfl rfl (by decide) ?_
                  refine ev_ic f_X12_is (nx := 10) (v := 1) rfl (by decide) rfl ?_
                  refine ev_jmp f_X12_is (nx := 14) rfl rfl rfl ?_
                  refine ev_retK1 f_X12_is rfl rfl rfl ?_
                  exact ev_ret f_X12_write rfl rfl rfl ⟨_, _, _, rfl, hI, hX, ⟨_, rfl, (Int.le_trans (by decide : (0:Int) ≤ 1) (by decide : (1:Int) ≤ (1:Int32).toInt)), (by decide : (1:Int32).toInt ≤ (1:Int)), (show (0 ≤ (1 : Int) ∧ (1 : Int) ≤ 1) ∧ ((0 ≤ ar1.toInt ∧ ar1.toInt ≤ 3) → ((1 : Int) = 1 ↔ (0 ≤ ar2.toInt ∧ ar2.toInt < (gi 73 ar1.toNatClampNeg).toInt)) ∧ (∀ j : Nat, g49 74 j = if (0 ≤ ar2.toInt ∧ ar2.toInt < (gi 73 ar1.toNatClampNeg).toInt) ∧ (j : Int) = 60 * ar1.toInt + ar2.toInt then t_cut (gi 72 ar1.toNatClampNeg).toInt ar3 else gl 74 j)) from (by have hfw9 : (gi 73 ar1.toNatClampNeg).toInt = w9.toInt := congrArg Int32.toInt e9.symm; have hfw26 : (gi 72 ar1.toNatClampNeg).toInt = w26.toInt := congrArg Int32.toInt e26.symm; refine ⟨⟨by omega, by omega⟩, fun hi1 => ?_⟩; exact ⟨by omega, t_wr3 e49 (by omega) (by omega) (by omega) (by unfold t_cut; first | (rw [if_pos (by omega), e48, e47]) | (rw [if_neg (by omega), if_pos (by omega), e48, e47]) | (rw [if_neg (by omega), if_neg (by omega), if_pos (by omega), e48, e47]) | (rw [if_neg (by omega), if_neg (by omega), if_neg (by omega)]))⟩))⟩⟩
                · have r51 : w26.toInt ≠ 2 := fun e => h45 (Int32.toInt_inj.mp (e.trans (by decide : (2:Int) = (2 : Int32).toInt)))
                  have l52 : 3 ≤ w26.toInt := t_nel h45 l44 rfl rfl
                  refine ev_loc f_X12_cut (nx := 35) rfl rfl rfl rfl ?_
                  refine ev_retK1 f_X12_cut rfl rfl rfl ?_
                  refine ev_lastT f_X12_write (nx := 34) rfl (hI.wf.s rfl) l25 (by decide) u25 (by decide) rfl (hX.upL (t_inA_ok rfl)) (fun g53 e53 hX => ?_)
                  refine ev_loc f_X12_write (nx := 35) rfl rfl rfl rfl ?_
                  refine ev_loc f_X12_write (nx := 37) rfl rfl rfl rfl ?_
                  refine ev_inV2 f_X12_write (nx := 40) (lo2 := [(0, .ref 69), (1, .int 0)]) rfl rfl rfl rfl f_X12_is (hI.wf.s rfl) rfl rfl rfl rfl rfl ?_
                  refine ev_loc f_X12_is (nx := 1) rfl rfl rfl rfl ?_
                  refine ev_loc f_X12_is (nx := 2) rfl rfl rfl rfl ?_
                  refine ev_putIT f_X12_is (nx := 5) rfl (hI.wf.s rfl) rfl rfl rfl (hI.put0 (hI.wf.s rfl) rfl rfl) (hX.upI rfl) (fun g54 e54 hI hX => ?_)
                  refine ev_loc f_X12_is (nx := 6) rfl rfl rfl rfl ?_
                  refine ev_t f_X12_is (t1 := 9) (t2 := 13) rfl rfl rfl (by decide) ?_
                  refine ev_ic f_X12_is (nx := 10) (v := 1) rfl (by decide) rfl ?_
                  refine ev_jmp f_X12_is (nx := 14) rfl rfl rfl ?_
                  refine ev_retK1 f_X12_is rfl rfl rfl ?_
                  exact ev_ret f_X12_write rfl rfl rfl ⟨_, _, _, rfl, hI, hX, ⟨_, rfl, (Int.le_trans (by decide : (0:Int) ≤ 1) (by decide : (1:Int) ≤ (1:Int32).toInt)), (by decide : (1:Int32).toInt ≤ (1:Int)), (show (0 ≤ (1 : Int) ∧ (1 : Int) ≤ 1) ∧ ((0 ≤ ar1.toInt ∧ ar1.toInt ≤ 3) → ((1 : Int) = 1 ↔ (0 ≤ ar2.toInt ∧ ar2.toInt < (gi 73 ar1.toNatClampNeg).toInt)) ∧ (∀ j : Nat, g53 74 j = if (0 ≤ ar2.toInt ∧ ar2.toInt < (gi 73 ar1.toNatClampNeg).toInt) ∧ (j : Int) = 60 * ar1.toInt + ar2.toInt then t_cut (gi 72 ar1.toNatClampNeg).toInt ar3 else gl 74 j)) from (by have hfw9 : (gi 73 ar1.toNatClampNeg).toInt = w9.toInt := congrArg Int32.toInt e9.symm; have hfw26 : (gi 72 ar1.toNatClampNeg).toInt = w26.toInt := congrArg Int32.toInt e26.symm; refine ⟨⟨by omega, by omega⟩, fun hi1 => ?_⟩; exact ⟨by omega, t_wr3 e53 (by omega) (by omega) (by omega) (by unfold t_cut; (rw [if_neg (by omega), if_neg (by omega), if_neg (by omega)]))⟩))⟩⟩
          · have r55 : w9.toInt ≤ ar2.toInt := Int32.le_iff_toInt_le.mp (t_nlt h20)
            refine ev_ic f_X12_wrongPlace (nx := 40) (v := 3) rfl (by decide) rfl ?_
            refine ev_jmp f_X12_wrongPlace (nx := 44) rfl rfl rfl ?_
            refine ev_retK1 f_X12_wrongPlace rfl rfl rfl ?_
            refine ev_loc f_X12_write (nx := 8) (lo' := [(5, .int 3), (0, .ref 69), (1, .int ar1), (2, .int ar2), (3, .long ar3)]) rfl rfl rfl rfl ?_
            refine ev_loc f_X12_write (nx := 10) rfl rfl rfl rfl ?_
            refine ev_f f_X12_write (t1 := 13) (t2 := 34) rfl rfl rfl (by decide) ?_
            refine ev_loc f_X12_write (nx := 35) rfl rfl rfl rfl ?_
            refine ev_loc f_X12_write (nx := 37) rfl rfl rfl rfl ?_
            refine ev_inV2 f_X12_write (nx := 40) (lo2 := [(0, .ref 69), (1, .int 3)]) rfl rfl rfl rfl f_X12_is (hI.wf.s rfl) rfl rfl rfl rfl rfl ?_
            refine ev_loc f_X12_is (nx := 1) rfl rfl rfl rfl ?_
            refine ev_loc f_X12_is (nx := 2) rfl rfl rfl rfl ?_
            refine ev_putIT f_X12_is (nx := 5) rfl (hI.wf.s rfl) rfl rfl rfl (hI.put0 (hI.wf.s rfl) rfl rfl) (hX.upI rfl) (fun g56 e56 hI hX => ?_)
            refine ev_loc f_X12_is (nx := 6) rfl rfl rfl rfl ?_
            refine ev_f f_X12_is (t1 := 9) (t2 := 13) rfl rfl rfl (by decide) ?_
            refine ev_ic f_X12_is (nx := 14) (v := 0) rfl (by decide) rfl ?_
            refine ev_retK1 f_X12_is rfl rfl rfl ?_
            exact ev_ret f_X12_write rfl rfl rfl ⟨_, _, _, rfl, hI, hX, ⟨_, rfl, (by decide : (0:Int) ≤ (0:Int32).toInt), (Int.le_trans (by decide : (0:Int32).toInt ≤ (0:Int)) (by decide : (0:Int) ≤ 1)), (show (0 ≤ (0 : Int) ∧ (0 : Int) ≤ 1) ∧ ((0 ≤ ar1.toInt ∧ ar1.toInt ≤ 3) → ((0 : Int) = 1 ↔ (0 ≤ ar2.toInt ∧ ar2.toInt < (gi 73 ar1.toNatClampNeg).toInt)) ∧ (∀ j : Nat, gl 74 j = if (0 ≤ ar2.toInt ∧ ar2.toInt < (gi 73 ar1.toNatClampNeg).toInt) ∧ (j : Int) = 60 * ar1.toInt + ar2.toInt then t_cut (gi 72 ar1.toNatClampNeg).toInt ar3 else gl 74 j)) from (by have hfw9 : (gi 73 ar1.toNatClampNeg).toInt = w9.toInt := congrArg Int32.toInt e9.symm; refine ⟨⟨by omega, by omega⟩, fun hi1 => ?_⟩; exact ⟨by omega, fun j => (if_neg (by omega)).symm⟩))⟩⟩
noncomputable def wl_h_read2 : List (Nat × Nat) := [(0, 0)]
noncomputable def Q_h_read2 (gi : Nat → Nat → Int32) (gl : Nat → Nat → Int64) (gr : Nat → Nat → Value) (ar1 : Int32) (ar2 : Int32) : Int64 → (Nat → Nat → Int32) → (Nat → Nat → Int64) → (Nat → Nat → Value) → Prop := fun (v : Int64) (gi2 : Nat → Nat → Int32) (gl2 : Nat → Nat → Int64) (gr2 : Nat → Nat → Value) => ((¬ (0 ≤ ar1.toInt ∧ ar1.toInt ≤ 3) → v = -1) ∧ (∀ A R : Nat, gr 1 ar1.toNatClampNeg = .ref A → gr A 0 = .ref R → (0 ≤ ar1.toInt ∧ ar1.toInt ≤ 3) → ((0 ≤ ar2.toInt ∧ ar2.toInt < (gi A 2).toInt) → v = gl R ar2.toNatClampNeg) ∧ (¬ (0 ≤ ar2.toInt ∧ ar2.toInt < (gi A 2).toInt) → v = -1)))
theorem c_h_read2 {X : x_Ext} {d : Nat} {sh : List (Nat ⊕ (Nat × Nat))} {gi : Nat → Nat → Int32} {gl : Nat → Nat → Int64} {gr : Nat → Nat → Value} (hI : t_I sh gi gr) (ar1 : Int32) (ar2 : Int32) : x_Me X (d + 3) n_X11_read [.ref 0, .int ar1, .int ar2] (sh, gi, gl, gr) (t_PL wl_h_read2 sh gi gl gr (Q_h_read2 gi gl gr ar1 ar2)) := by
  have hX : t_X wl_h_read2 sh gi gl gr gi gl gr := t_X.rf
  refine me_i f_X11_read (hI.wf.s rfl) rfl rfl rfl ?_
  refine ev_loc f_X11_read (nx := 1) rfl rfl rfl rfl ?_
  refine ev_loc f_X11_read (nx := 2) rfl rfl rfl rfl ?_
  refine ev_loc f_X11_read (nx := 3) rfl rfl rfl rfl ?_
  refine ev_inV3 f_X11_read (nx := 6) (lo2 := [(0, .ref 0), (1, .int ar1), (2, .int ar2)]) rfl rfl rfl rfl f_X11_wrongPlace (hI.wf.s rfl) rfl rfl rfl rfl rfl ?_
  refine ev_loc f_X11_wrongPlace (nx := 1) rfl rfl rfl rfl ?_
  refine ev_loc f_X11_wrongPlace (nx := 2) rfl rfl rfl rfl ?_
  refine ev_inV2 f_X11_wrongPlace (nx := 5) (lo2 := [(0, .ref 0), (1, .int ar1)]) rfl rfl rfl rfl f_X11_isTray (hI.wf.s rfl) rfl rfl rfl rfl rfl ?_
  refine ev_loc f_X11_isTray (nx := 1) rfl rfl rfl rfl ?_
  refine ev_if f_X11_isTray (t1 := 26) (t2 := 4) rfl rfl rfl (fun h1 => ?_) (fun h1 => ?_)
  · have u2 : ar1.toInt ≤ (-1) := t_ltu h1 (by decide : (0:Int32).toInt ≤ (0:Int)) rfl
    refine ev_ic f_X11_isTray (nx := 27) (v := 0) rfl (by decide) rfl ?_
    refine ev_retK1 f_X11_isTray rfl rfl rfl ?_
    refine ev_t f_X11_wrongPlace (t1 := 8) (t2 := 10) rfl rfl rfl (by decide) ?_
    refine ev_ic f_X11_wrongPlace (nx := 9) (v := 1) rfl (by decide) rfl ?_
    refine ev_retK1 f_X11_wrongPlace rfl rfl rfl ?_
    refine ev_loc f_X11_read (nx := 7) (lo' := [(3, .int 1), (0, .ref 0), (1, .int ar1), (2, .int ar2)]) rfl rfl rfl rfl ?_
    refine ev_loc f_X11_read (nx := 8) rfl rfl rfl rfl ?_
    refine ev_f f_X11_read (t1 := 18) (t2 := 11) rfl rfl rfl (by decide) ?_
    refine ev_loc f_X11_read (nx := 12) rfl rfl rfl rfl ?_
    refine ev_loc f_X11_read (nx := 13) rfl rfl rfl rfl ?_
    refine ev_inV2 f_X11_read (nx := 16) (lo2 := [(0, .ref 0), (1, .int 1)]) rfl rfl rfl rfl f_X11_refuse (hI.wf.s rfl) rfl rfl rfl rfl rfl ?_
    refine ev_loc f_X11_refuse (nx := 1) rfl rfl rfl rfl ?_
    refine ev_loc f_X11_refuse (nx := 2) rfl rfl rfl rfl ?_
    refine ev_putIT f_X11_refuse (nx := 5) rfl (hI.wf.s rfl) rfl rfl rfl (hI.put0 (hI.wf.s rfl) rfl rfl) (hX.upI rfl) (fun g3 e3 hI hX => ?_)
    refine ev_ic f_X11_refuse (nx := 6) (v := -1) rfl (by decide) rfl ?_
    refine ev_retK1 f_X11_refuse rfl rfl rfl ?_
    refine ev_aluvL f_X11_read (nx := 17) (w := -1) rfl rfl rfl (by decide) rfl ?_
    exact ev_ret f_X11_read rfl rfl rfl ⟨_, _, _, rfl, hI, hX, ⟨_, rfl, (show ((¬ (0 ≤ ar1.toInt ∧ ar1.toInt ≤ 3) → ((-1) : Int64) = -1) ∧ (∀ A R : Nat, gr 1 ar1.toNatClampNeg = .ref A → gr A 0 = .ref R → (0 ≤ ar1.toInt ∧ ar1.toInt ≤ 3) → ((0 ≤ ar2.toInt ∧ ar2.toInt < (gi A 2).toInt) → ((-1) : Int64) = gl R ar2.toNatClampNeg) ∧ (¬ (0 ≤ ar2.toInt ∧ ar2.toInt < (gi A 2).toInt) → ((-1) : Int64) = -1))) from (by refine ⟨fun _ => rfl, fun A R hA hR hi1 => ?_⟩; exact ⟨fun h => absurd h (by omega), fun _ => rfl⟩))⟩⟩
  · have l4 : 0 ≤ ar1.toInt := t_lel (t_nlt h1) (by decide : (0:Int) ≤ (0:Int32).toInt)
    refine ev_loc f_X11_isTray (nx := 5) rfl rfl rfl rfl ?_
    refine ev_loc f_X11_isTray (nx := 6) rfl rfl rfl rfl ?_
    refine ev_getR f_X11_isTray (nx := 9) rfl (hI.wf.s rfl) rfl rfl (hI.wf.r rfl) rfl rfl ?_
    refine ev_alenv f_X11_isTray (nx := 10) (w := 4) rfl (hI.wf.s rfl) rfl (by decide) rfl ?_
    refine ev_if f_X11_isTray (t1 := 26) (t2 := 13) rfl rfl rfl (fun h5 => ?_) (fun h5 => ?_)
    · have l6 : 4 ≤ ar1.toInt := t_lel h5 (by decide : (4:Int) ≤ (4:Int32).toInt)
      refine ev_ic f_X11_isTray (nx := 27) (v := 0) rfl (by decide) rfl ?_
      refine ev_retK1 f_X11_isTray rfl rfl rfl ?_
      refine ev_t f_X11_wrongPlace (t1 := 8) (t2 := 10) rfl rfl rfl (by decide) ?_
      refine ev_ic f_X11_wrongPlace (nx := 9) (v := 1) rfl (by decide) rfl ?_
      refine ev_retK1 f_X11_wrongPlace rfl rfl rfl ?_
      refine ev_loc f_X11_read (nx := 7) (lo' := [(3, .int 1), (0, .ref 0), (1, .int ar1), (2, .int ar2)]) rfl rfl rfl rfl ?_
      refine ev_loc f_X11_read (nx := 8) rfl rfl rfl rfl ?_
      refine ev_f f_X11_read (t1 := 18) (t2 := 11) rfl rfl rfl (by decide) ?_
      refine ev_loc f_X11_read (nx := 12) rfl rfl rfl rfl ?_
      refine ev_loc f_X11_read (nx := 13) rfl rfl rfl rfl ?_
      refine ev_inV2 f_X11_read (nx := 16) (lo2 := [(0, .ref 0), (1, .int 1)]) rfl rfl rfl rfl f_X11_refuse (hI.wf.s rfl) rfl rfl rfl rfl rfl ?_
      refine ev_loc f_X11_refuse (nx := 1) rfl rfl rfl rfl ?_
      refine ev_loc f_X11_refuse (nx := 2) rfl rfl rfl rfl ?_
      refine ev_putIT f_X11_refuse (nx := 5) rfl (hI.wf.s rfl) rfl rfl rfl (hI.put0 (hI.wf.s rfl) rfl rfl) (hX.upI rfl) (fun g7 e7 hI hX => ?_)
      refine ev_ic f_X11_refuse (nx := 6) (v := -1) rfl (by decide) rfl ?_
      refine ev_retK1 f_X11_refuse rfl rfl rfl ?_
      refine ev_aluvL f_X11_read (nx := 17) (w := -1) rfl rfl rfl (by decide) rfl ?_
      exact ev_ret f_X11_read rfl rfl rfl ⟨_, _, _, rfl, hI, hX, ⟨_, rfl, (show ((¬ (0 ≤ ar1.toInt ∧ ar1.toInt ≤ 3) → ((-1) : Int64) = -1) ∧ (∀ A R : Nat, gr 1 ar1.toNatClampNeg = .ref A → gr A 0 = .ref R → (0 ≤ ar1.toInt ∧ ar1.toInt ≤ 3) → ((0 ≤ ar2.toInt ∧ ar2.toInt < (gi A 2).toInt) → ((-1) : Int64) = gl R ar2.toNatClampNeg) ∧ (¬ (0 ≤ ar2.toInt ∧ ar2.toInt < (gi A 2).toInt) → ((-1) : Int64) = -1))) from (by refine ⟨fun _ => rfl, fun A R hA hR hi1 => ?_⟩; exact ⟨fun h => absurd h (by omega), fun _ => rfl⟩))⟩⟩
    · have u8 : ar1.toInt ≤ 3 := t_ltu (t_nle h5) (by decide : (4:Int32).toInt ≤ (4:Int)) rfl
      refine ev_loc f_X11_isTray (nx := 14) rfl rfl rfl rfl ?_
      refine ev_getR f_X11_isTray (nx := 17) rfl (hI.wf.s rfl) rfl rfl (hI.wf.r rfl) rfl rfl ?_
      refine ev_loc f_X11_isTray (nx := 18) rfl rfl rfl rfl ?_
      obtain ⟨a9, e9, p9⟩ := t_tray hI.wf l4 (by decide) u8 (by decide)
      refine ev_aald f_X11_isTray (nx := 19) rfl (hI.wf.s rfl) rfl (t_idx (n := 4) l4 (by decide) u8 (by decide)).1 (t_idx (n := 4) l4 (by decide) u8 (by decide)).2 e9 rfl rfl ?_
      refine ev_jmp f_X11_isTray (nx := 22) rfl rfl rfl ?_
      refine ev_ic f_X11_isTray (nx := 23) (v := 1) rfl (by decide) rfl ?_
      refine ev_jmp f_X11_isTray (nx := 27) rfl rfl rfl ?_
      refine ev_retK1 f_X11_isTray rfl rfl rfl ?_
      refine ev_f f_X11_wrongPlace (t1 := 8) (t2 := 10) rfl rfl rfl (by decide) ?_
      refine ev_loc f_X11_wrongPlace (nx := 11) rfl rfl rfl rfl ?_
      refine ev_getR f_X11_wrongPlace (nx := 14) rfl (hI.wf.s rfl) rfl rfl (hI.wf.r rfl) rfl rfl ?_
      refine ev_loc f_X11_wrongPlace (nx := 15) rfl rfl rfl rfl ?_
      obtain ⟨a10, e10, p10⟩ := t_tray hI.wf l4 (by decide) u8 (by decide)
      refine ev_aald f_X11_wrongPlace (nx := 16) rfl (hI.wf.s rfl) rfl (t_idx (n := 4) l4 (by decide) u8 (by decide)).1 (t_idx (n := 4) l4 (by decide) u8 (by decide)).2 e10 rfl rfl ?_
      refine ev_inV1 f_X11_wrongPlace (nx := 19) (lo2 := [(0, .ref a10)]) rfl rfl rfl rfl f_X10_isMissing p10.1 rfl rfl rfl rfl rfl ?_
      refine ev_loc f_X10_isMissing (nx := 1) rfl rfl rfl rfl ?_
      refine ev_getI f_X10_isMissing (nx := 4) rfl p10.1 rfl rfl rfl ?_
      obtain ⟨l11, u11⟩ := hI.b p10.1 (t_bdK rfl : t_bd 9 2 = some ((-1), 60))
      refine ev_ic f_X10_isMissing (nx := 5) (v := -1) rfl (by decide) rfl ?_
      refine ev_if f_X10_isMissing (t1 := 8) (t2 := 12) rfl rfl rfl (fun h12 => ?_) (fun h12 => ?_)
      · have u13 : (gi a10 2).toInt ≤ (-1) := t_equ h12 (by decide : ((-1):Int32).toInt ≤ ((-1):Int))
        refine ev_ic f_X10_isMissing (nx := 9) (v := 1) rfl (by decide) rfl ?_
        refine ev_jmp f_X10_isMissing (nx := 13) rfl rfl rfl ?_
        refine ev_retK1 f_X10_isMissing rfl rfl rfl ?_
        refine ev_f f_X11_wrongPlace (t1 := 24) (t2 := 22) rfl rfl rfl (by decide) ?_
        refine ev_ic f_X11_wrongPlace (nx := 23) (v := 2) rfl (by decide) rfl ?_
        refine ev_retK1 f_X11_wrongPlace rfl rfl rfl ?_
        refine ev_loc f_X11_read (nx := 7) (lo' := [(3, .int 2), (0, .ref 0), (1, .int ar1), (2, .int ar2)]) rfl rfl rfl rfl ?_
        refine ev_loc f_X11_read (nx := 8) rfl rfl rfl rfl ?_
        refine ev_f f_X11_read (t1 := 18) (t2 := 11) rfl rfl rfl (by decide) ?_
        refine ev_loc f_X11_read (nx := 12) rfl rfl rfl rfl ?_
        refine ev_loc f_X11_read (nx := 13) rfl rfl rfl rfl ?_
        refine ev_inV2 f_X11_read (nx := 16) (lo2 := [(0, .ref 0), (1, .int 2)]) rfl rfl rfl rfl f_X11_refuse (hI.wf.s rfl) rfl rfl rfl rfl rfl ?_
        refine ev_loc f_X11_refuse (nx := 1) rfl rfl rfl rfl ?_
        refine ev_loc f_X11_refuse (nx := 2) rfl rfl rfl rfl ?_
        refine ev_putIT f_X11_refuse (nx := 5) rfl (hI.wf.s rfl) rfl rfl rfl (hI.put0 (hI.wf.s rfl) rfl rfl) (hX.upI rfl) (fun g14 e14 hI hX => ?_)
        refine ev_ic f_X11_refuse (nx := 6) (v := -1) rfl (by decide) rfl ?_
        refine ev_retK1 f_X11_refuse rfl rfl rfl ?_
        refine ev_aluvL f_X11_read (nx := 17) (w := -1) rfl rfl rfl (by decide) rfl ?_
        exact ev_ret f_X11_read rfl rfl rfl ⟨_, _, _, rfl, hI, hX, ⟨_, rfl, (show ((¬ (0 ≤ ar1.toInt ∧ ar1.toInt ≤ 3) → ((-1) : Int64) = -1) ∧ (∀ A R : Nat, gr 1 ar1.toNatClampNeg = .ref A → gr A 0 = .ref R → (0 ≤ ar1.toInt ∧ ar1.toInt ≤ 3) → ((0 ≤ ar2.toInt ∧ ar2.toInt < (gi A 2).toInt) → ((-1) : Int64) = gl R ar2.toNatClampNeg) ∧ (¬ (0 ≤ ar2.toInt ∧ ar2.toInt < (gi A 2).toInt) → ((-1) : Int64) = -1))) from (by refine ⟨fun _ => rfl, fun A R hA hR hi1 => ?_⟩; rw [e10] at hA; cases hA; have hh := e9.symm.trans e10; cases hh; exact ⟨fun h => absurd h (by omega), fun _ => rfl⟩))⟩⟩
      · have r15 : (gi a10 2).toInt ≠ (-1) := fun e => h12 (Int32.toInt_inj.mp (e.trans (by decide : ((-1):Int) = ((-1) : Int32).toInt)))
        have l16 : 0 ≤ (gi a10 2).toInt := t_nel h12 l11 rfl rfl
        refine ev_ic f_X10_isMissing (nx := 13) (v := 0) rfl (by decide) rfl ?_
        refine ev_retK1 f_X10_isMissing rfl rfl rfl ?_
        refine ev_t f_X11_wrongPlace (t1 := 24) (t2 := 22) rfl rfl rfl (by decide) ?_
        refine ev_loc f_X11_wrongPlace (nx := 25) rfl rfl rfl rfl ?_
        refine ev_if f_X11_wrongPlace (t1 := 46) (t2 := 28) rfl rfl rfl (fun h17 => ?_) (fun h17 => ?_)
        · have u18 : ar2.toInt ≤ (-1) := t_ltu h17 (by decide : (0:Int32).toInt ≤ (0:Int)) rfl
          refine ev_ic f_X11_wrongPlace (nx := 47) (v := 3) rfl (by decide) rfl ?_
          refine ev_retK1 f_X11_wrongPlace rfl rfl rfl ?_
          refine ev_loc f_X11_read (nx := 7) (lo' := [(3, .int 3), (0, .ref 0), (1, .int ar1), (2, .int ar2)]) rfl rfl rfl rfl ?_
          refine ev_loc f_X11_read (nx := 8) rfl rfl rfl rfl ?_
          refine ev_f f_X11_read (t1 := 18) (t2 := 11) rfl rfl rfl (by decide) ?_
          refine ev_loc f_X11_read (nx := 12) rfl rfl rfl rfl ?_
          refine ev_loc f_X11_read (nx := 13) rfl rfl rfl rfl ?_
          refine ev_inV2 f_X11_read (nx := 16) (lo2 := [(0, .ref 0), (1, .int 3)]) rfl rfl rfl rfl f_X11_refuse (hI.wf.s rfl) rfl rfl rfl rfl rfl ?_
          refine ev_loc f_X11_refuse (nx := 1) rfl rfl rfl rfl ?_
          refine ev_loc f_X11_refuse (nx := 2) rfl rfl rfl rfl ?_
          refine ev_putIT f_X11_refuse (nx := 5) rfl (hI.wf.s rfl) rfl rfl rfl (hI.put0 (hI.wf.s rfl) rfl rfl) (hX.upI rfl) (fun g19 e19 hI hX => ?_)
          refine ev_ic f_X11_refuse (nx := 6) (v := -1) rfl (by decide) rfl ?_
          refine ev_retK1 f_X11_refuse rfl rfl rfl ?_
          refine ev_aluvL f_X11_read (nx := 17) (w := -1) rfl rfl rfl (by decide) rfl ?_
          exact ev_ret f_X11_read rfl rfl rfl ⟨_, _, _, rfl, hI, hX, ⟨_, rfl, (show ((¬ (0 ≤ ar1.toInt ∧ ar1.toInt ≤ 3) → ((-1) : Int64) = -1) ∧ (∀ A R : Nat, gr 1 ar1.toNatClampNeg = .ref A → gr A 0 = .ref R → (0 ≤ ar1.toInt ∧ ar1.toInt ≤ 3) → ((0 ≤ ar2.toInt ∧ ar2.toInt < (gi A 2).toInt) → ((-1) : Int64) = gl R ar2.toNatClampNeg) ∧ (¬ (0 ≤ ar2.toInt ∧ ar2.toInt < (gi A 2).toInt) → ((-1) : Int64) = -1))) from (by refine ⟨fun _ => rfl, fun A R hA hR hi1 => ?_⟩; rw [e10] at hA; cases hA; have hh := e9.symm.trans e10; cases hh; exact ⟨fun h => absurd h (by omega), fun _ => rfl⟩))⟩⟩
        · have l20 : 0 ≤ ar2.toInt := t_lel (t_nlt h17) (by decide : (0:Int) ≤ (0:Int32).toInt)
          refine ev_loc f_X11_wrongPlace (nx := 29) rfl rfl rfl rfl ?_
          refine ev_getR f_X11_wrongPlace (nx := 32) rfl (hI.wf.s rfl) rfl rfl (hI.wf.r rfl) rfl rfl ?_
          refine ev_loc f_X11_wrongPlace (nx := 33) rfl rfl rfl rfl ?_
          obtain ⟨a21, e21, p21⟩ := t_tray hI.wf l4 (by decide) u8 (by decide)
          refine ev_aald f_X11_wrongPlace (nx := 34) rfl (hI.wf.s rfl) rfl (t_idx (n := 4) l4 (by decide) u8 (by decide)).1 (t_idx (n := 4) l4 (by decide) u8 (by decide)).2 e21 rfl rfl ?_
          refine ev_loc f_X11_wrongPlace (nx := 35) rfl rfl rfl rfl ?_
          refine ev_ic f_X11_wrongPlace (nx := 36) (v := 1) rfl (by decide) rfl ?_
          refine ev_inV3 f_X11_wrongPlace (nx := 39) (lo2 := [(0, .ref a21), (1, .int ar2), (2, .int 1)]) rfl rfl rfl rfl f_X10_hasStretch p21.1 rfl rfl rfl rfl rfl ?_
          refine ev_loc f_X10_hasStretch (nx := 1) rfl rfl rfl rfl ?_
          refine ev_loc f_X10_hasStretch (nx := 2) rfl rfl rfl rfl ?_
          refine ev_getI f_X10_hasStretch (nx := 5) rfl p21.1 rfl rfl rfl ?_
          obtain ⟨l22, u22⟩ := hI.b p21.1 (t_bdK rfl : t_bd 9 2 = some ((-1), 60))
          refine ev_if f_X10_hasStretch (t1 := 22) (t2 := 8) rfl rfl rfl (fun h23 => ?_) (fun h23 => ?_)
          · have r24 : (gi a21 2).toInt < ar2.toInt := Int32.lt_iff_toInt_lt.mp h23
            refine ev_ic f_X10_hasStretch (nx := 23) (v := 0) rfl (by decide) rfl ?_
            refine ev_retK1 f_X10_hasStretch rfl rfl rfl ?_
            refine ev_t f_X11_wrongPlace (t1 := 46) (t2 := 42) rfl rfl rfl (by decide) ?_
            refine ev_ic f_X11_wrongPlace (nx := 47) (v := 3) rfl (by decide) rfl ?_
            refine ev_retK1 f_X11_wrongPlace rfl rfl rfl ?_
            refine ev_loc f_X11_read (nx := 7) (lo' := [(3, .int 3), (0, .ref 0), (1, .int ar1), (2, .int ar2)]) rfl rfl rfl rfl ?_
            refine ev_loc f_X11_read (nx := 8) rfl rfl rfl rfl ?_
            refine ev_f f_X11_read (t1 := 18) (t2 := 11) rfl rfl rfl (by decide) ?_
            refine ev_loc f_X11_read (nx := 12) rfl rfl rfl rfl ?_
            refine ev_loc f_X11_read (nx := 13) rfl rfl rfl rfl ?_
            refine ev_inV2 f_X11_read (nx := 16) (lo2 := [(0, .ref 0), (1, .int 3)]) rfl rfl rfl rfl f_X11_refuse (hI.wf.s rfl) rfl rfl rfl rfl rfl ?_
            refine ev_loc f_X11_refuse (nx := 1) rfl rfl rfl rfl ?_
            refine ev_loc f_X11_refuse (nx := 2) rfl rfl rfl rfl ?_
            refine ev_putIT f_X11_refuse (nx := 5) rfl (hI.wf.s rfl) rfl rfl rfl (hI.put0 (hI.wf.s rfl) rfl rfl) (hX.upI rfl) (fun g25 e25 hI hX => ?_)
            refine ev_ic f_X11_refuse (nx := 6) (v := -1) rfl (by decide) rfl ?_
            refine ev_retK1 f_X11_refuse rfl rfl rfl ?_
            refine ev_aluvL f_X11_read (nx := 17) (w := -1) rfl rfl rfl (by decide) rfl ?_
            exact ev_ret f_X11_read rfl rfl rfl ⟨_, _, _, rfl, hI, hX, ⟨_, rfl, (show ((¬ (0 ≤ ar1.toInt ∧ ar1.toInt ≤ 3) → ((-1) : Int64) = -1) ∧ (∀ A R : Nat, gr 1 ar1.toNatClampNeg = .ref A → gr A 0 = .ref R → (0 ≤ ar1.toInt ∧ ar1.toInt ≤ 3) → ((0 ≤ ar2.toInt ∧ ar2.toInt < (gi A 2).toInt) → ((-1) : Int64) = gl R ar2.toNatClampNeg) ∧ (¬ (0 ≤ ar2.toInt ∧ ar2.toInt < (gi A 2).toInt) → ((-1) : Int64) = -1))) from (by refine ⟨fun _ => rfl, fun A R hA hR hi1 => ?_⟩; rw [e21] at hA; cases hA; have hh := e9.symm.trans e21; cases hh; have hh := e10.symm.trans e21; cases hh; exact ⟨fun h => absurd h (by omega), fun _ => rfl⟩))⟩⟩
          · have r26 : ar2.toInt ≤ (gi a21 2).toInt := Int32.le_iff_toInt_le.mp (t_nlt h23)
            have u27 : ar2.toInt ≤ 60 := t_leu (t_nlt h23) u22
            have l28 : 0 ≤ (gi a21 2).toInt := t_lel (t_nlt h23) l20
            refine ev_loc f_X10_hasStretch (nx := 9) rfl rfl rfl rfl ?_
            refine ev_loc f_X10_hasStretch (nx := 10) rfl rfl rfl rfl ?_
            refine ev_gvI f_X10_hasStretch (nx := 13) (w := (gi a21 2)) rfl p21.1 rfl rfl rfl rfl ?_
            refine ev_loc f_X10_hasStretch (nx := 14) rfl rfl rfl rfl ?_
            refine ev_subR f_X10_hasStretch (nx := 15) (l := (-60)) (u := 60) rfl l28 u22 l20 u27 rfl rfl (by decide) (by decide) rfl (fun z29 e29 l29 u29 => ?_)
            refine ev_if f_X10_hasStretch (t1 := 22) (t2 := 18) rfl rfl rfl (fun h30 => ?_) (fun h30 => ?_)
            · have u31 : z29.toInt ≤ 0 := t_ltu h30 (by decide : (1:Int32).toInt ≤ (1:Int)) rfl
              refine ev_ic f_X10_hasStretch (nx := 23) (v := 0) rfl (by decide) rfl ?_
              refine ev_retK1 f_X10_hasStretch rfl rfl rfl ?_
              refine ev_t f_X11_wrongPlace (t1 := 46) (t2 := 42) rfl rfl rfl (by decide) ?_
              refine ev_ic f_X11_wrongPlace (nx := 47) (v := 3) rfl (by decide) rfl ?_
              refine ev_retK1 f_X11_wrongPlace rfl rfl rfl ?_
              refine ev_loc f_X11_read (nx := 7) (lo' := [(3, .int 3), (0, .ref 0), (1, .int ar1), (2, .int ar2)]) rfl rfl rfl rfl ?_
              refine ev_loc f_X11_read (nx := 8) rfl rfl rfl rfl ?_
              refine ev_f f_X11_read (t1 := 18) (t2 := 11) rfl rfl rfl (by decide) ?_
              refine ev_loc f_X11_read (nx := 12) rfl rfl rfl rfl ?_
              refine ev_loc f_X11_read (nx := 13) rfl rfl rfl rfl ?_
              refine ev_inV2 f_X11_read (nx := 16) (lo2 := [(0, .ref 0), (1, .int 3)]) rfl rfl rfl rfl f_X11_refuse (hI.wf.s rfl) rfl rfl rfl rfl rfl ?_
              refine ev_loc f_X11_refuse (nx := 1) rfl rfl rfl rfl ?_
              refine ev_loc f_X11_refuse (nx := 2) rfl rfl rfl rfl ?_
              refine ev_putIT f_X11_refuse (nx := 5) rfl (hI.wf.s rfl) rfl rfl rfl (hI.put0 (hI.wf.s rfl) rfl rfl) (hX.upI rfl) (fun g32 e32 hI hX => ?_)
              refine ev_ic f_X11_refuse (nx := 6) (v := -1) rfl (by decide) rfl ?_
              refine ev_retK1 f_X11_refuse rfl rfl rfl ?_
              refine ev_aluvL f_X11_read (nx := 17) (w := -1) rfl rfl rfl (by decide) rfl ?_
              exact ev_ret f_X11_read rfl rfl rfl ⟨_, _, _, rfl, hI, hX, ⟨_, rfl, (show ((¬ (0 ≤ ar1.toInt ∧ ar1.toInt ≤ 3) → ((-1) : Int64) = -1) ∧ (∀ A R : Nat, gr 1 ar1.toNatClampNeg = .ref A → gr A 0 = .ref R → (0 ≤ ar1.toInt ∧ ar1.toInt ≤ 3) → ((0 ≤ ar2.toInt ∧ ar2.toInt < (gi A 2).toInt) → ((-1) : Int64) = gl R ar2.toNatClampNeg) ∧ (¬ (0 ≤ ar2.toInt ∧ ar2.toInt < (gi A 2).toInt) → ((-1) : Int64) = -1))) from (by refine ⟨fun _ => rfl, fun A R hA hR hi1 => ?_⟩; rw [e21] at hA; cases hA; have hh := e9.symm.trans e21; cases hh; have hh := e10.symm.trans e21; cases hh; exact ⟨fun h => absurd h (by omega), fun _ => rfl⟩))⟩⟩
            · have l33 : 1 ≤ z29.toInt := t_lel (t_nlt h30) (by decide : (1:Int) ≤ (1:Int32).toInt)
              have u34 : ar2.toInt ≤ 59 := by have := u22; omega
              refine ev_ic f_X10_hasStretch (nx := 19) (v := 1) rfl (by decide) rfl ?_
              refine ev_jmp f_X10_hasStretch (nx := 23) rfl rfl rfl ?_
              refine ev_retK1 f_X10_hasStretch rfl rfl rfl ?_
              refine ev_f f_X11_wrongPlace (t1 := 46) (t2 := 42) rfl rfl rfl (by decide) ?_
              refine ev_ic f_X11_wrongPlace (nx := 43) (v := 0) rfl (by decide) rfl ?_
              refine ev_jmp f_X11_wrongPlace (nx := 47) rfl rfl rfl ?_
              refine ev_retK1 f_X11_wrongPlace rfl rfl rfl ?_
              refine ev_loc f_X11_read (nx := 7) (lo' := [(3, .int 0), (0, .ref 0), (1, .int ar1), (2, .int ar2)]) rfl rfl rfl rfl ?_
              refine ev_loc f_X11_read (nx := 8) rfl rfl rfl rfl ?_
              refine ev_t f_X11_read (t1 := 18) (t2 := 11) rfl rfl rfl (by decide) ?_
              refine ev_loc f_X11_read (nx := 19) rfl rfl rfl rfl ?_
              refine ev_loc f_X11_read (nx := 20) rfl rfl rfl rfl ?_
              refine ev_getR f_X11_read (nx := 23) rfl (hI.wf.s rfl) rfl rfl (hI.wf.r rfl) rfl rfl ?_
              refine ev_loc f_X11_read (nx := 24) rfl rfl rfl rfl ?_
              obtain ⟨a35, e35, p35⟩ := t_tray hI.wf l4 (by decide) u8 (by decide)
              refine ev_aald f_X11_read (nx := 25) rfl (hI.wf.s rfl) rfl (t_idx (n := 4) l4 (by decide) u8 (by decide)).1 (t_idx (n := 4) l4 (by decide) u8 (by decide)).2 e35 rfl rfl ?_
              have e36 := p35.2.1.1
              have s36 := p35.2.1.2
              refine ev_getR f_X11_read (nx := 28) rfl p35.1 rfl rfl e36 rfl rfl ?_
              refine ev_loc f_X11_read (nx := 29) rfl rfl rfl rfl ?_
              refine ev_laldT f_X11_read (nx := 30) rfl s36 l20 (by decide) u34 (by decide) rfl (fun w37 e37 => ?_)
              refine ev_inV2 f_X11_read (nx := 33) (lo2 := [(0, .ref 0), (1, .long w37)]) rfl rfl rfl rfl f_X11_answerLong (hI.wf.s rfl) rfl rfl rfl rfl rfl ?_
              refine ev_loc f_X11_answerLong (nx := 1) rfl rfl rfl rfl ?_
              refine ev_ic f_X11_answerLong (nx := 2) (v := 0) rfl (by decide) rfl ?_
              refine ev_putIT f_X11_answerLong (nx := 5) rfl (hI.wf.s rfl) rfl rfl rfl (hI.put0 (hI.wf.s rfl) rfl rfl) (hX.upI rfl) (fun g38 e38 hI hX => ?_)
              refine ev_loc f_X11_answerLong (nx := 6) rfl rfl rfl rfl ?_
              refine ev_retK1 f_X11_answerLong rfl rfl rfl ?_
              exact ev_ret f_X11_read rfl rfl rfl ⟨_, _, _, rfl, hI, hX, ⟨_, rfl, (show ((¬ (0 ≤ ar1.toInt ∧ ar1.toInt ≤ 3) → w37 = -1) ∧ (∀ A R : Nat, gr 1 ar1.toNatClampNeg = .ref A → gr A 0 = .ref R → (0 ≤ ar1.toInt ∧ ar1.toInt ≤ 3) → ((0 ≤ ar2.toInt ∧ ar2.toInt < (gi A 2).toInt) → w37 = gl R ar2.toNatClampNeg) ∧ (¬ (0 ≤ ar2.toInt ∧ ar2.toInt < (gi A 2).toInt) → w37 = -1))) from (by refine ⟨fun h => absurd h (by omega), fun A R hA hR hi1 => ?_⟩; rw [e35] at hA; cases hA; have hh := e9.symm.trans e35; cases hh; have hh := e10.symm.trans e35; cases hh; have hh := e21.symm.trans e35; cases hh; have hrrR := (e36).symm.trans hR; cases hrrR; exact ⟨fun _ => e37, fun h => absurd h (by omega)⟩))⟩⟩
noncomputable def wl_m_read2 : List (Nat × Nat) := [(69, 2)]
noncomputable def Q_m_read2 (gi : Nat → Nat → Int32) (gl : Nat → Nat → Int64) (gr : Nat → Nat → Value) (ar1 : Int32) (ar2 : Int32) : Int64 → (Nat → Nat → Int32) → (Nat → Nat → Int64) → (Nat → Nat → Value) → Prop := fun (v : Int64) (gi2 : Nat → Nat → Int32) (gl2 : Nat → Nat → Int64) (gr2 : Nat → Nat → Value) => ((¬ (0 ≤ ar1.toInt ∧ ar1.toInt ≤ 3) → v = -1) ∧ ((0 ≤ ar1.toInt ∧ ar1.toInt ≤ 3) → ((0 ≤ ar2.toInt ∧ ar2.toInt < (gi 73 ar1.toNatClampNeg).toInt) → v = gl 74 (60 * ar1.toNatClampNeg + ar2.toNatClampNeg)) ∧ (¬ (0 ≤ ar2.toInt ∧ ar2.toInt < (gi 73 ar1.toNatClampNeg).toInt) → v = -1)))
theorem c_m_read2 {X : x_Ext} {d : Nat} {sh : List (Nat ⊕ (Nat × Nat))} {gi : Nat → Nat → Int32} {gl : Nat → Nat → Int64} {gr : Nat → Nat → Value} (hI : t_I sh gi gr) (ar1 : Int32) (ar2 : Int32) : x_Me X (d + 3) n_X12_read [.ref 69, .int ar1, .int ar2] (sh, gi, gl, gr) (t_PL wl_m_read2 sh gi gl gr (Q_m_read2 gi gl gr ar1 ar2)) := by
  have hX : t_X wl_m_read2 sh gi gl gr gi gl gr := t_X.rf
  refine me_i f_X12_read (hI.wf.s rfl) rfl rfl rfl ?_
  refine ev_loc f_X12_read (nx := 1) rfl rfl rfl rfl ?_
  refine ev_loc f_X12_read (nx := 2) rfl rfl rfl rfl ?_
  refine ev_loc f_X12_read (nx := 3) rfl rfl rfl rfl ?_
  refine ev_loc f_X12_read (nx := 4) rfl rfl rfl rfl ?_
  refine ev_inV3 f_X12_read (nx := 7) (lo2 := [(0, .ref 69), (1, .int ar1), (2, .int ar2)]) rfl rfl rfl rfl f_X12_wrongPlace (hI.wf.s rfl) rfl rfl rfl rfl rfl ?_
  refine ev_loc f_X12_wrongPlace (nx := 1) rfl rfl rfl rfl ?_
  refine ev_inS1 f_X12_wrongPlace (nx := 4) (lo2 := [(0, .int ar1)]) rfl rfl rfl rfl f_X12_isTray rfl rfl rfl rfl ?_
  refine ev_loc f_X12_isTray (nx := 1) rfl rfl rfl rfl ?_
  refine ev_if f_X12_isTray (t1 := 13) (t2 := 4) rfl rfl rfl (fun h1 => ?_) (fun h1 => ?_)
  · have u2 : ar1.toInt ≤ (-1) := t_ltu h1 (by decide : (0:Int32).toInt ≤ (0:Int)) rfl
    refine ev_ic f_X12_isTray (nx := 14) (v := 0) rfl (by decide) rfl ?_
    refine ev_retK1 f_X12_isTray rfl rfl rfl ?_
    refine ev_t f_X12_wrongPlace (t1 := 7) (t2 := 11) rfl rfl rfl (by decide) ?_
    refine ev_ic f_X12_wrongPlace (nx := 8) (v := 1) rfl (by decide) rfl ?_
    refine ev_jmp f_X12_wrongPlace (nx := 44) rfl rfl rfl ?_
    refine ev_retK1 f_X12_wrongPlace rfl rfl rfl ?_
    refine ev_putIT f_X12_read (nx := 10) rfl (hI.wf.s rfl) rfl rfl rfl (hI.put0 (hI.wf.s rfl) rfl rfl) (hX.upI rfl) (fun g3 e3 hI hX => ?_)
    refine ev_loc f_X12_read (nx := 11) rfl rfl rfl rfl ?_
    refine ev_gvI f_X12_read (nx := 14) (w := 1) rfl (hI.wf.s rfl) rfl rfl (by rw [e3]; exact x_up2_at _ _ _ _ : g3 69 2 = 1) rfl ?_
    refine ev_f f_X12_read (t1 := 23) (t2 := 17) rfl rfl rfl (by decide) ?_
    refine ev_ldL f_X12_read (nx := 20) (v := -1) rfl (by decide) rfl ?_
    refine ev_jmp f_X12_read (nx := 34) rfl rfl rfl ?_
    exact ev_ret f_X12_read rfl rfl rfl ⟨_, _, _, rfl, hI, hX, ⟨_, rfl, (show ((¬ (0 ≤ ar1.toInt ∧ ar1.toInt ≤ 3) → ((-1) : Int64) = -1) ∧ ((0 ≤ ar1.toInt ∧ ar1.toInt ≤ 3) → ((0 ≤ ar2.toInt ∧ ar2.toInt < (gi 73 ar1.toNatClampNeg).toInt) → ((-1) : Int64) = gl 74 (60 * ar1.toNatClampNeg + ar2.toNatClampNeg)) ∧ (¬ (0 ≤ ar2.toInt ∧ ar2.toInt < (gi 73 ar1.toNatClampNeg).toInt) → ((-1) : Int64) = -1))) from (by refine ⟨fun _ => rfl, fun hi1 => ⟨fun h => absurd h (by omega), fun _ => rfl⟩⟩))⟩⟩
  · have l4 : 0 ≤ ar1.toInt := t_lel (t_nlt h1) (by decide : (0:Int) ≤ (0:Int32).toInt)
    refine ev_loc f_X12_isTray (nx := 5) rfl rfl rfl rfl ?_
    refine ev_ic f_X12_isTray (nx := 6) (v := 4) rfl (by decide) rfl ?_
    refine ev_if f_X12_isTray (t1 := 13) (t2 := 9) rfl rfl rfl (fun h5 => ?_) (fun h5 => ?_)
    · have l6 : 4 ≤ ar1.toInt := t_lel h5 (by decide : (4:Int) ≤ (4:Int32).toInt)
      refine ev_ic f_X12_isTray (nx := 14) (v := 0) rfl (by decide) rfl ?_
      refine ev_retK1 f_X12_isTray rfl rfl rfl ?_
      refine ev_t f_X12_wrongPlace (t1 := 7) (t2 := 11) rfl rfl rfl (by decide) ?_
      refine ev_ic f_X12_wrongPlace (nx := 8) (v := 1) rfl (by decide) rfl ?_
      refine ev_jmp f_X12_wrongPlace (nx := 44) rfl rfl rfl ?_
      refine ev_retK1 f_X12_wrongPlace rfl rfl rfl ?_
      refine ev_putIT f_X12_read (nx := 10) rfl (hI.wf.s rfl) rfl rfl rfl (hI.put0 (hI.wf.s rfl) rfl rfl) (hX.upI rfl) (fun g7 e7 hI hX => ?_)
      refine ev_loc f_X12_read (nx := 11) rfl rfl rfl rfl ?_
      refine ev_gvI f_X12_read (nx := 14) (w := 1) rfl (hI.wf.s rfl) rfl rfl (by rw [e7]; exact x_up2_at _ _ _ _ : g7 69 2 = 1) rfl ?_
      refine ev_f f_X12_read (t1 := 23) (t2 := 17) rfl rfl rfl (by decide) ?_
      refine ev_ldL f_X12_read (nx := 20) (v := -1) rfl (by decide) rfl ?_
      refine ev_jmp f_X12_read (nx := 34) rfl rfl rfl ?_
      exact ev_ret f_X12_read rfl rfl rfl ⟨_, _, _, rfl, hI, hX, ⟨_, rfl, (show ((¬ (0 ≤ ar1.toInt ∧ ar1.toInt ≤ 3) → ((-1) : Int64) = -1) ∧ ((0 ≤ ar1.toInt ∧ ar1.toInt ≤ 3) → ((0 ≤ ar2.toInt ∧ ar2.toInt < (gi 73 ar1.toNatClampNeg).toInt) → ((-1) : Int64) = gl 74 (60 * ar1.toNatClampNeg + ar2.toNatClampNeg)) ∧ (¬ (0 ≤ ar2.toInt ∧ ar2.toInt < (gi 73 ar1.toNatClampNeg).toInt) → ((-1) : Int64) = -1))) from (by refine ⟨fun _ => rfl, fun hi1 => ⟨fun h => absurd h (by omega), fun _ => rfl⟩⟩))⟩⟩
    · have u8 : ar1.toInt ≤ 3 := t_ltu (t_nle h5) (by decide : (4:Int32).toInt ≤ (4:Int)) rfl
      refine ev_ic f_X12_isTray (nx := 10) (v := 1) rfl (by decide) rfl ?_
      refine ev_jmp f_X12_isTray (nx := 14) rfl rfl rfl ?_
      refine ev_retK1 f_X12_isTray rfl rfl rfl ?_
      refine ev_f f_X12_wrongPlace (t1 := 7) (t2 := 11) rfl rfl rfl (by decide) ?_
      refine ev_loc f_X12_wrongPlace (nx := 12) rfl rfl rfl rfl ?_
      refine ev_getR f_X12_wrongPlace (nx := 15) rfl (hI.wf.s rfl) rfl rfl (hI.wf.r rfl) rfl rfl ?_
      refine ev_loc f_X12_wrongPlace (nx := 16) rfl rfl rfl rfl ?_
      refine ev_ialdT f_X12_wrongPlace (nx := 17) rfl (hI.wf.s rfl) l4 (by decide) u8 (by decide) rfl (fun w9 e9 => ?_)
      obtain ⟨l9, u9⟩ := hI.abi e9 (by decide +kernel : t_abr 73 0 3 (-1) 60 = true) l4 (by decide) u8 (by decide)
      refine ev_ic f_X12_wrongPlace (nx := 18) (v := -1) rfl (by decide) rfl ?_
      refine ev_if f_X12_wrongPlace (t1 := 21) (t2 := 25) rfl rfl rfl (fun h10 => ?_) (fun h10 => ?_)
      · have u11 : w9.toInt ≤ (-1) := t_equ h10 (by decide : ((-1):Int32).toInt ≤ ((-1):Int))
        refine ev_ic f_X12_wrongPlace (nx := 22) (v := 2) rfl (by decide) rfl ?_
        refine ev_jmp f_X12_wrongPlace (nx := 44) rfl rfl rfl ?_
        refine ev_retK1 f_X12_wrongPlace rfl rfl rfl ?_
        refine ev_putIT f_X12_read (nx := 10) rfl (hI.wf.s rfl) rfl rfl rfl (hI.put0 (hI.wf.s rfl) rfl rfl) (hX.upI rfl) (fun g12 e12 hI hX => ?_)
        refine ev_loc f_X12_read (nx := 11) rfl rfl rfl rfl ?_
        refine ev_gvI f_X12_read (nx := 14) (w := 2) rfl (hI.wf.s rfl) rfl rfl (by rw [e12]; exact x_up2_at _ _ _ _ : g12 69 2 = 2) rfl ?_
        refine ev_f f_X12_read (t1 := 23) (t2 := 17) rfl rfl rfl (by decide) ?_
        refine ev_ldL f_X12_read (nx := 20) (v := -1) rfl (by decide) rfl ?_
        refine ev_jmp f_X12_read (nx := 34) rfl rfl rfl ?_
        exact ev_ret f_X12_read rfl rfl rfl ⟨_, _, _, rfl, hI, hX, ⟨_, rfl, (show ((¬ (0 ≤ ar1.toInt ∧ ar1.toInt ≤ 3) → ((-1) : Int64) = -1) ∧ ((0 ≤ ar1.toInt ∧ ar1.toInt ≤ 3) → ((0 ≤ ar2.toInt ∧ ar2.toInt < (gi 73 ar1.toNatClampNeg).toInt) → ((-1) : Int64) = gl 74 (60 * ar1.toNatClampNeg + ar2.toNatClampNeg)) ∧ (¬ (0 ≤ ar2.toInt ∧ ar2.toInt < (gi 73 ar1.toNatClampNeg).toInt) → ((-1) : Int64) = -1))) from (by have hfw9 : (gi 73 ar1.toNatClampNeg).toInt = w9.toInt := congrArg Int32.toInt e9.symm; refine ⟨fun _ => rfl, fun hi1 => ⟨fun h => absurd h (by omega), fun _ => rfl⟩⟩))⟩⟩
      · have r13 : w9.toInt ≠ (-1) := fun e => h10 (Int32.toInt_inj.mp (e.trans (by decide : ((-1):Int) = ((-1) : Int32).toInt)))
        have l14 : 0 ≤ w9.toInt := t_nel h10 l9 rfl rfl
        refine ev_loc f_X12_wrongPlace (nx := 26) rfl rfl rfl rfl ?_
        refine ev_if f_X12_wrongPlace (t1 := 39) (t2 := 29) rfl rfl rfl (fun h15 => ?_) (fun h15 => ?_)
        · have u16 : ar2.toInt ≤ (-1) := t_ltu h15 (by decide : (0:Int32).toInt ≤ (0:Int)) rfl
          refine ev_ic f_X12_wrongPlace (nx := 40) (v := 3) rfl (by decide) rfl ?_
          refine ev_jmp f_X12_wrongPlace (nx := 44) rfl rfl rfl ?_
          refine ev_retK1 f_X12_wrongPlace rfl rfl rfl ?_
          refine ev_putIT f_X12_read (nx := 10) rfl (hI.wf.s rfl) rfl rfl rfl (hI.put0 (hI.wf.s rfl) rfl rfl) (hX.upI rfl) (fun g17 e17 hI hX => ?_)
          refine ev_loc f_X12_read (nx := 11) rfl rfl rfl rfl ?_
          refine ev_gvI f_X12_read (nx := 14) (w := 3) rfl (hI.wf.s rfl) rfl rfl (by rw [e17]; exact x_up2_at _ _ _ _ : g17 69 2 = 3) rfl ?_
          refine ev_f f_X12_read (t1 := 23) (t2 := 17) rfl rfl rfl (by decide) ?_
          refine ev_ldL f_X12_read (nx := 20) (v := -1) rfl (by decide) rfl ?_
          refine ev_jmp f_X12_read (nx := 34) rfl rfl rfl ?_
          exact ev_ret f_X12_read rfl rfl rfl ⟨_, _, _, rfl, hI, hX, ⟨_, rfl, (show ((¬ (0 ≤ ar1.toInt ∧ ar1.toInt ≤ 3) → ((-1) : Int64) = -1) ∧ ((0 ≤ ar1.toInt ∧ ar1.toInt ≤ 3) → ((0 ≤ ar2.toInt ∧ ar2.toInt < (gi 73 ar1.toNatClampNeg).toInt) → ((-1) : Int64) = gl 74 (60 * ar1.toNatClampNeg + ar2.toNatClampNeg)) ∧ (¬ (0 ≤ ar2.toInt ∧ ar2.toInt < (gi 73 ar1.toNatClampNeg).toInt) → ((-1) : Int64) = -1))) from (by have hfw9 : (gi 73 ar1.toNatClampNeg).toInt = w9.toInt := congrArg Int32.toInt e9.symm; refine ⟨fun _ => rfl, fun hi1 => ⟨fun h => absurd h (by omega), fun _ => rfl⟩⟩))⟩⟩
        · have l18 : 0 ≤ ar2.toInt := t_lel (t_nlt h15) (by decide : (0:Int) ≤ (0:Int32).toInt)
          refine ev_loc f_X12_wrongPlace (nx := 30) rfl rfl rfl rfl ?_
          refine ev_loc f_X12_wrongPlace (nx := 31) rfl rfl rfl rfl ?_
          refine ev_getR f_X12_wrongPlace (nx := 34) rfl (hI.wf.s rfl) rfl rfl (hI.wf.r rfl) rfl rfl ?_
          refine ev_loc f_X12_wrongPlace (nx := 35) rfl rfl rfl rfl ?_
          refine ev_ialdT f_X12_wrongPlace (nx := 36) rfl (hI.wf.s rfl) l4 (by decide) u8 (by decide) rfl (fun w19 e19 => ?_)
          rw [e19.trans e9.symm]
          refine ev_if f_X12_wrongPlace (t1 := 43) (t2 := 39) rfl rfl rfl (fun h20 => ?_) (fun h20 => ?_)
          · have r21 : ar2.toInt < w9.toInt := Int32.lt_iff_toInt_lt.mp h20
            have u22 : ar2.toInt ≤ 59 := t_ltu h20 u9 rfl
            have l23 : 1 ≤ w9.toInt := t_ltl h20 l18 rfl
            refine ev_ic f_X12_wrongPlace (nx := 44) (v := 0) rfl (by decide) rfl ?_
            refine ev_retK1 f_X12_wrongPlace rfl rfl rfl ?_
            refine ev_putIT f_X12_read (nx := 10) rfl (hI.wf.s rfl) rfl rfl rfl (hI.put0 (hI.wf.s rfl) rfl rfl) (hX.upI rfl) (fun g24 e24 hI hX => ?_)
            refine ev_loc f_X12_read (nx := 11) rfl rfl rfl rfl ?_
            refine ev_gvI f_X12_read (nx := 14) (w := 0) rfl (hI.wf.s rfl) rfl rfl (by rw [e24]; exact x_up2_at _ _ _ _ : g24 69 2 = 0) rfl ?_
            refine ev_t f_X12_read (t1 := 23) (t2 := 17) rfl rfl rfl (by decide) ?_
            refine ev_loc f_X12_read (nx := 24) rfl rfl rfl rfl ?_
            refine ev_getR f_X12_read (nx := 27) rfl (hI.wf.s rfl) rfl rfl (hI.wf.r rfl) rfl rfl ?_
            refine ev_bp f_X12_read (nx := 29) (v := 60) rfl (by decide) rfl ?_
            refine ev_loc f_X12_read (nx := 30) rfl rfl rfl rfl ?_
            refine ev_mulL f_X12_read (nx := 31) (c := 60) (l := 0) (u := 180) rfl (by decide) (by decide) l4 u8 rfl rfl (by decide) (by decide) rfl (fun z25 e25 l25 u25 => ?_)
            refine ev_loc f_X12_read (nx := 32) rfl rfl rfl rfl ?_
            refine ev_addR f_X12_read (nx := 33) (l := 0) (u := 239) rfl l25 u25 l18 u22 rfl rfl (by decide) (by decide) rfl (fun z26 e26 l26 u26 => ?_)
            refine ev_laldT f_X12_read (nx := 34) rfl (hI.wf.s rfl) l26 (by decide) u26 (by decide) rfl (fun w27 e27 => ?_)
            exact ev_ret f_X12_read rfl rfl rfl ⟨_, _, _, rfl, hI, hX, ⟨_, rfl, (show ((¬ (0 ≤ ar1.toInt ∧ ar1.toInt ≤ 3) → w27 = -1) ∧ ((0 ≤ ar1.toInt ∧ ar1.toInt ≤ 3) → ((0 ≤ ar2.toInt ∧ ar2.toInt < (gi 73 ar1.toNatClampNeg).toInt) → w27 = gl 74 (60 * ar1.toNatClampNeg + ar2.toNatClampNeg)) ∧ (¬ (0 ≤ ar2.toInt ∧ ar2.toInt < (gi 73 ar1.toNatClampNeg).toInt) → w27 = -1))) from (by have hfw9 : (gi 73 ar1.toNatClampNeg).toInt = w9.toInt := congrArg Int32.toInt e9.symm; refine ⟨fun h => absurd h (by omega), fun hi1 => ⟨fun _ => ?_, fun h => absurd h (by omega)⟩⟩; rw [e27, show z26.toNatClampNeg = 60 * ar1.toNatClampNeg + ar2.toNatClampNeg from (by have h1 := t_clamp (i := z26) (by omega); have h2 := t_clamp (i := ar1) (by omega); have h3 := t_clamp (i := ar2) (by omega); omega)]))⟩⟩
          · have r28 : w9.toInt ≤ ar2.toInt := Int32.le_iff_toInt_le.mp (t_nlt h20)
            refine ev_ic f_X12_wrongPlace (nx := 40) (v := 3) rfl (by decide) rfl ?_
            refine ev_jmp f_X12_wrongPlace (nx := 44) rfl rfl rfl ?_
            refine ev_retK1 f_X12_wrongPlace rfl rfl rfl ?_
            refine ev_putIT f_X12_read (nx := 10) rfl (hI.wf.s rfl) rfl rfl rfl (hI.put0 (hI.wf.s rfl) rfl rfl) (hX.upI rfl) (fun g29 e29 hI hX => ?_)
            refine ev_loc f_X12_read (nx := 11) rfl rfl rfl rfl ?_
            refine ev_gvI f_X12_read (nx := 14) (w := 3) rfl (hI.wf.s rfl) rfl rfl (by rw [e29]; exact x_up2_at _ _ _ _ : g29 69 2 = 3) rfl ?_
            refine ev_f f_X12_read (t1 := 23) (t2 := 17) rfl rfl rfl (by decide) ?_
            refine ev_ldL f_X12_read (nx := 20) (v := -1) rfl (by decide) rfl ?_
            refine ev_jmp f_X12_read (nx := 34) rfl rfl rfl ?_
            exact ev_ret f_X12_read rfl rfl rfl ⟨_, _, _, rfl, hI, hX, ⟨_, rfl, (show ((¬ (0 ≤ ar1.toInt ∧ ar1.toInt ≤ 3) → ((-1) : Int64) = -1) ∧ ((0 ≤ ar1.toInt ∧ ar1.toInt ≤ 3) → ((0 ≤ ar2.toInt ∧ ar2.toInt < (gi 73 ar1.toNatClampNeg).toInt) → ((-1) : Int64) = gl 74 (60 * ar1.toNatClampNeg + ar2.toNatClampNeg)) ∧ (¬ (0 ≤ ar2.toInt ∧ ar2.toInt < (gi 73 ar1.toNatClampNeg).toInt) → ((-1) : Int64) = -1))) from (by have hfw9 : (gi 73 ar1.toNatClampNeg).toInt = w9.toInt := congrArg Int32.toInt e9.symm; refine ⟨fun _ => rfl, fun hi1 => ⟨fun h => absurd h (by omega), fun _ => rfl⟩⟩))⟩⟩
noncomputable def wl_h_pour2 : List (Nat × Nat) := [(0, 0), (62, 9999), (64, 9999), (66, 9999), (68, 9999)]
noncomputable def Q_h_pour2 (gi : Nat → Nat → Int32) (gl : Nat → Nat → Int64) (gr : Nat → Nat → Value) (ar1 : Int32) (ar2 : Int32) (ar3 : Int32) (ar4 : Int32) (ar5 : Int32) : Int32 → (Nat → Nat → Int32) → (Nat → Nat → Int64) → (Nat → Nat → Value) → Prop := fun (v : Int32) (gi2 : Nat → Nat → Int32) (gl2 : Nat → Nat → Int64) (gr2 : Nat → Nat → Value) => (0 ≤ v.toInt ∧ v.toInt ≤ 1) ∧ (∀ A B R S : Nat, gr 1 ar1.toNatClampNeg = .ref A → gr 1 ar3.toNatClampNeg = .ref B → gr A 0 = .ref R → gr B 0 = .ref S → (0 ≤ ar1.toInt ∧ ar1.toInt ≤ 3) → (0 ≤ ar3.toInt ∧ ar3.toInt ≤ 3) → (v.toInt = 1 ↔ (0 ≤ ar2.toInt ∧ 0 ≤ ar4.toInt ∧ 0 ≤ ar5.toInt ∧ (gi A 2).toInt ≠ -1 ∧ (gi B 2).toInt ≠ -1 ∧ (gi A 1).toInt = (gi B 1).toInt ∧ ar2.toInt + ar5.toInt ≤ (gi A 2).toInt ∧ ar4.toInt + ar5.toInt ≤ (gi B 2).toInt)) ∧ (∀ K j : Nat, K ≠ S → gl2 K j = gl K j) ∧ ((0 ≤ ar2.toInt ∧ 0 ≤ ar4.toInt ∧ 0 ≤ ar5.toInt ∧ (gi A 2).toInt ≠ -1 ∧ (gi B 2).toInt ≠ -1 ∧ (gi A 1).toInt = (gi B 1).toInt ∧ ar2.toInt + ar5.toInt ≤ (gi A 2).toInt ∧ ar4.toInt + ar5.toInt ≤ (gi B 2).toInt) → gl2 S = va_cpy (gl R) (gl S) ar2.toNatClampNeg ar4.toNatClampNeg ar5.toNatClampNeg) ∧ (¬ (0 ≤ ar2.toInt ∧ 0 ≤ ar4.toInt ∧ 0 ≤ ar5.toInt ∧ (gi A 2).toInt ≠ -1 ∧ (gi B 2).toInt ≠ -1 ∧ (gi A 1).toInt = (gi B 1).toInt ∧ ar2.toInt + ar5.toInt ≤ (gi A 2).toInt ∧ ar4.toInt + ar5.toInt ≤ (gi B 2).toInt) → gl2 S = gl S))
theorem c_h_pour2 {X : x_Ext} {d : Nat} {sh : List (Nat ⊕ (Nat × Nat))} {gi : Nat → Nat → Int32} {gl : Nat → Nat → Int64} {gr : Nat → Nat → Value} (hI : t_I sh gi gr) (ar1 : Int32) (ar2 : Int32) (ar3 : Int32) (ar4 : Int32) (ar5 : Int32) : x_Me X (d + 2) n_X11_pour [.ref 0, .int ar1, .int ar2, .int ar3, .int ar4, .int ar5] (sh, gi, gl, gr) (t_PI wl_h_pour2 sh gi gl gr 0 1 (Q_h_pour2 gi gl gr ar1 ar2 ar3 ar4 ar5)) := by
  have hX : t_X wl_h_pour2 sh gi gl gr gi gl gr := t_X.rf
  refine me_i f_X11_pour (hI.wf.s rfl) rfl rfl rfl ?_
  refine ev_loc f_X11_pour (nx := 1) rfl rfl rfl rfl ?_
  refine ev_loc f_X11_pour (nx := 2) rfl rfl rfl rfl ?_
  refine ev_inV2 f_X11_pour (nx := 5) (lo2 := [(0, .ref 0), (1, .int ar1)]) rfl rfl rfl rfl f_X11_isTray (hI.wf.s rfl) rfl rfl rfl rfl rfl ?_
  refine ev_loc f_X11_isTray (nx := 1) rfl rfl rfl rfl ?_
  refine ev_if f_X11_isTray (t1 := 26) (t2 := 4) rfl rfl rfl (fun h1 => ?_) (fun h1 => ?_)
  · have u2 : ar1.toInt ≤ (-1) := t_ltu h1 (by decide : (0:Int32).toInt ≤ (0:Int)) rfl
    refine ev_ic f_X11_isTray (nx := 27) (v := 0) rfl (by decide) rfl ?_
    refine ev_retK1 f_X11_isTray rfl rfl rfl ?_
    refine ev_t f_X11_pour (t1 := 30) (t2 := 8) rfl rfl rfl (by decide) ?_
    refine ev_loc f_X11_pour (nx := 31) rfl rfl rfl rfl ?_
    refine ev_ic f_X11_pour (nx := 32) (v := 1) rfl (by decide) rfl ?_
    refine ev_inV2 f_X11_pour (nx := 35) (lo2 := [(0, .ref 0), (1, .int 1)]) rfl rfl rfl rfl f_X11_deny (hI.wf.s rfl) rfl rfl rfl rfl rfl ?_
    refine ev_loc f_X11_deny (nx := 1) rfl rfl rfl rfl ?_
    refine ev_loc f_X11_deny (nx := 2) rfl rfl rfl rfl ?_
    refine ev_putIT f_X11_deny (nx := 5) rfl (hI.wf.s rfl) rfl rfl rfl (hI.put0 (hI.wf.s rfl) rfl rfl) (hX.upI rfl) (fun g3 e3 hI hX => ?_)
    refine ev_ic f_X11_deny (nx := 6) (v := 0) rfl (by decide) rfl ?_
    refine ev_retK1 f_X11_deny rfl rfl rfl ?_
    exact ev_ret f_X11_pour rfl rfl rfl ⟨_, _, _, rfl, hI, hX, ⟨_, rfl, (by decide : (0:Int) ≤ (0:Int32).toInt), (Int.le_trans (by decide : (0:Int32).toInt ≤ (0:Int)) (by decide : (0:Int) ≤ 1)), (show (0 ≤ (0 : Int) ∧ (0 : Int) ≤ 1) ∧ (∀ A B R S : Nat, gr 1 ar1.toNatClampNeg = .ref A → gr 1 ar3.toNatClampNeg = .ref B → gr A 0 = .ref R → gr B 0 = .ref S → (0 ≤ ar1.toInt ∧ ar1.toInt ≤ 3) → (0 ≤ ar3.toInt ∧ ar3.toInt ≤ 3) → ((0 : Int) = 1 ↔ (0 ≤ ar2.toInt ∧ 0 ≤ ar4.toInt ∧ 0 ≤ ar5.toInt ∧ (gi A 2).toInt ≠ -1 ∧ (gi B 2).toInt ≠ -1 ∧ (gi A 1).toInt = (gi B 1).toInt ∧ ar2.toInt + ar5.toInt ≤ (gi A 2).toInt ∧ ar4.toInt + ar5.toInt ≤ (gi B 2).toInt)) ∧ (∀ K j : Nat, K ≠ S → gl K j = gl K j) ∧ ((0 ≤ ar2.toInt ∧ 0 ≤ ar4.toInt ∧ 0 ≤ ar5.toInt ∧ (gi A 2).toInt ≠ -1 ∧ (gi B 2).toInt ≠ -1 ∧ (gi A 1).toInt = (gi B 1).toInt ∧ ar2.toInt + ar5.toInt ≤ (gi A 2).toInt ∧ ar4.toInt + ar5.toInt ≤ (gi B 2).toInt) → gl S = va_cpy (gl R) (gl S) ar2.toNatClampNeg ar4.toNatClampNeg ar5.toNatClampNeg) ∧ (¬ (0 ≤ ar2.toInt ∧ 0 ≤ ar4.toInt ∧ 0 ≤ ar5.toInt ∧ (gi A 2).toInt ≠ -1 ∧ (gi B 2).toInt ≠ -1 ∧ (gi A 1).toInt = (gi B 1).toInt ∧ ar2.toInt + ar5.toInt ≤ (gi A 2).toInt ∧ ar4.toInt + ar5.toInt ≤ (gi B 2).toInt) → gl S = gl S)) from (by refine ⟨⟨by omega, by omega⟩, fun A B R S hA hB hR hS hi1 hi3 => ?_⟩; exact ⟨by omega, fun _ _ _ => rfl, fun h => absurd h (by omega), fun _ => rfl⟩))⟩⟩
  · have l4 : 0 ≤ ar1.toInt := t_lel (t_nlt h1) (by decide : (0:Int) ≤ (0:Int32).toInt)
    refine ev_loc f_X11_isTray (nx := 5) rfl rfl rfl rfl ?_
    refine ev_loc f_X11_isTray (nx := 6) rfl rfl rfl rfl ?_
    refine ev_getR f_X11_isTray (nx := 9) rfl (hI.wf.s rfl) rfl rfl (hI.wf.r rfl) rfl rfl ?_
    refine ev_alenv f_X11_isTray (nx := 10) (w := 4) rfl (hI.wf.s rfl) rfl (by decide) rfl ?_
    refine ev_if f_X11_isTray (t1 := 26) (t2 := 13) rfl rfl rfl (fun h5 => ?_) (fun h5 => ?_)
    · have l6 : 4 ≤ ar1.toInt := t_lel h5 (by decide : (4:Int) ≤ (4:Int32).toInt)
      refine ev_ic f_X11_isTray (nx := 27) (v := 0) rfl (by decide) rfl ?_
      refine ev_retK1 f_X11_isTray rfl rfl rfl ?_
      refine ev_t f_X11_pour (t1 := 30) (t2 := 8) rfl rfl rfl (by decide) ?_
      refine ev_loc f_X11_pour (nx := 31) rfl rfl rfl rfl ?_
      refine ev_ic f_X11_pour (nx := 32) (v := 1) rfl (by decide) rfl ?_
      refine ev_inV2 f_X11_pour (nx := 35) (lo2 := [(0, .ref 0), (1, .int 1)]) rfl rfl rfl rfl f_X11_deny (hI.wf.s rfl) rfl rfl rfl rfl rfl ?_
      refine ev_loc f_X11_deny (nx := 1) rfl rfl rfl rfl ?_
      refine ev_loc f_X11_deny (nx := 2) rfl rfl rfl rfl ?_
      refine ev_putIT f_X11_deny (nx := 5) rfl (hI.wf.s rfl) rfl rfl rfl (hI.put0 (hI.wf.s rfl) rfl rfl) (hX.upI rfl) (fun g7 e7 hI hX => ?_)
      refine ev_ic f_X11_deny (nx := 6) (v := 0) rfl (by decide) rfl ?_
      refine ev_retK1 f_X11_deny rfl rfl rfl ?_
      exact ev_ret f_X11_pour rfl rfl rfl ⟨_, _, _, rfl, hI, hX, ⟨_, rfl, (by decide : (0:Int) ≤ (0:Int32).toInt), (Int.le_trans (by decide : (0:Int32).toInt ≤ (0:Int)) (by decide : (0:Int) ≤ 1)), (show (0 ≤ (0 : Int) ∧ (0 : Int) ≤ 1) ∧ (∀ A B R S : Nat, gr 1 ar1.toNatClampNeg = .ref A → gr 1 ar3.toNatClampNeg = .ref B → gr A 0 = .ref R → gr B 0 = .ref S → (0 ≤ ar1.toInt ∧ ar1.toInt ≤ 3) → (0 ≤ ar3.toInt ∧ ar3.toInt ≤ 3) → ((0 : Int) = 1 ↔ (0 ≤ ar2.toInt ∧ 0 ≤ ar4.toInt ∧ 0 ≤ ar5.toInt ∧ (gi A 2).toInt ≠ -1 ∧ (gi B 2).toInt ≠ -1 ∧ (gi A 1).toInt = (gi B 1).toInt ∧ ar2.toInt + ar5.toInt ≤ (gi A 2).toInt ∧ ar4.toInt + ar5.toInt ≤ (gi B 2).toInt)) ∧ (∀ K j : Nat, K ≠ S → gl K j = gl K j) ∧ ((0 ≤ ar2.toInt ∧ 0 ≤ ar4.toInt ∧ 0 ≤ ar5.toInt ∧ (gi A 2).toInt ≠ -1 ∧ (gi B 2).toInt ≠ -1 ∧ (gi A 1).toInt = (gi B 1).toInt ∧ ar2.toInt + ar5.toInt ≤ (gi A 2).toInt ∧ ar4.toInt + ar5.toInt ≤ (gi B 2).toInt) → gl S = va_cpy (gl R) (gl S) ar2.toNatClampNeg ar4.toNatClampNeg ar5.toNatClampNeg) ∧ (¬ (0 ≤ ar2.toInt ∧ 0 ≤ ar4.toInt ∧ 0 ≤ ar5.toInt ∧ (gi A 2).toInt ≠ -1 ∧ (gi B 2).toInt ≠ -1 ∧ (gi A 1).toInt = (gi B 1).toInt ∧ ar2.toInt + ar5.toInt ≤ (gi A 2).toInt ∧ ar4.toInt + ar5.toInt ≤ (gi B 2).toInt) → gl S = gl S)) from (by refine ⟨⟨by omega, by omega⟩, fun A B R S hA hB hR hS hi1 hi3 => ?_⟩; exact ⟨by omega, fun _ _ _ => rfl, fun h => absurd h (by omega), fun _ => rfl⟩))⟩⟩
    · have u8 : ar1.toInt ≤ 3 := t_ltu (t_nle h5) (by decide : (4:Int32).toInt ≤ (4:Int)) rfl
      refine ev_loc f_X11_isTray (nx := 14) rfl rfl rfl rfl ?_
      refine ev_getR f_X11_isTray (nx := 17) rfl (hI.wf.s rfl) rfl rfl (hI.wf.r rfl) rfl rfl ?_
      refine ev_loc f_X11_isTray (nx := 18) rfl rfl rfl rfl ?_
      obtain ⟨a9, e9, p9⟩ := t_tray hI.wf l4 (by decide) u8 (by decide)
      refine ev_aald f_X11_isTray (nx := 19) rfl (hI.wf.s rfl) rfl (t_idx (n := 4) l4 (by decide) u8 (by decide)).1 (t_idx (n := 4) l4 (by decide) u8 (by decide)).2 e9 rfl rfl ?_
      refine ev_jmp f_X11_isTray (nx := 22) rfl rfl rfl ?_
      refine ev_ic f_X11_isTray (nx := 23) (v := 1) rfl (by decide) rfl ?_
      refine ev_jmp f_X11_isTray (nx := 27) rfl rfl rfl ?_
      refine ev_retK1 f_X11_isTray rfl rfl rfl ?_
      refine ev_f f_X11_pour (t1 := 30) (t2 := 8) rfl rfl rfl (by decide) ?_
      refine ev_loc f_X11_pour (nx := 9) rfl rfl rfl rfl ?_
      refine ev_loc f_X11_pour (nx := 10) rfl rfl rfl rfl ?_
      refine ev_inV2 f_X11_pour (nx := 13) (lo2 := [(0, .ref 0), (1, .int ar3)]) rfl rfl rfl rfl f_X11_isTray (hI.wf.s rfl) rfl rfl rfl rfl rfl ?_
      refine ev_loc f_X11_isTray (nx := 1) rfl rfl rfl rfl ?_
      refine ev_if f_X11_isTray (t1 := 26) (t2 := 4) rfl rfl rfl (fun h10 => ?_) (fun h10 => ?_)
      · have u11 : ar3.toInt ≤ (-1) := t_ltu h10 (by decide : (0:Int32).toInt ≤ (0:Int)) rfl
        refine ev_ic f_X11_isTray (nx := 27) (v := 0) rfl (by decide) rfl ?_
        refine ev_retK1 f_X11_isTray rfl rfl rfl ?_
        refine ev_t f_X11_pour (t1 := 30) (t2 := 16) rfl rfl rfl (by decide) ?_
        refine ev_loc f_X11_pour (nx := 31) rfl rfl rfl rfl ?_
        refine ev_ic f_X11_pour (nx := 32) (v := 1) rfl (by decide) rfl ?_
        refine ev_inV2 f_X11_pour (nx := 35) (lo2 := [(0, .ref 0), (1, .int 1)]) rfl rfl rfl rfl f_X11_deny (hI.wf.s rfl) rfl rfl rfl rfl rfl ?_
        refine ev_loc f_X11_deny (nx := 1) rfl rfl rfl rfl ?_
        refine ev_loc f_X11_deny (nx := 2) rfl rfl rfl rfl ?_
        refine ev_putIT f_X11_deny (nx := 5) rfl (hI.wf.s rfl) rfl rfl rfl (hI.put0 (hI.wf.s rfl) rfl rfl) (hX.upI rfl) (fun g12 e12 hI hX => ?_)
        refine ev_ic f_X11_deny (nx := 6) (v := 0) rfl (by decide) rfl ?_
        refine ev_retK1 f_X11_deny rfl rfl rfl ?_
        exact ev_ret f_X11_pour rfl rfl rfl ⟨_, _, _, rfl, hI, hX, ⟨_, rfl, (by decide : (0:Int) ≤ (0:Int32).toInt), (Int.le_trans (by decide : (0:Int32).toInt ≤ (0:Int)) (by decide : (0:Int) ≤ 1)), (show (0 ≤ (0 : Int) ∧ (0 : Int) ≤ 1) ∧ (∀ A B R S : Nat, gr 1 ar1.toNatClampNeg = .ref A → gr 1 ar3.toNatClampNeg = .ref B → gr A 0 = .ref R → gr B 0 = .ref S → (0 ≤ ar1.toInt ∧ ar1.toInt ≤ 3) → (0 ≤ ar3.toInt ∧ ar3.toInt ≤ 3) → ((0 : Int) = 1 ↔ (0 ≤ ar2.toInt ∧ 0 ≤ ar4.toInt ∧ 0 ≤ ar5.toInt ∧ (gi A 2).toInt ≠ -1 ∧ (gi B 2).toInt ≠ -1 ∧ (gi A 1).toInt = (gi B 1).toInt ∧ ar2.toInt + ar5.toInt ≤ (gi A 2).toInt ∧ ar4.toInt + ar5.toInt ≤ (gi B 2).toInt)) ∧ (∀ K j : Nat, K ≠ S → gl K j = gl K j) ∧ ((0 ≤ ar2.toInt ∧ 0 ≤ ar4.toInt ∧ 0 ≤ ar5.toInt ∧ (gi A 2).toInt ≠ -1 ∧ (gi B 2).toInt ≠ -1 ∧ (gi A 1).toInt = (gi B 1).toInt ∧ ar2.toInt + ar5.toInt ≤ (gi A 2).toInt ∧ ar4.toInt + ar5.toInt ≤ (gi B 2).toInt) → gl S = va_cpy (gl R) (gl S) ar2.toNatClampNeg ar4.toNatClampNeg ar5.toNatClampNeg) ∧ (¬ (0 ≤ ar2.toInt ∧ 0 ≤ ar4.toInt ∧ 0 ≤ ar5.toInt ∧ (gi A 2).toInt ≠ -1 ∧ (gi B 2).toInt ≠ -1 ∧ (gi A 1).toInt = (gi B 1).toInt ∧ ar2.toInt + ar5.toInt ≤ (gi A 2).toInt ∧ ar4.toInt + ar5.toInt ≤ (gi B 2).toInt) → gl S = gl S)) from (by refine ⟨⟨by omega, by omega⟩, fun A B R S hA hB hR hS hi1 hi3 => ?_⟩; rw [e9] at hA; cases hA; exact ⟨by omega, fun _ _ _ => rfl, fun h => absurd h (by omega), fun _ => rfl⟩))⟩⟩
      · have l13 : 0 ≤ ar3.toInt := t_lel (t_nlt h10) (by decide : (0:Int) ≤ (0:Int32).toInt)
        refine ev_loc f_X11_isTray (nx := 5) rfl rfl rfl rfl ?_
        refine ev_loc f_X11_isTray (nx := 6) rfl rfl rfl rfl ?_
        refine ev_getR f_X11_isTray (nx := 9) rfl (hI.wf.s rfl) rfl rfl (hI.wf.r rfl) rfl rfl ?_
        refine ev_alenv f_X11_isTray (nx := 10) (w := 4) rfl (hI.wf.s rfl) rfl (by decide) rfl ?_
        refine ev_if f_X11_isTray (t1 := 26) (t2 := 13) rfl rfl rfl (fun h14 => ?_) (fun h14 => ?_)
        · have l15 : 4 ≤ ar3.toInt := t_lel h14 (by decide : (4:Int) ≤ (4:Int32).toInt)
          refine ev_ic f_X11_isTray (nx := 27) (v := 0) rfl (by decide) rfl ?_
          refine ev_retK1 f_X11_isTray rfl rfl rfl ?_
          refine ev_t f_X11_pour (t1 := 30) (t2 := 16) rfl rfl rfl (by decide) ?_
          refine ev_loc f_X11_pour (nx := 31) rfl rfl rfl rfl ?_
          refine ev_ic f_X11_pour (nx := 32) (v := 1) rfl (by decide) rfl ?_
          refine ev_inV2 f_X11_pour (nx := 35) (lo2 := [(0, .ref 0), (1, .int 1)]) rfl rfl rfl rfl f_X11_deny (hI.wf.s rfl) rfl rfl rfl rfl rfl ?_
          refine ev_loc f_X11_deny (nx := 1) rfl rfl rfl rfl ?_
          refine ev_loc f_X11_deny (nx := 2) rfl rfl rfl rfl ?_
          refine ev_putIT f_X11_deny (nx := 5) rfl (hI.wf.s rfl) rfl rfl rfl (hI.put0 (hI.wf.s rfl) rfl rfl) (hX.upI rfl) (fun g16 e16 hI hX => ?_)
          refine ev_ic f_X11_deny (nx := 6) (v := 0) rfl (by decide) rfl ?_
          refine ev_retK1 f_X11_deny rfl rfl rfl ?_
          exact ev_ret f_X11_pour rfl rfl rfl ⟨_, _, _, rfl, hI, hX, ⟨_, rfl, (by decide : (0:Int) ≤ (0:Int32).toInt), (Int.le_trans (by decide : (0:Int32).toInt ≤ (0:Int)) (by decide : (0:Int) ≤ 1)), (show (0 ≤ (0 : Int) ∧ (0 : Int) ≤ 1) ∧ (∀ A B R S : Nat, gr 1 ar1.toNatClampNeg = .ref A → gr 1 ar3.toNatClampNeg = .ref B → gr A 0 = .ref R → gr B 0 = .ref S → (0 ≤ ar1.toInt ∧ ar1.toInt ≤ 3) → (0 ≤ ar3.toInt ∧ ar3.toInt ≤ 3) → ((0 : Int) = 1 ↔ (0 ≤ ar2.toInt ∧ 0 ≤ ar4.toInt ∧ 0 ≤ ar5.toInt ∧ (gi A 2).toInt ≠ -1 ∧ (gi B 2).toInt ≠ -1 ∧ (gi A 1).toInt = (gi B 1).toInt ∧ ar2.toInt + ar5.toInt ≤ (gi A 2).toInt ∧ ar4.toInt + ar5.toInt ≤ (gi B 2).toInt)) ∧ (∀ K j : Nat, K ≠ S → gl K j = gl K j) ∧ ((0 ≤ ar2.toInt ∧ 0 ≤ ar4.toInt ∧ 0 ≤ ar5.toInt ∧ (gi A 2).toInt ≠ -1 ∧ (gi B 2).toInt ≠ -1 ∧ (gi A 1).toInt = (gi B 1).toInt ∧ ar2.toInt + ar5.toInt ≤ (gi A 2).toInt ∧ ar4.toInt + ar5.toInt ≤ (gi B 2).toInt) → gl S = va_cpy (gl R) (gl S) ar2.toNatClampNeg ar4.toNatClampNeg ar5.toNatClampNeg) ∧ (¬ (0 ≤ ar2.toInt ∧ 0 ≤ ar4.toInt ∧ 0 ≤ ar5.toInt ∧ (gi A 2).toInt ≠ -1 ∧ (gi B 2).toInt ≠ -1 ∧ (gi A 1).toInt = (gi B 1).toInt ∧ ar2.toInt + ar5.toInt ≤ (gi A 2).toInt ∧ ar4.toInt + ar5.toInt ≤ (gi B 2).toInt) → gl S = gl S)) from (by refine ⟨⟨by omega, by omega⟩, fun A B R S hA hB hR hS hi1 hi3 => ?_⟩; rw [e9] at hA; cases hA; exact ⟨by omega, fun _ _ _ => rfl, fun h => absurd h (by omega), fun _ => rfl⟩))⟩⟩
        · have u17 : ar3.toInt ≤ 3 := t_ltu (t_nle h14) (by decide : (4:Int32).toInt ≤ (4:Int)) rfl
          refine ev_loc f_X11_isTray (nx := 14) rfl rfl rfl rfl ?_
          refine ev_getR f_X11_isTray (nx := 17) rfl (hI.wf.s rfl) rfl rfl (hI.wf.r rfl) rfl rfl ?_
          refine ev_loc f_X11_isTray (nx := 18) rfl rfl rfl rfl ?_
          obtain ⟨a18, e18, p18⟩ := t_tray hI.wf l13 (by decide) u17 (by decide)
          refine ev_aald f_X11_isTray (nx := 19) rfl (hI.wf.s rfl) rfl (t_idx (n := 4) l13 (by decide) u17 (by decide)).1 (t_idx (n := 4) l13 (by decide) u17 (by decide)).2 e18 rfl rfl ?_
          refine ev_jmp f_X11_isTray (nx := 22) rfl rfl rfl ?_
          refine ev_ic f_X11_isTray (nx := 23) (v := 1) rfl (by decide) rfl ?_
          refine ev_jmp f_X11_isTray (nx := 27) rfl rfl rfl ?_
          refine ev_retK1 f_X11_isTray rfl rfl rfl ?_
          refine ev_f f_X11_pour (t1 := 30) (t2 := 16) rfl rfl rfl (by decide) ?_
          refine ev_loc f_X11_pour (nx := 17) rfl rfl rfl rfl ?_
          refine ev_if f_X11_pour (t1 := 30) (t2 := 20) rfl rfl rfl (fun h19 => ?_) (fun h19 => ?_)
          · have u20 : ar2.toInt ≤ (-1) := t_ltu h19 (by decide : (0:Int32).toInt ≤ (0:Int)) rfl
            refine ev_loc f_X11_pour (nx := 31) rfl rfl rfl rfl ?_
            refine ev_ic f_X11_pour (nx := 32) (v := 1) rfl (by decide) rfl ?_
            refine ev_inV2 f_X11_pour (nx := 35) (lo2 := [(0, .ref 0), (1, .int 1)]) rfl rfl rfl rfl f_X11_deny (hI.wf.s rfl) rfl rfl rfl rfl rfl ?_
            refine ev_loc f_X11_deny (nx := 1) rfl rfl rfl rfl ?_
            refine ev_loc f_X11_deny (nx := 2) rfl rfl rfl rfl ?_
            refine ev_putIT f_X11_deny (nx := 5) rfl (hI.wf.s rfl) rfl rfl rfl (hI.put0 (hI.wf.s rfl) rfl rfl) (hX.upI rfl) (fun g21 e21 hI hX => ?_)
            refine ev_ic f_X11_deny (nx := 6) (v := 0) rfl (by decide) rfl ?_
            refine ev_retK1 f_X11_deny rfl rfl rfl ?_
            exact ev_ret f_X11_pour rfl rfl rfl ⟨_, _, _, rfl, hI, hX, ⟨_, rfl, (by decide : (0:Int) ≤ (0:Int32).toInt), (Int.le_trans (by decide : (0:Int32).toInt ≤ (0:Int)) (by decide : (0:Int) ≤ 1)), (show (0 ≤ (0 : Int) ∧ (0 : Int) ≤ 1) ∧ (∀ A B R S : Nat, gr 1 ar1.toNatClampNeg = .ref A → gr 1 ar3.toNatClampNeg = .ref B → gr A 0 = .ref R → gr B 0 = .ref S → (0 ≤ ar1.toInt ∧ ar1.toInt ≤ 3) → (0 ≤ ar3.toInt ∧ ar3.toInt ≤ 3) → ((0 : Int) = 1 ↔ (0 ≤ ar2.toInt ∧ 0 ≤ ar4.toInt ∧ 0 ≤ ar5.toInt ∧ (gi A 2).toInt ≠ -1 ∧ (gi B 2).toInt ≠ -1 ∧ (gi A 1).toInt = (gi B 1).toInt ∧ ar2.toInt + ar5.toInt ≤ (gi A 2).toInt ∧ ar4.toInt + ar5.toInt ≤ (gi B 2).toInt)) ∧ (∀ K j : Nat, K ≠ S → gl K j = gl K j) ∧ ((0 ≤ ar2.toInt ∧ 0 ≤ ar4.toInt ∧ 0 ≤ ar5.toInt ∧ (gi A 2).toInt ≠ -1 ∧ (gi B 2).toInt ≠ -1 ∧ (gi A 1).toInt = (gi B 1).toInt ∧ ar2.toInt + ar5.toInt ≤ (gi A 2).toInt ∧ ar4.toInt + ar5.toInt ≤ (gi B 2).toInt) → gl S = va_cpy (gl R) (gl S) ar2.toNatClampNeg ar4.toNatClampNeg ar5.toNatClampNeg) ∧ (¬ (0 ≤ ar2.toInt ∧ 0 ≤ ar4.toInt ∧ 0 ≤ ar5.toInt ∧ (gi A 2).toInt ≠ -1 ∧ (gi B 2).toInt ≠ -1 ∧ (gi A 1).toInt = (gi B 1).toInt ∧ ar2.toInt + ar5.toInt ≤ (gi A 2).toInt ∧ ar4.toInt + ar5.toInt ≤ (gi B 2).toInt) → gl S = gl S)) from (by refine ⟨⟨by omega, by omega⟩, fun A B R S hA hB hR hS hi1 hi3 => ?_⟩; rw [e9] at hA; cases hA; rw [e18] at hB; cases hB; exact ⟨by omega, fun _ _ _ => rfl, fun h => absurd h (by omega), fun _ => rfl⟩))⟩⟩
          · have l22 : 0 ≤ ar2.toInt := t_lel (t_nlt h19) (by decide : (0:Int) ≤ (0:Int32).toInt)
            refine ev_loc f_X11_pour (nx := 22) rfl rfl rfl rfl ?_
            refine ev_if f_X11_pour (t1 := 30) (t2 := 25) rfl rfl rfl (fun h23 => ?_) (fun h23 => ?_)
            · have u24 : ar4.toInt ≤ (-1) := t_ltu h23 (by decide : (0:Int32).toInt ≤ (0:Int)) rfl
              refine ev_loc f_X11_pour (nx := 31) rfl rfl rfl rfl ?_
              refine ev_ic f_X11_pour (nx := 32) (v := 1) rfl (by decide) rfl ?_
              refine ev_inV2 f_X11_pour (nx := 35) (lo2 := [(0, .ref 0), (1, .int 1)]) rfl rfl rfl rfl f_X11_deny (hI.wf.s rfl) rfl rfl rfl rfl rfl ?_
              refine ev_loc f_X11_deny (nx := 1) rfl rfl rfl rfl ?_
              refine ev_loc f_X11_deny (nx := 2) rfl rfl rfl rfl ?_
              refine ev_putIT f_X11_deny (nx := 5) rfl (hI.wf.s rfl) rfl rfl rfl (hI.put0 (hI.wf.s rfl) rfl rfl) (hX.upI rfl) (fun g25 e25 hI hX => ?_)
              refine ev_ic f_X11_deny (nx := 6) (v := 0) rfl (by decide) rfl ?_
              refine ev_retK1 f_X11_deny rfl rfl rfl ?_
              exact ev_ret f_X11_pour rfl rfl rfl ⟨_, _, _, rfl, hI, hX, ⟨_, rfl, (by decide : (0:Int) ≤ (0:Int32).toInt), (Int.le_trans (by decide : (0:Int32).toInt ≤ (0:Int)) (by decide : (0:Int) ≤ 1)), (show (0 ≤ (0 : Int) ∧ (0 : Int) ≤ 1) ∧ (∀ A B R S : Nat, gr 1 ar1.toNatClampNeg = .ref A → gr 1 ar3.toNatClampNeg = .ref B → gr A 0 = .ref R → gr B 0 = .ref S → (0 ≤ ar1.toInt ∧ ar1.toInt ≤ 3) → (0 ≤ ar3.toInt ∧ ar3.toInt ≤ 3) → ((0 : Int) = 1 ↔ (0 ≤ ar2.toInt ∧ 0 ≤ ar4.toInt ∧ 0 ≤ ar5.toInt ∧ (gi A 2).toInt ≠ -1 ∧ (gi B 2).toInt ≠ -1 ∧ (gi A 1).toInt = (gi B 1).toInt ∧ ar2.toInt + ar5.toInt ≤ (gi A 2).toInt ∧ ar4.toInt + ar5.toInt ≤ (gi B 2).toInt)) ∧ (∀ K j : Nat, K ≠ S → gl K j = gl K j) ∧ ((0 ≤ ar2.toInt ∧ 0 ≤ ar4.toInt ∧ 0 ≤ ar5.toInt ∧ (gi A 2).toInt ≠ -1 ∧ (gi B 2).toInt ≠ -1 ∧ (gi A 1).toInt = (gi B 1).toInt ∧ ar2.toInt + ar5.toInt ≤ (gi A 2).toInt ∧ ar4.toInt + ar5.toInt ≤ (gi B 2).toInt) → gl S = va_cpy (gl R) (gl S) ar2.toNatClampNeg ar4.toNatClampNeg ar5.toNatClampNeg) ∧ (¬ (0 ≤ ar2.toInt ∧ 0 ≤ ar4.toInt ∧ 0 ≤ ar5.toInt ∧ (gi A 2).toInt ≠ -1 ∧ (gi B 2).toInt ≠ -1 ∧ (gi A 1).toInt = (gi B 1).toInt ∧ ar2.toInt + ar5.toInt ≤ (gi A 2).toInt ∧ ar4.toInt + ar5.toInt ≤ (gi B 2).toInt) → gl S = gl S)) from (by refine ⟨⟨by omega, by omega⟩, fun A B R S hA hB hR hS hi1 hi3 => ?_⟩; rw [e9] at hA; cases hA; rw [e18] at hB; cases hB; exact ⟨by omega, fun _ _ _ => rfl, fun h => absurd h (by omega), fun _ => rfl⟩))⟩⟩
            · have l26 : 0 ≤ ar4.toInt := t_lel (t_nlt h23) (by decide : (0:Int) ≤ (0:Int32).toInt)
              refine ev_loc f_X11_pour (nx := 27) rfl rfl rfl rfl ?_
              refine ev_if f_X11_pour (t1 := 36) (t2 := 30) rfl rfl rfl (fun h27 => ?_) (fun h27 => ?_)
              · have l28 : 0 ≤ ar5.toInt := t_lel h27 (by decide : (0:Int) ≤ (0:Int32).toInt)
                refine ev_loc f_X11_pour (nx := 37) rfl rfl rfl rfl ?_
                refine ev_getR f_X11_pour (nx := 40) rfl (hI.wf.s rfl) rfl rfl (hI.wf.r rfl) rfl rfl ?_
                refine ev_loc f_X11_pour (nx := 41) rfl rfl rfl rfl ?_
                obtain ⟨a29, e29, p29⟩ := t_tray hI.wf l4 (by decide) u8 (by decide)
                refine ev_aald f_X11_pour (nx := 42) rfl (hI.wf.s rfl) rfl (t_idx (n := 4) l4 (by decide) u8 (by decide)).1 (t_idx (n := 4) l4 (by decide) u8 (by decide)).2 e29 rfl rfl ?_
                refine ev_loc f_X11_pour (nx := 44) (lo' := [(6, .ref a29), (0, .ref 0), (1, .int ar1), (2, .int ar2), (3, .int ar3), (4, .int ar4), (5, .int ar5)]) rfl rfl rfl rfl ?_
                refine ev_loc f_X11_pour (nx := 45) rfl rfl rfl rfl ?_
                refine ev_getR f_X11_pour (nx := 48) rfl (hI.wf.s rfl) rfl rfl (hI.wf.r rfl) rfl rfl ?_
                refine ev_loc f_X11_pour (nx := 49) rfl rfl rfl rfl ?_
                obtain ⟨a30, e30, p30⟩ := t_tray hI.wf l13 (by decide) u17 (by decide)
                refine ev_aald f_X11_pour (nx := 50) rfl (hI.wf.s rfl) rfl (t_idx (n := 4) l13 (by decide) u17 (by decide)).1 (t_idx (n := 4) l13 (by decide) u17 (by decide)).2 e30 rfl rfl ?_
                refine ev_loc f_X11_pour (nx := 52) (lo' := [(7, .ref a30), (6, .ref a29), (0, .ref 0), (1, .int ar1), (2, .int ar2), (3, .int ar3), (4, .int ar4), (5, .int ar5)]) rfl rfl rfl rfl ?_
                refine ev_loc f_X11_pour (nx := 54) rfl rfl rfl rfl ?_
                refine ev_inV1 f_X11_pour (nx := 57) (lo2 := [(0, .ref a29)]) rfl rfl rfl rfl f_X10_isMissing p29.1 rfl rfl rfl rfl rfl ?_
                refine ev_loc f_X10_isMissing (nx := 1) rfl rfl rfl rfl ?_
                refine ev_getI f_X10_isMissing (nx := 4) rfl p29.1 rfl rfl rfl ?_
                obtain ⟨l31, u31⟩ := hI.b p29.1 (t_bdK rfl : t_bd 9 2 = some ((-1), 60))
                refine ev_ic f_X10_isMissing (nx := 5) (v := -1) rfl (by decide) rfl ?_
                refine ev_if f_X10_isMissing (t1 := 8) (t2 := 12) rfl rfl rfl (fun h32 => ?_) (fun h32 => ?_)
                · have u33 : (gi a29 2).toInt ≤ (-1) := t_equ h32 (by decide : ((-1):Int32).toInt ≤ ((-1):Int))
                  refine ev_ic f_X10_isMissing (nx := 9) (v := 1) rfl (by decide) rfl ?_
                  refine ev_jmp f_X10_isMissing (nx := 13) rfl rfl rfl ?_
                  refine ev_retK1 f_X10_isMissing rfl rfl rfl ?_
                  refine ev_f f_X11_pour (t1 := 60) (t2 := 68) rfl rfl rfl (by decide) ?_
                  refine ev_loc f_X11_pour (nx := 69) rfl rfl rfl rfl ?_
                  refine ev_ic f_X11_pour (nx := 70) (v := 2) rfl (by decide) rfl ?_
                  refine ev_inV2 f_X11_pour (nx := 73) (lo2 := [(0, .ref 0), (1, .int 2)]) rfl rfl rfl rfl f_X11_deny (hI.wf.s rfl) rfl rfl rfl rfl rfl ?_
                  refine ev_loc f_X11_deny (nx := 1) rfl rfl rfl rfl ?_
                  refine ev_loc f_X11_deny (nx := 2) rfl rfl rfl rfl ?_
                  refine ev_putIT f_X11_deny (nx := 5) rfl (hI.wf.s rfl) rfl rfl rfl (hI.put0 (hI.wf.s rfl) rfl rfl) (hX.upI rfl) (fun g34 e34 hI hX => ?_)
                  refine ev_ic f_X11_deny (nx := 6) (v := 0) rfl (by decide) rfl ?_
                  refine ev_retK1 f_X11_deny rfl rfl rfl ?_
                  exact ev_ret f_X11_pour rfl rfl rfl ⟨_, _, _, rfl, hI, hX, ⟨_, rfl, (by decide : (0:Int) ≤ (0:Int32).toInt), (Int.le_trans (by decide : (0:Int32).toInt ≤ (0:Int)) (by decide : (0:Int) ≤ 1)), (show (0 ≤ (0 : Int) ∧ (0 : Int) ≤ 1) ∧ (∀ A B R S : Nat, gr 1 ar1.toNatClampNeg = .ref A → gr 1 ar3.toNatClampNeg = .ref B → gr A 0 = .ref R → gr B 0 = .ref S → (0 ≤ ar1.toInt ∧ ar1.toInt ≤ 3) → (0 ≤ ar3.toInt ∧ ar3.toInt ≤ 3) → ((0 : Int) = 1 ↔ (0 ≤ ar2.toInt ∧ 0 ≤ ar4.toInt ∧ 0 ≤ ar5.toInt ∧ (gi A 2).toInt ≠ -1 ∧ (gi B 2).toInt ≠ -1 ∧ (gi A 1).toInt = (gi B 1).toInt ∧ ar2.toInt + ar5.toInt ≤ (gi A 2).toInt ∧ ar4.toInt + ar5.toInt ≤ (gi B 2).toInt)) ∧ (∀ K j : Nat, K ≠ S → gl K j = gl K j) ∧ ((0 ≤ ar2.toInt ∧ 0 ≤ ar4.toInt ∧ 0 ≤ ar5.toInt ∧ (gi A 2).toInt ≠ -1 ∧ (gi B 2).toInt ≠ -1 ∧ (gi A 1).toInt = (gi B 1).toInt ∧ ar2.toInt + ar5.toInt ≤ (gi A 2).toInt ∧ ar4.toInt + ar5.toInt ≤ (gi B 2).toInt) → gl S = va_cpy (gl R) (gl S) ar2.toNatClampNeg ar4.toNatClampNeg ar5.toNatClampNeg) ∧ (¬ (0 ≤ ar2.toInt ∧ 0 ≤ ar4.toInt ∧ 0 ≤ ar5.toInt ∧ (gi A 2).toInt ≠ -1 ∧ (gi B 2).toInt ≠ -1 ∧ (gi A 1).toInt = (gi B 1).toInt ∧ ar2.toInt + ar5.toInt ≤ (gi A 2).toInt ∧ ar4.toInt + ar5.toInt ≤ (gi B 2).toInt) → gl S = gl S)) from (by refine ⟨⟨by omega, by omega⟩, fun A B R S hA hB hR hS hi1 hi3 => ?_⟩; rw [e29] at hA; cases hA; have hh := e9.symm.trans e29; cases hh; rw [e30] at hB; cases hB; have hh := e18.symm.trans e30; cases hh; exact ⟨by omega, fun _ _ _ => rfl, fun h => absurd h (by omega), fun _ => rfl⟩))⟩⟩
                · have r35 : (gi a29 2).toInt ≠ (-1) := fun e => h32 (Int32.toInt_inj.mp (e.trans (by decide : ((-1):Int) = ((-1) : Int32).toInt)))
                  have l36 : 0 ≤ (gi a29 2).toInt := t_nel h32 l31 rfl rfl
                  refine ev_ic f_X10_isMissing (nx := 13) (v := 0) rfl (by decide) rfl ?_
                  refine ev_retK1 f_X10_isMissing rfl rfl rfl ?_
                  refine ev_t f_X11_pour (t1 := 60) (t2 := 68) rfl rfl rfl (by decide) ?_
                  refine ev_loc f_X11_pour (nx := 62) rfl rfl rfl rfl ?_
                  refine ev_inV1 f_X11_pour (nx := 65) (lo2 := [(0, .ref a30)]) rfl rfl rfl rfl f_X10_isMissing p30.1 rfl rfl rfl rfl rfl ?_
                  refine ev_loc f_X10_isMissing (nx := 1) rfl rfl rfl rfl ?_
                  refine ev_getI f_X10_isMissing (nx := 4) rfl p30.1 rfl rfl rfl ?_
                  obtain ⟨l37, u37⟩ := hI.b p30.1 (t_bdK rfl : t_bd 9 2 = some ((-1), 60))
                  refine ev_ic f_X10_isMissing (nx := 5) (v := -1) rfl (by decide) rfl ?_
                  refine ev_if f_X10_isMissing (t1 := 8) (t2 := 12) rfl rfl rfl (fun h38 => ?_) (fun h38 => ?_)
                  · have u39 : (gi a30 2).toInt ≤ (-1) := t_equ h38 (by decide : ((-1):Int32).toInt ≤ ((-1):Int))
                    refine ev_ic f_X10_isMissing (nx := 9) (v := 1) rfl (by decide) rfl ?_
                    refine ev_jmp f_X10_isMissing (nx := 13) rfl rfl rfl ?_
                    refine ev_retK1 f_X10_isMissing rfl rfl rfl ?_
                    refine ev_f f_X11_pour (t1 := 74) (t2 := 68) rfl rfl rfl (by decide) ?_
                    refine ev_loc f_X11_pour (nx := 69) rfl rfl rfl rfl ?_
                    refine ev_ic f_X11_pour (nx := 70) (v := 2) rfl (by decide) rfl ?_
                    refine ev_inV2 f_X11_pour (nx := 73) (lo2 := [(0, .ref 0), (1, .int 2)]) rfl rfl rfl rfl f_X11_deny (hI.wf.s rfl) rfl rfl rfl rfl rfl ?_
                    refine ev_loc f_X11_deny (nx := 1) rfl rfl rfl rfl ?_
                    refine ev_loc f_X11_deny (nx := 2) rfl rfl rfl rfl ?_
                    refine ev_putIT f_X11_deny (nx := 5) rfl (hI.wf.s rfl) rfl rfl rfl (hI.put0 (hI.wf.s rfl) rfl rfl) (hX.upI rfl) (fun g40 e40 hI hX => ?_)
                    refine ev_ic f_X11_deny (nx := 6) (v := 0) rfl (by decide) rfl ?_
                    refine ev_retK1 f_X11_deny rfl rfl rfl ?_
                    exact ev_ret f_X11_pour rfl rfl rfl ⟨_, _, _, rfl, hI, hX, ⟨_, rfl, (by decide : (0:Int) ≤ (0:Int32).toInt), (Int.le_trans (by decide : (0:Int32).toInt ≤ (0:Int)) (by decide : (0:Int) ≤ 1)), (show (0 ≤ (0 : Int) ∧ (0 : Int) ≤ 1) ∧ (∀ A B R S : Nat, gr 1 ar1.toNatClampNeg = .ref A → gr 1 ar3.toNatClampNeg = .ref B → gr A 0 = .ref R → gr B 0 = .ref S → (0 ≤ ar1.toInt ∧ ar1.toInt ≤ 3) → (0 ≤ ar3.toInt ∧ ar3.toInt ≤ 3) → ((0 : Int) = 1 ↔ (0 ≤ ar2.toInt ∧ 0 ≤ ar4.toInt ∧ 0 ≤ ar5.toInt ∧ (gi A 2).toInt ≠ -1 ∧ (gi B 2).toInt ≠ -1 ∧ (gi A 1).toInt = (gi B 1).toInt ∧ ar2.toInt + ar5.toInt ≤ (gi A 2).toInt ∧ ar4.toInt + ar5.toInt ≤ (gi B 2).toInt)) ∧ (∀ K j : Nat, K ≠ S → gl K j = gl K j) ∧ ((0 ≤ ar2.toInt ∧ 0 ≤ ar4.toInt ∧ 0 ≤ ar5.toInt ∧ (gi A 2).toInt ≠ -1 ∧ (gi B 2).toInt ≠ -1 ∧ (gi A 1).toInt = (gi B 1).toInt ∧ ar2.toInt + ar5.toInt ≤ (gi A 2).toInt ∧ ar4.toInt + ar5.toInt ≤ (gi B 2).toInt) → gl S = va_cpy (gl R) (gl S) ar2.toNatClampNeg ar4.toNatClampNeg ar5.toNatClampNeg) ∧ (¬ (0 ≤ ar2.toInt ∧ 0 ≤ ar4.toInt ∧ 0 ≤ ar5.toInt ∧ (gi A 2).toInt ≠ -1 ∧ (gi B 2).toInt ≠ -1 ∧ (gi A 1).toInt = (gi B 1).toInt ∧ ar2.toInt + ar5.toInt ≤ (gi A 2).toInt ∧ ar4.toInt + ar5.toInt ≤ (gi B 2).toInt) → gl S = gl S)) from (by refine ⟨⟨by omega, by omega⟩, fun A B R S hA hB hR hS hi1 hi3 => ?_⟩; rw [e29] at hA; cases hA; have hh := e9.symm.trans e29; cases hh; rw [e30] at hB; cases hB; have hh := e18.symm.trans e30; cases hh; exact ⟨by omega, fun _ _ _ => rfl, fun h => absurd h (by omega), fun _ => rfl⟩))⟩⟩
                  · have r41 : (gi a30 2).toInt ≠ (-1) := fun e => h38 (Int32.toInt_inj.mp (e.trans (by decide : ((-1):Int) = ((-1) : Int32).toInt)))
                    have l42 : 0 ≤ (gi a30 2).toInt := t_nel h38 l37 rfl rfl
                    refine ev_ic f_X10_isMissing (nx := 13) (v := 0) rfl (by decide) rfl ?_
                    refine ev_retK1 f_X10_isMissing rfl rfl rfl ?_
                    refine ev_t f_X11_pour (t1 := 74) (t2 := 68) rfl rfl rfl (by decide) ?_
                    refine ev_loc f_X11_pour (nx := 76) rfl rfl rfl rfl ?_
                    refine ev_getI f_X11_pour (nx := 79) rfl p29.1 rfl rfl rfl ?_
                    refine ev_loc f_X11_pour (nx := 81) rfl rfl rfl rfl ?_
                    refine ev_getI f_X11_pour (nx := 84) rfl p30.1 rfl rfl rfl ?_
                    refine ev_if f_X11_pour (t1 := 94) (t2 := 87) rfl rfl rfl (fun h43 => ?_) (fun h43 => ?_)
                    · have r44 : (gi a29 1).toInt = (gi a30 1).toInt := t_eqi h43
                      refine ev_loc f_X11_pour (nx := 96) rfl rfl rfl rfl ?_
                      refine ev_loc f_X11_pour (nx := 97) rfl rfl rfl rfl ?_
                      refine ev_loc f_X11_pour (nx := 99) rfl rfl rfl rfl ?_
                      refine ev_inV3 f_X11_pour (nx := 102) (lo2 := [(0, .ref a29), (1, .int ar2), (2, .int ar5)]) rfl rfl rfl rfl f_X10_hasStretch p29.1 rfl rfl rfl rfl rfl ?_
                      refine ev_loc f_X10_hasStretch (nx := 1) rfl rfl rfl rfl ?_
                      refine ev_loc f_X10_hasStretch (nx := 2) rfl rfl rfl rfl ?_
                      refine ev_gvI f_X10_hasStretch (nx := 5) (w := (gi a29 2)) rfl p29.1 rfl rfl rfl rfl ?_
                      refine ev_if f_X10_hasStretch (t1 := 22) (t2 := 8) rfl rfl rfl (fun h45 => ?_) (fun h45 => ?_)
                      · have r46 : (gi a29 2).toInt < ar2.toInt := Int32.lt_iff_toInt_lt.mp h45
                        have l47 : 1 ≤ ar2.toInt := t_ltl h45 l36 rfl
                        refine ev_ic f_X10_hasStretch (nx := 23) (v := 0) rfl (by decide) rfl ?_
                        refine ev_retK1 f_X10_hasStretch rfl rfl rfl ?_
                        refine ev_t f_X11_pour (t1 := 117) (t2 := 105) rfl rfl rfl (by decide) ?_
                        refine ev_loc f_X11_pour (nx := 118) rfl rfl rfl rfl ?_
                        refine ev_ic f_X11_pour (nx := 119) (v := 3) rfl (by decide) rfl ?_
                        refine ev_inV2 f_X11_pour (nx := 122) (lo2 := [(0, .ref 0), (1, .int 3)]) rfl rfl rfl rfl f_X11_deny (hI.wf.s rfl) rfl rfl rfl rfl rfl ?_
                        refine ev_loc f_X11_deny (nx := 1) rfl rfl rfl rfl ?_
                        refine ev_loc f_X11_deny (nx := 2) rfl rfl rfl rfl ?_
                        refine ev_putIT f_X11_deny (nx := 5) rfl (hI.wf.s rfl) rfl rfl rfl (hI.put0 (hI.wf.s rfl) rfl rfl) (hX.upI rfl) (fun g48 e48 hI hX => ?_)
                        refine ev_ic f_X11_deny (nx := 6) (v := 0) rfl (by decide) rfl ?_
                        refine ev_retK1 f_X11_deny rfl rfl rfl ?_
                        exact ev_ret f_X11_pour rfl rfl rfl ⟨_, _, _, rfl, hI, hX, ⟨_, rfl, (by decide : (0:Int) ≤ (0:Int32).toInt), (Int.le_trans (by decide : (0:Int32).toInt ≤ (0:Int)) (by decide : (0:Int) ≤ 1)), (show (0 ≤ (0 : Int) ∧ (0 : Int) ≤ 1) ∧ (∀ A B R S : Nat, gr 1 ar1.toNatClampNeg = .ref A → gr 1 ar3.toNatClampNeg = .ref B → gr A 0 = .ref R → gr B 0 = .ref S → (0 ≤ ar1.toInt ∧ ar1.toInt ≤ 3) → (0 ≤ ar3.toInt ∧ ar3.toInt ≤ 3) → ((0 : Int) = 1 ↔ (0 ≤ ar2.toInt ∧ 0 ≤ ar4.toInt ∧ 0 ≤ ar5.toInt ∧ (gi A 2).toInt ≠ -1 ∧ (gi B 2).toInt ≠ -1 ∧ (gi A 1).toInt = (gi B 1).toInt ∧ ar2.toInt + ar5.toInt ≤ (gi A 2).toInt ∧ ar4.toInt + ar5.toInt ≤ (gi B 2).toInt)) ∧ (∀ K j : Nat, K ≠ S → gl K j = gl K j) ∧ ((0 ≤ ar2.toInt ∧ 0 ≤ ar4.toInt ∧ 0 ≤ ar5.toInt ∧ (gi A 2).toInt ≠ -1 ∧ (gi B 2).toInt ≠ -1 ∧ (gi A 1).toInt = (gi B 1).toInt ∧ ar2.toInt + ar5.toInt ≤ (gi A 2).toInt ∧ ar4.toInt + ar5.toInt ≤ (gi B 2).toInt) → gl S = va_cpy (gl R) (gl S) ar2.toNatClampNeg ar4.toNatClampNeg ar5.toNatClampNeg) ∧ (¬ (0 ≤ ar2.toInt ∧ 0 ≤ ar4.toInt ∧ 0 ≤ ar5.toInt ∧ (gi A 2).toInt ≠ -1 ∧ (gi B 2).toInt ≠ -1 ∧ (gi A 1).toInt = (gi B 1).toInt ∧ ar2.toInt + ar5.toInt ≤ (gi A 2).toInt ∧ ar4.toInt + ar5.toInt ≤ (gi B 2).toInt) → gl S = gl S)) from (by refine ⟨⟨by omega, by omega⟩, fun A B R S hA hB hR hS hi1 hi3 => ?_⟩; rw [e29] at hA; cases hA; have hh := e9.symm.trans e29; cases hh; rw [e30] at hB; cases hB; have hh := e18.symm.trans e30; cases hh; exact ⟨by omega, fun _ _ _ => rfl, fun h => absurd h (by omega), fun _ => rfl⟩))⟩⟩
                      · have r49 : ar2.toInt ≤ (gi a29 2).toInt := Int32.le_iff_toInt_le.mp (t_nlt h45)
                        have u50 : ar2.toInt ≤ 60 := t_leu (t_nlt h45) u31
                        refine ev_loc f_X10_hasStretch (nx := 9) rfl rfl rfl rfl ?_
                        refine ev_loc f_X10_hasStretch (nx := 10) rfl rfl rfl rfl ?_
                        refine ev_gvI f_X10_hasStretch (nx := 13) (w := (gi a29 2)) rfl p29.1 rfl rfl rfl rfl ?_
                        refine ev_loc f_X10_hasStretch (nx := 14) rfl rfl rfl rfl ?_
                        refine ev_subR f_X10_hasStretch (nx := 15) (l := (-60)) (u := 60) rfl l36 u31 l22 u50 rfl rfl (by decide) (by decide) rfl (fun z51 e51 l51 u51 => ?_)
                        refine ev_if f_X10_hasStretch (t1 := 22) (t2 := 18) rfl rfl rfl (fun h52 => ?_) (fun h52 => ?_)
                        · have r53 : z51.toInt < ar5.toInt := Int32.lt_iff_toInt_lt.mp h52
                          refine ev_ic f_X10_hasStretch (nx := 23) (v := 0) rfl (by decide) rfl ?_
                          refine ev_retK1 f_X10_hasStretch rfl rfl rfl ?_
                          refine ev_t f_X11_pour (t1 := 117) (t2 := 105) rfl rfl rfl (by decide) ?_
                          refine ev_loc f_X11_pour (nx := 118) rfl rfl rfl rfl ?_
                          refine ev_ic f_X11_pour (nx := 119) (v := 3) rfl (by decide) rfl ?_
                          refine ev_inV2 f_X11_pour (nx := 122) (lo2 := [(0, .ref 0), (1, .int 3)]) rfl rfl rfl rfl f_X11_deny (hI.wf.s rfl) rfl rfl rfl rfl rfl ?_
                          refine ev_loc f_X11_deny (nx := 1) rfl rfl rfl rfl ?_
                          refine ev_loc f_X11_deny (nx := 2) rfl rfl rfl rfl ?_
                          refine ev_putIT f_X11_deny (nx := 5) rfl (hI.wf.s rfl) rfl rfl rfl (hI.put0 (hI.wf.s rfl) rfl rfl) (hX.upI rfl) (fun g54 e54 hI hX => ?_)
                          refine ev_ic f_X11_deny (nx := 6) (v := 0) rfl (by decide) rfl ?_
                          refine ev_retK1 f_X11_deny rfl rfl rfl ?_
                          exact ev_ret f_X11_pour rfl rfl rfl ⟨_, _, _, rfl, hI, hX, ⟨_, rfl, (by decide : (0:Int) ≤ (0:Int32).toInt), (Int.le_trans (by decide : (0:Int32).toInt ≤ (0:Int)) (by decide : (0:Int) ≤ 1)), (show (0 ≤ (0 : Int) ∧ (0 : Int) ≤ 1) ∧ (∀ A B R S : Nat, gr 1 ar1.toNatClampNeg = .ref A → gr 1 ar3.toNatClampNeg = .ref B → gr A 0 = .ref R → gr B 0 = .ref S → (0 ≤ ar1.toInt ∧ ar1.toInt ≤ 3) → (0 ≤ ar3.toInt ∧ ar3.toInt ≤ 3) → ((0 : Int) = 1 ↔ (0 ≤ ar2.toInt ∧ 0 ≤ ar4.toInt ∧ 0 ≤ ar5.toInt ∧ (gi A 2).toInt ≠ -1 ∧ (gi B 2).toInt ≠ -1 ∧ (gi A 1).toInt = (gi B 1).toInt ∧ ar2.toInt + ar5.toInt ≤ (gi A 2).toInt ∧ ar4.toInt + ar5.toInt ≤ (gi B 2).toInt)) ∧ (∀ K j : Nat, K ≠ S → gl K j = gl K j) ∧ ((0 ≤ ar2.toInt ∧ 0 ≤ ar4.toInt ∧ 0 ≤ ar5.toInt ∧ (gi A 2).toInt ≠ -1 ∧ (gi B 2).toInt ≠ -1 ∧ (gi A 1).toInt = (gi B 1).toInt ∧ ar2.toInt + ar5.toInt ≤ (gi A 2).toInt ∧ ar4.toInt + ar5.toInt ≤ (gi B 2).toInt) → gl S = va_cpy (gl R) (gl S) ar2.toNatClampNeg ar4.toNatClampNeg ar5.toNatClampNeg) ∧ (¬ (0 ≤ ar2.toInt ∧ 0 ≤ ar4.toInt ∧ 0 ≤ ar5.toInt ∧ (gi A 2).toInt ≠ -1 ∧ (gi B 2).toInt ≠ -1 ∧ (gi A 1).toInt = (gi B 1).toInt ∧ ar2.toInt + ar5.toInt ≤ (gi A 2).toInt ∧ ar4.toInt + ar5.toInt ≤ (gi B 2).toInt) → gl S = gl S)) from (by refine ⟨⟨by omega, by omega⟩, fun A B R S hA hB hR hS hi1 hi3 => ?_⟩; rw [e29] at hA; cases hA; have hh := e9.symm.trans e29; cases hh; rw [e30] at hB; cases hB; have hh := e18.symm.trans e30; cases hh; exact ⟨by omega, fun _ _ _ => rfl, fun h => absurd h (by omega), fun _ => rfl⟩))⟩⟩
                        · have r55 : ar5.toInt ≤ z51.toInt := Int32.le_iff_toInt_le.mp (t_nlt h52)
                          have u56 : ar5.toInt ≤ 60 := t_leu (t_nlt h52) u51
                          have l57 : 0 ≤ z51.toInt := t_lel (t_nlt h52) l28
                          refine ev_ic f_X10_hasStretch (nx := 19) (v := 1) rfl (by decide) rfl ?_
                          refine ev_jmp f_X10_hasStretch (nx := 23) rfl rfl rfl ?_
                          refine ev_retK1 f_X10_hasStretch rfl rfl rfl ?_
                          refine ev_f f_X11_pour (t1 := 117) (t2 := 105) rfl rfl rfl (by decide) ?_
                          refine ev_loc f_X11_pour (nx := 107) rfl rfl rfl rfl ?_
                          refine ev_loc f_X11_pour (nx := 109) rfl rfl rfl rfl ?_
                          refine ev_loc f_X11_pour (nx := 111) rfl rfl rfl rfl ?_
                          refine ev_inV3 f_X11_pour (nx := 114) (lo2 := [(0, .ref a30), (1, .int ar4), (2, .int ar5)]) rfl rfl rfl rfl f_X10_hasStretch p30.1 rfl rfl rfl rfl rfl ?_
                          refine ev_loc f_X10_hasStretch (nx := 1) rfl rfl rfl rfl ?_
                          refine ev_loc f_X10_hasStretch (nx := 2) rfl rfl rfl rfl ?_
                          refine ev_gvI f_X10_hasStretch (nx := 5) (w := (gi a30 2)) rfl p30.1 rfl rfl rfl rfl ?_
                          refine ev_if f_X10_hasStretch (t1 := 22) (t2 := 8) rfl rfl rfl (fun h58 => ?_) (fun h58 => ?_)
                          · have r59 : (gi a30 2).toInt < ar4.toInt := Int32.lt_iff_toInt_lt.mp h58
                            have l60 : 1 ≤ ar4.toInt := t_ltl h58 l42 rfl
                            refine ev_ic f_X10_hasStretch (nx := 23) (v := 0) rfl (by decide) rfl ?_
                            refine ev_retK1 f_X10_hasStretch rfl rfl rfl ?_
                            refine ev_t f_X11_pour (t1 := 117) (t2 := 123) rfl rfl rfl (by decide) ?_
                            refine ev_loc f_X11_pour (nx := 118) rfl rfl rfl rfl ?_
                            refine ev_ic f_X11_pour (nx := 119) (v := 3) rfl (by decide) rfl ?_
                            refine ev_inV2 f_X11_pour (nx := 122) (lo2 := [(0, .ref 0), (1, .int 3)]) rfl rfl rfl rfl f_X11_deny (hI.wf.s rfl) rfl rfl rfl rfl rfl ?_
                            refine ev_loc f_X11_deny (nx := 1) rfl rfl rfl rfl ?_
                            refine ev_loc f_X11_deny (nx := 2) rfl rfl rfl rfl ?_
                            refine ev_putIT f_X11_deny (nx := 5) rfl (hI.wf.s rfl) rfl rfl rfl (hI.put0 (hI.wf.s rfl) rfl rfl) (hX.upI rfl) (fun g61 e61 hI hX => ?_)
                            refine ev_ic f_X11_deny (nx := 6) (v := 0) rfl (by decide) rfl ?_
                            refine ev_retK1 f_X11_deny rfl rfl rfl ?_
                            exact ev_ret f_X11_pour rfl rfl rfl ⟨_, _, _, rfl, hI, hX, ⟨_, rfl, (by decide : (0:Int) ≤ (0:Int32).toInt), (Int.le_trans (by decide : (0:Int32).toInt ≤ (0:Int)) (by decide : (0:Int) ≤ 1)), (show (0 ≤ (0 : Int) ∧ (0 : Int) ≤ 1) ∧ (∀ A B R S : Nat, gr 1 ar1.toNatClampNeg = .ref A → gr 1 ar3.toNatClampNeg = .ref B → gr A 0 = .ref R → gr B 0 = .ref S → (0 ≤ ar1.toInt ∧ ar1.toInt ≤ 3) → (0 ≤ ar3.toInt ∧ ar3.toInt ≤ 3) → ((0 : Int) = 1 ↔ (0 ≤ ar2.toInt ∧ 0 ≤ ar4.toInt ∧ 0 ≤ ar5.toInt ∧ (gi A 2).toInt ≠ -1 ∧ (gi B 2).toInt ≠ -1 ∧ (gi A 1).toInt = (gi B 1).toInt ∧ ar2.toInt + ar5.toInt ≤ (gi A 2).toInt ∧ ar4.toInt + ar5.toInt ≤ (gi B 2).toInt)) ∧ (∀ K j : Nat, K ≠ S → gl K j = gl K j) ∧ ((0 ≤ ar2.toInt ∧ 0 ≤ ar4.toInt ∧ 0 ≤ ar5.toInt ∧ (gi A 2).toInt ≠ -1 ∧ (gi B 2).toInt ≠ -1 ∧ (gi A 1).toInt = (gi B 1).toInt ∧ ar2.toInt + ar5.toInt ≤ (gi A 2).toInt ∧ ar4.toInt + ar5.toInt ≤ (gi B 2).toInt) → gl S = va_cpy (gl R) (gl S) ar2.toNatClampNeg ar4.toNatClampNeg ar5.toNatClampNeg) ∧ (¬ (0 ≤ ar2.toInt ∧ 0 ≤ ar4.toInt ∧ 0 ≤ ar5.toInt ∧ (gi A 2).toInt ≠ -1 ∧ (gi B 2).toInt ≠ -1 ∧ (gi A 1).toInt = (gi B 1).toInt ∧ ar2.toInt + ar5.toInt ≤ (gi A 2).toInt ∧ ar4.toInt + ar5.toInt ≤ (gi B 2).toInt) → gl S = gl S)) from (by refine ⟨⟨by omega, by omega⟩, fun A B R S hA hB hR hS hi1 hi3 => ?_⟩; rw [e29] at hA; cases hA; have hh := e9.symm.trans e29; cases hh; rw [e30] at hB; cases hB; have hh := e18.symm.trans e30; cases hh; exact ⟨by omega, fun _ _ _ => rfl, fun h => absurd h (by omega), fun _ => rfl⟩))⟩⟩
                          · have r62 : ar4.toInt ≤ (gi a30 2).toInt := Int32.le_iff_toInt_le.mp (t_nlt h58)
                            have u63 : ar4.toInt ≤ 60 := t_leu (t_nlt h58) u37
                            refine ev_loc f_X10_hasStretch (nx := 9) rfl rfl rfl rfl ?_
                            refine ev_loc f_X10_hasStretch (nx := 10) rfl rfl rfl rfl ?_
                            refine ev_gvI f_X10_hasStretch (nx := 13) (w := (gi a30 2)) rfl p30.1 rfl rfl rfl rfl ?_
                            refine ev_loc f_X10_hasStretch (nx := 14) rfl rfl rfl rfl ?_
                            refine ev_subR f_X10_hasStretch (nx := 15) (l := (-60)) (u := 60) rfl l42 u37 l26 u63 rfl rfl (by decide) (by decide) rfl (fun z64 e64 l64 u64 => ?_)
                            refine ev_if f_X10_hasStretch (t1 := 22) (t2 := 18) rfl rfl rfl (fun h65 => ?_) (fun h65 => ?_)
                            · have r66 : z64.toInt < ar5.toInt := Int32.lt_iff_toInt_lt.mp h65
                              have u67 : z64.toInt ≤ 59 := t_ltu h65 u56 rfl
                              refine ev_ic f_X10_hasStretch (nx := 23) (v := 0) rfl (by decide) rfl ?_
                              refine ev_retK1 f_X10_hasStretch rfl rfl rfl ?_
                              refine ev_t f_X11_pour (t1 := 117) (t2 := 123) rfl rfl rfl (by decide) ?_
                              refine ev_loc f_X11_pour (nx := 118) rfl rfl rfl rfl ?_
                              refine ev_ic f_X11_pour (nx := 119) (v := 3) rfl (by decide) rfl ?_
                              refine ev_inV2 f_X11_pour (nx := 122) (lo2 := [(0, .ref 0), (1, .int 3)]) rfl rfl rfl rfl f_X11_deny (hI.wf.s rfl) rfl rfl rfl rfl rfl ?_
                              refine ev_loc f_X11_deny (nx := 1) rfl rfl rfl rfl ?_
                              refine ev_loc f_X11_deny (nx := 2) rfl rfl rfl rfl ?_
                              refine ev_putIT f_X11_deny (nx := 5) rfl (hI.wf.s rfl) rfl rfl rfl (hI.put0 (hI.wf.s rfl) rfl rfl) (hX.upI rfl) (fun g68 e68 hI hX => ?_)
                              refine ev_ic f_X11_deny (nx := 6) (v := 0) rfl (by decide) rfl ?_
                              refine ev_retK1 f_X11_deny rfl rfl rfl ?_
                              exact ev_ret f_X11_pour rfl rfl rfl ⟨_, _, _, rfl, hI, hX, ⟨_, rfl, (by decide : (0:Int) ≤ (0:Int32).toInt), (Int.le_trans (by decide : (0:Int32).toInt ≤ (0:Int)) (by decide : (0:Int) ≤ 1)), (show (0 ≤ (0 : Int) ∧ (0 : Int) ≤ 1) ∧ (∀ A B R S : Nat, gr 1 ar1.toNatClampNeg = .ref A → gr 1 ar3.toNatClampNeg = .ref B → gr A 0 = .ref R → gr B 0 = .ref S → (0 ≤ ar1.toInt ∧ ar1.toInt ≤ 3) → (0 ≤ ar3.toInt ∧ ar3.toInt ≤ 3) → ((0 : Int) = 1 ↔ (0 ≤ ar2.toInt ∧ 0 ≤ ar4.toInt ∧ 0 ≤ ar5.toInt ∧ (gi A 2).toInt ≠ -1 ∧ (gi B 2).toInt ≠ -1 ∧ (gi A 1).toInt = (gi B 1).toInt ∧ ar2.toInt + ar5.toInt ≤ (gi A 2).toInt ∧ ar4.toInt + ar5.toInt ≤ (gi B 2).toInt)) ∧ (∀ K j : Nat, K ≠ S → gl K j = gl K j) ∧ ((0 ≤ ar2.toInt ∧ 0 ≤ ar4.toInt ∧ 0 ≤ ar5.toInt ∧ (gi A 2).toInt ≠ -1 ∧ (gi B 2).toInt ≠ -1 ∧ (gi A 1).toInt = (gi B 1).toInt ∧ ar2.toInt + ar5.toInt ≤ (gi A 2).toInt ∧ ar4.toInt + ar5.toInt ≤ (gi B 2).toInt) → gl S = va_cpy (gl R) (gl S) ar2.toNatClampNeg ar4.toNatClampNeg ar5.toNatClampNeg) ∧ (¬ (0 ≤ ar2.toInt ∧ 0 ≤ ar4.toInt ∧ 0 ≤ ar5.toInt ∧ (gi A 2).toInt ≠ -1 ∧ (gi B 2).toInt ≠ -1 ∧ (gi A 1).toInt = (gi B 1).toInt ∧ ar2.toInt + ar5.toInt ≤ (gi A 2).toInt ∧ ar4.toInt + ar5.toInt ≤ (gi B 2).toInt) → gl S = gl S)) from (by refine ⟨⟨by omega, by omega⟩, fun A B R S hA hB hR hS hi1 hi3 => ?_⟩; rw [e29] at hA; cases hA; have hh := e9.symm.trans e29; cases hh; rw [e30] at hB; cases hB; have hh := e18.symm.trans e30; cases hh; exact ⟨by omega, fun _ _ _ => rfl, fun h => absurd h (by omega), fun _ => rfl⟩))⟩⟩
                            · have r69 : ar5.toInt ≤ z64.toInt := Int32.le_iff_toInt_le.mp (t_nlt h65)
                              have l70 : 0 ≤ z64.toInt := t_lel (t_nlt h65) l28
                              refine ev_ic f_X10_hasStretch (nx := 19) (v := 1) rfl (by decide) rfl ?_
                              refine ev_jmp f_X10_hasStretch (nx := 23) rfl rfl rfl ?_
                              refine ev_retK1 f_X10_hasStretch rfl rfl rfl ?_
                              refine ev_f f_X11_pour (t1 := 117) (t2 := 123) rfl rfl rfl (by decide) ?_
                              refine ev_loc f_X11_pour (nx := 125) rfl rfl rfl rfl ?_
                              have e71 := p29.2.1.1
                              have s71 := p29.2.1.2
                              refine ev_getR f_X11_pour (nx := 128) rfl p29.1 rfl rfl e71 rfl rfl ?_
                              refine ev_loc f_X11_pour (nx := 129) rfl rfl rfl rfl ?_
                              refine ev_loc f_X11_pour (nx := 131) rfl rfl rfl rfl ?_
                              have e72 := p30.2.1.1
                              have s72 := p30.2.1.2
                              refine ev_getR f_X11_pour (nx := 134) rfl p30.1 rfl rfl e72 rfl rfl ?_
                              refine ev_loc f_X11_pour (nx := 136) rfl rfl rfl rfl ?_
                              refine ev_loc f_X11_pour (nx := 138) rfl rfl rfl rfl ?_
                              refine ev_cpyTL f_X11_pour (nx := 141) rfl rfl s71 s72 (by omega) l22 l26 l28 (by omega) (by omega) rfl (hX.arrL (fun j => (t_in4A p30.2.2 rfl))) (fun g73 e73 hX => ?_)
                              refine ev_loc f_X11_pour (nx := 142) rfl rfl rfl rfl ?_
                              refine ev_inV1 f_X11_pour (nx := 145) (lo2 := [(0, .ref 0)]) rfl rfl rfl rfl f_X11_grant (hI.wf.s rfl) rfl rfl rfl rfl rfl ?_
                              refine ev_loc f_X11_grant (nx := 1) rfl rfl rfl rfl ?_
                              refine ev_ic f_X11_grant (nx := 2) (v := 0) rfl (by decide) rfl ?_
                              refine ev_putIT f_X11_grant (nx := 5) rfl (hI.wf.s rfl) rfl rfl rfl (hI.put0 (hI.wf.s rfl) rfl rfl) (hX.upI rfl) (fun g74 e74 hI hX => ?_)
                              refine ev_ic f_X11_grant (nx := 6) (v := 1) rfl (by decide) rfl ?_
                              refine ev_retK1 f_X11_grant rfl rfl rfl ?_
                              exact ev_ret f_X11_pour rfl rfl rfl ⟨_, _, _, rfl, hI, hX, ⟨_, rfl, (Int.le_trans (by decide : (0:Int) ≤ 1) (by decide : (1:Int) ≤ (1:Int32).toInt)), (by decide : (1:Int32).toInt ≤ (1:Int)), (show (0 ≤ (1 : Int) ∧ (1 : Int) ≤ 1) ∧ (∀ A B R S : Nat, gr 1 ar1.toNatClampNeg = .ref A → gr 1 ar3.toNatClampNeg = .ref B → gr A 0 = .ref R → gr B 0 = .ref S → (0 ≤ ar1.toInt ∧ ar1.toInt ≤ 3) → (0 ≤ ar3.toInt ∧ ar3.toInt ≤ 3) → ((1 : Int) = 1 ↔ (0 ≤ ar2.toInt ∧ 0 ≤ ar4.toInt ∧ 0 ≤ ar5.toInt ∧ (gi A 2).toInt ≠ -1 ∧ (gi B 2).toInt ≠ -1 ∧ (gi A 1).toInt = (gi B 1).toInt ∧ ar2.toInt + ar5.toInt ≤ (gi A 2).toInt ∧ ar4.toInt + ar5.toInt ≤ (gi B 2).toInt)) ∧ (∀ K j : Nat, K ≠ S → g73 K j = gl K j) ∧ ((0 ≤ ar2.toInt ∧ 0 ≤ ar4.toInt ∧ 0 ≤ ar5.toInt ∧ (gi A 2).toInt ≠ -1 ∧ (gi B 2).toInt ≠ -1 ∧ (gi A 1).toInt = (gi B 1).toInt ∧ ar2.toInt + ar5.toInt ≤ (gi A 2).toInt ∧ ar4.toInt + ar5.toInt ≤ (gi B 2).toInt) → g73 S = va_cpy (gl R) (gl S) ar2.toNatClampNeg ar4.toNatClampNeg ar5.toNatClampNeg) ∧ (¬ (0 ≤ ar2.toInt ∧ 0 ≤ ar4.toInt ∧ 0 ≤ ar5.toInt ∧ (gi A 2).toInt ≠ -1 ∧ (gi B 2).toInt ≠ -1 ∧ (gi A 1).toInt = (gi B 1).toInt ∧ ar2.toInt + ar5.toInt ≤ (gi A 2).toInt ∧ ar4.toInt + ar5.toInt ≤ (gi B 2).toInt) → g73 S = gl S)) from (by refine ⟨⟨by omega, by omega⟩, fun A B R S hA hB hR hS hi1 hi3 => ?_⟩; rw [e29] at hA; cases hA; have hh := e9.symm.trans e29; cases hh; have hrrR := (e71).symm.trans hR; cases hrrR; rw [e30] at hB; cases hB; have hh := e18.symm.trans e30; cases hh; have hrrS := (e72).symm.trans hS; cases hrrS; exact ⟨by omega, fun K j hK => (by rw [e73]; dsimp only; rw [if_neg hK]), fun _ => (by rw [e73]; dsimp only; rw [if_pos rfl]), fun h => absurd h (by omega)⟩))⟩⟩
                    · have r75 : (gi a29 1).toInt ≠ (gi a30 1).toInt := t_nei h43
                      refine ev_loc f_X11_pour (nx := 88) rfl rfl rfl rfl ?_
                      refine ev_bp f_X11_pour (nx := 90) (v := 8) rfl (by decide) rfl ?_
                      refine ev_inV2 f_X11_pour (nx := 93) (lo2 := [(0, .ref 0), (1, .int 8)]) rfl rfl rfl rfl f_X11_deny (hI.wf.s rfl) rfl rfl rfl rfl rfl ?_
                      refine ev_loc f_X11_deny (nx := 1) rfl rfl rfl rfl ?_
                      refine ev_loc f_X11_deny (nx := 2) rfl rfl rfl rfl ?_
                      refine ev_putIT f_X11_deny (nx := 5) rfl (hI.wf.s rfl) rfl rfl rfl (hI.put0 (hI.wf.s rfl) rfl rfl) (hX.upI rfl) (fun g76 e76 hI hX => ?_)
                      refine ev_ic f_X11_deny (nx := 6) (v := 0) rfl (by decide) rfl ?_
                      refine ev_retK1 f_X11_deny rfl rfl rfl ?_
                      exact ev_ret f_X11_pour rfl rfl rfl ⟨_, _, _, rfl, hI, hX, ⟨_, rfl, (by decide : (0:Int) ≤ (0:Int32).toInt), (Int.le_trans (by decide : (0:Int32).toInt ≤ (0:Int)) (by decide : (0:Int) ≤ 1)), (show (0 ≤ (0 : Int) ∧ (0 : Int) ≤ 1) ∧ (∀ A B R S : Nat, gr 1 ar1.toNatClampNeg = .ref A → gr 1 ar3.toNatClampNeg = .ref B → gr A 0 = .ref R → gr B 0 = .ref S → (0 ≤ ar1.toInt ∧ ar1.toInt ≤ 3) → (0 ≤ ar3.toInt ∧ ar3.toInt ≤ 3) → ((0 : Int) = 1 ↔ (0 ≤ ar2.toInt ∧ 0 ≤ ar4.toInt ∧ 0 ≤ ar5.toInt ∧ (gi A 2).toInt ≠ -1 ∧ (gi B 2).toInt ≠ -1 ∧ (gi A 1).toInt = (gi B 1).toInt ∧ ar2.toInt + ar5.toInt ≤ (gi A 2).toInt ∧ ar4.toInt + ar5.toInt ≤ (gi B 2).toInt)) ∧ (∀ K j : Nat, K ≠ S → gl K j = gl K j) ∧ ((0 ≤ ar2.toInt ∧ 0 ≤ ar4.toInt ∧ 0 ≤ ar5.toInt ∧ (gi A 2).toInt ≠ -1 ∧ (gi B 2).toInt ≠ -1 ∧ (gi A 1).toInt = (gi B 1).toInt ∧ ar2.toInt + ar5.toInt ≤ (gi A 2).toInt ∧ ar4.toInt + ar5.toInt ≤ (gi B 2).toInt) → gl S = va_cpy (gl R) (gl S) ar2.toNatClampNeg ar4.toNatClampNeg ar5.toNatClampNeg) ∧ (¬ (0 ≤ ar2.toInt ∧ 0 ≤ ar4.toInt ∧ 0 ≤ ar5.toInt ∧ (gi A 2).toInt ≠ -1 ∧ (gi B 2).toInt ≠ -1 ∧ (gi A 1).toInt = (gi B 1).toInt ∧ ar2.toInt + ar5.toInt ≤ (gi A 2).toInt ∧ ar4.toInt + ar5.toInt ≤ (gi B 2).toInt) → gl S = gl S)) from (by refine ⟨⟨by omega, by omega⟩, fun A B R S hA hB hR hS hi1 hi3 => ?_⟩; rw [e29] at hA; cases hA; have hh := e9.symm.trans e29; cases hh; rw [e30] at hB; cases hB; have hh := e18.symm.trans e30; cases hh; exact ⟨by omega, fun _ _ _ => rfl, fun h => absurd h (by omega), fun _ => rfl⟩))⟩⟩
              · have u77 : ar5.toInt ≤ (-1) := t_ltu (t_nle h27) (by decide : (0:Int32).toInt ≤ (0:Int)) rfl
                refine ev_loc f_X11_pour (nx := 31) rfl rfl rfl rfl ?_
                refine ev_ic f_X11_pour (nx := 32) (v := 1) rfl (by decide) rfl ?_
                refine ev_inV2 f_X11_pour (nx := 35) (lo2 := [(0, .ref 0), (1, .int 1)]) rfl rfl rfl rfl f_X11_deny (hI.wf.s rfl) rfl rfl rfl rfl rfl ?_
                refine ev_loc f_X11_deny (nx := 1) rfl rfl rfl rfl ?_
                refine ev_loc f_X11_deny (nx := 2) rfl rfl rfl rfl ?_
                refine ev_putIT f_X11_deny (nx := 5) rfl (hI.wf.s rfl) rfl rfl rfl (hI.put0 (hI.wf.s rfl) rfl rfl) (hX.upI rfl) (fun g78 e78 hI hX => ?_)
                refine ev_ic f_X11_deny (nx := 6) (v := 0) rfl (by decide) rfl ?_
                refine ev_retK1 f_X11_deny rfl rfl rfl ?_
                exact ev_ret f_X11_pour rfl rfl rfl ⟨_, _, _, rfl, hI, hX, ⟨_, rfl, (by decide : (0:Int) ≤ (0:Int32).toInt), (Int.le_trans (by decide : (0:Int32).toInt ≤ (0:Int)) (by decide : (0:Int) ≤ 1)), (show (0 ≤ (0 : Int) ∧ (0 : Int) ≤ 1) ∧ (∀ A B R S : Nat, gr 1 ar1.toNatClampNeg = .ref A → gr 1 ar3.toNatClampNeg = .ref B → gr A 0 = .ref R → gr B 0 = .ref S → (0 ≤ ar1.toInt ∧ ar1.toInt ≤ 3) → (0 ≤ ar3.toInt ∧ ar3.toInt ≤ 3) → ((0 : Int) = 1 ↔ (0 ≤ ar2.toInt ∧ 0 ≤ ar4.toInt ∧ 0 ≤ ar5.toInt ∧ (gi A 2).toInt ≠ -1 ∧ (gi B 2).toInt ≠ -1 ∧ (gi A 1).toInt = (gi B 1).toInt ∧ ar2.toInt + ar5.toInt ≤ (gi A 2).toInt ∧ ar4.toInt + ar5.toInt ≤ (gi B 2).toInt)) ∧ (∀ K j : Nat, K ≠ S → gl K j = gl K j) ∧ ((0 ≤ ar2.toInt ∧ 0 ≤ ar4.toInt ∧ 0 ≤ ar5.toInt ∧ (gi A 2).toInt ≠ -1 ∧ (gi B 2).toInt ≠ -1 ∧ (gi A 1).toInt = (gi B 1).toInt ∧ ar2.toInt + ar5.toInt ≤ (gi A 2).toInt ∧ ar4.toInt + ar5.toInt ≤ (gi B 2).toInt) → gl S = va_cpy (gl R) (gl S) ar2.toNatClampNeg ar4.toNatClampNeg ar5.toNatClampNeg) ∧ (¬ (0 ≤ ar2.toInt ∧ 0 ≤ ar4.toInt ∧ 0 ≤ ar5.toInt ∧ (gi A 2).toInt ≠ -1 ∧ (gi B 2).toInt ≠ -1 ∧ (gi A 1).toInt = (gi B 1).toInt ∧ ar2.toInt + ar5.toInt ≤ (gi A 2).toInt ∧ ar4.toInt + ar5.toInt ≤ (gi B 2).toInt) → gl S = gl S)) from (by refine ⟨⟨by omega, by omega⟩, fun A B R S hA hB hR hS hi1 hi3 => ?_⟩; rw [e9] at hA; cases hA; rw [e18] at hB; cases hB; exact ⟨by omega, fun _ _ _ => rfl, fun h => absurd h (by omega), fun _ => rfl⟩))⟩⟩
noncomputable def wl_m_pour2 : List (Nat × Nat) := [(69, 2), (74, 9999)]
noncomputable def Q_m_pour2 (gi : Nat → Nat → Int32) (gl : Nat → Nat → Int64) (gr : Nat → Nat → Value) (ar1 : Int32) (ar2 : Int32) (ar3 : Int32) (ar4 : Int32) (ar5 : Int32) : Int32 → (Nat → Nat → Int32) → (Nat → Nat → Int64) → (Nat → Nat → Value) → Prop := fun (v : Int32) (gi2 : Nat → Nat → Int32) (gl2 : Nat → Nat → Int64) (gr2 : Nat → Nat → Value) => (0 ≤ v.toInt ∧ v.toInt ≤ 1) ∧ ((0 ≤ ar1.toInt ∧ ar1.toInt ≤ 3) → (0 ≤ ar3.toInt ∧ ar3.toInt ≤ 3) → (v.toInt = 1 ↔ (0 ≤ ar2.toInt ∧ 0 ≤ ar4.toInt ∧ 0 ≤ ar5.toInt ∧ (gi 73 ar1.toNatClampNeg).toInt ≠ -1 ∧ (gi 73 ar3.toNatClampNeg).toInt ≠ -1 ∧ (gi 72 ar1.toNatClampNeg).toInt = (gi 72 ar3.toNatClampNeg).toInt ∧ ar2.toInt + ar5.toInt ≤ (gi 73 ar1.toNatClampNeg).toInt ∧ ar4.toInt + ar5.toInt ≤ (gi 73 ar3.toNatClampNeg).toInt)) ∧ ((0 ≤ ar2.toInt ∧ 0 ≤ ar4.toInt ∧ 0 ≤ ar5.toInt ∧ (gi 73 ar1.toNatClampNeg).toInt ≠ -1 ∧ (gi 73 ar3.toNatClampNeg).toInt ≠ -1 ∧ (gi 72 ar1.toNatClampNeg).toInt = (gi 72 ar3.toNatClampNeg).toInt ∧ ar2.toInt + ar5.toInt ≤ (gi 73 ar1.toNatClampNeg).toInt ∧ ar4.toInt + ar5.toInt ≤ (gi 73 ar3.toNatClampNeg).toInt) → ∀ j : Nat, gl2 74 j = t_pcp (gl 74) (60 * ar1.toInt + ar2.toInt) (60 * ar3.toInt + ar4.toInt) ar5.toInt (ar2.toInt < ar4.toInt) ar5.toInt j) ∧ (¬ (0 ≤ ar2.toInt ∧ 0 ≤ ar4.toInt ∧ 0 ≤ ar5.toInt ∧ (gi 73 ar1.toNatClampNeg).toInt ≠ -1 ∧ (gi 73 ar3.toNatClampNeg).toInt ≠ -1 ∧ (gi 72 ar1.toNatClampNeg).toInt = (gi 72 ar3.toNatClampNeg).toInt ∧ ar2.toInt + ar5.toInt ≤ (gi 73 ar1.toNatClampNeg).toInt ∧ ar4.toInt + ar5.toInt ≤ (gi 73 ar3.toNatClampNeg).toInt) → ∀ j : Nat, gl2 74 j = gl 74 j))
theorem c_m_pour2 {X : x_Ext} {d : Nat} {sh : List (Nat ⊕ (Nat × Nat))} {gi : Nat → Nat → Int32} {gl : Nat → Nat → Int64} {gr : Nat → Nat → Value} (hI : t_I sh gi gr) (ar1 : Int32) (ar2 : Int32) (ar3 : Int32) (ar4 : Int32) (ar5 : Int32) : x_Me X (d + 2) n_X12_pour [.ref 69, .int ar1, .int ar2, .int ar3, .int ar4, .int ar5] (sh, gi, gl, gr) (t_PI wl_m_pour2 sh gi gl gr 0 1 (Q_m_pour2 gi gl gr ar1 ar2 ar3 ar4 ar5)) := by
  have hX : t_X wl_m_pour2 sh gi gl gr gi gl gr := t_X.rf
  refine me_i f_X12_pour (hI.wf.s rfl) rfl rfl rfl ?_
  refine ev_loc f_X12_pour (nx := 1) rfl rfl rfl rfl ?_
  refine ev_inS1 f_X12_pour (nx := 4) (lo2 := [(0, .int ar1)]) rfl rfl rfl rfl f_X12_isTray rfl rfl rfl rfl ?_
  refine ev_loc f_X12_isTray (nx := 1) rfl rfl rfl rfl ?_
  refine ev_if f_X12_isTray (t1 := 13) (t2 := 4) rfl rfl rfl (fun h1 => ?_) (fun h1 => ?_)
  · have u2 : ar1.toInt ≤ (-1) := t_ltu h1 (by decide : (0:Int32).toInt ≤ (0:Int)) rfl
    refine ev_ic f_X12_isTray (nx := 14) (v := 0) rfl (by decide) rfl ?_
    refine ev_retK1 f_X12_isTray rfl rfl rfl ?_
    refine ev_t f_X12_pour (t1 := 28) (t2 := 7) rfl rfl rfl (by decide) ?_
    refine ev_loc f_X12_pour (nx := 29) rfl rfl rfl rfl ?_
    refine ev_ic f_X12_pour (nx := 30) (v := 1) rfl (by decide) rfl ?_
    refine ev_inV2 f_X12_pour (nx := 33) (lo2 := [(0, .ref 69), (1, .int 1)]) rfl rfl rfl rfl f_X12_is (hI.wf.s rfl) rfl rfl rfl rfl rfl ?_
    refine ev_loc f_X12_is (nx := 1) rfl rfl rfl rfl ?_
    refine ev_loc f_X12_is (nx := 2) rfl rfl rfl rfl ?_
    refine ev_putIT f_X12_is (nx := 5) rfl (hI.wf.s rfl) rfl rfl rfl (hI.put0 (hI.wf.s rfl) rfl rfl) (hX.upI rfl) (fun g3 e3 hI hX => ?_)
    refine ev_loc f_X12_is (nx := 6) rfl rfl rfl rfl ?_
    refine ev_f f_X12_is (t1 := 9) (t2 := 13) rfl rfl rfl (by decide) ?_
    refine ev_ic f_X12_is (nx := 14) (v := 0) rfl (by decide) rfl ?_
    refine ev_retK1 f_X12_is rfl rfl rfl ?_
    exact ev_ret f_X12_pour rfl rfl rfl ⟨_, _, _, rfl, hI, hX, ⟨_, rfl, (by decide : (0:Int) ≤ (0:Int32).toInt), (Int.le_trans (by decide : (0:Int32).toInt ≤ (0:Int)) (by decide : (0:Int) ≤ 1)), (show (0 ≤ (0 : Int) ∧ (0 : Int) ≤ 1) ∧ ((0 ≤ ar1.toInt ∧ ar1.toInt ≤ 3) → (0 ≤ ar3.toInt ∧ ar3.toInt ≤ 3) → ((0 : Int) = 1 ↔ (0 ≤ ar2.toInt ∧ 0 ≤ ar4.toInt ∧ 0 ≤ ar5.toInt ∧ (gi 73 ar1.toNatClampNeg).toInt ≠ -1 ∧ (gi 73 ar3.toNatClampNeg).toInt ≠ -1 ∧ (gi 72 ar1.toNatClampNeg).toInt = (gi 72 ar3.toNatClampNeg).toInt ∧ ar2.toInt + ar5.toInt ≤ (gi 73 ar1.toNatClampNeg).toInt ∧ ar4.toInt + ar5.toInt ≤ (gi 73 ar3.toNatClampNeg).toInt)) ∧ ((0 ≤ ar2.toInt ∧ 0 ≤ ar4.toInt ∧ 0 ≤ ar5.toInt ∧ (gi 73 ar1.toNatClampNeg).toInt ≠ -1 ∧ (gi 73 ar3.toNatClampNeg).toInt ≠ -1 ∧ (gi 72 ar1.toNatClampNeg).toInt = (gi 72 ar3.toNatClampNeg).toInt ∧ ar2.toInt + ar5.toInt ≤ (gi 73 ar1.toNatClampNeg).toInt ∧ ar4.toInt + ar5.toInt ≤ (gi 73 ar3.toNatClampNeg).toInt) → ∀ j : Nat, gl 74 j = t_pcp (gl 74) (60 * ar1.toInt + ar2.toInt) (60 * ar3.toInt + ar4.toInt) ar5.toInt (ar2.toInt < ar4.toInt) ar5.toInt j) ∧ (¬ (0 ≤ ar2.toInt ∧ 0 ≤ ar4.toInt ∧ 0 ≤ ar5.toInt ∧ (gi 73 ar1.toNatClampNeg).toInt ≠ -1 ∧ (gi 73 ar3.toNatClampNeg).toInt ≠ -1 ∧ (gi 72 ar1.toNatClampNeg).toInt = (gi 72 ar3.toNatClampNeg).toInt ∧ ar2.toInt + ar5.toInt ≤ (gi 73 ar1.toNatClampNeg).toInt ∧ ar4.toInt + ar5.toInt ≤ (gi 73 ar3.toNatClampNeg).toInt) → ∀ j : Nat, gl 74 j = gl 74 j)) from (by refine ⟨⟨by omega, by omega⟩, fun hi1 hi3 => ?_⟩; exact ⟨by omega, fun h => absurd h (by omega), fun _ _ => rfl⟩))⟩⟩
  · have l4 : 0 ≤ ar1.toInt := t_lel (t_nlt h1) (by decide : (0:Int) ≤ (0:Int32).toInt)
    refine ev_loc f_X12_isTray (nx := 5) rfl rfl rfl rfl ?_
    refine ev_ic f_X12_isTray (nx := 6) (v := 4) rfl (by decide) rfl ?_
    refine ev_if f_X12_isTray (t1 := 13) (t2 := 9) rfl rfl rfl (fun h5 => ?_) (fun h5 => ?_)
    · have l6 : 4 ≤ ar1.toInt := t_lel h5 (by decide : (4:Int) ≤ (4:Int32).toInt)
      refine ev_ic f_X12_isTray (nx := 14) (v := 0) rfl (by decide) rfl ?_
      refine ev_retK1 f_X12_isTray rfl rfl rfl ?_
      refine ev_t f_X12_pour (t1 := 28) (t2 := 7) rfl rfl rfl (by decide) ?_
      refine ev_loc f_X12_pour (nx := 29) rfl rfl rfl rfl ?_
      refine ev_ic f_X12_pour (nx := 30) (v := 1) rfl (by decide) rfl ?_
      refine ev_inV2 f_X12_pour (nx := 33) (lo2 := [(0, .ref 69), (1, .int 1)]) rfl rfl rfl rfl f_X12_is (hI.wf.s rfl) rfl rfl rfl rfl rfl ?_
      refine ev_loc f_X12_is (nx := 1) rfl rfl rfl rfl ?_
      refine ev_loc f_X12_is (nx := 2) rfl rfl rfl rfl ?_
      refine ev_putIT f_X12_is (nx := 5) rfl (hI.wf.s rfl) rfl rfl rfl (hI.put0 (hI.wf.s rfl) rfl rfl) (hX.upI rfl) (fun g7 e7 hI hX => ?_)
      refine ev_loc f_X12_is (nx := 6) rfl rfl rfl rfl ?_
      refine ev_f f_X12_is (t1 := 9) (t2 := 13) rfl rfl rfl (by decide) ?_
      refine ev_ic f_X12_is (nx := 14) (v := 0) rfl (by decide) rfl ?_
      refine ev_retK1 f_X12_is rfl rfl rfl ?_
      exact ev_ret f_X12_pour rfl rfl rfl ⟨_, _, _, rfl, hI, hX, ⟨_, rfl, (by decide : (0:Int) ≤ (0:Int32).toInt), (Int.le_trans (by decide : (0:Int32).toInt ≤ (0:Int)) (by decide : (0:Int) ≤ 1)), (show (0 ≤ (0 : Int) ∧ (0 : Int) ≤ 1) ∧ ((0 ≤ ar1.toInt ∧ ar1.toInt ≤ 3) → (0 ≤ ar3.toInt ∧ ar3.toInt ≤ 3) → ((0 : Int) = 1 ↔ (0 ≤ ar2.toInt ∧ 0 ≤ ar4.toInt ∧ 0 ≤ ar5.toInt ∧ (gi 73 ar1.toNatClampNeg).toInt ≠ -1 ∧ (gi 73 ar3.toNatClampNeg).toInt ≠ -1 ∧ (gi 72 ar1.toNatClampNeg).toInt = (gi 72 ar3.toNatClampNeg).toInt ∧ ar2.toInt + ar5.toInt ≤ (gi 73 ar1.toNatClampNeg).toInt ∧ ar4.toInt + ar5.toInt ≤ (gi 73 ar3.toNatClampNeg).toInt)) ∧ ((0 ≤ ar2.toInt ∧ 0 ≤ ar4.toInt ∧ 0 ≤ ar5.toInt ∧ (gi 73 ar1.toNatClampNeg).toInt ≠ -1 ∧ (gi 73 ar3.toNatClampNeg).toInt ≠ -1 ∧ (gi 72 ar1.toNatClampNeg).toInt = (gi 72 ar3.toNatClampNeg).toInt ∧ ar2.toInt + ar5.toInt ≤ (gi 73 ar1.toNatClampNeg).toInt ∧ ar4.toInt + ar5.toInt ≤ (gi 73 ar3.toNatClampNeg).toInt) → ∀ j : Nat, gl 74 j = t_pcp (gl 74) (60 * ar1.toInt + ar2.toInt) (60 * ar3.toInt + ar4.toInt) ar5.toInt (ar2.toInt < ar4.toInt) ar5.toInt j) ∧ (¬ (0 ≤ ar2.toInt ∧ 0 ≤ ar4.toInt ∧ 0 ≤ ar5.toInt ∧ (gi 73 ar1.toNatClampNeg).toInt ≠ -1 ∧ (gi 73 ar3.toNatClampNeg).toInt ≠ -1 ∧ (gi 72 ar1.toNatClampNeg).toInt = (gi 72 ar3.toNatClampNeg).toInt ∧ ar2.toInt + ar5.toInt ≤ (gi 73 ar1.toNatClampNeg).toInt ∧ ar4.toInt + ar5.toInt ≤ (gi 73 ar3.toNatClampNeg).toInt) → ∀ j : Nat, gl 74 j = gl 74 j)) from (by refine ⟨⟨by omega, by omega⟩, fun hi1 hi3 => ?_⟩; exact ⟨by omega, fun h => absurd h (by omega), fun _ _ => rfl⟩))⟩⟩
    · have u8 : ar1.toInt ≤ 3 := t_ltu (t_nle h5) (by decide : (4:Int32).toInt ≤ (4:Int)) rfl
      refine ev_ic f_X12_isTray (nx := 10) (v := 1) rfl (by decide) rfl ?_
      refine ev_jmp f_X12_isTray (nx := 14) rfl rfl rfl ?_
      refine ev_retK1 f_X12_isTray rfl rfl rfl ?_
      refine ev_f f_X12_pour (t1 := 28) (t2 := 7) rfl rfl rfl (by decide) ?_
      refine ev_loc f_X12_pour (nx := 8) rfl rfl rfl rfl ?_
      refine ev_inS1 f_X12_pour (nx := 11) (lo2 := [(0, .int ar3)]) rfl rfl rfl rfl f_X12_isTray rfl rfl rfl rfl ?_
      refine ev_loc f_X12_isTray (nx := 1) rfl rfl rfl rfl ?_
      refine ev_if f_X12_isTray (t1 := 13) (t2 := 4) rfl rfl rfl (fun h9 => ?_) (fun h9 => ?_)
      · have u10 : ar3.toInt ≤ (-1) := t_ltu h9 (by decide : (0:Int32).toInt ≤ (0:Int)) rfl
        refine ev_ic f_X12_isTray (nx := 14) (v := 0) rfl (by decide) rfl ?_
        refine ev_retK1 f_X12_isTray rfl rfl rfl ?_
        refine ev_t f_X12_pour (t1 := 28) (t2 := 14) rfl rfl rfl (by decide) ?_
        refine ev_loc f_X12_pour (nx := 29) rfl rfl rfl rfl ?_
        refine ev_ic f_X12_pour (nx := 30) (v := 1) rfl (by decide) rfl ?_
        refine ev_inV2 f_X12_pour (nx := 33) (lo2 := [(0, .ref 69), (1, .int 1)]) rfl rfl rfl rfl f_X12_is (hI.wf.s rfl) rfl rfl rfl rfl rfl ?_
        refine ev_loc f_X12_is (nx := 1) rfl rfl rfl rfl ?_
        refine ev_loc f_X12_is (nx := 2) rfl rfl rfl rfl ?_
        refine ev_putIT f_X12_is (nx := 5) rfl (hI.wf.s rfl) rfl rfl rfl (hI.put0 (hI.wf.s rfl) rfl rfl) (hX.upI rfl) (fun g11 e11 hI hX => ?_)
        refine ev_loc f_X12_is (nx := 6) rfl rfl rfl rfl ?_
        refine ev_f f_X12_is (t1 := 9) (t2 := 13) rfl rfl rfl (by decide) ?_
        refine ev_ic f_X12_is (nx := 14) (v := 0) rfl (by decide) rfl ?_
        refine ev_retK1 f_X12_is rfl rfl rfl ?_
        exact ev_ret f_X12_pour rfl rfl rfl ⟨_, _, _, rfl, hI, hX, ⟨_, rfl, (by decide : (0:Int) ≤ (0:Int32).toInt), (Int.le_trans (by decide : (0:Int32).toInt ≤ (0:Int)) (by decide : (0:Int) ≤ 1)), (show (0 ≤ (0 : Int) ∧ (0 : Int) ≤ 1) ∧ ((0 ≤ ar1.toInt ∧ ar1.toInt ≤ 3) → (0 ≤ ar3.toInt ∧ ar3.toInt ≤ 3) → ((0 : Int) = 1 ↔ (0 ≤ ar2.toInt ∧ 0 ≤ ar4.toInt ∧ 0 ≤ ar5.toInt ∧ (gi 73 ar1.toNatClampNeg).toInt ≠ -1 ∧ (gi 73 ar3.toNatClampNeg).toInt ≠ -1 ∧ (gi 72 ar1.toNatClampNeg).toInt = (gi 72 ar3.toNatClampNeg).toInt ∧ ar2.toInt + ar5.toInt ≤ (gi 73 ar1.toNatClampNeg).toInt ∧ ar4.toInt + ar5.toInt ≤ (gi 73 ar3.toNatClampNeg).toInt)) ∧ ((0 ≤ ar2.toInt ∧ 0 ≤ ar4.toInt ∧ 0 ≤ ar5.toInt ∧ (gi 73 ar1.toNatClampNeg).toInt ≠ -1 ∧ (gi 73 ar3.toNatClampNeg).toInt ≠ -1 ∧ (gi 72 ar1.toNatClampNeg).toInt = (gi 72 ar3.toNatClampNeg).toInt ∧ ar2.toInt + ar5.toInt ≤ (gi 73 ar1.toNatClampNeg).toInt ∧ ar4.toInt + ar5.toInt ≤ (gi 73 ar3.toNatClampNeg).toInt) → ∀ j : Nat, gl 74 j = t_pcp (gl 74) (60 * ar1.toInt + ar2.toInt) (60 * ar3.toInt + ar4.toInt) ar5.toInt (ar2.toInt < ar4.toInt) ar5.toInt j) ∧ (¬ (0 ≤ ar2.toInt ∧ 0 ≤ ar4.toInt ∧ 0 ≤ ar5.toInt ∧ (gi 73 ar1.toNatClampNeg).toInt ≠ -1 ∧ (gi 73 ar3.toNatClampNeg).toInt ≠ -1 ∧ (gi 72 ar1.toNatClampNeg).toInt = (gi 72 ar3.toNatClampNeg).toInt ∧ ar2.toInt + ar5.toInt ≤ (gi 73 ar1.toNatClampNeg).toInt ∧ ar4.toInt + ar5.toInt ≤ (gi 73 ar3.toNatClampNeg).toInt) → ∀ j : Nat, gl 74 j = gl 74 j)) from (by refine ⟨⟨by omega, by omega⟩, fun hi1 hi3 => ?_⟩; exact ⟨by omega, fun h => absurd h (by omega), fun _ _ => rfl⟩))⟩⟩
      · have l12 : 0 ≤ ar3.toInt := t_lel (t_nlt h9) (by decide : (0:Int) ≤ (0:Int32).toInt)
        refine ev_loc f_X12_isTray (nx := 5) rfl rfl rfl rfl ?_
        refine ev_ic f_X12_isTray (nx := 6) (v := 4) rfl (by decide) rfl ?_
        refine ev_if f_X12_isTray (t1 := 13) (t2 := 9) rfl rfl rfl (fun h13 => ?_) (fun h13 => ?_)
        · have l14 : 4 ≤ ar3.toInt := t_lel h13 (by decide : (4:Int) ≤ (4:Int32).toInt)
          refine ev_ic f_X12_isTray (nx := 14) (v := 0) rfl (by decide) rfl ?_
          refine ev_retK1 f_X12_isTray rfl rfl rfl ?_
          refine ev_t f_X12_pour (t1 := 28) (t2 := 14) rfl rfl rfl (by decide) ?_
          refine ev_loc f_X12_pour (nx := 29) rfl rfl rfl rfl ?_
          refine ev_ic f_X12_pour (nx := 30) (v := 1) rfl (by decide) rfl ?_
          refine ev_inV2 f_X12_pour (nx := 33) (lo2 := [(0, .ref 69), (1, .int 1)]) rfl rfl rfl rfl f_X12_is (hI.wf.s rfl) rfl rfl rfl rfl rfl ?_
          refine ev_loc f_X12_is (nx := 1) rfl rfl rfl rfl ?_
          refine ev_loc f_X12_is (nx := 2) rfl rfl rfl rfl ?_
          refine ev_putIT f_X12_is (nx := 5) rfl (hI.wf.s rfl) rfl rfl rfl (hI.put0 (hI.wf.s rfl) rfl rfl) (hX.upI rfl) (fun g15 e15 hI hX => ?_)
          refine ev_loc f_X12_is (nx := 6) rfl rfl rfl rfl ?_
          refine ev_f f_X12_is (t1 := 9) (t2 := 13) rfl rfl rfl (by decide) ?_
          refine ev_ic f_X12_is (nx := 14) (v := 0) rfl (by decide) rfl ?_
          refine ev_retK1 f_X12_is rfl rfl rfl ?_
          exact ev_ret f_X12_pour rfl rfl rfl ⟨_, _, _, rfl, hI, hX, ⟨_, rfl, (by decide : (0:Int) ≤ (0:Int32).toInt), (Int.le_trans (by decide : (0:Int32).toInt ≤ (0:Int)) (by decide : (0:Int) ≤ 1)), (show (0 ≤ (0 : Int) ∧ (0 : Int) ≤ 1) ∧ ((0 ≤ ar1.toInt ∧ ar1.toInt ≤ 3) → (0 ≤ ar3.toInt ∧ ar3.toInt ≤ 3) → ((0 : Int) = 1 ↔ (0 ≤ ar2.toInt ∧ 0 ≤ ar4.toInt ∧ 0 ≤ ar5.toInt ∧ (gi 73 ar1.toNatClampNeg).toInt ≠ -1 ∧ (gi 73 ar3.toNatClampNeg).toInt ≠ -1 ∧ (gi 72 ar1.toNatClampNeg).toInt = (gi 72 ar3.toNatClampNeg).toInt ∧ ar2.toInt + ar5.toInt ≤ (gi 73 ar1.toNatClampNeg).toInt ∧ ar4.toInt + ar5.toInt ≤ (gi 73 ar3.toNatClampNeg).toInt)) ∧ ((0 ≤ ar2.toInt ∧ 0 ≤ ar4.toInt ∧ 0 ≤ ar5.toInt ∧ (gi 73 ar1.toNatClampNeg).toInt ≠ -1 ∧ (gi 73 ar3.toNatClampNeg).toInt ≠ -1 ∧ (gi 72 ar1.toNatClampNeg).toInt = (gi 72 ar3.toNatClampNeg).toInt ∧ ar2.toInt + ar5.toInt ≤ (gi 73 ar1.toNatClampNeg).toInt ∧ ar4.toInt + ar5.toInt ≤ (gi 73 ar3.toNatClampNeg).toInt) → ∀ j : Nat, gl 74 j = t_pcp (gl 74) (60 * ar1.toInt + ar2.toInt) (60 * ar3.toInt + ar4.toInt) ar5.toInt (ar2.toInt < ar4.toInt) ar5.toInt j) ∧ (¬ (0 ≤ ar2.toInt ∧ 0 ≤ ar4.toInt ∧ 0 ≤ ar5.toInt ∧ (gi 73 ar1.toNatClampNeg).toInt ≠ -1 ∧ (gi 73 ar3.toNatClampNeg).toInt ≠ -1 ∧ (gi 72 ar1.toNatClampNeg).toInt = (gi 72 ar3.toNatClampNeg).toInt ∧ ar2.toInt + ar5.toInt ≤ (gi 73 ar1.toNatClampNeg).toInt ∧ ar4.toInt + ar5.toInt ≤ (gi 73 ar3.toNatClampNeg).toInt) → ∀ j : Nat, gl 74 j = gl 74 j)) from (by refine ⟨⟨by omega, by omega⟩, fun hi1 hi3 => ?_⟩; exact ⟨by omega, fun h => absurd h (by omega), fun _ _ => rfl⟩))⟩⟩
        · have u16 : ar3.toInt ≤ 3 := t_ltu (t_nle h13) (by decide : (4:Int32).toInt ≤ (4:Int)) rfl
          refine ev_ic f_X12_isTray (nx := 10) (v := 1) rfl (by decide) rfl ?_
          refine ev_jmp f_X12_isTray (nx := 14) rfl rfl rfl ?_
          refine ev_retK1 f_X12_isTray rfl rfl rfl ?_
          refine ev_f f_X12_pour (t1 := 28) (t2 := 14) rfl rfl rfl (by decide) ?_
          refine ev_loc f_X12_pour (nx := 15) rfl rfl rfl rfl ?_
          refine ev_if f_X12_pour (t1 := 28) (t2 := 18) rfl rfl rfl (fun h17 => ?_) (fun h17 => ?_)
          · have u18 : ar2.toInt ≤ (-1) := t_ltu h17 (by decide : (0:Int32).toInt ≤ (0:Int)) rfl
            refine ev_loc f_X12_pour (nx := 29) rfl rfl rfl rfl ?_
            refine ev_ic f_X12_pour (nx := 30) (v := 1) rfl (by decide) rfl ?_
            refine ev_inV2 f_X12_pour (nx := 33) (lo2 := [(0, .ref 69), (1, .int 1)]) rfl rfl rfl rfl f_X12_is (hI.wf.s rfl) rfl rfl rfl rfl rfl ?_
            refine ev_loc f_X12_is (nx := 1) rfl rfl rfl rfl ?_
            refine ev_loc f_X12_is (nx := 2) rfl rfl rfl rfl ?_
            refine ev_putIT f_X12_is (nx := 5) rfl (hI.wf.s rfl) rfl rfl rfl (hI.put0 (hI.wf.s rfl) rfl rfl) (hX.upI rfl) (fun g19 e19 hI hX => ?_)
            refine ev_loc f_X12_is (nx := 6) rfl rfl rfl rfl ?_
            refine ev_f f_X12_is (t1 := 9) (t2 := 13) rfl rfl rfl (by decide) ?_
            refine ev_ic f_X12_is (nx := 14) (v := 0) rfl (by decide) rfl ?_
            refine ev_retK1 f_X12_is rfl rfl rfl ?_
            exact ev_ret f_X12_pour rfl rfl rfl ⟨_, _, _, rfl, hI, hX, ⟨_, rfl, (by decide : (0:Int) ≤ (0:Int32).toInt), (Int.le_trans (by decide : (0:Int32).toInt ≤ (0:Int)) (by decide : (0:Int) ≤ 1)), (show (0 ≤ (0 : Int) ∧ (0 : Int) ≤ 1) ∧ ((0 ≤ ar1.toInt ∧ ar1.toInt ≤ 3) → (0 ≤ ar3.toInt ∧ ar3.toInt ≤ 3) → ((0 : Int) = 1 ↔ (0 ≤ ar2.toInt ∧ 0 ≤ ar4.toInt ∧ 0 ≤ ar5.toInt ∧ (gi 73 ar1.toNatClampNeg).toInt ≠ -1 ∧ (gi 73 ar3.toNatClampNeg).toInt ≠ -1 ∧ (gi 72 ar1.toNatClampNeg).toInt = (gi 72 ar3.toNatClampNeg).toInt ∧ ar2.toInt + ar5.toInt ≤ (gi 73 ar1.toNatClampNeg).toInt ∧ ar4.toInt + ar5.toInt ≤ (gi 73 ar3.toNatClampNeg).toInt)) ∧ ((0 ≤ ar2.toInt ∧ 0 ≤ ar4.toInt ∧ 0 ≤ ar5.toInt ∧ (gi 73 ar1.toNatClampNeg).toInt ≠ -1 ∧ (gi 73 ar3.toNatClampNeg).toInt ≠ -1 ∧ (gi 72 ar1.toNatClampNeg).toInt = (gi 72 ar3.toNatClampNeg).toInt ∧ ar2.toInt + ar5.toInt ≤ (gi 73 ar1.toNatClampNeg).toInt ∧ ar4.toInt + ar5.toInt ≤ (gi 73 ar3.toNatClampNeg).toInt) → ∀ j : Nat, gl 74 j = t_pcp (gl 74) (60 * ar1.toInt + ar2.toInt) (60 * ar3.toInt + ar4.toInt) ar5.toInt (ar2.toInt < ar4.toInt) ar5.toInt j) ∧ (¬ (0 ≤ ar2.toInt ∧ 0 ≤ ar4.toInt ∧ 0 ≤ ar5.toInt ∧ (gi 73 ar1.toNatClampNeg).toInt ≠ -1 ∧ (gi 73 ar3.toNatClampNeg).toInt ≠ -1 ∧ (gi 72 ar1.toNatClampNeg).toInt = (gi 72 ar3.toNatClampNeg).toInt ∧ ar2.toInt + ar5.toInt ≤ (gi 73 ar1.toNatClampNeg).toInt ∧ ar4.toInt + ar5.toInt ≤ (gi 73 ar3.toNatClampNeg).toInt) → ∀ j : Nat, gl 74 j = gl 74 j)) from (by refine ⟨⟨by omega, by omega⟩, fun hi1 hi3 => ?_⟩; exact ⟨by omega, fun h => absurd h (by omega), fun _ _ => rfl⟩))⟩⟩
          · have l20 : 0 ≤ ar2.toInt := t_lel (t_nlt h17) (by decide : (0:Int) ≤ (0:Int32).toInt)
            refine ev_loc f_X12_pour (nx := 20) rfl rfl rfl rfl ?_
            refine ev_if f_X12_pour (t1 := 28) (t2 := 23) rfl rfl rfl (fun h21 => ?_) (fun h21 => ?_)
            · have u22 : ar4.toInt ≤ (-1) := t_ltu h21 (by decide : (0:Int32).toInt ≤ (0:Int)) rfl
              refine ev_loc f_X12_pour (nx := 29) rfl rfl rfl rfl ?_
              refine ev_ic f_X12_pour (nx := 30) (v := 1) rfl (by decide) rfl ?_
              refine ev_inV2 f_X12_pour (nx := 33) (lo2 := [(0, .ref 69), (1, .int 1)]) rfl rfl rfl rfl f_X12_is (hI.wf.s rfl) rfl rfl rfl rfl rfl ?_
              refine ev_loc f_X12_is (nx := 1) rfl rfl rfl rfl ?_
              refine ev_loc f_X12_is (nx := 2) rfl rfl rfl rfl ?_
              refine ev_putIT f_X12_is (nx := 5) rfl (hI.wf.s rfl) rfl rfl rfl (hI.put0 (hI.wf.s rfl) rfl rfl) (hX.upI rfl) (fun g23 e23 hI hX => ?_)
              refine ev_loc f_X12_is (nx := 6) rfl rfl rfl rfl ?_
              refine ev_f f_X12_is (t1 := 9) (t2 := 13) rfl rfl rfl (by decide) ?_
              refine ev_ic f_X12_is (nx := 14) (v := 0) rfl (by decide) rfl ?_
              refine ev_retK1 f_X12_is rfl rfl rfl ?_
              exact ev_ret f_X12_pour rfl rfl rfl ⟨_, _, _, rfl, hI, hX, ⟨_, rfl, (by decide : (0:Int) ≤ (0:Int32).toInt), (Int.le_trans (by decide : (0:Int32).toInt ≤ (0:Int)) (by decide : (0:Int) ≤ 1)), (show (0 ≤ (0 : Int) ∧ (0 : Int) ≤ 1) ∧ ((0 ≤ ar1.toInt ∧ ar1.toInt ≤ 3) → (0 ≤ ar3.toInt ∧ ar3.toInt ≤ 3) → ((0 : Int) = 1 ↔ (0 ≤ ar2.toInt ∧ 0 ≤ ar4.toInt ∧ 0 ≤ ar5.toInt ∧ (gi 73 ar1.toNatClampNeg).toInt ≠ -1 ∧ (gi 73 ar3.toNatClampNeg).toInt ≠ -1 ∧ (gi 72 ar1.toNatClampNeg).toInt = (gi 72 ar3.toNatClampNeg).toInt ∧ ar2.toInt + ar5.toInt ≤ (gi 73 ar1.toNatClampNeg).toInt ∧ ar4.toInt + ar5.toInt ≤ (gi 73 ar3.toNatClampNeg).toInt)) ∧ ((0 ≤ ar2.toInt ∧ 0 ≤ ar4.toInt ∧ 0 ≤ ar5.toInt ∧ (gi 73 ar1.toNatClampNeg).toInt ≠ -1 ∧ (gi 73 ar3.toNatClampNeg).toInt ≠ -1 ∧ (gi 72 ar1.toNatClampNeg).toInt = (gi 72 ar3.toNatClampNeg).toInt ∧ ar2.toInt + ar5.toInt ≤ (gi 73 ar1.toNatClampNeg).toInt ∧ ar4.toInt + ar5.toInt ≤ (gi 73 ar3.toNatClampNeg).toInt) → ∀ j : Nat, gl 74 j = t_pcp (gl 74) (60 * ar1.toInt + ar2.toInt) (60 * ar3.toInt + ar4.toInt) ar5.toInt (ar2.toInt < ar4.toInt) ar5.toInt j) ∧ (¬ (0 ≤ ar2.toInt ∧ 0 ≤ ar4.toInt ∧ 0 ≤ ar5.toInt ∧ (gi 73 ar1.toNatClampNeg).toInt ≠ -1 ∧ (gi 73 ar3.toNatClampNeg).toInt ≠ -1 ∧ (gi 72 ar1.toNatClampNeg).toInt = (gi 72 ar3.toNatClampNeg).toInt ∧ ar2.toInt + ar5.toInt ≤ (gi 73 ar1.toNatClampNeg).toInt ∧ ar4.toInt + ar5.toInt ≤ (gi 73 ar3.toNatClampNeg).toInt) → ∀ j : Nat, gl 74 j = gl 74 j)) from (by refine ⟨⟨by omega, by omega⟩, fun hi1 hi3 => ?_⟩; exact ⟨by omega, fun h => absurd h (by omega), fun _ _ => rfl⟩))⟩⟩
            · have l24 : 0 ≤ ar4.toInt := t_lel (t_nlt h21) (by decide : (0:Int) ≤ (0:Int32).toInt)
              refine ev_loc f_X12_pour (nx := 25) rfl rfl rfl rfl ?_
              refine ev_if f_X12_pour (t1 := 34) (t2 := 28) rfl rfl rfl (fun h25 => ?_) (fun h25 => ?_)
              · have l26 : 0 ≤ ar5.toInt := t_lel h25 (by decide : (0:Int) ≤ (0:Int32).toInt)
                refine ev_loc f_X12_pour (nx := 35) rfl rfl rfl rfl ?_
                refine ev_getR f_X12_pour (nx := 38) rfl (hI.wf.s rfl) rfl rfl (hI.wf.r rfl) rfl rfl ?_
                refine ev_loc f_X12_pour (nx := 39) rfl rfl rfl rfl ?_
                refine ev_ialdT f_X12_pour (nx := 40) rfl (hI.wf.s rfl) l4 (by decide) u8 (by decide) rfl (fun w27 e27 => ?_)
                obtain ⟨l27, u27⟩ := hI.abi e27 (by decide +kernel : t_abr 73 0 3 (-1) 60 = true) l4 (by decide) u8 (by decide)
                refine ev_ic f_X12_pour (nx := 41) (v := -1) rfl (by decide) rfl ?_
                refine ev_if f_X12_pour (t1 := 54) (t2 := 44) rfl rfl rfl (fun h28 => ?_) (fun h28 => ?_)
                · have u29 : w27.toInt ≤ (-1) := t_equ h28 (by decide : ((-1):Int32).toInt ≤ ((-1):Int))
                  refine ev_loc f_X12_pour (nx := 55) rfl rfl rfl rfl ?_
                  refine ev_ic f_X12_pour (nx := 56) (v := 2) rfl (by decide) rfl ?_
                  refine ev_inV2 f_X12_pour (nx := 59) (lo2 := [(0, .ref 69), (1, .int 2)]) rfl rfl rfl rfl f_X12_is (hI.wf.s rfl) rfl rfl rfl rfl rfl ?_
                  refine ev_loc f_X12_is (nx := 1) rfl rfl rfl rfl ?_
                  refine ev_loc f_X12_is (nx := 2) rfl rfl rfl rfl ?_
                  refine ev_putIT f_X12_is (nx := 5) rfl (hI.wf.s rfl) rfl rfl rfl (hI.put0 (hI.wf.s rfl) rfl rfl) (hX.upI rfl) (fun g30 e30 hI hX => ?_)
                  refine ev_loc f_X12_is (nx := 6) rfl rfl rfl rfl ?_
                  refine ev_f f_X12_is (t1 := 9) (t2 := 13) rfl rfl rfl (by decide) ?_
                  refine ev_ic f_X12_is (nx := 14) (v := 0) rfl (by decide) rfl ?_
                  refine ev_retK1 f_X12_is rfl rfl rfl ?_
                  exact ev_ret f_X12_pour rfl rfl rfl ⟨_, _, _, rfl, hI, hX, ⟨_, rfl, (by decide : (0:Int) ≤ (0:Int32).toInt), (Int.le_trans (by decide : (0:Int32).toInt ≤ (0:Int)) (by decide : (0:Int) ≤ 1)), (show (0 ≤ (0 : Int) ∧ (0 : Int) ≤ 1) ∧ ((0 ≤ ar1.toInt ∧ ar1.toInt ≤ 3) → (0 ≤ ar3.toInt ∧ ar3.toInt ≤ 3) → ((0 : Int) = 1 ↔ (0 ≤ ar2.toInt ∧ 0 ≤ ar4.toInt ∧ 0 ≤ ar5.toInt ∧ (gi 73 ar1.toNatClampNeg).toInt ≠ -1 ∧ (gi 73 ar3.toNatClampNeg).toInt ≠ -1 ∧ (gi 72 ar1.toNatClampNeg).toInt = (gi 72 ar3.toNatClampNeg).toInt ∧ ar2.toInt + ar5.toInt ≤ (gi 73 ar1.toNatClampNeg).toInt ∧ ar4.toInt + ar5.toInt ≤ (gi 73 ar3.toNatClampNeg).toInt)) ∧ ((0 ≤ ar2.toInt ∧ 0 ≤ ar4.toInt ∧ 0 ≤ ar5.toInt ∧ (gi 73 ar1.toNatClampNeg).toInt ≠ -1 ∧ (gi 73 ar3.toNatClampNeg).toInt ≠ -1 ∧ (gi 72 ar1.toNatClampNeg).toInt = (gi 72 ar3.toNatClampNeg).toInt ∧ ar2.toInt + ar5.toInt ≤ (gi 73 ar1.toNatClampNeg).toInt ∧ ar4.toInt + ar5.toInt ≤ (gi 73 ar3.toNatClampNeg).toInt) → ∀ j : Nat, gl 74 j = t_pcp (gl 74) (60 * ar1.toInt + ar2.toInt) (60 * ar3.toInt + ar4.toInt) ar5.toInt (ar2.toInt < ar4.toInt) ar5.toInt j) ∧ (¬ (0 ≤ ar2.toInt ∧ 0 ≤ ar4.toInt ∧ 0 ≤ ar5.toInt ∧ (gi 73 ar1.toNatClampNeg).toInt ≠ -1 ∧ (gi 73 ar3.toNatClampNeg).toInt ≠ -1 ∧ (gi 72 ar1.toNatClampNeg).toInt = (gi 72 ar3.toNatClampNeg).toInt ∧ ar2.toInt + ar5.toInt ≤ (gi 73 ar1.toNatClampNeg).toInt ∧ ar4.toInt + ar5.toInt ≤ (gi 73 ar3.toNatClampNeg).toInt) → ∀ j : Nat, gl 74 j = gl 74 j)) from (by have hfw27 : (gi 73 ar1.toNatClampNeg).toInt = w27.toInt := congrArg Int32.toInt e27.symm; refine ⟨⟨by omega, by omega⟩, fun hi1 hi3 => ?_⟩; exact ⟨by omega, fun h => absurd h (by omega), fun _ _ => rfl⟩))⟩⟩
                · have r31 : w27.toInt ≠ (-1) := fun e => h28 (Int32.toInt_inj.mp (e.trans (by decide : ((-1):Int) = ((-1) : Int32).toInt)))
                  have l32 : 0 ≤ w27.toInt := t_nel h28 l27 rfl rfl
                  refine ev_loc f_X12_pour (nx := 45) rfl rfl rfl rfl ?_
                  refine ev_getR f_X12_pour (nx := 48) rfl (hI.wf.s rfl) rfl rfl (hI.wf.r rfl) rfl rfl ?_
                  refine ev_loc f_X12_pour (nx := 49) rfl rfl rfl rfl ?_
                  refine ev_ialdT f_X12_pour (nx := 50) rfl (hI.wf.s rfl) l12 (by decide) u16 (by decide) rfl (fun w33 e33 => ?_)
                  obtain ⟨l33, u33⟩ := hI.abi e33 (by decide +kernel : t_abr 73 0 3 (-1) 60 = true) l12 (by decide) u16 (by decide)
                  refine ev_ic f_X12_pour (nx := 51) (v := -1) rfl (by decide) rfl ?_
                  refine ev_if f_X12_pour (t1 := 54) (t2 := 60) rfl rfl rfl (fun h34 => ?_) (fun h34 => ?_)
                  · have u35 : w33.toInt ≤ (-1) := t_equ h34 (by decide : ((-1):Int32).toInt ≤ ((-1):Int))
                    refine ev_loc f_X12_pour (nx := 55) rfl rfl rfl rfl ?_
                    refine ev_ic f_X12_pour (nx := 56) (v := 2) rfl (by decide) rfl ?_
                    refine ev_inV2 f_X12_pour (nx := 59) (lo2 := [(0, .ref 69), (1, .int 2)]) rfl rfl rfl rfl f_X12_is (hI.wf.s rfl) rfl rfl rfl rfl rfl ?_
                    refine ev_loc f_X12_is (nx := 1) rfl rfl rfl rfl ?_
                    refine ev_loc f_X12_is (nx := 2) rfl rfl rfl rfl ?_
                    refine ev_putIT f_X12_is (nx := 5) rfl (hI.wf.s rfl) rfl rfl rfl (hI.put0 (hI.wf.s rfl) rfl rfl) (hX.upI rfl) (fun g36 e36 hI hX => ?_)
                    refine ev_loc f_X12_is (nx := 6) rfl rfl rfl rfl ?_
                    refine ev_f f_X12_is (t1 := 9) (t2 := 13) rfl rfl rfl (by decide) ?_
                    refine ev_ic f_X12_is (nx := 14) (v := 0) rfl (by decide) rfl ?_
                    refine ev_retK1 f_X12_is rfl rfl rfl ?_
                    exact ev_ret f_X12_pour rfl rfl rfl ⟨_, _, _, rfl, hI, hX, ⟨_, rfl, (by decide : (0:Int) ≤ (0:Int32).toInt), (Int.le_trans (by decide : (0:Int32).toInt ≤ (0:Int)) (by decide : (0:Int) ≤ 1)), (show (0 ≤ (0 : Int) ∧ (0 : Int) ≤ 1) ∧ ((0 ≤ ar1.toInt ∧ ar1.toInt ≤ 3) → (0 ≤ ar3.toInt ∧ ar3.toInt ≤ 3) → ((0 : Int) = 1 ↔ (0 ≤ ar2.toInt ∧ 0 ≤ ar4.toInt ∧ 0 ≤ ar5.toInt ∧ (gi 73 ar1.toNatClampNeg).toInt ≠ -1 ∧ (gi 73 ar3.toNatClampNeg).toInt ≠ -1 ∧ (gi 72 ar1.toNatClampNeg).toInt = (gi 72 ar3.toNatClampNeg).toInt ∧ ar2.toInt + ar5.toInt ≤ (gi 73 ar1.toNatClampNeg).toInt ∧ ar4.toInt + ar5.toInt ≤ (gi 73 ar3.toNatClampNeg).toInt)) ∧ ((0 ≤ ar2.toInt ∧ 0 ≤ ar4.toInt ∧ 0 ≤ ar5.toInt ∧ (gi 73 ar1.toNatClampNeg).toInt ≠ -1 ∧ (gi 73 ar3.toNatClampNeg).toInt ≠ -1 ∧ (gi 72 ar1.toNatClampNeg).toInt = (gi 72 ar3.toNatClampNeg).toInt ∧ ar2.toInt + ar5.toInt ≤ (gi 73 ar1.toNatClampNeg).toInt ∧ ar4.toInt + ar5.toInt ≤ (gi 73 ar3.toNatClampNeg).toInt) → ∀ j : Nat, gl 74 j = t_pcp (gl 74) (60 * ar1.toInt + ar2.toInt) (60 * ar3.toInt + ar4.toInt) ar5.toInt (ar2.toInt < ar4.toInt) ar5.toInt j) ∧ (¬ (0 ≤ ar2.toInt ∧ 0 ≤ ar4.toInt ∧ 0 ≤ ar5.toInt ∧ (gi 73 ar1.toNatClampNeg).toInt ≠ -1 ∧ (gi 73 ar3.toNatClampNeg).toInt ≠ -1 ∧ (gi 72 ar1.toNatClampNeg).toInt = (gi 72 ar3.toNatClampNeg).toInt ∧ ar2.toInt + ar5.toInt ≤ (gi 73 ar1.toNatClampNeg).toInt ∧ ar4.toInt + ar5.toInt ≤ (gi 73 ar3.toNatClampNeg).toInt) → ∀ j : Nat, gl 74 j = gl 74 j)) from (by have hfw27 : (gi 73 ar1.toNatClampNeg).toInt = w27.toInt := congrArg Int32.toInt e27.symm; have hfw33 : (gi 73 ar3.toNatClampNeg).toInt = w33.toInt := congrArg Int32.toInt e33.symm; refine ⟨⟨by omega, by omega⟩, fun hi1 hi3 => ?_⟩; exact ⟨by omega, fun h => absurd h (by omega), fun _ _ => rfl⟩))⟩⟩
                  · have r37 : w33.toInt ≠ (-1) := fun e => h34 (Int32.toInt_inj.mp (e.trans (by decide : ((-1):Int) = ((-1) : Int32).toInt)))
                    have l38 : 0 ≤ w33.toInt := t_nel h34 l33 rfl rfl
                    refine ev_loc f_X12_pour (nx := 61) rfl rfl rfl rfl ?_
                    refine ev_getR f_X12_pour (nx := 64) rfl (hI.wf.s rfl) rfl rfl (hI.wf.r rfl) rfl rfl ?_
                    refine ev_loc f_X12_pour (nx := 65) rfl rfl rfl rfl ?_
                    refine ev_ialdT f_X12_pour (nx := 66) rfl (hI.wf.s rfl) l4 (by decide) u8 (by decide) rfl (fun w39 e39 => ?_)
                    obtain ⟨l39, u39⟩ := hI.abi e39 (by decide +kernel : t_abr 72 0 3 0 3 = true) l4 (by decide) u8 (by decide)
                    refine ev_loc f_X12_pour (nx := 67) rfl rfl rfl rfl ?_
                    refine ev_getR f_X12_pour (nx := 70) rfl (hI.wf.s rfl) rfl rfl (hI.wf.r rfl) rfl rfl ?_
                    refine ev_loc f_X12_pour (nx := 71) rfl rfl rfl rfl ?_
                    refine ev_ialdT f_X12_pour (nx := 72) rfl (hI.wf.s rfl) l12 (by decide) u16 (by decide) rfl (fun w40 e40 => ?_)
                    obtain ⟨l40, u40⟩ := hI.abi e40 (by decide +kernel : t_abr 72 0 3 0 3 = true) l12 (by decide) u16 (by decide)
                    refine ev_if f_X12_pour (t1 := 82) (t2 := 75) rfl rfl rfl (fun h41 => ?_) (fun h41 => ?_)
                    · have r42 : w39.toInt = w40.toInt := t_eqi h41
                      refine ev_loc f_X12_pour (nx := 84) rfl rfl rfl rfl ?_
                      refine ev_loc f_X12_pour (nx := 85) rfl rfl rfl rfl ?_
                      refine ev_getR f_X12_pour (nx := 88) rfl (hI.wf.s rfl) rfl rfl (hI.wf.r rfl) rfl rfl ?_
                      refine ev_loc f_X12_pour (nx := 89) rfl rfl rfl rfl ?_
                      refine ev_ialdT f_X12_pour (nx := 90) rfl (hI.wf.s rfl) l4 (by decide) u8 (by decide) rfl (fun w43 e43 => ?_)
                      rw [e43.trans e27.symm]
                      refine ev_loc f_X12_pour (nx := 91) rfl rfl rfl rfl ?_
                      refine ev_subR f_X12_pour (nx := 92) (l := (-2147483647)) (u := 60) rfl l32 u27 l20 (t_hi ar2) rfl rfl (by decide) (by decide) rfl (fun z44 e44 l44 u44 => ?_)
                      refine ev_if f_X12_pour (t1 := 109) (t2 := 95) rfl rfl rfl (fun h45 => ?_) (fun h45 => ?_)
                      · have r46 : z44.toInt < ar5.toInt := Int32.lt_iff_toInt_lt.mp h45
                        refine ev_loc f_X12_pour (nx := 110) rfl rfl rfl rfl ?_
                        refine ev_ic f_X12_pour (nx := 111) (v := 3) rfl (by decide) rfl ?_
                        refine ev_inV2 f_X12_pour (nx := 114) (lo2 := [(0, .ref 69), (1, .int 3)]) rfl rfl rfl rfl f_X12_is (hI.wf.s rfl) rfl rfl rfl rfl rfl ?_
                        refine ev_loc f_X12_is (nx := 1) rfl rfl rfl rfl ?_
                        refine ev_loc f_X12_is (nx := 2) rfl rfl rfl rfl ?_
                        refine ev_putIT f_X12_is (nx := 5) rfl (hI.wf.s rfl) rfl rfl rfl (hI.put0 (hI.wf.s rfl) rfl rfl) (hX.upI rfl) (fun g47 e47 hI hX => ?_)
                        refine ev_loc f_X12_is (nx := 6) rfl rfl rfl rfl ?_
                        refine ev_f f_X12_is (t1 := 9) (t2 := 13) rfl rfl rfl (by decide) ?_
                        refine ev_ic f_X12_is (nx := 14) (v := 0) rfl (by decide) rfl ?_
                        refine ev_retK1 f_X12_is rfl rfl rfl ?_
                        exact ev_ret f_X12_pour rfl rfl rfl ⟨_, _, _, rfl, hI, hX, ⟨_, rfl, (by decide : (0:Int) ≤ (0:Int32).toInt), (Int.le_trans (by decide : (0:Int32).toInt ≤ (0:Int)) (by decide : (0:Int) ≤ 1)), (show (0 ≤ (0 : Int) ∧ (0 : Int) ≤ 1) ∧ ((0 ≤ ar1.toInt ∧ ar1.toInt ≤ 3) → (0 ≤ ar3.toInt ∧ ar3.toInt ≤ 3) → ((0 : Int) = 1 ↔ (0 ≤ ar2.toInt ∧ 0 ≤ ar4.toInt ∧ 0 ≤ ar5.toInt ∧ (gi 73 ar1.toNatClampNeg).toInt ≠ -1 ∧ (gi 73 ar3.toNatClampNeg).toInt ≠ -1 ∧ (gi 72 ar1.toNatClampNeg).toInt = (gi 72 ar3.toNatClampNeg).toInt ∧ ar2.toInt + ar5.toInt ≤ (gi 73 ar1.toNatClampNeg).toInt ∧ ar4.toInt + ar5.toInt ≤ (gi 73 ar3.toNatClampNeg).toInt)) ∧ ((0 ≤ ar2.toInt ∧ 0 ≤ ar4.toInt ∧ 0 ≤ ar5.toInt ∧ (gi 73 ar1.toNatClampNeg).toInt ≠ -1 ∧ (gi 73 ar3.toNatClampNeg).toInt ≠ -1 ∧ (gi 72 ar1.toNatClampNeg).toInt = (gi 72 ar3.toNatClampNeg).toInt ∧ ar2.toInt + ar5.toInt ≤ (gi 73 ar1.toNatClampNeg).toInt ∧ ar4.toInt + ar5.toInt ≤ (gi 73 ar3.toNatClampNeg).toInt) → ∀ j : Nat, gl 74 j = t_pcp (gl 74) (60 * ar1.toInt + ar2.toInt) (60 * ar3.toInt + ar4.toInt) ar5.toInt (ar2.toInt < ar4.toInt) ar5.toInt j) ∧ (¬ (0 ≤ ar2.toInt ∧ 0 ≤ ar4.toInt ∧ 0 ≤ ar5.toInt ∧ (gi 73 ar1.toNatClampNeg).toInt ≠ -1 ∧ (gi 73 ar3.toNatClampNeg).toInt ≠ -1 ∧ (gi 72 ar1.toNatClampNeg).toInt = (gi 72 ar3.toNatClampNeg).toInt ∧ ar2.toInt + ar5.toInt ≤ (gi 73 ar1.toNatClampNeg).toInt ∧ ar4.toInt + ar5.toInt ≤ (gi 73 ar3.toNatClampNeg).toInt) → ∀ j : Nat, gl 74 j = gl 74 j)) from (by have hfw27 : (gi 73 ar1.toNatClampNeg).toInt = w27.toInt := congrArg Int32.toInt e27.symm; have hfw33 : (gi 73 ar3.toNatClampNeg).toInt = w33.toInt := congrArg Int32.toInt e33.symm; have hfw39 : (gi 72 ar1.toNatClampNeg).toInt = w39.toInt := congrArg Int32.toInt e39.symm; have hfw40 : (gi 72 ar3.toNatClampNeg).toInt = w40.toInt := congrArg Int32.toInt e40.symm; refine ⟨⟨by omega, by omega⟩, fun hi1 hi3 => ?_⟩; exact ⟨by omega, fun h => absurd h (by omega), fun _ _ => rfl⟩))⟩⟩
                      · have r48 : ar5.toInt ≤ z44.toInt := Int32.le_iff_toInt_le.mp (t_nlt h45)
                        have u49 : ar5.toInt ≤ 60 := t_leu (t_nlt h45) u44
                        have l50 : 0 ≤ z44.toInt := t_lel (t_nlt h45) l26
                        have u51 : ar2.toInt ≤ 60 := by have := u27; omega
                        refine ev_loc f_X12_pour (nx := 97) rfl rfl rfl rfl ?_
                        refine ev_loc f_X12_pour (nx := 98) rfl rfl rfl rfl ?_
                        refine ev_getR f_X12_pour (nx := 101) rfl (hI.wf.s rfl) rfl rfl (hI.wf.r rfl) rfl rfl ?_
                        refine ev_loc f_X12_pour (nx := 102) rfl rfl rfl rfl ?_
                        refine ev_ialdT f_X12_pour (nx := 103) rfl (hI.wf.s rfl) l12 (by decide) u16 (by decide) rfl (fun w52 e52 => ?_)
                        rw [e52.trans e33.symm]
                        refine ev_loc f_X12_pour (nx := 105) rfl rfl rfl rfl ?_
                        refine ev_subR f_X12_pour (nx := 106) (l := (-2147483647)) (u := 60) rfl l38 u33 l24 (t_hi ar4) rfl rfl (by decide) (by decide) rfl (fun z53 e53 l53 u53 => ?_)
                        refine ev_if f_X12_pour (t1 := 115) (t2 := 109) rfl rfl rfl (fun h54 => ?_) (fun h54 => ?_)
                        · have r55 : ar5.toInt ≤ z53.toInt := Int32.le_iff_toInt_le.mp h54
                          have l56 : 0 ≤ z53.toInt := t_lel h54 l26
                          have u57 : ar4.toInt ≤ 60 := by have := u33; omega
                          refine ev_ic f_X12_pour (nx := 116) (v := 0) rfl (by decide) rfl ?_
                          refine ev_loc f_X12_pour (nx := 118) (lo' := [(6, .int 0), (0, .ref 69), (1, .int ar1), (2, .int ar2), (3, .int ar3), (4, .int ar4), (5, .int ar5)]) rfl rfl rfl rfl ?_
                          have L58 : ∀ (m58 : Nat) (gi58 : Nat → Nat → Int32) (gl58 : Nat → Nat → Int64) (gr58 : Nat → Nat → Value) (y58_6 : Int32), t_I sh gi58 gr58 → t_X wl_m_pour2 sh gi gl gr gi58 gl58 gr58 → 0 ≤ y58_6.toInt → y58_6.toInt ≤ 60 → gi58 72 ar1.toNatClampNeg = w39 → gi58 72 ar3.toNatClampNeg = w40 → gi58 73 ar1.toNatClampNeg = w27 → gi58 73 ar3.toNatClampNeg = w33 → (∀ j : Nat, gl58 74 j = t_pcp (gl 74) (60 * ar1.toInt + ar2.toInt) (60 * ar3.toInt + ar4.toInt) ar5.toInt (ar2.toInt < ar4.toInt) y58_6.toInt j) → y58_6.toInt ≤ ar5.toInt → (60 - y58_6.toInt).toNat = m58 → x_Ev X (d + 2) n_X12_pour 118 [(6, .int y58_6), (0, .ref 69), (1, .int ar1), (2, .int ar2), (3, .int ar3), (4, .int ar4), (5, .int ar5)] [] (sh, gi58, gl58, gr58) (t_PI wl_m_pour2 sh gi gl gr 0 1 (Q_m_pour2 gi gl gr ar1 ar2 ar3 ar4 ar5)) := by
                            intro m58
                            induction m58 using Nat.strongRecOn with
                            | _ m58 ih58 =>
                            intro gi58 gl58 gr58 y58_6 hI hX l58_6 u58_6 c58_0 c58_1 c58_2 c58_3 j58_0 j58_1 hm58
                            refine ev_loc f_X12_pour (nx := 120) rfl rfl rfl rfl ?_
                            refine ev_loc f_X12_pour (nx := 122) rfl rfl rfl rfl ?_
                            refine ev_if f_X12_pour (t1 := 180) (t2 := 125) rfl rfl rfl (fun h59 => ?_) (fun h59 => ?_)
                            · have r60 : ar5.toInt ≤ y58_6.toInt := Int32.le_iff_toInt_le.mp h59
                              refine ev_loc f_X12_pour (nx := 181) rfl rfl rfl rfl ?_
                              refine ev_ic f_X12_pour (nx := 182) (v := 0) rfl (by decide) rfl ?_
                              refine ev_inV2 f_X12_pour (nx := 185) (lo2 := [(0, .ref 69), (1, .int 0)]) rfl rfl rfl rfl f_X12_is (hI.wf.s rfl) rfl rfl rfl rfl rfl ?_
                              refine ev_loc f_X12_is (nx := 1) rfl rfl rfl rfl ?_
                              refine ev_loc f_X12_is (nx := 2) rfl rfl rfl rfl ?_
                              refine ev_putIT f_X12_is (nx := 5) rfl (hI.wf.s rfl) rfl rfl rfl (hI.put0 (hI.wf.s rfl) rfl rfl) (hX.upI rfl) (fun g61 e61 hI hX => ?_)
                              refine ev_loc f_X12_is (nx := 6) rfl rfl rfl rfl ?_
                              refine ev_t f_X12_is (t1 := 9) (t2 := 13) rfl rfl rfl (by decide) ?_
                              refine ev_ic f_X12_is (nx := 10) (v := 1) rfl (by decide) rfl ?_
                              refine ev_jmp f_X12_is (nx := 14) rfl rfl rfl ?_
                              refine ev_retK1 f_X12_is rfl rfl rfl ?_
                              exact ev_ret f_X12_pour rfl rfl rfl ⟨_, _, _, rfl, hI, hX, ⟨_, rfl, (Int.le_trans (by decide : (0:Int) ≤ 1) (by decide : (1:Int) ≤ (1:Int32).toInt)), (by decide : (1:Int32).toInt ≤ (1:Int)), (show (0 ≤ (1 : Int) ∧ (1 : Int) ≤ 1) ∧ ((0 ≤ ar1.toInt ∧ ar1.toInt ≤ 3) → (0 ≤ ar3.toInt ∧ ar3.toInt ≤ 3) → ((1 : Int) = 1 ↔ (0 ≤ ar2.toInt ∧ 0 ≤ ar4.toInt ∧ 0 ≤ ar5.toInt ∧ (gi 73 ar1.toNatClampNeg).toInt ≠ -1 ∧ (gi 73 ar3.toNatClampNeg).toInt ≠ -1 ∧ (gi 72 ar1.toNatClampNeg).toInt = (gi 72 ar3.toNatClampNeg).toInt ∧ ar2.toInt + ar5.toInt ≤ (gi 73 ar1.toNatClampNeg).toInt ∧ ar4.toInt + ar5.toInt ≤ (gi 73 ar3.toNatClampNeg).toInt)) ∧ ((0 ≤ ar2.toInt ∧ 0 ≤ ar4.toInt ∧ 0 ≤ ar5.toInt ∧ (gi 73 ar1.toNatClampNeg).toInt ≠ -1 ∧ (gi 73 ar3.toNatClampNeg).toInt ≠ -1 ∧ (gi 72 ar1.toNatClampNeg).toInt = (gi 72 ar3.toNatClampNeg).toInt ∧ ar2.toInt + ar5.toInt ≤ (gi 73 ar1.toNatClampNeg).toInt ∧ ar4.toInt + ar5.toInt ≤ (gi 73 ar3.toNatClampNeg).toInt) → ∀ j : Nat, gl58 74 j = t_pcp (gl 74) (60 * ar1.toInt + ar2.toInt) (60 * ar3.toInt + ar4.toInt) ar5.toInt (ar2.toInt < ar4.toInt) ar5.toInt j) ∧ (¬ (0 ≤ ar2.toInt ∧ 0 ≤ ar4.toInt ∧ 0 ≤ ar5.toInt ∧ (gi 73 ar1.toNatClampNeg).toInt ≠ -1 ∧ (gi 73 ar3.toNatClampNeg).toInt ≠ -1 ∧ (gi 72 ar1.toNatClampNeg).toInt = (gi 72 ar3.toNatClampNeg).toInt ∧ ar2.toInt + ar5.toInt ≤ (gi 73 ar1.toNatClampNeg).toInt ∧ ar4.toInt + ar5.toInt ≤ (gi 73 ar3.toNatClampNeg).toInt) → ∀ j : Nat, gl58 74 j = gl 74 j)) from (by have hfw27 : (gi 73 ar1.toNatClampNeg).toInt = w27.toInt := congrArg Int32.toInt e27.symm; have hfw33 : (gi 73 ar3.toNatClampNeg).toInt = w33.toInt := congrArg Int32.toInt e33.symm; have hfw39 : (gi 72 ar1.toNatClampNeg).toInt = w39.toInt := congrArg Int32.toInt e39.symm; have hfw40 : (gi 72 ar3.toNatClampNeg).toInt = w40.toInt := congrArg Int32.toInt e40.symm; refine ⟨⟨by omega, by omega⟩, fun hi1 hi3 => ?_⟩; have he : y58_6.toInt = ar5.toInt := (by omega); have hj := j58_0; rw [he] at hj; exact ⟨by omega, fun _ => hj, fun h => absurd h (by omega)⟩))⟩⟩
                            · have r62 : y58_6.toInt < ar5.toInt := Int32.lt_iff_toInt_lt.mp (t_nle h59)
                              have u63 : y58_6.toInt ≤ 59 := t_ltu (t_nle h59) u49 rfl
                              have l64 : 1 ≤ ar5.toInt := t_ltl (t_nle h59) l58_6 rfl
                              refine ev_loc f_X12_pour (nx := 126) rfl rfl rfl rfl ?_
                              refine ev_loc f_X12_pour (nx := 128) rfl rfl rfl rfl ?_
                              refine ev_if f_X12_pour (t1 := 141) (t2 := 131) rfl rfl rfl (fun h65 => ?_) (fun h65 => ?_)
                              · have r66 : ar4.toInt ≤ ar2.toInt := Int32.le_iff_toInt_le.mp h65
                                refine ev_loc f_X12_pour (nx := 143) rfl rfl rfl rfl ?_
                                refine ev_loc f_X12_pour (nx := 145) (lo' := [(7, .int y58_6), (6, .int y58_6), (0, .ref 69), (1, .int ar1), (2, .int ar2), (3, .int ar3), (4, .int ar4), (5, .int ar5)]) rfl rfl rfl rfl ?_
                                refine ev_loc f_X12_pour (nx := 146) rfl rfl rfl rfl ?_
                                refine ev_getR f_X12_pour (nx := 149) rfl (hI.wf.s rfl) rfl rfl (hI.wf.r rfl) rfl rfl ?_
                                refine ev_bp f_X12_pour (nx := 151) (v := 60) rfl (by decide) rfl ?_
                                refine ev_loc f_X12_pour (nx := 152) rfl rfl rfl rfl ?_
                                refine ev_mulL f_X12_pour (nx := 153) (c := 60) (l := 0) (u := 180) rfl (by decide) (by decide) l12 u16 rfl rfl (by decide) (by decide) rfl (fun z67 e67 l67 u67 => ?_)
                                refine ev_loc f_X12_pour (nx := 155) rfl rfl rfl rfl ?_
                                refine ev_addR f_X12_pour (nx := 156) (l := 0) (u := 240) rfl l67 u67 l24 u57 rfl rfl (by decide) (by decide) rfl (fun z68 e68 l68 u68 => ?_)
                                refine ev_loc f_X12_pour (nx := 158) rfl rfl rfl rfl ?_
                                refine ev_addR f_X12_pour (nx := 159) (l := 0) (u := 299) rfl l68 u68 l58_6 u63 rfl rfl (by decide) (by decide) rfl (fun z69 e69 l69 u69 => ?_)
                                refine ev_loc f_X12_pour (nx := 160) rfl rfl rfl rfl ?_
                                refine ev_getR f_X12_pour (nx := 163) rfl (hI.wf.s rfl) rfl rfl (hI.wf.r rfl) rfl rfl ?_
                                refine ev_bp f_X12_pour (nx := 165) (v := 60) rfl (by decide) rfl ?_
                                refine ev_loc f_X12_pour (nx := 166) rfl rfl rfl rfl ?_
                                refine ev_mulL f_X12_pour (nx := 167) (c := 60) (l := 0) (u := 180) rfl (by decide) (by decide) l4 u8 rfl rfl (by decide) (by decide) rfl (fun z70 e70 l70 u70 => ?_)
                                refine ev_loc f_X12_pour (nx := 168) rfl rfl rfl rfl ?_
                                refine ev_addR f_X12_pour (nx := 169) (l := 0) (u := 240) rfl l70 u70 l20 u51 rfl rfl (by decide) (by decide) rfl (fun z71 e71 l71 u71 => ?_)
                                refine ev_loc f_X12_pour (nx := 171) rfl rfl rfl rfl ?_
                                refine ev_addR f_X12_pour (nx := 172) (l := 0) (u := 299) rfl l71 u71 l58_6 u63 rfl rfl (by decide) (by decide) rfl (fun z72 e72 l72 u72 => ?_)
                                have u74 : z72.toInt ≤ (239:Int) := (by omega)
                                refine ev_laldT f_X12_pour (nx := 173) rfl (hI.wf.s rfl) l72 (by decide) u74 (by decide) rfl (fun w73 e73 => ?_)
                                have u76 : z69.toInt ≤ (239:Int) := (by omega)
                                refine ev_lastT f_X12_pour (nx := 174) rfl (hI.wf.s rfl) l69 (by decide) u76 (by decide) rfl (hX.upL (t_inA_ok rfl)) (fun g75 e75 hX => ?_)
                                refine ev_incR f_X12_pour (nx := 177) (c := 1) (l := 1) (u := 60) rfl rfl (by decide) (by decide) l58_6 u63 rfl rfl (by decide) (by decide) rfl (fun z77 e77 l77 u77 => ?_)
                                refine ev_jmp f_X12_pour (nx := 118) rfl rfl rfl ?_
                                refine ev_sub (lo := [(6, .int z77), (0, .ref 69), (1, .int ar1), (2, .int ar2), (3, .int ar3), (4, .int ar4), (5, .int ar5)]) rfl (t_sc rfl (t_sc rfl (t_sc rfl (t_sc rfl (t_sc rfl (t_sc rfl (t_sc rfl t_sn))))))) ?_
                                exact ih58 _ (by omega) gi58 g75 gr58 (z77) hI hX  (Int.le_trans (by decide : (0:Int) ≤ 1) l77) u77 c58_0 c58_1 c58_2 c58_3 (t_pcpS j58_0 e73 e75 (i := z69) (i2 := z72) (by omega) (by omega) (by omega) (by omega) (by omega) (fun hh => by omega) (fun hh => by omega) (fun hh => by omega) (fun hh => by omega)) (by omega) rfl
                              · have r78 : ar2.toInt < ar4.toInt := Int32.lt_iff_toInt_lt.mp (t_nle h65)
                                have u79 : ar2.toInt ≤ 59 := t_ltu (t_nle h65) u57 rfl
                                have l80 : 1 ≤ ar4.toInt := t_ltl (t_nle h65) l20 rfl
                                refine ev_loc f_X12_pour (nx := 133) rfl rfl rfl rfl ?_
                                refine ev_ic f_X12_pour (nx := 134) (v := 1) rfl (by decide) rfl ?_
                                refine ev_subC f_X12_pour (nx := 135) (c := 1) (l := 0) (u := 59) rfl (by decide) l64 u49 rfl rfl (by decide) (by decide) rfl (fun z81 e81 l81 u81 => ?_)
                                refine ev_loc f_X12_pour (nx := 137) rfl rfl rfl rfl ?_
                                refine ev_subR f_X12_pour (nx := 138) (l := (-59)) (u := 59) rfl l81 u81 l58_6 u63 rfl rfl (by decide) (by decide) rfl (fun z82 e82 l82 u82 => ?_)
                                refine ev_jmp f_X12_pour (nx := 143) rfl rfl rfl ?_
                                refine ev_loc f_X12_pour (nx := 145) (lo' := [(7, .int z82), (6, .int y58_6), (0, .ref 69), (1, .int ar1), (2, .int ar2), (3, .int ar3), (4, .int ar4), (5, .int ar5)]) rfl rfl rfl rfl ?_
                                refine ev_loc f_X12_pour (nx := 146) rfl rfl rfl rfl ?_
                                refine ev_getR f_X12_pour (nx := 149) rfl (hI.wf.s rfl) rfl rfl (hI.wf.r rfl) rfl rfl ?_
                                refine ev_bp f_X12_pour (nx := 151) (v := 60) rfl (by decide) rfl ?_
                                refine ev_loc f_X12_pour (nx := 152) rfl rfl rfl rfl ?_
                                refine ev_mulL f_X12_pour (nx := 153) (c := 60) (l := 0) (u := 180) rfl (by decide) (by decide) l12 u16 rfl rfl (by decide) (by decide) rfl (fun z83 e83 l83 u83 => ?_)
                                refine ev_loc f_X12_pour (nx := 155) rfl rfl rfl rfl ?_
                                refine ev_addR f_X12_pour (nx := 156) (l := 1) (u := 240) rfl l83 u83 l80 u57 rfl rfl (by decide) (by decide) rfl (fun z84 e84 l84 u84 => ?_)
                                refine ev_loc f_X12_pour (nx := 158) rfl rfl rfl rfl ?_
                                refine ev_addR f_X12_pour (nx := 159) (l := (-58)) (u := 299) rfl l84 u84 l82 u82 rfl rfl (by decide) (by decide) rfl (fun z85 e85 l85 u85 => ?_)
                                refine ev_loc f_X12_pour (nx := 160) rfl rfl rfl rfl ?_
                                refine ev_getR f_X12_pour (nx := 163) rfl (hI.wf.s rfl) rfl rfl (hI.wf.r rfl) rfl rfl ?_
                                refine ev_bp f_X12_pour (nx := 165) (v := 60) rfl (by decide) rfl ?_
                                refine ev_loc f_X12_pour (nx := 166) rfl rfl rfl rfl ?_
                                refine ev_mulL f_X12_pour (nx := 167) (c := 60) (l := 0) (u := 180) rfl (by decide) (by decide) l4 u8 rfl rfl (by decide) (by decide) rfl (fun z86 e86 l86 u86 => ?_)
                                refine ev_loc f_X12_pour (nx := 168) rfl rfl rfl rfl ?_
                                refine ev_addR f_X12_pour (nx := 169) (l := 0) (u := 239) rfl l86 u86 l20 u79 rfl rfl (by decide) (by decide) rfl (fun z87 e87 l87 u87 => ?_)
                                refine ev_loc f_X12_pour (nx := 171) rfl rfl rfl rfl ?_
                                refine ev_addR f_X12_pour (nx := 172) (l := (-59)) (u := 298) rfl l87 u87 l82 u82 rfl rfl (by decide) (by decide) rfl (fun z88 e88 l88 u88 => ?_)
                                have l90 : (0:Int) ≤ z88.toInt := (by omega)
                                have u90 : z88.toInt ≤ (239:Int) := (by omega)
                                refine ev_laldT f_X12_pour (nx := 173) rfl (hI.wf.s rfl) l90 (by decide) u90 (by decide) rfl (fun w89 e89 => ?_)
                                have l92 : (0:Int) ≤ z85.toInt := (by omega)
                                have u92 : z85.toInt ≤ (239:Int) := (by omega)
                                refine ev_lastT f_X12_pour (nx := 174) rfl (hI.wf.s rfl) l92 (by decide) u92 (by decide) rfl (hX.upL (t_inA_ok rfl)) (fun g91 e91 hX => ?_)
                                refine ev_incR f_X12_pour (nx := 177) (c := 1) (l := 1) (u := 60) rfl rfl (by decide) (by decide) l58_6 u63 rfl rfl (by decide) (by decide) rfl (fun z93 e93 l93 u93 => ?_)
                                refine ev_jmp f_X12_pour (nx := 118) rfl rfl rfl ?_
                                refine ev_sub (lo := [(6, .int z93), (0, .ref 69), (1, .int ar1), (2, .int ar2), (3, .int ar3), (4, .int ar4), (5, .int ar5)]) rfl (t_sc rfl (t_sc rfl (t_sc rfl (t_sc rfl (t_sc rfl (t_sc rfl (t_sc rfl t_sn))))))) ?_
                                exact ih58 _ (by omega) gi58 g91 gr58 (z93) hI hX  (Int.le_trans (by decide : (0:Int) ≤ 1) l93) u93 c58_0 c58_1 c58_2 c58_3 (t_pcpS j58_0 e89 e91 (i := z85) (i2 := z88) (by omega) (by omega) (by omega) (by omega) (by omega) (fun hh => by omega) (fun hh => by omega) (fun hh => by omega) (fun hh => by omega)) (by omega) rfl
                          refine ev_sub (lo := [(6, .int 0), (0, .ref 69), (1, .int ar1), (2, .int ar2), (3, .int ar3), (4, .int ar4), (5, .int ar5)]) rfl (t_sc rfl (t_sc rfl (t_sc rfl (t_sc rfl (t_sc rfl (t_sc rfl (t_sc rfl t_sn))))))) ?_
                          exact L58 _ gi gl gr (0) hI hX  (by decide : (0:Int) ≤ (0:Int32).toInt) (Int.le_trans (by decide : (0:Int32).toInt ≤ (0:Int)) (by decide : (0:Int) ≤ 60)) e39.symm e40.symm e27.symm e33.symm (fun j => (t_pcp0 (by have : (0 : Int32).toInt = 0 := rfl; omega)).symm) (by have kf94 : (0 : Int32).toInt = 0 := (by decide); omega) rfl
                        · have r95 : z53.toInt < ar5.toInt := Int32.lt_iff_toInt_lt.mp (t_nle h54)
                          have u96 : z53.toInt ≤ 59 := t_ltu (t_nle h54) u49 rfl
                          refine ev_loc f_X12_pour (nx := 110) rfl rfl rfl rfl ?_
                          refine ev_ic f_X12_pour (nx := 111) (v := 3) rfl (by decide) rfl ?_
                          refine ev_inV2 f_X12_pour (nx := 114) (lo2 := [(0, .ref 69), (1, .int 3)]) rfl rfl rfl rfl f_X12_is (hI.wf.s rfl) rfl rfl rfl rfl rfl ?_
                          refine ev_loc f_X12_is (nx := 1) rfl rfl rfl rfl ?_
                          refine ev_loc f_X12_is (nx := 2) rfl rfl rfl rfl ?_
                          refine ev_putIT f_X12_is (nx := 5) rfl (hI.wf.s rfl) rfl rfl rfl (hI.put0 (hI.wf.s rfl) rfl rfl) (hX.upI rfl) (fun g97 e97 hI hX => ?_)
                          refine ev_loc f_X12_is (nx := 6) rfl rfl rfl rfl ?_
                          refine ev_f f_X12_is (t1 := 9) (t2 := 13) rfl rfl rfl (by decide) ?_
                          refine ev_ic f_X12_is (nx := 14) (v := 0) rfl (by decide) rfl ?_
                          refine ev_retK1 f_X12_is rfl rfl rfl ?_
                          exact ev_ret f_X12_pour rfl rfl rfl ⟨_, _, _, rfl, hI, hX, ⟨_, rfl, (by decide : (0:Int) ≤ (0:Int32).toInt), (Int.le_trans (by decide : (0:Int32).toInt ≤ (0:Int)) (by decide : (0:Int) ≤ 1)), (show (0 ≤ (0 : Int) ∧ (0 : Int) ≤ 1) ∧ ((0 ≤ ar1.toInt ∧ ar1.toInt ≤ 3) → (0 ≤ ar3.toInt ∧ ar3.toInt ≤ 3) → ((0 : Int) = 1 ↔ (0 ≤ ar2.toInt ∧ 0 ≤ ar4.toInt ∧ 0 ≤ ar5.toInt ∧ (gi 73 ar1.toNatClampNeg).toInt ≠ -1 ∧ (gi 73 ar3.toNatClampNeg).toInt ≠ -1 ∧ (gi 72 ar1.toNatClampNeg).toInt = (gi 72 ar3.toNatClampNeg).toInt ∧ ar2.toInt + ar5.toInt ≤ (gi 73 ar1.toNatClampNeg).toInt ∧ ar4.toInt + ar5.toInt ≤ (gi 73 ar3.toNatClampNeg).toInt)) ∧ ((0 ≤ ar2.toInt ∧ 0 ≤ ar4.toInt ∧ 0 ≤ ar5.toInt ∧ (gi 73 ar1.toNatClampNeg).toInt ≠ -1 ∧ (gi 73 ar3.toNatClampNeg).toInt ≠ -1 ∧ (gi 72 ar1.toNatClampNeg).toInt = (gi 72 ar3.toNatClampNeg).toInt ∧ ar2.toInt + ar5.toInt ≤ (gi 73 ar1.toNatClampNeg).toInt ∧ ar4.toInt + ar5.toInt ≤ (gi 73 ar3.toNatClampNeg).toInt) → ∀ j : Nat, gl 74 j = t_pcp (gl 74) (60 * ar1.toInt + ar2.toInt) (60 * ar3.toInt + ar4.toInt) ar5.toInt (ar2.toInt < ar4.toInt) ar5.toInt j) ∧ (¬ (0 ≤ ar2.toInt ∧ 0 ≤ ar4.toInt ∧ 0 ≤ ar5.toInt ∧ (gi 73 ar1.toNatClampNeg).toInt ≠ -1 ∧ (gi 73 ar3.toNatClampNeg).toInt ≠ -1 ∧ (gi 72 ar1.toNatClampNeg).toInt = (gi 72 ar3.toNatClampNeg).toInt ∧ ar2.toInt + ar5.toInt ≤ (gi 73 ar1.toNatClampNeg).toInt ∧ ar4.toInt + ar5.toInt ≤ (gi 73 ar3.toNatClampNeg).toInt) → ∀ j : Nat, gl 74 j = gl 74 j)) from (by have hfw27 : (gi 73 ar1.toNatClampNeg).toInt = w27.toInt := congrArg Int32.toInt e27.symm; have hfw33 : (gi 73 ar3.toNatClampNeg).toInt = w33.toInt := congrArg Int32.toInt e33.symm; have hfw39 : (gi 72 ar1.toNatClampNeg).toInt = w39.toInt := congrArg Int32.toInt e39.symm; have hfw40 : (gi 72 ar3.toNatClampNeg).toInt = w40.toInt := congrArg Int32.toInt e40.symm; refine ⟨⟨by omega, by omega⟩, fun hi1 hi3 => ?_⟩; exact ⟨by omega, fun h => absurd h (by omega), fun _ _ => rfl⟩))⟩⟩
                    · have r98 : w39.toInt ≠ w40.toInt := t_nei h41
                      refine ev_loc f_X12_pour (nx := 76) rfl rfl rfl rfl ?_
                      refine ev_bp f_X12_pour (nx := 78) (v := 8) rfl (by decide) rfl ?_
                      refine ev_inV2 f_X12_pour (nx := 81) (lo2 := [(0, .ref 69), (1, .int 8)]) rfl rfl rfl rfl f_X12_is (hI.wf.s rfl) rfl rfl rfl rfl rfl ?_
                      refine ev_loc f_X12_is (nx := 1) rfl rfl rfl rfl ?_
                      refine ev_loc f_X12_is (nx := 2) rfl rfl rfl rfl ?_
                      refine ev_putIT f_X12_is (nx := 5) rfl (hI.wf.s rfl) rfl rfl rfl (hI.put0 (hI.wf.s rfl) rfl rfl) (hX.upI rfl) (fun g99 e99 hI hX => ?_)
                      refine ev_loc f_X12_is (nx := 6) rfl rfl rfl rfl ?_
                      refine ev_f f_X12_is (t1 := 9) (t2 := 13) rfl rfl rfl (by decide) ?_
                      refine ev_ic f_X12_is (nx := 14) (v := 0) rfl (by decide) rfl ?_
                      refine ev_retK1 f_X12_is rfl rfl rfl ?_
                      exact ev_ret f_X12_pour rfl rfl rfl ⟨_, _, _, rfl, hI, hX, ⟨_, rfl, (by decide : (0:Int) ≤ (0:Int32).toInt), (Int.le_trans (by decide : (0:Int32).toInt ≤ (0:Int)) (by decide : (0:Int) ≤ 1)), (show (0 ≤ (0 : Int) ∧ (0 : Int) ≤ 1) ∧ ((0 ≤ ar1.toInt ∧ ar1.toInt ≤ 3) → (0 ≤ ar3.toInt ∧ ar3.toInt ≤ 3) → ((0 : Int) = 1 ↔ (0 ≤ ar2.toInt ∧ 0 ≤ ar4.toInt ∧ 0 ≤ ar5.toInt ∧ (gi 73 ar1.toNatClampNeg).toInt ≠ -1 ∧ (gi 73 ar3.toNatClampNeg).toInt ≠ -1 ∧ (gi 72 ar1.toNatClampNeg).toInt = (gi 72 ar3.toNatClampNeg).toInt ∧ ar2.toInt + ar5.toInt ≤ (gi 73 ar1.toNatClampNeg).toInt ∧ ar4.toInt + ar5.toInt ≤ (gi 73 ar3.toNatClampNeg).toInt)) ∧ ((0 ≤ ar2.toInt ∧ 0 ≤ ar4.toInt ∧ 0 ≤ ar5.toInt ∧ (gi 73 ar1.toNatClampNeg).toInt ≠ -1 ∧ (gi 73 ar3.toNatClampNeg).toInt ≠ -1 ∧ (gi 72 ar1.toNatClampNeg).toInt = (gi 72 ar3.toNatClampNeg).toInt ∧ ar2.toInt + ar5.toInt ≤ (gi 73 ar1.toNatClampNeg).toInt ∧ ar4.toInt + ar5.toInt ≤ (gi 73 ar3.toNatClampNeg).toInt) → ∀ j : Nat, gl 74 j = t_pcp (gl 74) (60 * ar1.toInt + ar2.toInt) (60 * ar3.toInt + ar4.toInt) ar5.toInt (ar2.toInt < ar4.toInt) ar5.toInt j) ∧ (¬ (0 ≤ ar2.toInt ∧ 0 ≤ ar4.toInt ∧ 0 ≤ ar5.toInt ∧ (gi 73 ar1.toNatClampNeg).toInt ≠ -1 ∧ (gi 73 ar3.toNatClampNeg).toInt ≠ -1 ∧ (gi 72 ar1.toNatClampNeg).toInt = (gi 72 ar3.toNatClampNeg).toInt ∧ ar2.toInt + ar5.toInt ≤ (gi 73 ar1.toNatClampNeg).toInt ∧ ar4.toInt + ar5.toInt ≤ (gi 73 ar3.toNatClampNeg).toInt) → ∀ j : Nat, gl 74 j = gl 74 j)) from (by have hfw27 : (gi 73 ar1.toNatClampNeg).toInt = w27.toInt := congrArg Int32.toInt e27.symm; have hfw33 : (gi 73 ar3.toNatClampNeg).toInt = w33.toInt := congrArg Int32.toInt e33.symm; have hfw39 : (gi 72 ar1.toNatClampNeg).toInt = w39.toInt := congrArg Int32.toInt e39.symm; have hfw40 : (gi 72 ar3.toNatClampNeg).toInt = w40.toInt := congrArg Int32.toInt e40.symm; refine ⟨⟨by omega, by omega⟩, fun hi1 hi3 => ?_⟩; exact ⟨by omega, fun h => absurd h (by omega), fun _ _ => rfl⟩))⟩⟩
              · have u100 : ar5.toInt ≤ (-1) := t_ltu (t_nle h25) (by decide : (0:Int32).toInt ≤ (0:Int)) rfl
                refine ev_loc f_X12_pour (nx := 29) rfl rfl rfl rfl ?_
                refine ev_ic f_X12_pour (nx := 30) (v := 1) rfl (by decide) rfl ?_
                refine ev_inV2 f_X12_pour (nx := 33) (lo2 := [(0, .ref 69), (1, .int 1)]) rfl rfl rfl rfl f_X12_is (hI.wf.s rfl) rfl rfl rfl rfl rfl ?_
                refine ev_loc f_X12_is (nx := 1) rfl rfl rfl rfl ?_
                refine ev_loc f_X12_is (nx := 2) rfl rfl rfl rfl ?_
                refine ev_putIT f_X12_is (nx := 5) rfl (hI.wf.s rfl) rfl rfl rfl (hI.put0 (hI.wf.s rfl) rfl rfl) (hX.upI rfl) (fun g101 e101 hI hX => ?_)
                refine ev_loc f_X12_is (nx := 6) rfl rfl rfl rfl ?_
                refine ev_f f_X12_is (t1 := 9) (t2 := 13) rfl rfl rfl (by decide) ?_
                refine ev_ic f_X12_is (nx := 14) (v := 0) rfl (by decide) rfl ?_
                refine ev_retK1 f_X12_is rfl rfl rfl ?_
                exact ev_ret f_X12_pour rfl rfl rfl ⟨_, _, _, rfl, hI, hX, ⟨_, rfl, (by decide : (0:Int) ≤ (0:Int32).toInt), (Int.le_trans (by decide : (0:Int32).toInt ≤ (0:Int)) (by decide : (0:Int) ≤ 1)), (show (0 ≤ (0 : Int) ∧ (0 : Int) ≤ 1) ∧ ((0 ≤ ar1.toInt ∧ ar1.toInt ≤ 3) → (0 ≤ ar3.toInt ∧ ar3.toInt ≤ 3) → ((0 : Int) = 1 ↔ (0 ≤ ar2.toInt ∧ 0 ≤ ar4.toInt ∧ 0 ≤ ar5.toInt ∧ (gi 73 ar1.toNatClampNeg).toInt ≠ -1 ∧ (gi 73 ar3.toNatClampNeg).toInt ≠ -1 ∧ (gi 72 ar1.toNatClampNeg).toInt = (gi 72 ar3.toNatClampNeg).toInt ∧ ar2.toInt + ar5.toInt ≤ (gi 73 ar1.toNatClampNeg).toInt ∧ ar4.toInt + ar5.toInt ≤ (gi 73 ar3.toNatClampNeg).toInt)) ∧ ((0 ≤ ar2.toInt ∧ 0 ≤ ar4.toInt ∧ 0 ≤ ar5.toInt ∧ (gi 73 ar1.toNatClampNeg).toInt ≠ -1 ∧ (gi 73 ar3.toNatClampNeg).toInt ≠ -1 ∧ (gi 72 ar1.toNatClampNeg).toInt = (gi 72 ar3.toNatClampNeg).toInt ∧ ar2.toInt + ar5.toInt ≤ (gi 73 ar1.toNatClampNeg).toInt ∧ ar4.toInt + ar5.toInt ≤ (gi 73 ar3.toNatClampNeg).toInt) → ∀ j : Nat, gl 74 j = t_pcp (gl 74) (60 * ar1.toInt + ar2.toInt) (60 * ar3.toInt + ar4.toInt) ar5.toInt (ar2.toInt < ar4.toInt) ar5.toInt j) ∧ (¬ (0 ≤ ar2.toInt ∧ 0 ≤ ar4.toInt ∧ 0 ≤ ar5.toInt ∧ (gi 73 ar1.toNatClampNeg).toInt ≠ -1 ∧ (gi 73 ar3.toNatClampNeg).toInt ≠ -1 ∧ (gi 72 ar1.toNatClampNeg).toInt = (gi 72 ar3.toNatClampNeg).toInt ∧ ar2.toInt + ar5.toInt ≤ (gi 73 ar1.toNatClampNeg).toInt ∧ ar4.toInt + ar5.toInt ≤ (gi 73 ar3.toNatClampNeg).toInt) → ∀ j : Nat, gl 74 j = gl 74 j)) from (by refine ⟨⟨by omega, by omega⟩, fun hi1 hi3 => ?_⟩; exact ⟨by omega, fun h => absurd h (by omega), fun _ _ => rfl⟩))⟩⟩
noncomputable def wl_h_mark2 : List (Nat × Nat) := [(0, 0), (0, 12), (19, 9999), (20, 9999)]
noncomputable def Q_h_mark2 (gi : Nat → Nat → Int32) (gl : Nat → Nat → Int64) (gr : Nat → Nat → Value) : Int32 → (Nat → Nat → Int32) → (Nat → Nat → Int64) → (Nat → Nat → Value) → Prop := fun (v : Int32) (gi2 : Nat → Nat → Int32) (gl2 : Nat → Nat → Int64) (gr2 : Nat → Nat → Value) => ((gi 0 12).toInt = 3 → v.toInt = -1 ∧ (gi2 0 12).toInt = 3) ∧ ((gi 0 12).toInt ≠ 3 → v.toInt = (gi 0 12).toInt + 1 ∧ (gi2 0 12).toInt = (gi 0 12).toInt + 1) ∧ (∀ j : Nat, (j : Int) < (gi2 0 12).toInt → gr2 19 j ≠ .null)
theorem c_h_mark2 {X : x_Ext} {d : Nat} {sh : List (Nat ⊕ (Nat × Nat))} {gi : Nat → Nat → Int32} {gl : Nat → Nat → Int64} {gr : Nat → Nat → Value} (hI : t_I sh gi gr) (e_p0 : (∀ j : Nat, (j : Int) < (gi 0 12).toInt → gr 19 j ≠ .null)) : x_Me X (d + 2) n_X11_mark [.ref 0] (sh, gi, gl, gr) (t_PI wl_h_mark2 sh gi gl gr (-1) 3 (Q_h_mark2 gi gl gr)) := by
  have hX : t_X wl_h_mark2 sh gi gl gr gi gl gr := t_X.rf
  refine me_i f_X11_mark (hI.wf.s rfl) rfl rfl rfl ?_
  obtain ⟨l1, u1⟩ := hI.b (hI.wf.s (k := 0) rfl) (t_bdK rfl : t_bd 10 12 = some (0, 3))
  refine ev_loc f_X11_mark (nx := 1) rfl rfl rfl rfl ?_
  refine ev_gvI f_X11_mark (nx := 4) (w := (gi 0 12)) rfl (hI.wf.s rfl) rfl rfl rfl rfl ?_
  refine ev_ic f_X11_mark (nx := 5) (v := 3) rfl (by decide) rfl ?_
  refine ev_if f_X11_mark (t1 := 14) (t2 := 8) rfl rfl rfl (fun h2 => ?_) (fun h2 => ?_)
  · have u3 : (gi 0 12).toInt ≤ 2 := t_ltu h2 (by decide : (3:Int32).toInt ≤ (3:Int)) rfl
    refine ev_loc f_X11_mark (nx := 15) rfl rfl rfl rfl ?_
    refine ev_getR f_X11_mark (nx := 18) rfl (hI.wf.s rfl) rfl rfl (hI.wf.r rfl) rfl rfl ?_
    refine ev_loc f_X11_mark (nx := 19) rfl rfl rfl rfl ?_
    refine ev_gvI f_X11_mark (nx := 22) (w := (gi 0 12)) rfl (hI.wf.s rfl) rfl rfl rfl rfl ?_
    refine ev_loc f_X11_mark (nx := 23) rfl rfl rfl rfl ?_
    obtain ⟨a4, e4, p4⟩ := hI.2.2.2.1.1
    refine ev_getR f_X11_mark (nx := 26) rfl (hI.wf.s rfl) rfl rfl e4 rfl rfl ?_
    have hE5 := t_eqf_upA (gr := gr) (j := ((gi 0 12) : Int32).toNatClampNeg) (v := .ref a4) (hI.wf.s (k := 19) rfl)
    have hT5 := t_mk19 hI (m := ((gi 0 12) : Int32).toNatClampNeg) (v := .ref a4) (Or.inr ⟨_, rfl, p4⟩)
    replace p4 := p4.ext hE5
    refine ev_aastT f_X11_mark (nx := 27) rfl (hI.wf.s rfl) rfl p4.1 l1 (by decide) u3 (by decide) rfl hT5 (hX.upR (t_inA_ok rfl) hE5) (fun g5 e5 hI hX => ?_)
    rw [← e5] at p4
    refine ev_loc f_X11_mark (nx := 28) rfl rfl rfl rfl ?_
    refine ev_getR f_X11_mark (nx := 31) rfl (hI.wf.s rfl) rfl rfl (hI.wf.r rfl) rfl rfl ?_
    refine ev_loc f_X11_mark (nx := 32) rfl rfl rfl rfl ?_
    refine ev_gvI f_X11_mark (nx := 35) (w := (gi 0 12)) rfl (hI.wf.s rfl) rfl rfl rfl rfl ?_
    refine ev_loc f_X11_mark (nx := 36) rfl rfl rfl rfl ?_
    rcases hI.2.2.2.1.2.1 with e6 | ⟨a6, e6, p6⟩
    · refine ev_getR f_X11_mark (nx := 39) rfl (hI.wf.s rfl) rfl rfl e6 rfl rfl ?_
      have hE7 := t_eqf_upA (gr := g5) (j := ((gi 0 12) : Int32).toNatClampNeg) (v := .null) (hI.wf.s (k := 20) rfl)
      have hT7 := t_mk20 hI (m := ((gi 0 12) : Int32).toNatClampNeg) (v := .null) (Or.inl rfl)
      replace p4 := p4.ext hE7
      refine ev_aastN f_X11_mark (nx := 40) rfl (hI.wf.s rfl) rfl l1 (by decide) u3 (by decide) rfl hT7 (hX.upR (t_inA_ok rfl) hE7) (fun g7 e7 hI hX => ?_)
      rw [← e7] at p4
      refine ev_loc f_X11_mark (nx := 41) rfl rfl rfl rfl ?_
      refine ev_alu f_X11_mark (nx := 42) rfl rfl rfl rfl ?_
      refine ev_gvI f_X11_mark (nx := 45) (w := (gi 0 12)) rfl (hI.wf.s rfl) rfl rfl rfl rfl ?_
      refine ev_ic f_X11_mark (nx := 46) (v := 1) rfl (by decide) rfl ?_
      refine ev_addC f_X11_mark (nx := 47) (c := 1) (l := 1) (u := 3) rfl (by decide) l1 u3 rfl rfl (by decide) (by decide) rfl (fun z8 e8 l8 u8 => ?_)
      refine ev_putIT f_X11_mark (nx := 50) rfl (hI.wf.s rfl) rfl rfl rfl (hI.putB (hI.wf.s rfl) rfl rfl l8 (by decide) u8 (by decide)) (hX.upI rfl) (fun g9 e9 hI hX => ?_)
      refine ev_loc f_X11_mark (nx := 51) rfl rfl rfl rfl ?_
      refine ev_loc f_X11_mark (nx := 52) rfl rfl rfl rfl ?_
      refine ev_gvI f_X11_mark (nx := 55) (w := z8) rfl (hI.wf.s rfl) rfl rfl (by rw [e9]; exact x_up2_at _ _ _ _ : g9 0 12 = z8) rfl ?_
      refine ev_inV2 f_X11_mark (nx := 58) (lo2 := [(0, .ref 0), (1, .int z8)]) rfl rfl rfl rfl f_X11_answer (hI.wf.s rfl) rfl rfl rfl rfl rfl ?_
      refine ev_loc f_X11_answer (nx := 1) rfl rfl rfl rfl ?_
      refine ev_ic f_X11_answer (nx := 2) (v := 0) rfl (by decide) rfl ?_
      refine ev_putIT f_X11_answer (nx := 5) rfl (hI.wf.s rfl) rfl rfl rfl (hI.put0 (hI.wf.s rfl) rfl rfl) (hX.upI rfl) (fun g10 e10 hI hX => ?_)
      refine ev_loc f_X11_answer (nx := 6) rfl rfl rfl rfl ?_
      refine ev_retK1 f_X11_answer rfl rfl rfl ?_
      exact ev_ret f_X11_mark rfl rfl rfl ⟨_, _, _, rfl, hI, hX, ⟨_, rfl, (Int.le_trans (by decide : ((-1):Int) ≤ 1) l8), u8, (show ((gi 0 12).toInt = 3 → z8.toInt = -1 ∧ (g10 0 12).toInt = 3) ∧ ((gi 0 12).toInt ≠ 3 → z8.toInt = (gi 0 12).toInt + 1 ∧ (g10 0 12).toInt = (gi 0 12).toInt + 1) ∧ (∀ j : Nat, (j : Int) < (g10 0 12).toInt → g7 19 j ≠ .null) from (by have ff11 : (g10 0 12).toInt = z8.toInt := congrArg Int32.toInt ((by rw [e10]; exact x_up2_off (Or.inr (by decide)) : g10 0 12 = g9 0 12).trans (by rw [e9]; exact x_up2_at _ _ _ _ : g9 0 12 = z8)); refine ⟨fun h => absurd h (by omega), fun _ => ⟨by omega, by omega⟩, fun j hj => ?_⟩; rw [e7, x_up2_off (Or.inl (by decide))]; rw [e5]; by_cases hjk : j = ((gi 0 12) : Int32).toNatClampNeg; (rw [hjk, x_up2_at]; exact fun h => by cases h); (rw [x_up2_off (Or.inr hjk)]; exact e_p0 j (by have hc := t_clamp (i := ((gi 0 12) : Int32)) (by omega); omega))))⟩⟩
    · refine ev_getR f_X11_mark (nx := 39) rfl (hI.wf.s rfl) rfl rfl e6 rfl rfl ?_
      have hE12 := t_eqf_upA (gr := g5) (j := ((gi 0 12) : Int32).toNatClampNeg) (v := .ref a6) (hI.wf.s (k := 20) rfl)
      have hT12 := t_mk20 hI (m := ((gi 0 12) : Int32).toNatClampNeg) (v := .ref a6) (Or.inr ⟨_, rfl, p6⟩)
      replace p4 := p4.ext hE12
      replace p6 := p6.ext hE12
      refine ev_aastT f_X11_mark (nx := 40) rfl (hI.wf.s rfl) rfl p6.1 l1 (by decide) u3 (by decide) rfl hT12 (hX.upR (t_inA_ok rfl) hE12) (fun g12 e12 hI hX => ?_)
      rw [← e12] at p4
      rw [← e12] at p6
      refine ev_loc f_X11_mark (nx := 41) rfl rfl rfl rfl ?_
      refine ev_alu f_X11_mark (nx := 42) rfl rfl rfl rfl ?_
      refine ev_gvI f_X11_mark (nx := 45) (w := (gi 0 12)) rfl (hI.wf.s rfl) rfl rfl rfl rfl ?_
      refine ev_ic f_X11_mark (nx := 46) (v := 1) rfl (by decide) rfl ?_
      refine ev_addC f_X11_mark (nx := 47) (c := 1) (l := 1) (u := 3) rfl (by decide) l1 u3 rfl rfl (by decide) (by decide) rfl (fun z13 e13 l13 u13 => ?_)
      refine ev_putIT f_X11_mark (nx := 50) rfl (hI.wf.s rfl) rfl rfl rfl (hI.putB (hI.wf.s rfl) rfl rfl l13 (by decide) u13 (by decide)) (hX.upI rfl) (fun g14 e14 hI hX => ?_)
      refine ev_loc f_X11_mark (nx := 51) rfl rfl rfl rfl ?_
      refine ev_loc f_X11_mark (nx := 52) rfl rfl rfl rfl ?_
      refine ev_gvI f_X11_mark (nx := 55) (w := z13) rfl (hI.wf.s rfl) rfl rfl (by rw [e14]; exact x_up2_at _ _ _ _ : g14 0 12 = z13) rfl ?_
      refine ev_inV2 f_X11_mark (nx := 58) (lo2 := [(0, .ref 0), (1, .int z13)]) rfl rfl rfl rfl f_X11_answer (hI.wf.s rfl) rfl rfl rfl rfl rfl ?_
      refine ev_loc f_X11_answer (nx := 1) rfl rfl rfl rfl ?_
      refine ev_ic f_X11_answer (nx := 2) (v := 0) rfl (by decide) rfl ?_
      refine ev_putIT f_X11_answer (nx := 5) rfl (hI.wf.s rfl) rfl rfl rfl (hI.put0 (hI.wf.s rfl) rfl rfl) (hX.upI rfl) (fun g15 e15 hI hX => ?_)
      refine ev_loc f_X11_answer (nx := 6) rfl rfl rfl rfl ?_
      refine ev_retK1 f_X11_answer rfl rfl rfl ?_
      exact ev_ret f_X11_mark rfl rfl rfl ⟨_, _, _, rfl, hI, hX, ⟨_, rfl, (Int.le_trans (by decide : ((-1):Int) ≤ 1) l13), u13, (show ((gi 0 12).toInt = 3 → z13.toInt = -1 ∧ (g15 0 12).toInt = 3) ∧ ((gi 0 12).toInt ≠ 3 → z13.toInt = (gi 0 12).toInt + 1 ∧ (g15 0 12).toInt = (gi 0 12).toInt + 1) ∧ (∀ j : Nat, (j : Int) < (g15 0 12).toInt → g12 19 j ≠ .null) from (by have ff16 : (g15 0 12).toInt = z13.toInt := congrArg Int32.toInt ((by rw [e15]; exact x_up2_off (Or.inr (by decide)) : g15 0 12 = g14 0 12).trans (by rw [e14]; exact x_up2_at _ _ _ _ : g14 0 12 = z13)); refine ⟨fun h => absurd h (by omega), fun _ => ⟨by omega, by omega⟩, fun j hj => ?_⟩; rw [e12, x_up2_off (Or.inl (by decide))]; rw [e5]; by_cases hjk : j = ((gi 0 12) : Int32).toNatClampNeg; (rw [hjk, x_up2_at]; exact fun h => by cases h); (rw [x_up2_off (Or.inr hjk)]; exact e_p0 j (by have hc := t_clamp (i := ((gi 0 12) : Int32)) (by omega); omega))))⟩⟩
  · have l17 : 3 ≤ (gi 0 12).toInt := t_lel (t_nlt h2) (by decide : (3:Int) ≤ (3:Int32).toInt)
    refine ev_loc f_X11_mark (nx := 9) rfl rfl rfl rfl ?_
    refine ev_ic f_X11_mark (nx := 10) (v := 4) rfl (by decide) rfl ?_
    refine ev_inV2 f_X11_mark (nx := 13) (lo2 := [(0, .ref 0), (1, .int 4)]) rfl rfl rfl rfl f_X11_refuse (hI.wf.s rfl) rfl rfl rfl rfl rfl ?_
    refine ev_loc f_X11_refuse (nx := 1) rfl rfl rfl rfl ?_
    refine ev_loc f_X11_refuse (nx := 2) rfl rfl rfl rfl ?_
    refine ev_putIT f_X11_refuse (nx := 5) rfl (hI.wf.s rfl) rfl rfl rfl (hI.put0 (hI.wf.s rfl) rfl rfl) (hX.upI rfl) (fun g18 e18 hI hX => ?_)
    refine ev_ic f_X11_refuse (nx := 6) (v := -1) rfl (by decide) rfl ?_
    refine ev_retK1 f_X11_refuse rfl rfl rfl ?_
    exact ev_ret f_X11_mark rfl rfl rfl ⟨_, _, _, rfl, hI, hX, ⟨_, rfl, (by decide : ((-1):Int) ≤ ((-1):Int32).toInt), (Int.le_trans (by decide : ((-1):Int32).toInt ≤ ((-1):Int)) (by decide : ((-1):Int) ≤ 3)), (show ((gi 0 12).toInt = 3 → ((-1) : Int) = -1 ∧ (g18 0 12).toInt = 3) ∧ ((gi 0 12).toInt ≠ 3 → ((-1) : Int) = (gi 0 12).toInt + 1 ∧ (g18 0 12).toInt = (gi 0 12).toInt + 1) ∧ (∀ j : Nat, (j : Int) < (g18 0 12).toInt → gr 19 j ≠ .null) from (by have ff19 : (g18 0 12).toInt = (gi 0 12).toInt := congrArg Int32.toInt ((by rw [e18]; exact x_up2_off (Or.inr (by decide)) : g18 0 12 = gi 0 12).trans rfl); refine ⟨fun _ => ⟨by omega, by omega⟩, fun h => absurd h (by omega), fun j hj => ?_⟩; exact e_p0 j (by omega)))⟩⟩
noncomputable def wl_h_back2 : List (Nat × Nat) := [(0, 0), (0, 6), (0, 7), (0, 12)]
noncomputable def Q_h_back2 (gi : Nat → Nat → Int32) (gl : Nat → Nat → Int64) (gr : Nat → Nat → Value) : Int32 → (Nat → Nat → Int32) → (Nat → Nat → Int64) → (Nat → Nat → Value) → Prop := fun (v : Int32) (gi2 : Nat → Nat → Int32) (gl2 : Nat → Nat → Int64) (gr2 : Nat → Nat → Value) => ((gi 0 12).toInt = 0 → v.toInt = -1 ∧ (gi2 0 12).toInt = 0) ∧ ((gi 0 12).toInt ≠ 0 → v.toInt = (gi 0 12).toInt - 1 ∧ (gi2 0 12).toInt = (gi 0 12).toInt - 1) ∧ (∀ j : Nat, (j : Int) < (gi2 0 12).toInt → gr2 19 j ≠ .null)
theorem c_h_back2 {X : x_Ext} {d : Nat} {sh : List (Nat ⊕ (Nat × Nat))} {gi : Nat → Nat → Int32} {gl : Nat → Nat → Int64} {gr : Nat → Nat → Value} (hI : t_I sh gi gr) (e_p0 : (∀ j : Nat, (j : Int) < (gi 0 12).toInt → gr 19 j ≠ .null)) : x_Me X (d + 2) n_X11_back [.ref 0] (sh, gi, gl, gr) (t_PI wl_h_back2 sh gi gl gr (-1) 2 (Q_h_back2 gi gl gr)) := by
  have hX : t_X wl_h_back2 sh gi gl gr gi gl gr := t_X.rf
  refine me_i f_X11_back (hI.wf.s rfl) rfl rfl rfl ?_
  obtain ⟨l1, u1⟩ := hI.b (hI.wf.s (k := 0) rfl) (t_bdK rfl : t_bd 10 12 = some (0, 3))
  refine ev_loc f_X11_back (nx := 1) rfl rfl rfl rfl ?_
  refine ev_gvI f_X11_back (nx := 4) (w := (gi 0 12)) rfl (hI.wf.s rfl) rfl rfl rfl rfl ?_
  refine ev_ic f_X11_back (nx := 5) (v := 1) rfl (by decide) rfl ?_
  refine ev_if f_X11_back (t1 := 22) (t2 := 8) rfl rfl rfl (fun h2 => ?_) (fun h2 => ?_)
  · have u3 : (gi 0 12).toInt ≤ 0 := t_ltu h2 (by decide : (1:Int32).toInt ≤ (1:Int)) rfl
    refine ev_loc f_X11_back (nx := 23) rfl rfl rfl rfl ?_
    refine ev_bp f_X11_back (nx := 25) (v := 6) rfl (by decide) rfl ?_
    refine ev_inV2 f_X11_back (nx := 28) (lo2 := [(0, .ref 0), (1, .int 6)]) rfl rfl rfl rfl f_X11_refuse (hI.wf.s rfl) rfl rfl rfl rfl rfl ?_
    refine ev_loc f_X11_refuse (nx := 1) rfl rfl rfl rfl ?_
    refine ev_loc f_X11_refuse (nx := 2) rfl rfl rfl rfl ?_
    refine ev_putIT f_X11_refuse (nx := 5) rfl (hI.wf.s rfl) rfl rfl rfl (hI.put0 (hI.wf.s rfl) rfl rfl) (hX.upI rfl) (fun g4 e4 hI hX => ?_)
    refine ev_ic f_X11_refuse (nx := 6) (v := -1) rfl (by decide) rfl ?_
    refine ev_retK1 f_X11_refuse rfl rfl rfl ?_
    exact ev_ret f_X11_back rfl rfl rfl ⟨_, _, _, rfl, hI, hX, ⟨_, rfl, (by decide : ((-1):Int) ≤ ((-1):Int32).toInt), (Int.le_trans (by decide : ((-1):Int32).toInt ≤ ((-1):Int)) (by decide : ((-1):Int) ≤ 2)), (show ((gi 0 12).toInt = 0 → ((-1) : Int) = -1 ∧ (g4 0 12).toInt = 0) ∧ ((gi 0 12).toInt ≠ 0 → ((-1) : Int) = (gi 0 12).toInt - 1 ∧ (g4 0 12).toInt = (gi 0 12).toInt - 1) ∧ (∀ j : Nat, (j : Int) < (g4 0 12).toInt → gr 19 j ≠ .null) from (by have ff5 : (g4 0 12).toInt = (gi 0 12).toInt := congrArg Int32.toInt ((by rw [e4]; exact x_up2_off (Or.inr (by decide)) : g4 0 12 = gi 0 12).trans rfl); refine ⟨fun _ => ⟨by omega, by omega⟩, fun h => absurd h (by omega), fun j hj => ?_⟩; exact e_p0 j (by omega)))⟩⟩
  · have l6 : 1 ≤ (gi 0 12).toInt := t_lel (t_nlt h2) (by decide : (1:Int) ≤ (1:Int32).toInt)
    refine ev_loc f_X11_back (nx := 9) rfl rfl rfl rfl ?_
    refine ev_getR f_X11_back (nx := 12) rfl (hI.wf.s rfl) rfl rfl (hI.wf.r rfl) rfl rfl ?_
    refine ev_loc f_X11_back (nx := 13) rfl rfl rfl rfl ?_
    refine ev_gvI f_X11_back (nx := 16) (w := (gi 0 12)) rfl (hI.wf.s rfl) rfl rfl rfl rfl ?_
    refine ev_ic f_X11_back (nx := 17) (v := 1) rfl (by decide) rfl ?_
    refine ev_subC f_X11_back (nx := 18) (c := 1) (l := 0) (u := 2) rfl (by decide) l6 u1 rfl rfl (by decide) (by decide) rfl (fun z7 e7 l7 u7 => ?_)
    rcases hI.2.2.2.1.2.2.1 z7.toNatClampNeg (t_idx (n := 3) l7 (by decide) u7 (by decide)).2 with e8 | ⟨a8, e8, p8⟩
    · refine ev_aald f_X11_back (nx := 19) rfl (hI.wf.s rfl) rfl (t_idx (n := 3) l7 (by decide) u7 (by decide)).1 (t_idx (n := 3) l7 (by decide) u7 (by decide)).2 e8 rfl rfl ?_
      refine ev_jmp f_X11_back (nx := 22) rfl rfl rfl ?_
      refine ev_loc f_X11_back (nx := 23) rfl rfl rfl rfl ?_
      refine ev_bp f_X11_back (nx := 25) (v := 6) rfl (by decide) rfl ?_
      refine ev_inV2 f_X11_back (nx := 28) (lo2 := [(0, .ref 0), (1, .int 6)]) rfl rfl rfl rfl f_X11_refuse (hI.wf.s rfl) rfl rfl rfl rfl rfl ?_
      refine ev_loc f_X11_refuse (nx := 1) rfl rfl rfl rfl ?_
      refine ev_loc f_X11_refuse (nx := 2) rfl rfl rfl rfl ?_
      refine ev_putIT f_X11_refuse (nx := 5) rfl (hI.wf.s rfl) rfl rfl rfl (hI.put0 (hI.wf.s rfl) rfl rfl) (hX.upI rfl) (fun g9 e9 hI hX => ?_)
      refine ev_ic f_X11_refuse (nx := 6) (v := -1) rfl (by decide) rfl ?_
      refine ev_retK1 f_X11_refuse rfl rfl rfl ?_
      exact ev_ret f_X11_back rfl rfl rfl ⟨_, _, _, rfl, hI, hX, ⟨_, rfl, (by decide : ((-1):Int) ≤ ((-1):Int32).toInt), (Int.le_trans (by decide : ((-1):Int32).toInt ≤ ((-1):Int)) (by decide : ((-1):Int) ≤ 2)), (show ((gi 0 12).toInt = 0 → ((-1) : Int) = -1 ∧ (g9 0 12).toInt = 0) ∧ ((gi 0 12).toInt ≠ 0 → ((-1) : Int) = (gi 0 12).toInt - 1 ∧ (g9 0 12).toInt = (gi 0 12).toInt - 1) ∧ (∀ j : Nat, (j : Int) < (g9 0 12).toInt → gr 19 j ≠ .null) from (by exfalso; have hc := t_clamp (i := z7) (by omega); exact e_p0 _ (by omega) e8))⟩⟩
    · refine ev_aald f_X11_back (nx := 19) rfl (hI.wf.s rfl) rfl (t_idx (n := 3) l7 (by decide) u7 (by decide)).1 (t_idx (n := 3) l7 (by decide) u7 (by decide)).2 e8 rfl rfl ?_
      refine ev_jmp f_X11_back (nx := 29) rfl rfl rfl ?_
      refine ev_loc f_X11_back (nx := 30) rfl rfl rfl rfl ?_
      refine ev_alu f_X11_back (nx := 31) rfl rfl rfl rfl ?_
      refine ev_gvI f_X11_back (nx := 34) (w := (gi 0 12)) rfl (hI.wf.s rfl) rfl rfl rfl rfl ?_
      refine ev_ic f_X11_back (nx := 35) (v := 1) rfl (by decide) rfl ?_
      refine ev_subC f_X11_back (nx := 36) (c := 1) (l := 0) (u := 2) rfl (by decide) l6 u1 rfl rfl (by decide) (by decide) rfl (fun z11 e11 l11 u11 => ?_)
      refine ev_putIT f_X11_back (nx := 39) rfl (hI.wf.s rfl) rfl rfl rfl (hI.putB (hI.wf.s rfl) rfl rfl l11 (by decide) u11 (by decide)) (hX.upI rfl) (fun g12 e12 hI hX => ?_)
      refine ev_loc f_X11_back (nx := 40) rfl rfl rfl rfl ?_
      refine ev_loc f_X11_back (nx := 41) rfl rfl rfl rfl ?_
      refine ev_getR f_X11_back (nx := 44) rfl (hI.wf.s rfl) rfl rfl (hI.wf.r rfl) rfl rfl ?_
      refine ev_loc f_X11_back (nx := 45) rfl rfl rfl rfl ?_
      refine ev_gvI f_X11_back (nx := 48) (w := z11) rfl (hI.wf.s rfl) rfl rfl (by rw [e12]; exact x_up2_at _ _ _ _ : g12 0 12 = z11) rfl ?_
      refine ev_aald f_X11_back (nx := 49) (v := .ref a8) rfl (hI.wf.s rfl) rfl (t_idx (n := 3) l11 (by decide) u11 (by decide)).1 (t_idx (n := 3) l11 (by decide) u11 (by decide)).2 (by rw [t_ceq (by omega : z11.toInt = z7.toInt)]; exact e8) rfl rfl ?_
      have hE14 := t_eqf_up (gr := gr) (j := 6) (v := .ref a8) (hI.wf.s (k := 0) rfl) rfl
      have hT14 := t_putRiver hI p8
      replace p8 := p8.ext hE14
      refine ev_putRT f_X11_back (nx := 52) rfl (hI.wf.s rfl) rfl rfl rfl rfl hT14 (hX.upR rfl hE14) (fun g14 e14 hI hX => ?_)
      rw [← e14] at p8
      refine ev_loc f_X11_back (nx := 53) rfl rfl rfl rfl ?_
      refine ev_loc f_X11_back (nx := 54) rfl rfl rfl rfl ?_
      refine ev_getR f_X11_back (nx := 57) rfl (hI.wf.s rfl) rfl rfl (hI.wf.r rfl) rfl rfl ?_
      refine ev_loc f_X11_back (nx := 58) rfl rfl rfl rfl ?_
      refine ev_gvI f_X11_back (nx := 61) (w := z11) rfl (hI.wf.s rfl) rfl rfl (by rw [e12]; exact x_up2_at _ _ _ _ : g12 0 12 = z11) rfl ?_
      rcases hI.2.2.2.1.2.2.2.1 z11.toNatClampNeg (t_idx (n := 3) l11 (by decide) u11 (by decide)).2 with e15 | ⟨a15, e15, p15⟩
      · refine ev_aald f_X11_back (nx := 62) rfl (hI.wf.s rfl) rfl (t_idx (n := 3) l11 (by decide) u11 (by decide)).1 (t_idx (n := 3) l11 (by decide) u11 (by decide)).2 e15 rfl rfl ?_
        have hE16 := t_eqf_up (gr := g14) (j := 7) (v := .null) (hI.wf.s (k := 0) rfl) rfl
        have hT16 := t_putRules hI (v := .null) (Or.inl rfl)
        replace p8 := p8.ext hE16
        refine ev_putRT f_X11_back (nx := 65) rfl (hI.wf.s rfl) rfl rfl rfl rfl hT16 (hX.upR rfl hE16) (fun g16 e16 hI hX => ?_)
        rw [← e16] at p8
        refine ev_loc f_X11_back (nx := 66) rfl rfl rfl rfl ?_
        refine ev_loc f_X11_back (nx := 67) rfl rfl rfl rfl ?_
        refine ev_gvI f_X11_back (nx := 70) (w := z11) rfl (hI.wf.s rfl) rfl rfl (by rw [e12]; exact x_up2_at _ _ _ _ : g12 0 12 = z11) rfl ?_
        refine ev_inV2 f_X11_back (nx := 73) (lo2 := [(0, .ref 0), (1, .int z11)]) rfl rfl rfl rfl f_X11_answer (hI.wf.s rfl) rfl rfl rfl rfl rfl ?_
        refine ev_loc f_X11_answer (nx := 1) rfl rfl rfl rfl ?_
        refine ev_ic f_X11_answer (nx := 2) (v := 0) rfl (by decide) rfl ?_
        refine ev_putIT f_X11_answer (nx := 5) rfl (hI.wf.s rfl) rfl rfl rfl (hI.put0 (hI.wf.s rfl) rfl rfl) (hX.upI rfl) (fun g17 e17 hI hX => ?_)
        refine ev_loc f_X11_answer (nx := 6) rfl rfl rfl rfl ?_
        refine ev_retK1 f_X11_answer rfl rfl rfl ?_
        exact ev_ret f_X11_back rfl rfl rfl ⟨_, _, _, rfl, hI, hX, ⟨_, rfl, (Int.le_trans (by decide : ((-1):Int) ≤ 0) l11), u11, (show ((gi 0 12).toInt = 0 → z11.toInt = -1 ∧ (g17 0 12).toInt = 0) ∧ ((gi 0 12).toInt ≠ 0 → z11.toInt = (gi 0 12).toInt - 1 ∧ (g17 0 12).toInt = (gi 0 12).toInt - 1) ∧ (∀ j : Nat, (j : Int) < (g17 0 12).toInt → g16 19 j ≠ .null) from (by have ff18 : (g17 0 12).toInt = z11.toInt := congrArg Int32.toInt ((by rw [e17]; exact x_up2_off (Or.inr (by decide)) : g17 0 12 = g12 0 12).trans (by rw [e12]; exact x_up2_at _ _ _ _ : g12 0 12 = z11)); refine ⟨fun h => absurd h (by omega), fun _ => ⟨by omega, by omega⟩, fun j hj => ?_⟩; rw [e16, x_up2_off (Or.inl (by decide))]; rw [e14, x_up2_off (Or.inl (by decide))]; exact e_p0 j (by omega)))⟩⟩
      · refine ev_aald f_X11_back (nx := 62) rfl (hI.wf.s rfl) rfl (t_idx (n := 3) l11 (by decide) u11 (by decide)).1 (t_idx (n := 3) l11 (by decide) u11 (by decide)).2 e15 rfl rfl ?_
        have hE19 := t_eqf_up (gr := g14) (j := 7) (v := .ref a15) (hI.wf.s (k := 0) rfl) rfl
        have hT19 := t_putRules hI (v := .ref a15) (Or.inr ⟨_, rfl, p15⟩)
        replace p8 := p8.ext hE19
        replace p15 := p15.ext hE19
        refine ev_putRT f_X11_back (nx := 65) rfl (hI.wf.s rfl) rfl rfl rfl rfl hT19 (hX.upR rfl hE19) (fun g19 e19 hI hX => ?_)
        rw [← e19] at p8
        rw [← e19] at p15
        refine ev_loc f_X11_back (nx := 66) rfl rfl rfl rfl ?_
        refine ev_loc f_X11_back (nx := 67) rfl rfl rfl rfl ?_
        refine ev_gvI f_X11_back (nx := 70) (w := z11) rfl (hI.wf.s rfl) rfl rfl (by rw [e12]; exact x_up2_at _ _ _ _ : g12 0 12 = z11) rfl ?_
        refine ev_inV2 f_X11_back (nx := 73) (lo2 := [(0, .ref 0), (1, .int z11)]) rfl rfl rfl rfl f_X11_answer (hI.wf.s rfl) rfl rfl rfl rfl rfl ?_
        refine ev_loc f_X11_answer (nx := 1) rfl rfl rfl rfl ?_
        refine ev_ic f_X11_answer (nx := 2) (v := 0) rfl (by decide) rfl ?_
        refine ev_putIT f_X11_answer (nx := 5) rfl (hI.wf.s rfl) rfl rfl rfl (hI.put0 (hI.wf.s rfl) rfl rfl) (hX.upI rfl) (fun g20 e20 hI hX => ?_)
        refine ev_loc f_X11_answer (nx := 6) rfl rfl rfl rfl ?_
        refine ev_retK1 f_X11_answer rfl rfl rfl ?_
        exact ev_ret f_X11_back rfl rfl rfl ⟨_, _, _, rfl, hI, hX, ⟨_, rfl, (Int.le_trans (by decide : ((-1):Int) ≤ 0) l11), u11, (show ((gi 0 12).toInt = 0 → z11.toInt = -1 ∧ (g20 0 12).toInt = 0) ∧ ((gi 0 12).toInt ≠ 0 → z11.toInt = (gi 0 12).toInt - 1 ∧ (g20 0 12).toInt = (gi 0 12).toInt - 1) ∧ (∀ j : Nat, (j : Int) < (g20 0 12).toInt → g19 19 j ≠ .null) from (by have ff21 : (g20 0 12).toInt = z11.toInt := congrArg Int32.toInt ((by rw [e20]; exact x_up2_off (Or.inr (by decide)) : g20 0 12 = g12 0 12).trans (by rw [e12]; exact x_up2_at _ _ _ _ : g12 0 12 = z11)); refine ⟨fun h => absurd h (by omega), fun _ => ⟨by omega, by omega⟩, fun j hj => ?_⟩; rw [e19, x_up2_off (Or.inl (by decide))]; rw [e14, x_up2_off (Or.inl (by decide))]; exact e_p0 j (by omega)))⟩⟩
