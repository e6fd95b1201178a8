/-! ===== printed by mdl5.py: contracts of the model ===== -/
/-! RULES as rows of asks: no step reaches below -/
noncomputable def t_hs (w : Int) (h : Nat) : Option Nat := if w = 20 then (if 1 ≤ h then some h else none) else if w = 18 ∨ w = 19 then (if 2 ≤ h then some (h - 1) else none) else if h < 30 then some (h + 1) else none
noncomputable def t_run (f : Nat → Int32) : Nat → Nat → Nat → Option Nat
  | 0, _, h => some h
  | m + 1, k, h => (t_hs (f k).toInt h).bind (t_run f m (k + 1))
noncomputable def t_hg (f : Nat → Int32) (s r : Nat) : Nat := (f (350 * s + 101 + 3 * r)).toInt.toNat
noncomputable def t_lw (f : Nat → Int32) (s r : Nat) : Nat := (f (350 * s + 100 + 3 * r)).toInt.toNat
noncomputable def t_ok (f : Nat → Int32) (s r k h : Nat) : Prop := (t_run (fun j => f (350 * s + 140 + j)) (t_hg f s r - k) k h).isSome = true
noncomputable def t_good (f : Nat → Int32) (s r : Nat) : Prop := t_ok f s r (t_lw f s r) 0
noncomputable def t_rpn (f : Nat → Int32) (s : Nat) : Prop := ∀ r : Nat, (r : Int) < (f (350 * s + 3)).toInt → t_good f s r
theorem t_ldeq {g g0 : Nat → Nat → Int32} {w i : Int32} {c p : Nat} (e : w = g c i.toNatClampNeg) (hJ : ∀ j, g c j = g0 c j) (h0 : 0 ≤ i.toInt) (hp : i.toInt = (p : Int)) : w = g0 c p := by
  rw [e, hJ]
  congr 1
  have := t_clamp h0
  omega
theorem t_ok1 {f : Nat → Int32} {s r k h : Nat} {w x : Int32} (H : t_ok f s r k h) (eh : x = f (350 * s + 101 + 3 * r)) (hk : (k : Int) < x.toInt) (e : w = f (350 * s + 140 + k)) : ∃ h', t_hs w.toInt h = some h' ∧ t_ok f s r (k + 1) h' := by
  unfold t_ok at H
  have h1 : t_hg f s r = x.toInt.toNat := by unfold t_hg; rw [← eh]
  rw [show t_hg f s r - k = (t_hg f s r - (k + 1)) + 1 by omega] at H
  simp only [t_run] at H
  rw [← e] at H
  cases hc : t_hs w.toInt h with
  | none => rw [hc] at H; cases H
  | some h' =>
    rw [hc] at H
    exact ⟨h', rfl, H⟩
theorem t_okA {f : Nat → Int32} {s r k h : Nat} {w x : Int32} (H : t_ok f s r k h) (eh : x = f (350 * s + 101 + 3 * r)) (hk : (k : Int) < x.toInt) (e : w = f (350 * s + 140 + k)) : (w.toInt = 20 → 1 ≤ h) ∧ (w.toInt = 18 ∨ w.toInt = 19 → 2 ≤ h) ∧ (w.toInt ≠ 20 → w.toInt ≠ 18 → w.toInt ≠ 19 → h < 30) := by
  obtain ⟨h', h1, -⟩ := t_ok1 H eh hk e
  unfold t_hs at h1
  split at h1
  · split at h1
    · omega
    · cases h1
  · split at h1
    · split at h1
      · omega
      · cases h1
    · split at h1
      · omega
      · cases h1
theorem t_okN {f : Nat → Int32} {s r k h : Nat} {w x : Int32} (H : t_ok f s r k h) (eh : x = f (350 * s + 101 + 3 * r)) (hk : (k : Int) < x.toInt) (e : w = f (350 * s + 140 + k)) (hw : w.toInt = 20) : t_ok f s r (k + 1) h := by
  obtain ⟨h', h1, h2⟩ := t_ok1 H eh hk e
  unfold t_hs at h1
  rw [if_pos hw] at h1
  split at h1
  · cases h1; exact h2
  · cases h1
theorem t_okB {f : Nat → Int32} {s r k h : Nat} {w x : Int32} (H : t_ok f s r k h) (eh : x = f (350 * s + 101 + 3 * r)) (hk : (k : Int) < x.toInt) (e : w = f (350 * s + 140 + k)) (hw : w.toInt = 18 ∨ w.toInt = 19) : t_ok f s r (k + 1) (h - 1) := by
  obtain ⟨h', h1, h2⟩ := t_ok1 H eh hk e
  unfold t_hs at h1
  rw [if_neg (by omega), if_pos hw] at h1
  split at h1
  · cases h1; exact h2
  · cases h1
theorem t_okP {f : Nat → Int32} {s r k h : Nat} {w x : Int32} (H : t_ok f s r k h) (eh : x = f (350 * s + 101 + 3 * r)) (hk : (k : Int) < x.toInt) (e : w = f (350 * s + 140 + k)) (h1' : w.toInt ≠ 20) (h2' : w.toInt ≠ 18) (h3' : w.toInt ≠ 19) : t_ok f s r (k + 1) (h + 1) := by
  obtain ⟨h', h1, h2⟩ := t_ok1 H eh hk e
  unfold t_hs at h1
  rw [if_neg h1', if_neg (by omega)] at h1
  split at h1
  · cases h1; exact h2
  · cases h1
noncomputable def wl_m_holds : List (Nat × Nat) := [(100, 9999)]
theorem c_m_holds {X : x_Ext} {d : Nat} {sh : List (Nat ⊕ (Nat × Nat))} {gi : Nat → Nat → Int32} {gl : Nat → Nat → Int64} {gr : Nat → Nat → Value} (hI : t_I sh gi gr) (ar1 : Int32) (l_a1 : 0 ≤ ar1.toInt) (u_a1 : ar1.toInt ≤ 11) (e_p0 : t_good (gi 70) 0 ar1.toInt.toNat) : x_Me X (d + 3) n_X12_holds [.ref 69, .int ar1] (sh, gi, gl, gr) (t_P wl_m_holds sh gi gl gr (t_Ri 0 1)) := by
  have hX : t_X wl_m_holds sh gi gl gr gi gl gr := t_X.rf
  refine me_i f_X12_holds (hI.wf.s rfl) rfl rfl rfl ?_
  refine ev_ic f_X12_holds (nx := 1) (v := 0) rfl (by decide) rfl ?_
  refine ev_loc f_X12_holds (nx := 2) (lo' := [(2, .int 0), (0, .ref 69), (1, .int ar1)]) rfl rfl rfl rfl ?_
  refine ev_loc f_X12_holds (nx := 3) rfl rfl rfl rfl ?_
  refine ev_getR f_X12_holds (nx := 6) rfl (hI.wf.s rfl) rfl rfl (hI.wf.r rfl) rfl rfl ?_
  refine ev_bp f_X12_holds (nx := 8) (v := 100) rfl (by decide) rfl ?_
  refine ev_ic f_X12_holds (nx := 9) (v := 3) rfl (by decide) rfl ?_
  refine ev_loc f_X12_holds (nx := 10) rfl rfl rfl rfl ?_
  refine ev_mulL f_X12_holds (nx := 11) (c := 3) (l := 0) (u := 33) rfl (by decide) (by decide) l_a1 u_a1 rfl rfl (by decide) (by decide) rfl (fun z1 e1 l1 u1 => ?_)
  refine ev_addK f_X12_holds (nx := 12) (c := 100) (l := 100) (u := 133) rfl (by decide) l1 u1 rfl rfl (by decide) (by decide) rfl (fun z2 e2 l2 u2 => ?_)
  refine ev_ialdT f_X12_holds (nx := 13) rfl (hI.wf.s rfl) l2 (by decide) u2 (by decide) rfl (fun w3 e3 => ?_)
  obtain ⟨l3, u3⟩ := hI.abA (x := ar1) e3 (by decide +kernel : t_aba 70 100 3 0 11 0 210 = true) (by omega) (by omega) (by omega)
  refine ev_loc f_X12_holds (nx := 14) (lo' := [(3, .int w3), (2, .int 0), (0, .ref 69), (1, .int ar1)]) rfl rfl rfl rfl ?_
  have L4 : ∀ (m4 : Nat) (gi4 : Nat → Nat → Int32) (gl4 : Nat → Nat → Int64) (gr4 : Nat → Nat → Value) (y4_3 : Int32) (y4_2 : Int32), t_I sh gi4 gr4 → t_X wl_m_holds sh gi gl gr gi4 gl4 gr4 → 0 ≤ y4_3.toInt → y4_3.toInt ≤ 210 → 0 ≤ y4_2.toInt → y4_2.toInt ≤ 30 → gi4 70 z2.toNatClampNeg = w3 → t_ok (gi 70) 0 ar1.toInt.toNat y4_3.toInt.toNat y4_2.toInt.toNat → (∀ j, gi4 70 j = gi 70 j) → (210 - y4_3.toInt).toNat = m4 → x_Ev X (d + 3) n_X12_holds 14 [(3, .int y4_3), (2, .int y4_2), (0, .ref 69), (1, .int ar1)] [] (sh, gi4, gl4, gr4) (t_P wl_m_holds sh gi gl gr (t_Ri 0 1)) := by
    intro m4
    induction m4 using Nat.strongRecOn with
    | _ m4 ih4 =>
    intro gi4 gl4 gr4 y4_3 y4_2 hI hX l4_3 u4_3 l4_2 u4_2 c4_0 j4_0 j4_1 hm4
    refine ev_loc f_X12_holds (nx := 15) rfl rfl rfl rfl ?_
    refine ev_loc f_X12_holds (nx := 16) rfl rfl rfl rfl ?_
    refine ev_getR f_X12_holds (nx := 19) rfl (hI.wf.s rfl) rfl rfl (hI.wf.r rfl) rfl rfl ?_
    refine ev_bp f_X12_holds (nx := 21) (v := 100) rfl (by decide) rfl ?_
    refine ev_ic f_X12_holds (nx := 22) (v := 3) rfl (by decide) rfl ?_
    refine ev_loc f_X12_holds (nx := 23) rfl rfl rfl rfl ?_
    refine ev_mulL f_X12_holds (nx := 24) (c := 3) (l := 0) (u := 33) rfl (by decide) (by decide) l_a1 u_a1 rfl rfl (by decide) (by decide) rfl (fun z5 e5 l5 u5 => ?_)
    refine ev_addK f_X12_holds (nx := 25) (c := 100) (l := 100) (u := 133) rfl (by decide) l5 u5 rfl rfl (by decide) (by decide) rfl (fun z6 e6 l6 u6 => ?_)
    refine ev_ic f_X12_holds (nx := 26) (v := 1) rfl (by decide) rfl ?_
    refine ev_addC f_X12_holds (nx := 27) (c := 1) (l := 101) (u := 134) rfl (by decide) l6 u6 rfl rfl (by decide) (by decide) rfl (fun z7 e7 l7 u7 => ?_)
    refine ev_ialdT f_X12_holds (nx := 28) rfl (hI.wf.s rfl) l7 (by decide) u7 (by decide) rfl (fun w8 e8 => ?_)
    obtain ⟨l8, u8⟩ := hI.abA (x := ar1) e8 (by decide +kernel : t_aba 70 101 3 0 11 0 210 = true) (by omega) (by omega) (by omega)
    refine ev_if f_X12_holds (t1 := 186) (t2 := 31) rfl rfl rfl (fun h9 => ?_) (fun h9 => ?_)
    · have r10 : w8.toInt ≤ y4_3.toInt := Int32.le_iff_toInt_le.mp h9
      refine ev_loc f_X12_holds (nx := 187) rfl rfl rfl rfl ?_
      refine ev_getR f_X12_holds (nx := 190) rfl (hI.wf.s rfl) rfl rfl (hI.wf.r rfl) rfl rfl ?_
      refine ev_ic f_X12_holds (nx := 191) (v := 0) rfl (by decide) rfl ?_
      refine ev_baldT f_X12_holds (nx := 192) rfl (hI.wf.s rfl) rfl (by decide : (0:Int) ≤ (0:Int32).toInt) (by decide) (by decide : (0:Int32).toInt ≤ (0:Int)) (by decide) rfl (fun w11 e11 => ?_)
      obtain ⟨l11, u11⟩ := hI.abi e11 (by decide +kernel : t_abr 100 0 0 0 1 = true) (by decide : (0:Int) ≤ (0:Int32).toInt) (by decide) (by decide : (0:Int32).toInt ≤ (0:Int)) (by decide)
      exact ev_retZ f_X12_holds rfl l11 u11 ⟨_, _, _, rfl, hI, hX, ⟨_, rfl, l11, u11⟩⟩
    · have r12 : y4_3.toInt < w8.toInt := Int32.lt_iff_toInt_lt.mp (t_nle h9)
      have u13 : y4_3.toInt ≤ 209 := t_ltu (t_nle h9) u8 rfl
      have l14 : 1 ≤ w8.toInt := t_ltl (t_nle h9) l4_3 rfl
      refine ev_loc f_X12_holds (nx := 32) rfl rfl rfl rfl ?_
      refine ev_getR f_X12_holds (nx := 35) rfl (hI.wf.s rfl) rfl rfl (hI.wf.r rfl) rfl rfl ?_
      refine ev_sp f_X12_holds (nx := 38) (v := 140) rfl (by decide) rfl ?_
      refine ev_loc f_X12_holds (nx := 39) rfl rfl rfl rfl ?_
      refine ev_addK f_X12_holds (nx := 40) (c := 140) (l := 140) (u := 349) rfl (by decide) l4_3 u13 rfl rfl (by decide) (by decide) rfl (fun z15 e15 l15 u15 => ?_)
      refine ev_ialdT f_X12_holds (nx := 41) rfl (hI.wf.s rfl) l15 (by decide) u15 (by decide) rfl (fun w16 e16 => ?_)
      refine ev_loc f_X12_holds (nx := 43) (lo' := [(4, .int w16), (3, .int y4_3), (2, .int y4_2), (0, .ref 69), (1, .int ar1)]) rfl rfl rfl rfl ?_
      have ha17 := t_ldeq (g0 := gi) (p := 350 * 0 + 101 + 3 * ar1.toInt.toNat) e8 j4_1 (by omega) (by omega)
      have hb17 := t_ldeq (g0 := gi) (p := 350 * 0 + 140 + y4_3.toInt.toNat) e16 j4_1 (by omega) (by omega)
      have hk17 : ((y4_3.toInt.toNat : Nat) : Int) < w8.toInt := by omega
      have hs17 := t_okA j4_0 ha17 hk17 hb17
      refine ev_loc f_X12_holds (nx := 45) rfl rfl rfl rfl ?_
      refine ev_bp f_X12_holds (nx := 47) (v := 20) rfl (by decide) rfl ?_
      refine ev_if f_X12_holds (t1 := 50) (t2 := 77) rfl rfl rfl (fun h18 => ?_) (fun h18 => ?_)
      · have u19 : w16.toInt ≤ 20 := t_equ h18 (by decide : (20:Int32).toInt ≤ (20:Int))
        have l20 : 20 ≤ w16.toInt := t_eql h18 (by decide : (20:Int) ≤ (20:Int32).toInt)
        refine ev_loc f_X12_holds (nx := 51) rfl rfl rfl rfl ?_
        refine ev_getR f_X12_holds (nx := 54) rfl (hI.wf.s rfl) rfl rfl (hI.wf.r rfl) rfl rfl ?_
        refine ev_loc f_X12_holds (nx := 55) rfl rfl rfl rfl ?_
        refine ev_ic f_X12_holds (nx := 56) (v := 1) rfl (by decide) rfl ?_
        refine ev_subC f_X12_holds (nx := 57) (c := 1) (l := (-1)) (u := 29) rfl (by decide) l4_2 u4_2 rfl rfl (by decide) (by decide) rfl (fun z21 e21 l21 u21 => ?_)
        refine ev_loc f_X12_holds (nx := 58) rfl rfl rfl rfl ?_
        refine ev_getR f_X12_holds (nx := 61) rfl (hI.wf.s rfl) rfl rfl (hI.wf.r rfl) rfl rfl ?_
        refine ev_loc f_X12_holds (nx := 62) rfl rfl rfl rfl ?_
        refine ev_ic f_X12_holds (nx := 63) (v := 1) rfl (by decide) rfl ?_
        refine ev_subC f_X12_holds (nx := 64) (c := 1) (l := (-1)) (u := 29) rfl (by decide) l4_2 u4_2 rfl rfl (by decide) (by decide) rfl (fun z22 e22 l22 u22 => ?_)
        have l24 : (0:Int) ≤ z22.toInt := (by have hs := hs17; omega)
        refine ev_baldT f_X12_holds (nx := 65) rfl (hI.wf.s rfl) rfl l24 (by decide) u22 (by decide) rfl (fun w23 e23 => ?_)
        obtain ⟨l23, u23⟩ := hI.abi e23 (by decide +kernel : t_abr 100 0 29 0 1 = true) l24 (by decide) u22 (by decide)
        refine ev_if f_X12_holds (t1 := 68) (t2 := 72) rfl rfl rfl (fun h25 => ?_) (fun h25 => ?_)
        · have u26 : w23.toInt ≤ 0 := t_equ h25 (by decide : (0:Int32).toInt ≤ (0:Int))
          refine ev_ic f_X12_holds (nx := 69) (v := 1) rfl (by decide) rfl ?_
          refine ev_jmp f_X12_holds (nx := 73) rfl rfl rfl ?_
          have l28 : (0:Int) ≤ z21.toInt := (by have hs := hs17; omega)
          refine ev_zastT f_X12_holds (nx := 74) rfl (hI.wf.s rfl) l28 (by decide) u21 (by decide) rfl (fun x l u => hI.astL (hI.wf.s rfl) (by decide +kernel : t_abw 100 0 29 0 1 = true) (t_cl1 l28 (by decide)) (t_cl2 l28 u21 (by decide) (by decide)) l u rfl) (fun x => hX.upI (t_inA_ok rfl)) (fun g27 x27 e27 hI hX => ?_)
          refine ev_jmp f_X12_holds (nx := 180) rfl rfl rfl ?_
          refine ev_incR f_X12_holds (nx := 183) (c := 1) (l := 1) (u := 210) rfl rfl (by decide) (by decide) l4_3 u13 rfl rfl (by decide) (by decide) rfl (fun z29 e29 l29 u29 => ?_)
          refine ev_jmp f_X12_holds (nx := 14) rfl rfl rfl ?_
          refine ev_sub (lo := [(3, .int z29), (2, .int y4_2), (0, .ref 69), (1, .int ar1)]) rfl (t_sc rfl (t_sc rfl (t_sc rfl (t_sc rfl t_sn)))) ?_
          exact ih4 _ (by omega) g27 gl4 gr4 (z29) (y4_2) hI hX  (Int.le_trans (by decide : (0:Int) ≤ 1) l29) u29 l4_2 u4_2 ((by rw [e27]; exact x_up2_off (Or.inl (by decide)) : g27 70 z2.toNatClampNeg = gi4 70 z2.toNatClampNeg).trans c4_0) (by have hz : z29.toInt.toNat = y4_3.toInt.toNat + 1 := (by omega); rw [hz]; exact t_okN j4_0 ha17 hk17 hb17 (by omega)) (fun j => (congrFun ((by rw [e27]; exact x_up2_ne (by decide) : g27 70 = gi4 70)) j).trans (j4_1 j)) rfl
        · have r30 : w23.toInt ≠ 0 := fun e => h25 (Int32.toInt_inj.mp (e.trans (by decide : (0:Int) = (0 : Int32).toInt)))
          have l31 : 1 ≤ w23.toInt := t_nel h25 l23 rfl rfl
          refine ev_ic f_X12_holds (nx := 73) (v := 0) rfl (by decide) rfl ?_
          have l33 : (0:Int) ≤ z21.toInt := (by have hs := hs17; omega)
          refine ev_zastT f_X12_holds (nx := 74) rfl (hI.wf.s rfl) l33 (by decide) u21 (by decide) rfl (fun x l u => hI.astL (hI.wf.s rfl) (by decide +kernel : t_abw 100 0 29 0 1 = true) (t_cl1 l33 (by decide)) (t_cl2 l33 u21 (by decide) (by decide)) l u rfl) (fun x => hX.upI (t_inA_ok rfl)) (fun g32 x32 e32 hI hX => ?_)
          refine ev_jmp f_X12_holds (nx := 180) rfl rfl rfl ?_
          refine ev_incR f_X12_holds (nx := 183) (c := 1) (l := 1) (u := 210) rfl rfl (by decide) (by decide) l4_3 u13 rfl rfl (by decide) (by decide) rfl (fun z34 e34 l34 u34 => ?_)
          refine ev_jmp f_X12_holds (nx := 14) rfl rfl rfl ?_
          refine ev_sub (lo := [(3, .int z34), (2, .int y4_2), (0, .ref 69), (1, .int ar1)]) rfl (t_sc rfl (t_sc rfl (t_sc rfl (t_sc rfl t_sn)))) ?_
          exact ih4 _ (by omega) g32 gl4 gr4 (z34) (y4_2) hI hX  (Int.le_trans (by decide : (0:Int) ≤ 1) l34) u34 l4_2 u4_2 ((by rw [e32]; exact x_up2_off (Or.inl (by decide)) : g32 70 z2.toNatClampNeg = gi4 70 z2.toNatClampNeg).trans c4_0) (by have hz : z34.toInt.toNat = y4_3.toInt.toNat + 1 := (by omega); rw [hz]; exact t_okN j4_0 ha17 hk17 hb17 (by omega)) (fun j => (congrFun ((by rw [e32]; exact x_up2_ne (by decide) : g32 70 = gi4 70)) j).trans (j4_1 j)) rfl
      · have r35 : w16.toInt ≠ 20 := fun e => h18 (Int32.toInt_inj.mp (e.trans (by decide : (20:Int) = (20 : Int32).toInt)))
        refine ev_loc f_X12_holds (nx := 79) rfl rfl rfl rfl ?_
        refine ev_bp f_X12_holds (nx := 81) (v := 19) rfl (by decide) rfl ?_
        refine ev_if f_X12_holds (t1 := 91) (t2 := 84) rfl rfl rfl (fun h36 => ?_) (fun h36 => ?_)
        · have u37 : w16.toInt ≤ 19 := t_equ h36 (by decide : (19:Int32).toInt ≤ (19:Int))
          have l38 : 19 ≤ w16.toInt := t_eql h36 (by decide : (19:Int) ≤ (19:Int32).toInt)
          refine ev_incR f_X12_holds (nx := 94) (c := (-1)) (l := (-1)) (u := 29) rfl rfl (by decide) (by decide) l4_2 u4_2 rfl rfl (by decide) (by decide) rfl (fun z39 e39 l39 u39 => ?_)
          refine ev_loc f_X12_holds (nx := 95) rfl rfl rfl rfl ?_
          refine ev_getR f_X12_holds (nx := 98) rfl (hI.wf.s rfl) rfl rfl (hI.wf.r rfl) rfl rfl ?_
          refine ev_loc f_X12_holds (nx := 99) rfl rfl rfl rfl ?_
          refine ev_ic f_X12_holds (nx := 100) (v := 1) rfl (by decide) rfl ?_
          refine ev_subC f_X12_holds (nx := 101) (c := 1) (l := (-2)) (u := 28) rfl (by decide) l39 u39 rfl rfl (by decide) (by decide) rfl (fun z40 e40 l40 u40 => ?_)
          refine ev_loc f_X12_holds (nx := 103) rfl rfl rfl rfl ?_
          refine ev_bp f_X12_holds (nx := 105) (v := 19) rfl (by decide) rfl ?_
          refine ev_t f_X12_holds (t1 := 108) (t2 := 136) rfl rfl rfl (t_eqT u37 l38 (by decide : (19:Int32).toInt ≤ (19:Int)) (by decide : (19:Int) ≤ (19:Int32).toInt)) ?_
          refine ev_loc f_X12_holds (nx := 109) rfl rfl rfl rfl ?_
          refine ev_getR f_X12_holds (nx := 112) rfl (hI.wf.s rfl) rfl rfl (hI.wf.r rfl) rfl rfl ?_
          refine ev_loc f_X12_holds (nx := 113) rfl rfl rfl rfl ?_
          refine ev_ic f_X12_holds (nx := 114) (v := 1) rfl (by decide) rfl ?_
          refine ev_subC f_X12_holds (nx := 115) (c := 1) (l := (-2)) (u := 28) rfl (by decide) l39 u39 rfl rfl (by decide) (by decide) rfl (fun z41 e41 l41 u41 => ?_)
          have l43 : (0:Int) ≤ z41.toInt := (by have hs := hs17; omega)
          refine ev_baldT f_X12_holds (nx := 116) rfl (hI.wf.s rfl) rfl l43 (by decide) u41 (by decide) rfl (fun w42 e42 => ?_)
          obtain ⟨l42, u42⟩ := hI.abi e42 (by decide +kernel : t_abr 100 0 28 0 1 = true) l43 (by decide) u41 (by decide)
          refine ev_if f_X12_holds (t1 := 132) (t2 := 119) rfl rfl rfl (fun h44 => ?_) (fun h44 => ?_)
          · have u45 : w42.toInt ≤ 0 := t_equ h44 (by decide : (0:Int32).toInt ≤ (0:Int))
            refine ev_ic f_X12_holds (nx := 133) (v := 0) rfl (by decide) rfl ?_
            refine ev_jmp f_X12_holds (nx := 161) rfl rfl rfl ?_
            have l47 : (0:Int) ≤ z40.toInt := (by have hs := hs17; omega)
            refine ev_zastT f_X12_holds (nx := 162) rfl (hI.wf.s rfl) l47 (by decide) u40 (by decide) rfl (fun x l u => hI.astL (hI.wf.s rfl) (by decide +kernel : t_abw 100 0 28 0 1 = true) (t_cl1 l47 (by decide)) (t_cl2 l47 u40 (by decide) (by decide)) l u rfl) (fun x => hX.upI (t_inA_ok rfl)) (fun g46 x46 e46 hI hX => ?_)
            refine ev_jmp f_X12_holds (nx := 180) rfl rfl rfl ?_
            refine ev_incR f_X12_holds (nx := 183) (c := 1) (l := 1) (u := 210) rfl rfl (by decide) (by decide) l4_3 u13 rfl rfl (by decide) (by decide) rfl (fun z48 e48 l48 u48 => ?_)
            refine ev_jmp f_X12_holds (nx := 14) rfl rfl rfl ?_
            refine ev_sub (lo := [(3, .int z48), (2, .int z39), (0, .ref 69), (1, .int ar1)]) rfl (t_sc rfl (t_sc rfl (t_sc rfl (t_sc rfl t_sn)))) ?_
            exact ih4 _ (by omega) g46 gl4 gr4 (z48) (z39) hI hX  (Int.le_trans (by decide : (0:Int) ≤ 1) l48) u48 (by omega : (0:Int) ≤ z39.toInt) (Int.le_trans u39 (by decide : (29:Int) ≤ 30)) ((by rw [e46]; exact x_up2_off (Or.inl (by decide)) : g46 70 z2.toNatClampNeg = gi4 70 z2.toNatClampNeg).trans c4_0) (by have hz : z48.toInt.toNat = y4_3.toInt.toNat + 1 := (by omega); have hn : z39.toInt.toNat = y4_2.toInt.toNat - 1 := (by omega); rw [hz, hn]; exact t_okB j4_0 ha17 hk17 hb17 (by omega)) (fun j => (congrFun ((by rw [e46]; exact x_up2_ne (by decide) : g46 70 = gi4 70)) j).trans (j4_1 j)) rfl
          · have r49 : w42.toInt ≠ 0 := fun e => h44 (Int32.toInt_inj.mp (e.trans (by decide : (0:Int) = (0 : Int32).toInt)))
            have l50 : 1 ≤ w42.toInt := t_nel h44 l42 rfl rfl
            refine ev_loc f_X12_holds (nx := 120) rfl rfl rfl rfl ?_
            refine ev_getR f_X12_holds (nx := 123) rfl (hI.wf.s rfl) rfl rfl (hI.wf.r rfl) rfl rfl ?_
            refine ev_loc f_X12_holds (nx := 124) rfl rfl rfl rfl ?_
            have l52 : (0:Int) ≤ z39.toInt := (by have hs := hs17; omega)
            refine ev_baldT f_X12_holds (nx := 125) rfl (hI.wf.s rfl) rfl l52 (by decide) u39 (by decide) rfl (fun w51 e51 => ?_)
            obtain ⟨l51, u51⟩ := hI.abi e51 (by decide +kernel : t_abr 100 0 29 0 1 = true) l52 (by decide) u39 (by decide)
            refine ev_if f_X12_holds (t1 := 132) (t2 := 128) rfl rfl rfl (fun h53 => ?_) (fun h53 => ?_)
            · have u54 : w51.toInt ≤ 0 := t_equ h53 (by decide : (0:Int32).toInt ≤ (0:Int))
              refine ev_ic f_X12_holds (nx := 133) (v := 0) rfl (by decide) rfl ?_
              refine ev_jmp f_X12_holds (nx := 161) rfl rfl rfl ?_
              have l56 : (0:Int) ≤ z40.toInt := (by have hs := hs17; omega)
              refine ev_zastT f_X12_holds (nx := 162) rfl (hI.wf.s rfl) l56 (by decide) u40 (by decide) rfl (fun x l u => hI.astL (hI.wf.s rfl) (by decide +kernel : t_abw 100 0 28 0 1 = true) (t_cl1 l56 (by decide)) (t_cl2 l56 u40 (by decide) (by decide)) l u rfl) (fun x => hX.upI (t_inA_ok rfl)) (fun g55 x55 e55 hI hX => ?_)
              refine ev_jmp f_X12_holds (nx := 180) rfl rfl rfl ?_
              refine ev_incR f_X12_holds (nx := 183) (c := 1) (l := 1) (u := 210) rfl rfl (by decide) (by decide) l4_3 u13 rfl rfl (by decide) (by decide) rfl (fun z57 e57 l57 u57 => ?_)
              refine ev_jmp f_X12_holds (nx := 14) rfl rfl rfl ?_
              refine ev_sub (lo := [(3, .int z57), (2, .int z39), (0, .ref 69), (1, .int ar1)]) rfl (t_sc rfl (t_sc rfl (t_sc rfl (t_sc rfl t_sn)))) ?_
              exact ih4 _ (by omega) g55 gl4 gr4 (z57) (z39) hI hX  (Int.le_trans (by decide : (0:Int) ≤ 1) l57) u57 l52 (Int.le_trans u39 (by decide : (29:Int) ≤ 30)) ((by rw [e55]; exact x_up2_off (Or.inl (by decide)) : g55 70 z2.toNatClampNeg = gi4 70 z2.toNatClampNeg).trans c4_0) (by have hz : z57.toInt.toNat = y4_3.toInt.toNat + 1 := (by omega); have hn : z39.toInt.toNat = y4_2.toInt.toNat - 1 := (by omega); rw [hz, hn]; exact t_okB j4_0 ha17 hk17 hb17 (by omega)) (fun j => (congrFun ((by rw [e55]; exact x_up2_ne (by decide) : g55 70 = gi4 70)) j).trans (j4_1 j)) rfl
            · have r58 : w51.toInt ≠ 0 := fun e => h53 (Int32.toInt_inj.mp (e.trans (by decide : (0:Int) = (0 : Int32).toInt)))
              have l59 : 1 ≤ w51.toInt := t_nel h53 l51 rfl rfl
              refine ev_ic f_X12_holds (nx := 129) (v := 1) rfl (by decide) rfl ?_
              refine ev_jmp f_X12_holds (nx := 161) rfl rfl rfl ?_
              have l61 : (0:Int) ≤ z40.toInt := (by have hs := hs17; omega)
              refine ev_zastT f_X12_holds (nx := 162) rfl (hI.wf.s rfl) l61 (by decide) u40 (by decide) rfl (fun x l u => hI.astL (hI.wf.s rfl) (by decide +kernel : t_abw 100 0 28 0 1 = true) (t_cl1 l61 (by decide)) (t_cl2 l61 u40 (by decide) (by decide)) l u rfl) (fun x => hX.upI (t_inA_ok rfl)) (fun g60 x60 e60 hI hX => ?_)
              refine ev_jmp f_X12_holds (nx := 180) rfl rfl rfl ?_
              refine ev_incR f_X12_holds (nx := 183) (c := 1) (l := 1) (u := 210) rfl rfl (by decide) (by decide) l4_3 u13 rfl rfl (by decide) (by decide) rfl (fun z62 e62 l62 u62 => ?_)
              refine ev_jmp f_X12_holds (nx := 14) rfl rfl rfl ?_
              refine ev_sub (lo := [(3, .int z62), (2, .int z39), (0, .ref 69), (1, .int ar1)]) rfl (t_sc rfl (t_sc rfl (t_sc rfl (t_sc rfl t_sn)))) ?_
              exact ih4 _ (by omega) g60 gl4 gr4 (z62) (z39) hI hX  (Int.le_trans (by decide : (0:Int) ≤ 1) l62) u62 l52 (Int.le_trans u39 (by decide : (29:Int) ≤ 30)) ((by rw [e60]; exact x_up2_off (Or.inl (by decide)) : g60 70 z2.toNatClampNeg = gi4 70 z2.toNatClampNeg).trans c4_0) (by have hz : z62.toInt.toNat = y4_3.toInt.toNat + 1 := (by omega); have hn : z39.toInt.toNat = y4_2.toInt.toNat - 1 := (by omega); rw [hz, hn]; exact t_okB j4_0 ha17 hk17 hb17 (by omega)) (fun j => (congrFun ((by rw [e60]; exact x_up2_ne (by decide) : g60 70 = gi4 70)) j).trans (j4_1 j)) rfl
        · have r63 : w16.toInt ≠ 19 := fun e => h36 (Int32.toInt_inj.mp (e.trans (by decide : (19:Int) = (19 : Int32).toInt)))
          refine ev_loc f_X12_holds (nx := 86) rfl rfl rfl rfl ?_
          refine ev_bp f_X12_holds (nx := 88) (v := 18) rfl (by decide) rfl ?_
          refine ev_if f_X12_holds (t1 := 91) (t2 := 165) rfl rfl rfl (fun h64 => ?_) (fun h64 => ?_)
          · have u65 : w16.toInt ≤ 18 := t_equ h64 (by decide : (18:Int32).toInt ≤ (18:Int))
            have l66 : 18 ≤ w16.toInt := t_eql h64 (by decide : (18:Int) ≤ (18:Int32).toInt)
            refine ev_incR f_X12_holds (nx := 94) (c := (-1)) (l := (-1)) (u := 29) rfl rfl (by decide) (by decide) l4_2 u4_2 rfl rfl (by decide) (by decide) rfl (fun z67 e67 l67 u67 => ?_)
            refine ev_loc f_X12_holds (nx := 95) rfl rfl rfl rfl ?_
            refine ev_getR f_X12_holds (nx := 98) rfl (hI.wf.s rfl) rfl rfl (hI.wf.r rfl) rfl rfl ?_
            refine ev_loc f_X12_holds (nx := 99) rfl rfl rfl rfl ?_
            refine ev_ic f_X12_holds (nx := 100) (v := 1) rfl (by decide) rfl ?_
            refine ev_subC f_X12_holds (nx := 101) (c := 1) (l := (-2)) (u := 28) rfl (by decide) l67 u67 rfl rfl (by decide) (by decide) rfl (fun z68 e68 l68 u68 => ?_)
            refine ev_loc f_X12_holds (nx := 103) rfl rfl rfl rfl ?_
            refine ev_bp f_X12_holds (nx := 105) (v := 19) rfl (by decide) rfl ?_
            refine ev_f f_X12_holds (t1 := 108) (t2 := 136) rfl rfl rfl (t_neT u65 (by decide : (19:Int) ≤ (19:Int32).toInt) (by decide)) ?_
            refine ev_loc f_X12_holds (nx := 137) rfl rfl rfl rfl ?_
            refine ev_getR f_X12_holds (nx := 140) rfl (hI.wf.s rfl) rfl rfl (hI.wf.r rfl) rfl rfl ?_
            refine ev_loc f_X12_holds (nx := 141) rfl rfl rfl rfl ?_
            refine ev_ic f_X12_holds (nx := 142) (v := 1) rfl (by decide) rfl ?_
            refine ev_subC f_X12_holds (nx := 143) (c := 1) (l := (-2)) (u := 28) rfl (by decide) l67 u67 rfl rfl (by decide) (by decide) rfl (fun z69 e69 l69 u69 => ?_)
            have l71 : (0:Int) ≤ z69.toInt := (by have hs := hs17; omega)
            refine ev_baldT f_X12_holds (nx := 144) rfl (hI.wf.s rfl) rfl l71 (by decide) u69 (by decide) rfl (fun w70 e70 => ?_)
            obtain ⟨l70, u70⟩ := hI.abi e70 (by decide +kernel : t_abr 100 0 28 0 1 = true) l71 (by decide) u69 (by decide)
            refine ev_if f_X12_holds (t1 := 147) (t2 := 156) rfl rfl rfl (fun h72 => ?_) (fun h72 => ?_)
            · have u73 : w70.toInt ≤ 0 := t_equ h72 (by decide : (0:Int32).toInt ≤ (0:Int))
              refine ev_loc f_X12_holds (nx := 148) rfl rfl rfl rfl ?_
              refine ev_getR f_X12_holds (nx := 151) rfl (hI.wf.s rfl) rfl rfl (hI.wf.r rfl) rfl rfl ?_
              refine ev_loc f_X12_holds (nx := 152) rfl rfl rfl rfl ?_
              have l75 : (0:Int) ≤ z67.toInt := (by have hs := hs17; omega)
              refine ev_baldT f_X12_holds (nx := 153) rfl (hI.wf.s rfl) rfl l75 (by decide) u67 (by decide) rfl (fun w74 e74 => ?_)
              obtain ⟨l74, u74⟩ := hI.abi e74 (by decide +kernel : t_abr 100 0 29 0 1 = true) l75 (by decide) u67 (by decide)
              refine ev_if f_X12_holds (t1 := 160) (t2 := 156) rfl rfl rfl (fun h76 => ?_) (fun h76 => ?_)
              · have u77 : w74.toInt ≤ 0 := t_equ h76 (by decide : (0:Int32).toInt ≤ (0:Int))
                refine ev_ic f_X12_holds (nx := 161) (v := 0) rfl (by decide) rfl ?_
                have l79 : (0:Int) ≤ z68.toInt := (by have hs := hs17; omega)
                refine ev_zastT f_X12_holds (nx := 162) rfl (hI.wf.s rfl) l79 (by decide) u68 (by decide) rfl (fun x l u => hI.astL (hI.wf.s rfl) (by decide +kernel : t_abw 100 0 28 0 1 = true) (t_cl1 l79 (by decide)) (t_cl2 l79 u68 (by decide) (by decide)) l u rfl) (fun x => hX.upI (t_inA_ok rfl)) (fun g78 x78 e78 hI hX => ?_)
                refine ev_jmp f_X12_holds (nx := 180) rfl rfl rfl ?_
                refine ev_incR f_X12_holds (nx := 183) (c := 1) (l := 1) (u := 210) rfl rfl (by decide) (by decide) l4_3 u13 rfl rfl (by decide) (by decide) rfl (fun z80 e80 l80 u80 => ?_)
                refine ev_jmp f_X12_holds (nx := 14) rfl rfl rfl ?_
                refine ev_sub (lo := [(3, .int z80), (2, .int z67), (0, .ref 69), (1, .int ar1)]) rfl (t_sc rfl (t_sc rfl (t_sc rfl (t_sc rfl t_sn)))) ?_
                exact ih4 _ (by omega) g78 gl4 gr4 (z80) (z67) hI hX  (Int.le_trans (by decide : (0:Int) ≤ 1) l80) u80 l75 (Int.le_trans u67 (by decide : (29:Int) ≤ 30)) ((by rw [e78]; exact x_up2_off (Or.inl (by decide)) : g78 70 z2.toNatClampNeg = gi4 70 z2.toNatClampNeg).trans c4_0) (by have hz : z80.toInt.toNat = y4_3.toInt.toNat + 1 := (by omega); have hn : z67.toInt.toNat = y4_2.toInt.toNat - 1 := (by omega); rw [hz, hn]; exact t_okB j4_0 ha17 hk17 hb17 (by omega)) (fun j => (congrFun ((by rw [e78]; exact x_up2_ne (by decide) : g78 70 = gi4 70)) j).trans (j4_1 j)) rfl
              · have r81 : w74.toInt ≠ 0 := fun e => h76 (Int32.toInt_inj.mp (e.trans (by decide : (0:Int) = (0 : Int32).toInt)))
                have l82 : 1 ≤ w74.toInt := t_nel h76 l74 rfl rfl
                refine ev_ic f_X12_holds (nx := 157) (v := 1) rfl (by decide) rfl ?_
                refine ev_jmp f_X12_holds (nx := 161) rfl rfl rfl ?_
                have l84 : (0:Int) ≤ z68.toInt := (by have hs := hs17; omega)
                refine ev_zastT f_X12_holds (nx := 162) rfl (hI.wf.s rfl) l84 (by decide) u68 (by decide) rfl (fun x l u => hI.astL (hI.wf.s rfl) (by decide +kernel : t_abw 100 0 28 0 1 = true) (t_cl1 l84 (by decide)) (t_cl2 l84 u68 (by decide) (by decide)) l u rfl) (fun x => hX.upI (t_inA_ok rfl)) (fun g83 x83 e83 hI hX => ?_)
                refine ev_jmp f_X12_holds (nx := 180) rfl rfl rfl ?_
                refine ev_incR f_X12_holds (nx := 183) (c := 1) (l := 1) (u := 210) rfl rfl (by decide) (by decide) l4_3 u13 rfl rfl (by decide) (by decide) rfl (fun z85 e85 l85 u85 => ?_)
                refine ev_jmp f_X12_holds (nx := 14) rfl rfl rfl ?_
                refine ev_sub (lo := [(3, .int z85), (2, .int z67), (0, .ref 69), (1, .int ar1)]) rfl (t_sc rfl (t_sc rfl (t_sc rfl (t_sc rfl t_sn)))) ?_
                exact ih4 _ (by omega) g83 gl4 gr4 (z85) (z67) hI hX  (Int.le_trans (by decide : (0:Int) ≤ 1) l85) u85 l75 (Int.le_trans u67 (by decide : (29:Int) ≤ 30)) ((by rw [e83]; exact x_up2_off (Or.inl (by decide)) : g83 70 z2.toNatClampNeg = gi4 70 z2.toNatClampNeg).trans c4_0) (by have hz : z85.toInt.toNat = y4_3.toInt.toNat + 1 := (by omega); have hn : z67.toInt.toNat = y4_2.toInt.toNat - 1 := (by omega); rw [hz, hn]; exact t_okB j4_0 ha17 hk17 hb17 (by omega)) (fun j => (congrFun ((by rw [e83]; exact x_up2_ne (by decide) : g83 70 = gi4 70)) j).trans (j4_1 j)) rfl
            · have r86 : w70.toInt ≠ 0 := fun e => h72 (Int32.toInt_inj.mp (e.trans (by decide : (0:Int) = (0 : Int32).toInt)))
              have l87 : 1 ≤ w70.toInt := t_nel h72 l70 rfl rfl
              refine ev_ic f_X12_holds (nx := 157) (v := 1) rfl (by decide) rfl ?_
              refine ev_jmp f_X12_holds (nx := 161) rfl rfl rfl ?_
              have l89 : (0:Int) ≤ z68.toInt := (by have hs := hs17; omega)
              refine ev_zastT f_X12_holds (nx := 162) rfl (hI.wf.s rfl) l89 (by decide) u68 (by decide) rfl (fun x l u => hI.astL (hI.wf.s rfl) (by decide +kernel : t_abw 100 0 28 0 1 = true) (t_cl1 l89 (by decide)) (t_cl2 l89 u68 (by decide) (by decide)) l u rfl) (fun x => hX.upI (t_inA_ok rfl)) (fun g88 x88 e88 hI hX => ?_)
              refine ev_jmp f_X12_holds (nx := 180) rfl rfl rfl ?_
              refine ev_incR f_X12_holds (nx := 183) (c := 1) (l := 1) (u := 210) rfl rfl (by decide) (by decide) l4_3 u13 rfl rfl (by decide) (by decide) rfl (fun z90 e90 l90 u90 => ?_)
              refine ev_jmp f_X12_holds (nx := 14) rfl rfl rfl ?_
              refine ev_sub (lo := [(3, .int z90), (2, .int z67), (0, .ref 69), (1, .int ar1)]) rfl (t_sc rfl (t_sc rfl (t_sc rfl (t_sc rfl t_sn)))) ?_
              exact ih4 _ (by omega) g88 gl4 gr4 (z90) (z67) hI hX  (Int.le_trans (by decide : (0:Int) ≤ 1) l90) u90 (by omega : (0:Int) ≤ z67.toInt) (Int.le_trans u67 (by decide : (29:Int) ≤ 30)) ((by rw [e88]; exact x_up2_off (Or.inl (by decide)) : g88 70 z2.toNatClampNeg = gi4 70 z2.toNatClampNeg).trans c4_0) (by have hz : z90.toInt.toNat = y4_3.toInt.toNat + 1 := (by omega); have hn : z67.toInt.toNat = y4_2.toInt.toNat - 1 := (by omega); rw [hz, hn]; exact t_okB j4_0 ha17 hk17 hb17 (by omega)) (fun j => (congrFun ((by rw [e88]; exact x_up2_ne (by decide) : g88 70 = gi4 70)) j).trans (j4_1 j)) rfl
          · have r91 : w16.toInt ≠ 18 := fun e => h64 (Int32.toInt_inj.mp (e.trans (by decide : (18:Int) = (18 : Int32).toInt)))
            refine ev_loc f_X12_holds (nx := 166) rfl rfl rfl rfl ?_
            refine ev_getR f_X12_holds (nx := 169) rfl (hI.wf.s rfl) rfl rfl (hI.wf.r rfl) rfl rfl ?_
            refine ev_loc f_X12_holds (nx := 170) rfl rfl rfl rfl ?_
            refine ev_loc f_X12_holds (nx := 171) rfl rfl rfl rfl ?_
            refine ev_loc f_X12_holds (nx := 173) rfl rfl rfl rfl ?_
            refine ev_cI f_X12_holds (nx := 176) (r := [.int y4_2, .ref 100]) rfl rfl rfl rfl rfl rfl rfl (c_m_asked hI (w16)) rfl hX rfl (fun w92 gi92 gl92 gr92 l92 u92 hI hX hC92 => ?_)
            refine ev_zastT f_X12_holds (nx := 177) rfl (hI.wf.s rfl) l4_2 (by decide) u4_2 (by decide) rfl (fun x l u => hI.astL (hI.wf.s rfl) (by decide +kernel : t_abw 100 0 30 0 1 = true) (t_cl1 l4_2 (by decide)) (t_cl2 l4_2 u4_2 (by decide) (by decide)) l u rfl) (fun x => hX.upI (t_inA_ok rfl)) (fun g93 x93 e93 hI hX => ?_)
            refine ev_incR f_X12_holds (nx := 180) (c := 1) (l := 1) (u := 31) rfl rfl (by decide) (by decide) l4_2 u4_2 rfl rfl (by decide) (by decide) rfl (fun z94 e94 l94 u94 => ?_)
            refine ev_incR f_X12_holds (nx := 183) (c := 1) (l := 1) (u := 210) rfl rfl (by decide) (by decide) l4_3 u13 rfl rfl (by decide) (by decide) rfl (fun z95 e95 l95 u95 => ?_)
            refine ev_jmp f_X12_holds (nx := 14) rfl rfl rfl ?_
            refine ev_sub (lo := [(3, .int z95), (2, .int z94), (0, .ref 69), (1, .int ar1)]) rfl (t_sc rfl (t_sc rfl (t_sc rfl (t_sc rfl t_sn)))) ?_
            exact ih4 _ (by omega) g93 gl92 gr92 (z95) (z94) hI hX  (Int.le_trans (by decide : (0:Int) ≤ 1) l95) u95 (Int.le_trans (by decide : (0:Int) ≤ 1) l94) (by omega : z94.toInt ≤ (30:Int)) ((by rw [e93]; exact x_up2_off (Or.inl (by decide)) : g93 70 z2.toNatClampNeg = gi92 70 z2.toNatClampNeg).trans ((hC92.1 70 z2.toNatClampNeg rfl).1.trans c4_0)) (by have hz : z95.toInt.toNat = y4_3.toInt.toNat + 1 := (by omega); have hn : z94.toInt.toNat = y4_2.toInt.toNat + 1 := (by omega); rw [hz, hn]; exact t_okP j4_0 ha17 hk17 hb17 (by omega) (by omega) (by omega)) (fun j => (congrFun ((by rw [e93]; exact x_up2_ne (by decide) : g93 70 = gi92 70).trans ((funext (fun j => (hC92.1 70 j rfl).1) : gi92 70 = gi4 70))) j).trans (j4_1 j)) rfl
  refine ev_sub (lo := [(3, .int w3), (2, .int 0), (0, .ref 69), (1, .int ar1)]) rfl (t_sc rfl (t_sc rfl (t_sc rfl (t_sc rfl t_sn)))) ?_
  exact L4 _ gi gl gr (w3) (0) hI hX  l3 u3 (by decide : (0:Int) ≤ (0:Int32).toInt) (Int.le_trans (by decide : (0:Int32).toInt ≤ (0:Int)) (by decide : (0:Int) ≤ 30)) e3.symm (by have hl := t_ldeq (g0 := gi) (p := 350 * 0 + 100 + 3 * ar1.toInt.toNat) e3 (fun _ => rfl) (by omega) (by omega); have hz : w3.toInt.toNat = t_lw (gi 70) 0 ar1.toInt.toNat := (by unfold t_lw; rw [← hl]); rw [hz]; exact e_p0) (fun _ => rfl) rfl
noncomputable def wl_m_actNow : List (Nat × Nat) := [(100, 9999)]
theorem c_m_actNow {X : x_Ext} {d : Nat} {sh : List (Nat ⊕ (Nat × Nat))} {gi : Nat → Nat → Int32} {gl : Nat → Nat → Int64} {gr : Nat → Nat → Value} (hI : t_I sh gi gr) (e_p0 : t_rpn (gi 70) 0) : x_Me X (d + 4) n_X12_actNow [.ref 69] (sh, gi, gl, gr) (t_P wl_m_actNow sh gi gl gr (t_Ri 0 17)) := by
  have hX : t_X wl_m_actNow sh gi gl gr gi gl gr := t_X.rf
  refine me_i f_X12_actNow (hI.wf.s rfl) rfl rfl rfl ?_
  refine ev_ic f_X12_actNow (nx := 1) (v := 0) rfl (by decide) rfl ?_
  refine ev_loc f_X12_actNow (nx := 2) (lo' := [(1, .int 0), (0, .ref 69)]) rfl rfl rfl rfl ?_
  have L1 : ∀ (m1 : Nat) (gi1 : Nat → Nat → Int32) (gl1 : Nat → Nat → Int64) (gr1 : Nat → Nat → Value) (y1_1 : Int32), t_I sh gi1 gr1 → t_X wl_m_actNow sh gi gl gr gi1 gl1 gr1 → 0 ≤ y1_1.toInt → y1_1.toInt ≤ 12 → (∀ j, gi1 70 j = gi 70 j) → (12 - y1_1.toInt).toNat = m1 → x_Ev X (d + 4) n_X12_actNow 2 [(1, .int y1_1), (0, .ref 69)] [] (sh, gi1, gl1, gr1) (t_P wl_m_actNow sh gi gl gr (t_Ri 0 17)) := by
    intro m1
    induction m1 using Nat.strongRecOn with
    | _ m1 ih1 =>
    intro gi1 gl1 gr1 y1_1 hI hX l1_1 u1_1 j1_0 hm1
    refine ev_loc f_X12_actNow (nx := 3) rfl rfl rfl rfl ?_
    refine ev_loc f_X12_actNow (nx := 4) rfl rfl rfl rfl ?_
    refine ev_getR f_X12_actNow (nx := 7) rfl (hI.wf.s rfl) rfl rfl (hI.wf.r rfl) rfl rfl ?_
    refine ev_ic f_X12_actNow (nx := 8) (v := 3) rfl (by decide) rfl ?_
    obtain ⟨l2, u2⟩ := hI.ab (by decide +kernel : t_abr 70 3 3 0 12 = true) (Nat.le_refl _) (Nat.le_refl _)
    refine ev_ialdv f_X12_actNow (nx := 9) (w := (gi1 70 3)) rfl (hI.wf.s rfl) (by decide) (rfl : (3 : Int32).toNatClampNeg = 3) (by decide) rfl rfl ?_
    refine ev_if f_X12_actNow (t1 := 40) (t2 := 12) rfl rfl rfl (fun h3 => ?_) (fun h3 => ?_)
    · have r4 : (gi1 70 3).toInt ≤ y1_1.toInt := Int32.le_iff_toInt_le.mp h3
      refine ev_bp f_X12_actNow (nx := 42) (v := 17) rfl (by decide) rfl ?_
      exact ev_ret f_X12_actNow rfl rfl rfl ⟨_, _, _, rfl, hI, hX, ⟨_, rfl, (Int.le_trans (by decide : (0:Int) ≤ 17) (by decide : (17:Int) ≤ (17:Int32).toInt)), (by decide : (17:Int32).toInt ≤ (17:Int))⟩⟩
    · have r5 : y1_1.toInt < (gi1 70 3).toInt := Int32.lt_iff_toInt_lt.mp (t_nle h3)
      have u6 : y1_1.toInt ≤ 11 := t_ltu (t_nle h3) u2 rfl
      have l7 : 1 ≤ (gi1 70 3).toInt := t_ltl (t_nle h3) l1_1 rfl
      refine ev_loc f_X12_actNow (nx := 13) rfl rfl rfl rfl ?_
      refine ev_loc f_X12_actNow (nx := 14) rfl rfl rfl rfl ?_
      refine ev_cI f_X12_actNow (nx := 17) (r := []) rfl rfl rfl rfl rfl rfl rfl (c_m_holds hI (y1_1) l1_1 u6 (by have hf : gi1 70 = gi 70 := funext j1_0; rw [hf]; refine e_p0 _ ?_; have h3 := j1_0 3; show _ < (gi 70 3).toInt; rw [← h3]; omega)) rfl hX rfl (fun w8 gi8 gl8 gr8 l8 u8 hI hX hC8 => ?_)
      refine ev_if f_X12_actNow (t1 := 34) (t2 := 20) rfl rfl rfl (fun h9 => ?_) (fun h9 => ?_)
      · have u10 : w8.toInt ≤ 0 := t_equ h9 (by decide : (0:Int32).toInt ≤ (0:Int))
        refine ev_incR f_X12_actNow (nx := 37) (c := 1) (l := 1) (u := 12) rfl rfl (by decide) (by decide) l1_1 u6 rfl rfl (by decide) (by decide) rfl (fun z11 e11 l11 u11 => ?_)
        refine ev_jmp f_X12_actNow (nx := 2) rfl rfl rfl ?_
        refine ev_sub (lo := [(1, .int z11), (0, .ref 69)]) rfl (t_sc rfl (t_sc rfl t_sn)) ?_
        exact ih1 _ (by omega) gi8 gl8 gr8 (z11) hI hX  (Int.le_trans (by decide : (0:Int) ≤ 1) l11) u11 (fun j => (congrFun ((funext (fun j => (hC8.1 70 j rfl).1) : gi8 70 = gi1 70)) j).trans (j1_0 j)) rfl
      · have r12 : w8.toInt ≠ 0 := fun e => h9 (Int32.toInt_inj.mp (e.trans (by decide : (0:Int) = (0 : Int32).toInt)))
        have l13 : 1 ≤ w8.toInt := t_nel h9 l8 rfl rfl
        refine ev_loc f_X12_actNow (nx := 21) rfl rfl rfl rfl ?_
        refine ev_getR f_X12_actNow (nx := 24) rfl (hI.wf.s rfl) rfl rfl (hI.wf.r rfl) rfl rfl ?_
        refine ev_bp f_X12_actNow (nx := 26) (v := 100) rfl (by decide) rfl ?_
        refine ev_ic f_X12_actNow (nx := 27) (v := 3) rfl (by decide) rfl ?_
        refine ev_loc f_X12_actNow (nx := 28) rfl rfl rfl rfl ?_
        refine ev_mulL f_X12_actNow (nx := 29) (c := 3) (l := 0) (u := 33) rfl (by decide) (by decide) l1_1 u6 rfl rfl (by decide) (by decide) rfl (fun z14 e14 l14 u14 => ?_)
        refine ev_addK f_X12_actNow (nx := 30) (c := 100) (l := 100) (u := 133) rfl (by decide) l14 u14 rfl rfl (by decide) (by decide) rfl (fun z15 e15 l15 u15 => ?_)
        refine ev_ic f_X12_actNow (nx := 31) (v := 2) rfl (by decide) rfl ?_
        refine ev_addC f_X12_actNow (nx := 32) (c := 2) (l := 102) (u := 135) rfl (by decide) l15 u15 rfl rfl (by decide) (by decide) rfl (fun z16 e16 l16 u16 => ?_)
        refine ev_ialdT f_X12_actNow (nx := 33) rfl (hI.wf.s rfl) l16 (by decide) u16 (by decide) rfl (fun w17 e17 => ?_)
        obtain ⟨l17, u17⟩ := hI.abA (x := y1_1) e17 (by decide +kernel : t_aba 70 102 3 0 11 0 17 = true) (by omega) (by omega) (by omega)
        exact ev_ret f_X12_actNow rfl rfl rfl ⟨_, _, _, rfl, hI, hX, ⟨_, rfl, l17, u17⟩⟩
  refine ev_sub (lo := [(1, .int 0), (0, .ref 69)]) rfl (t_sc rfl (t_sc rfl t_sn)) ?_
  exact L1 _ gi gl gr (0) hI hX  (by decide : (0:Int) ≤ (0:Int32).toInt) (Int.le_trans (by decide : (0:Int32).toInt ≤ (0:Int)) (by decide : (0:Int) ≤ 12)) (fun _ => rfl) rfl
noncomputable def wl_m_minuteGoes : List (Nat × Nat) := [(69, 60), (69, 61), (69, 62), (69, 63), (69, 64), (69, 65), (69, 66), (69, 67), (69, 68), (69, 69), (69, 70), (99, 9999), (100, 9999)]
theorem c_m_minuteGoes {X : x_Ext} {d : Nat} {sh : List (Nat ⊕ (Nat × Nat))} {gi : Nat → Nat → Int32} {gl : Nat → Nat → Int64} {gr : Nat → Nat → Value} (hI : t_I sh gi gr) (e_p0 : t_rpn (gi 70) 0) : x_Me X (d + 5) n_X12_minuteGoes [.ref 69] (sh, gi, gl, gr) (t_P wl_m_minuteGoes sh gi gl gr t_Rn) := by
  have hX : t_X wl_m_minuteGoes sh gi gl gr gi gl gr := t_X.rf
  refine me_i f_X12_minuteGoes (hI.wf.s rfl) rfl rfl rfl ?_
  have L1 : ∀ (gi1 : Nat → Nat → Int32) (gl1 : Nat → Nat → Int64) (gr1 : Nat → Nat → Value), t_I sh gi1 gr1 → t_X wl_m_minuteGoes sh gi gl gr gi1 gl1 gr1 → t_rpn (gi1 70) 0 → x_Ev X (d + 5) n_X12_minuteGoes 283 [(0, .ref 69)] [] (sh, gi1, gl1, gr1) (t_P wl_m_minuteGoes sh gi gl gr t_Rn) := by
    intro gi1 gl1 gr1 hI hX j1_0
    refine ev_loc f_X12_minuteGoes (nx := 284) rfl rfl rfl rfl ?_
    refine ev_getI f_X12_minuteGoes (nx := 287) rfl (hI.wf.s rfl) rfl rfl rfl ?_
    refine ev_if f_X12_minuteGoes (t1 := 290) (t2 := 390) rfl rfl rfl (fun h2 => ?_) (fun h2 => ?_)
    · have u3 : (gi1 69 60).toInt ≤ 0 := t_equ h2 (by decide : (0:Int32).toInt ≤ (0:Int))
      have l4 : 0 ≤ (gi1 69 60).toInt := t_eql h2 (by decide : (0:Int) ≤ (0:Int32).toInt)
      refine ev_loc f_X12_minuteGoes (nx := 291) rfl rfl rfl rfl ?_
      refine ev_getI f_X12_minuteGoes (nx := 294) rfl (hI.wf.s rfl) rfl rfl rfl ?_
      obtain ⟨l5, u5⟩ := hI.b (hI.wf.s (k := 69) rfl) (t_bdK rfl : t_bd 11 65 = some (0, 6))
      refine ev_loc f_X12_minuteGoes (nx := 295) rfl rfl rfl rfl ?_
      refine ev_getI f_X12_minuteGoes (nx := 298) rfl (hI.wf.s rfl) rfl rfl rfl ?_
      obtain ⟨l6, u6⟩ := hI.b (hI.wf.s (k := 69) rfl) (t_bdK rfl : t_bd 11 45 = some (0, 6))
      refine ev_if f_X12_minuteGoes (t1 := 390) (t2 := 301) rfl rfl rfl (fun h7 => ?_) (fun h7 => ?_)
      · have r8 : (gi1 69 45).toInt ≤ (gi1 69 65).toInt := Int32.le_iff_toInt_le.mp h7
        exact ev_ret f_X12_minuteGoes rfl rfl rfl ⟨_, _, _, rfl, hI, hX, rfl⟩
      · have r9 : (gi1 69 65).toInt < (gi1 69 45).toInt := Int32.lt_iff_toInt_lt.mp (t_nle h7)
        have u10 : (gi1 69 65).toInt ≤ 5 := t_ltu (t_nle h7) u6 rfl
        have l11 : 1 ≤ (gi1 69 45).toInt := t_ltl (t_nle h7) l5 rfl
        refine ev_loc f_X12_minuteGoes (nx := 302) rfl rfl rfl rfl ?_
        refine ev_getR f_X12_minuteGoes (nx := 305) rfl (hI.wf.s rfl) rfl rfl (hI.wf.r rfl) rfl rfl ?_
        refine ev_bp f_X12_minuteGoes (nx := 307) (v := 6) rfl (by decide) rfl ?_
        refine ev_loc f_X12_minuteGoes (nx := 308) rfl rfl rfl rfl ?_
        refine ev_getR f_X12_minuteGoes (nx := 311) rfl (hI.wf.s rfl) rfl rfl (hI.wf.r rfl) rfl rfl ?_
        refine ev_loc f_X12_minuteGoes (nx := 312) rfl rfl rfl rfl ?_
        refine ev_gvI f_X12_minuteGoes (nx := 315) (w := (gi1 69 65)) rfl (hI.wf.s rfl) rfl rfl rfl rfl ?_
        refine ev_ialdT f_X12_minuteGoes (nx := 316) rfl (hI.wf.s rfl) l5 (by decide) u10 (by decide) rfl (fun w12 e12 => ?_)
        obtain ⟨l12, u12⟩ := hI.abi e12 (by decide +kernel : t_abr 91 0 5 0 5 = true) l5 (by decide) u10 (by decide)
        refine ev_addK f_X12_minuteGoes (nx := 317) (c := 6) (l := 6) (u := 11) rfl (by decide) l12 u12 rfl rfl (by decide) (by decide) rfl (fun z13 e13 l13 u13 => ?_)
        refine ev_ialdT f_X12_minuteGoes (nx := 318) rfl (hI.wf.s rfl) l13 (by decide) u13 (by decide) rfl (fun w14 e14 => ?_)
        refine ev_loc f_X12_minuteGoes (nx := 319) rfl rfl rfl rfl ?_
        refine ev_getI f_X12_minuteGoes (nx := 322) rfl (hI.wf.s rfl) rfl rfl rfl ?_
        obtain ⟨l15, u15⟩ := hI.b (hI.wf.s (k := 69) rfl) (t_bdK rfl : t_bd 11 59 = some (0, 301))
        refine ev_if f_X12_minuteGoes (t1 := 390) (t2 := 325) rfl rfl rfl (fun h16 => ?_) (fun h16 => ?_)
        · have r17 : (gi1 69 59).toInt < w14.toInt := Int32.lt_iff_toInt_lt.mp h16
          have l18 : 1 ≤ w14.toInt := t_ltl h16 l15 rfl
          exact ev_ret f_X12_minuteGoes rfl rfl rfl ⟨_, _, _, rfl, hI, hX, rfl⟩
        · have r19 : w14.toInt ≤ (gi1 69 59).toInt := Int32.le_iff_toInt_le.mp (t_nlt h16)
          have u20 : w14.toInt ≤ 301 := t_leu (t_nlt h16) u15
          refine ev_loc f_X12_minuteGoes (nx := 326) rfl rfl rfl rfl ?_
          refine ev_getR f_X12_minuteGoes (nx := 329) rfl (hI.wf.s rfl) rfl rfl (hI.wf.r rfl) rfl rfl ?_
          refine ev_loc f_X12_minuteGoes (nx := 330) rfl rfl rfl rfl ?_
          refine ev_gvI f_X12_minuteGoes (nx := 333) (w := (gi1 69 65)) rfl (hI.wf.s rfl) rfl rfl rfl rfl ?_
          refine ev_ialdT f_X12_minuteGoes (nx := 334) rfl (hI.wf.s rfl) l5 (by decide) u10 (by decide) rfl (fun w21 e21 => ?_)
          rw [e21.trans e12.symm]
          refine ev_loc f_X12_minuteGoes (nx := 335) (lo' := [(1, .int w12), (0, .ref 69)]) rfl rfl rfl rfl ?_
          refine ev_loc f_X12_minuteGoes (nx := 336) rfl rfl rfl rfl ?_
          refine ev_alu f_X12_minuteGoes (nx := 337) rfl rfl rfl rfl ?_
          refine ev_getI f_X12_minuteGoes (nx := 340) rfl (hI.wf.s rfl) rfl rfl rfl ?_
          refine ev_loc f_X12_minuteGoes (nx := 341) rfl rfl rfl rfl ?_
          refine ev_gvI f_X12_minuteGoes (nx := 344) (w := (gi1 69 59)) rfl (hI.wf.s rfl) rfl rfl rfl rfl ?_
          refine ev_loc f_X12_minuteGoes (nx := 345) rfl rfl rfl rfl ?_
          refine ev_getR f_X12_minuteGoes (nx := 348) rfl (hI.wf.s rfl) rfl rfl (hI.wf.r rfl) rfl rfl ?_
          refine ev_bp f_X12_minuteGoes (nx := 350) (v := 6) rfl (by decide) rfl ?_
          refine ev_loc f_X12_minuteGoes (nx := 351) rfl rfl rfl rfl ?_
          refine ev_addK f_X12_minuteGoes (nx := 352) (c := 6) (l := 6) (u := 11) rfl (by decide) l12 u12 rfl rfl (by decide) (by decide) rfl (fun z22 e22 l22 u22 => ?_)
          refine ev_ialdT f_X12_minuteGoes (nx := 353) rfl (hI.wf.s rfl) l22 (by decide) u22 (by decide) rfl (fun w23 e23 => ?_)
          refine ev_anyI f_X12_minuteGoes (nx := 354) rfl rfl rfl rfl (fun z24 => ?_)
          refine ev_loc f_X12_minuteGoes (nx := 355) rfl rfl rfl rfl ?_
          refine ev_loc f_X12_minuteGoes (nx := 356) rfl rfl rfl rfl ?_
          refine ev_ic f_X12_minuteGoes (nx := 357) (v := 2) rfl (by decide) rfl ?_
          refine ev_inV3 f_X12_minuteGoes (nx := 360) (lo2 := [(0, .ref 69), (1, .int w12), (2, .int 2)]) rfl rfl rfl rfl f_X12_ofCart (hI.wf.s rfl) rfl rfl rfl rfl rfl ?_
          refine ev_loc f_X12_ofCart (nx := 1) rfl rfl rfl rfl ?_
          refine ev_getR f_X12_ofCart (nx := 4) rfl (hI.wf.s rfl) rfl rfl (hI.wf.r rfl) rfl rfl ?_
          refine ev_bp f_X12_ofCart (nx := 6) (v := 82) rfl (by decide) rfl ?_
          refine ev_ic f_X12_ofCart (nx := 7) (v := 3) rfl (by decide) rfl ?_
          refine ev_loc f_X12_ofCart (nx := 8) rfl rfl rfl rfl ?_
          refine ev_mulL f_X12_ofCart (nx := 9) (c := 3) (l := 0) (u := 15) rfl (by decide) (by decide) l12 u12 rfl rfl (by decide) (by decide) rfl (fun z25 e25 l25 u25 => ?_)
          refine ev_addK f_X12_ofCart (nx := 10) (c := 82) (l := 82) (u := 97) rfl (by decide) l25 u25 rfl rfl (by decide) (by decide) rfl (fun z26 e26 l26 u26 => ?_)
          refine ev_loc f_X12_ofCart (nx := 11) rfl rfl rfl rfl ?_
          refine ev_addC f_X12_ofCart (nx := 12) (c := 2) (l := 84) (u := 99) rfl (by decide) l26 u26 rfl rfl (by decide) (by decide) rfl (fun z27 e27 l27 u27 => ?_)
          refine ev_ialdT f_X12_ofCart (nx := 13) rfl (hI.wf.s rfl) l27 (by decide) u27 (by decide) rfl (fun w28 e28 => ?_)
          obtain ⟨l28, u28⟩ := hI.abA (x := w12) e28 (by decide +kernel : t_aba 70 84 3 0 5 0 99 = true) (by omega) (by omega) (by omega)
          refine ev_retK1 f_X12_ofCart rfl rfl rfl ?_
          refine ev_anyI f_X12_minuteGoes (nx := 361) rfl rfl rfl rfl (fun z29 => ?_)
          refine ev_anyI f_X12_minuteGoes (nx := 362) rfl rfl rfl rfl (fun z30 => ?_)
          refine ev_putIT f_X12_minuteGoes (nx := 365) rfl (hI.wf.s rfl) rfl rfl rfl (hI.put0 (hI.wf.s rfl) rfl rfl) (hX.upI rfl) (fun g31 e31 hI hX => ?_)
          refine ev_loc f_X12_minuteGoes (nx := 366) rfl rfl rfl rfl ?_
          refine ev_loc f_X12_minuteGoes (nx := 367) rfl rfl rfl rfl ?_
          refine ev_gvI f_X12_minuteGoes (nx := 370) (w := (gi1 69 59)) rfl (hI.wf.s rfl) rfl rfl ((by rw [e31]; exact x_up2_off (Or.inr (by decide)) : g31 69 59 = gi1 69 59).trans rfl) rfl ?_
          refine ev_loc f_X12_minuteGoes (nx := 371) rfl rfl rfl rfl ?_
          refine ev_loc f_X12_minuteGoes (nx := 372) rfl rfl rfl rfl ?_
          refine ev_ic f_X12_minuteGoes (nx := 373) (v := 1) rfl (by decide) rfl ?_
          refine ev_inV3 f_X12_minuteGoes (nx := 376) (lo2 := [(0, .ref 69), (1, .int w12), (2, .int 1)]) rfl rfl rfl rfl f_X12_ofCart (hI.wf.s rfl) rfl rfl rfl rfl rfl ?_
          refine ev_loc f_X12_ofCart (nx := 1) rfl rfl rfl rfl ?_
          refine ev_getR f_X12_ofCart (nx := 4) rfl (hI.wf.s rfl) rfl rfl (hI.wf.r rfl) rfl rfl ?_
          refine ev_bp f_X12_ofCart (nx := 6) (v := 82) rfl (by decide) rfl ?_
          refine ev_ic f_X12_ofCart (nx := 7) (v := 3) rfl (by decide) rfl ?_
          refine ev_loc f_X12_ofCart (nx := 8) rfl rfl rfl rfl ?_
          refine ev_mulL f_X12_ofCart (nx := 9) (c := 3) (l := 0) (u := 15) rfl (by decide) (by decide) l12 u12 rfl rfl (by decide) (by decide) rfl (fun z32 e32 l32 u32 => ?_)
          refine ev_addK f_X12_ofCart (nx := 10) (c := 82) (l := 82) (u := 97) rfl (by decide) l32 u32 rfl rfl (by decide) (by decide) rfl (fun z33 e33 l33 u33 => ?_)
          refine ev_loc f_X12_ofCart (nx := 11) rfl rfl rfl rfl ?_
          refine ev_addC f_X12_ofCart (nx := 12) (c := 1) (l := 83) (u := 98) rfl (by decide) l33 u33 rfl rfl (by decide) (by decide) rfl (fun z34 e34 l34 u34 => ?_)
          refine ev_ialdT f_X12_ofCart (nx := 13) rfl (hI.wf.s rfl) l34 (by decide) u34 (by decide) rfl (fun w35 e35 => ?_)
          obtain ⟨l35, u35⟩ := hI.abA (x := w12) e35 (by decide +kernel : t_aba 70 83 3 0 5 0 20 = true) (by omega) (by omega) (by omega)
          refine ev_retK1 f_X12_ofCart rfl rfl rfl ?_
          refine ev_addR f_X12_minuteGoes (nx := 377) (l := 0) (u := 321) rfl l15 u15 l35 u35 rfl rfl (by decide) (by decide) rfl (fun z36 e36 l36 u36 => ?_)
          refine ev_putIT f_X12_minuteGoes (nx := 380) rfl (hI.wf.s rfl) rfl rfl rfl (hI.put0 (hI.wf.s rfl) rfl rfl) (hX.upI rfl) (fun g37 e37 hI hX => ?_)
          refine ev_loc f_X12_minuteGoes (nx := 381) rfl rfl rfl rfl ?_
          refine ev_alu f_X12_minuteGoes (nx := 382) rfl rfl rfl rfl ?_
          refine ev_gvI f_X12_minuteGoes (nx := 385) (w := (gi1 69 65)) rfl (hI.wf.s rfl) rfl rfl ((by rw [e37]; exact x_up2_off (Or.inr (by decide)) : g37 69 65 = g31 69 65).trans ((by rw [e31]; exact x_up2_off (Or.inr (by decide)) : g31 69 65 = gi1 69 65).trans rfl)) rfl ?_
          refine ev_ic f_X12_minuteGoes (nx := 386) (v := 1) rfl (by decide) rfl ?_
          refine ev_addC f_X12_minuteGoes (nx := 387) (c := 1) (l := 1) (u := 6) rfl (by decide) l5 u10 rfl rfl (by decide) (by decide) rfl (fun z38 e38 l38 u38 => ?_)
          refine ev_putIT f_X12_minuteGoes (nx := 390) rfl (hI.wf.s rfl) rfl rfl rfl (hI.putB (hI.wf.s rfl) rfl rfl l38 (by decide) u38 (by decide)) (hX.upI rfl) (fun g39 e39 hI hX => ?_)
          exact ev_ret f_X12_minuteGoes rfl rfl rfl ⟨_, _, _, rfl, hI, hX, rfl⟩
    · have r40 : (gi1 69 60).toInt ≠ 0 := fun e => h2 (Int32.toInt_inj.mp (e.trans (by decide : (0:Int) = (0 : Int32).toInt)))
      exact ev_ret f_X12_minuteGoes rfl rfl rfl ⟨_, _, _, rfl, hI, hX, rfl⟩
  have L41 : ∀ (gi41 : Nat → Nat → Int32) (gl41 : Nat → Nat → Int64) (gr41 : Nat → Nat → Value), t_I sh gi41 gr41 → t_X wl_m_minuteGoes sh gi gl gr gi41 gl41 gr41 → t_rpn (gi41 70) 0 → x_Ev X (d + 5) n_X12_minuteGoes 160 [(0, .ref 69)] [] (sh, gi41, gl41, gr41) (t_P wl_m_minuteGoes sh gi gl gr t_Rn) := by
    intro gi41 gl41 gr41 hI hX j41_0
    refine ev_loc f_X12_minuteGoes (nx := 161) rfl rfl rfl rfl ?_
    refine ev_inV1 f_X12_minuteGoes (nx := 164) (lo2 := [(0, .ref 69)]) rfl rfl rfl rfl f_X12_isBusy (hI.wf.s rfl) rfl rfl rfl rfl rfl ?_
    refine ev_loc f_X12_isBusy (nx := 1) rfl rfl rfl rfl ?_
    refine ev_getI f_X12_isBusy (nx := 4) rfl (hI.wf.s rfl) rfl rfl rfl ?_
    refine ev_loc f_X12_isBusy (nx := 5) rfl rfl rfl rfl ?_
    refine ev_getI f_X12_isBusy (nx := 8) rfl (hI.wf.s rfl) rfl rfl rfl ?_
    obtain ⟨l42, u42⟩ := hI.b (hI.wf.s (k := 69) rfl) (t_bdK rfl : t_bd 11 59 = some (0, 301))
    refine ev_if f_X12_isBusy (t1 := 22) (t2 := 11) rfl rfl rfl (fun h43 => ?_) (fun h43 => ?_)
    · have r44 : (gi41 69 59).toInt < (gi41 69 61).toInt := Int32.lt_iff_toInt_lt.mp h43
      have l45 : 1 ≤ (gi41 69 61).toInt := t_ltl h43 l42 rfl
      refine ev_ic f_X12_isBusy (nx := 23) (v := 1) rfl (by decide) rfl ?_
      refine ev_jmp f_X12_isBusy (nx := 27) rfl rfl rfl ?_
      refine ev_retK1 f_X12_isBusy rfl rfl rfl ?_
      refine ev_f f_X12_minuteGoes (t1 := 168) (t2 := 167) rfl rfl rfl (by decide) ?_
      exact ev_ret f_X12_minuteGoes rfl rfl rfl ⟨_, _, _, rfl, hI, hX, rfl⟩
    · have r46 : (gi41 69 61).toInt ≤ (gi41 69 59).toInt := Int32.le_iff_toInt_le.mp (t_nlt h43)
      have u47 : (gi41 69 61).toInt ≤ 301 := t_leu (t_nlt h43) u42
      refine ev_loc f_X12_isBusy (nx := 12) rfl rfl rfl rfl ?_
      refine ev_getI f_X12_isBusy (nx := 15) rfl (hI.wf.s rfl) rfl rfl rfl ?_
      refine ev_loc f_X12_isBusy (nx := 16) rfl rfl rfl rfl ?_
      refine ev_gvI f_X12_isBusy (nx := 19) (w := (gi41 69 59)) rfl (hI.wf.s rfl) rfl rfl rfl rfl ?_
      refine ev_if f_X12_isBusy (t1 := 26) (t2 := 22) rfl rfl rfl (fun h48 => ?_) (fun h48 => ?_)
      · have r49 : (gi41 69 62).toInt ≤ (gi41 69 59).toInt := Int32.le_iff_toInt_le.mp h48
        have u50 : (gi41 69 62).toInt ≤ 301 := t_leu h48 u42
        refine ev_ic f_X12_isBusy (nx := 27) (v := 0) rfl (by decide) rfl ?_
        refine ev_retK1 f_X12_isBusy rfl rfl rfl ?_
        refine ev_t f_X12_minuteGoes (t1 := 168) (t2 := 167) rfl rfl rfl (by decide) ?_
        refine ev_loc f_X12_minuteGoes (nx := 169) rfl rfl rfl rfl ?_
        refine ev_getI f_X12_minuteGoes (nx := 172) rfl (hI.wf.s rfl) rfl rfl rfl ?_
        refine ev_ic f_X12_minuteGoes (nx := 173) (v := 1) rfl (by decide) rfl ?_
        refine ev_if f_X12_minuteGoes (t1 := 176) (t2 := 283) rfl rfl rfl (fun h51 => ?_) (fun h51 => ?_)
        · have u52 : (gi41 69 60).toInt ≤ 1 := t_equ h51 (by decide : (1:Int32).toInt ≤ (1:Int))
          have l53 : 1 ≤ (gi41 69 60).toInt := t_eql h51 (by decide : (1:Int) ≤ (1:Int32).toInt)
          refine ev_loc f_X12_minuteGoes (nx := 177) rfl rfl rfl rfl ?_
          refine ev_getI f_X12_minuteGoes (nx := 180) rfl (hI.wf.s rfl) rfl rfl rfl ?_
          obtain ⟨l54, u54⟩ := hI.b (hI.wf.s (k := 69) rfl) (t_bdK rfl : t_bd 11 64 = some (0, 6))
          refine ev_loc f_X12_minuteGoes (nx := 181) rfl rfl rfl rfl ?_
          refine ev_getI f_X12_minuteGoes (nx := 184) rfl (hI.wf.s rfl) rfl rfl rfl ?_
          obtain ⟨l55, u55⟩ := hI.b (hI.wf.s (k := 69) rfl) (t_bdK rfl : t_bd 11 44 = some (0, 6))
          refine ev_if f_X12_minuteGoes (t1 := 283) (t2 := 187) rfl rfl rfl (fun h56 => ?_) (fun h56 => ?_)
          · have r57 : (gi41 69 44).toInt ≤ (gi41 69 64).toInt := Int32.le_iff_toInt_le.mp h56
            refine ev_sub (lo := [(0, .ref 69)]) rfl (t_sc rfl t_sn) ?_
            exact L1 gi41 gl41 gr41  hI hX  j41_0
          · have r58 : (gi41 69 64).toInt < (gi41 69 44).toInt := Int32.lt_iff_toInt_lt.mp (t_nle h56)
            have u59 : (gi41 69 64).toInt ≤ 5 := t_ltu (t_nle h56) u55 rfl
            have l60 : 1 ≤ (gi41 69 44).toInt := t_ltl (t_nle h56) l54 rfl
            refine ev_loc f_X12_minuteGoes (nx := 188) rfl rfl rfl rfl ?_
            refine ev_getR f_X12_minuteGoes (nx := 191) rfl (hI.wf.s rfl) rfl rfl (hI.wf.r rfl) rfl rfl ?_
            refine ev_loc f_X12_minuteGoes (nx := 192) rfl rfl rfl rfl ?_
            refine ev_getR f_X12_minuteGoes (nx := 195) rfl (hI.wf.s rfl) rfl rfl (hI.wf.r rfl) rfl rfl ?_
            refine ev_loc f_X12_minuteGoes (nx := 196) rfl rfl rfl rfl ?_
            refine ev_gvI f_X12_minuteGoes (nx := 199) (w := (gi41 69 64)) rfl (hI.wf.s rfl) rfl rfl rfl rfl ?_
            refine ev_ialdT f_X12_minuteGoes (nx := 200) rfl (hI.wf.s rfl) l54 (by decide) u59 (by decide) rfl (fun w61 e61 => ?_)
            obtain ⟨l61, u61⟩ := hI.abi e61 (by decide +kernel : t_abr 90 0 5 0 5 = true) l54 (by decide) u59 (by decide)
            refine ev_ialdT f_X12_minuteGoes (nx := 201) rfl (hI.wf.s rfl) l61 (by decide) u61 (by decide) rfl (fun w62 e62 => ?_)
            refine ev_loc f_X12_minuteGoes (nx := 202) rfl rfl rfl rfl ?_
            refine ev_gvI f_X12_minuteGoes (nx := 205) (w := (gi41 69 59)) rfl (hI.wf.s rfl) rfl rfl rfl rfl ?_
            refine ev_if f_X12_minuteGoes (t1 := 283) (t2 := 208) rfl rfl rfl (fun h63 => ?_) (fun h63 => ?_)
            · have r64 : (gi41 69 59).toInt < w62.toInt := Int32.lt_iff_toInt_lt.mp h63
              have l65 : 1 ≤ w62.toInt := t_ltl h63 l42 rfl
              refine ev_sub (lo := [(0, .ref 69)]) rfl (t_sc rfl t_sn) ?_
              exact L1 gi41 gl41 gr41  hI hX  j41_0
            · have r66 : w62.toInt ≤ (gi41 69 59).toInt := Int32.le_iff_toInt_le.mp (t_nlt h63)
              have u67 : w62.toInt ≤ 301 := t_leu (t_nlt h63) u42
              refine ev_loc f_X12_minuteGoes (nx := 209) rfl rfl rfl rfl ?_
              refine ev_getR f_X12_minuteGoes (nx := 212) rfl (hI.wf.s rfl) rfl rfl (hI.wf.r rfl) rfl rfl ?_
              refine ev_loc f_X12_minuteGoes (nx := 213) rfl rfl rfl rfl ?_
              refine ev_gvI f_X12_minuteGoes (nx := 216) (w := (gi41 69 64)) rfl (hI.wf.s rfl) rfl rfl rfl rfl ?_
              refine ev_ialdT f_X12_minuteGoes (nx := 217) rfl (hI.wf.s rfl) l54 (by decide) u59 (by decide) rfl (fun w68 e68 => ?_)
              rw [e68.trans e61.symm]
              refine ev_loc f_X12_minuteGoes (nx := 218) (lo' := [(1, .int w61), (0, .ref 69)]) rfl rfl rfl rfl ?_
              refine ev_loc f_X12_minuteGoes (nx := 219) rfl rfl rfl rfl ?_
              refine ev_alu f_X12_minuteGoes (nx := 220) rfl rfl rfl rfl ?_
              refine ev_getI f_X12_minuteGoes (nx := 223) rfl (hI.wf.s rfl) rfl rfl rfl ?_
              refine ev_loc f_X12_minuteGoes (nx := 224) rfl rfl rfl rfl ?_
              refine ev_gvI f_X12_minuteGoes (nx := 227) (w := (gi41 69 59)) rfl (hI.wf.s rfl) rfl rfl rfl rfl ?_
              refine ev_loc f_X12_minuteGoes (nx := 228) rfl rfl rfl rfl ?_
              refine ev_getR f_X12_minuteGoes (nx := 231) rfl (hI.wf.s rfl) rfl rfl (hI.wf.r rfl) rfl rfl ?_
              refine ev_loc f_X12_minuteGoes (nx := 232) rfl rfl rfl rfl ?_
              refine ev_ialdT f_X12_minuteGoes (nx := 233) rfl (hI.wf.s rfl) l61 (by decide) u61 (by decide) rfl (fun w69 e69 => ?_)
              rw [e69.trans e62.symm]
              refine ev_anyI f_X12_minuteGoes (nx := 234) rfl rfl rfl rfl (fun z70 => ?_)
              refine ev_loc f_X12_minuteGoes (nx := 235) rfl rfl rfl rfl ?_
              refine ev_loc f_X12_minuteGoes (nx := 236) rfl rfl rfl rfl ?_
              refine ev_ic f_X12_minuteGoes (nx := 237) (v := 3) rfl (by decide) rfl ?_
              refine ev_inV3 f_X12_minuteGoes (nx := 240) (lo2 := [(0, .ref 69), (1, .int w61), (2, .int 3)]) rfl rfl rfl rfl f_X12_ofShip (hI.wf.s rfl) rfl rfl rfl rfl rfl ?_
              refine ev_loc f_X12_ofShip (nx := 1) rfl rfl rfl rfl ?_
              refine ev_getR f_X12_ofShip (nx := 4) rfl (hI.wf.s rfl) rfl rfl (hI.wf.r rfl) rfl rfl ?_
              refine ev_bp f_X12_ofShip (nx := 6) (v := 52) rfl (by decide) rfl ?_
              refine ev_ic f_X12_ofShip (nx := 7) (v := 5) rfl (by decide) rfl ?_
              refine ev_loc f_X12_ofShip (nx := 8) rfl rfl rfl rfl ?_
              refine ev_mulL f_X12_ofShip (nx := 9) (c := 5) (l := 0) (u := 25) rfl (by decide) (by decide) l61 u61 rfl rfl (by decide) (by decide) rfl (fun z71 e71 l71 u71 => ?_)
              refine ev_addK f_X12_ofShip (nx := 10) (c := 52) (l := 52) (u := 77) rfl (by decide) l71 u71 rfl rfl (by decide) (by decide) rfl (fun z72 e72 l72 u72 => ?_)
              refine ev_loc f_X12_ofShip (nx := 11) rfl rfl rfl rfl ?_
              refine ev_addC f_X12_ofShip (nx := 12) (c := 3) (l := 55) (u := 80) rfl (by decide) l72 u72 rfl rfl (by decide) (by decide) rfl (fun z73 e73 l73 u73 => ?_)
              refine ev_ialdT f_X12_ofShip (nx := 13) rfl (hI.wf.s rfl) l73 (by decide) u73 (by decide) rfl (fun w74 e74 => ?_)
              obtain ⟨l74, u74⟩ := hI.abA (x := w61) e74 (by decide +kernel : t_aba 70 55 5 0 5 0 99 = true) (by omega) (by omega) (by omega)
              refine ev_retK1 f_X12_ofShip rfl rfl rfl ?_
              refine ev_anyI f_X12_minuteGoes (nx := 241) rfl rfl rfl rfl (fun z75 => ?_)
              refine ev_anyI f_X12_minuteGoes (nx := 242) rfl rfl rfl rfl (fun z76 => ?_)
              refine ev_putIT f_X12_minuteGoes (nx := 245) rfl (hI.wf.s rfl) rfl rfl rfl (hI.put0 (hI.wf.s rfl) rfl rfl) (hX.upI rfl) (fun g77 e77 hI hX => ?_)
              refine ev_loc f_X12_minuteGoes (nx := 246) rfl rfl rfl rfl ?_
              refine ev_loc f_X12_minuteGoes (nx := 247) rfl rfl rfl rfl ?_
              refine ev_gvI f_X12_minuteGoes (nx := 250) (w := (gi41 69 59)) rfl (hI.wf.s rfl) rfl rfl ((by rw [e77]; exact x_up2_off (Or.inr (by decide)) : g77 69 59 = gi41 69 59).trans rfl) rfl ?_
              refine ev_loc f_X12_minuteGoes (nx := 251) rfl rfl rfl rfl ?_
              refine ev_loc f_X12_minuteGoes (nx := 252) rfl rfl rfl rfl ?_
              refine ev_ic f_X12_minuteGoes (nx := 253) (v := 2) rfl (by decide) rfl ?_
              refine ev_inV3 f_X12_minuteGoes (nx := 256) (lo2 := [(0, .ref 69), (1, .int w61), (2, .int 2)]) rfl rfl rfl rfl f_X12_ofShip (hI.wf.s rfl) rfl rfl rfl rfl rfl ?_
              refine ev_loc f_X12_ofShip (nx := 1) rfl rfl rfl rfl ?_
              refine ev_getR f_X12_ofShip (nx := 4) rfl (hI.wf.s rfl) rfl rfl (hI.wf.r rfl) rfl rfl ?_
              refine ev_bp f_X12_ofShip (nx := 6) (v := 52) rfl (by decide) rfl ?_
              refine ev_ic f_X12_ofShip (nx := 7) (v := 5) rfl (by decide) rfl ?_
              refine ev_loc f_X12_ofShip (nx := 8) rfl rfl rfl rfl ?_
              refine ev_mulL f_X12_ofShip (nx := 9) (c := 5) (l := 0) (u := 25) rfl (by decide) (by decide) l61 u61 rfl rfl (by decide) (by decide) rfl (fun z78 e78 l78 u78 => ?_)
              refine ev_addK f_X12_ofShip (nx := 10) (c := 52) (l := 52) (u := 77) rfl (by decide) l78 u78 rfl rfl (by decide) (by decide) rfl (fun z79 e79 l79 u79 => ?_)
              refine ev_loc f_X12_ofShip (nx := 11) rfl rfl rfl rfl ?_
              refine ev_addC f_X12_ofShip (nx := 12) (c := 2) (l := 54) (u := 79) rfl (by decide) l79 u79 rfl rfl (by decide) (by decide) rfl (fun z80 e80 l80 u80 => ?_)
              refine ev_ialdT f_X12_ofShip (nx := 13) rfl (hI.wf.s rfl) l80 (by decide) u80 (by decide) rfl (fun w81 e81 => ?_)
              obtain ⟨l81, u81⟩ := hI.abA (x := w61) e81 (by decide +kernel : t_aba 70 54 5 0 5 0 20 = true) (by omega) (by omega) (by omega)
              refine ev_retK1 f_X12_ofShip rfl rfl rfl ?_
              refine ev_addR f_X12_minuteGoes (nx := 257) (l := 0) (u := 321) rfl l42 u42 l81 u81 rfl rfl (by decide) (by decide) rfl (fun z82 e82 l82 u82 => ?_)
              refine ev_putIT f_X12_minuteGoes (nx := 260) rfl (hI.wf.s rfl) rfl rfl rfl (hI.put0 (hI.wf.s rfl) rfl rfl) (hX.upI rfl) (fun g83 e83 hI hX => ?_)
              refine ev_loc f_X12_minuteGoes (nx := 261) rfl rfl rfl rfl ?_
              refine ev_alu f_X12_minuteGoes (nx := 262) rfl rfl rfl rfl ?_
              refine ev_getI f_X12_minuteGoes (nx := 265) rfl (hI.wf.s rfl) rfl rfl rfl ?_
              refine ev_ic f_X12_minuteGoes (nx := 266) (v := 1) rfl (by decide) rfl ?_
              refine ev_anyI f_X12_minuteGoes (nx := 267) rfl rfl rfl rfl (fun z84 => ?_)
              refine ev_putIT f_X12_minuteGoes (nx := 270) rfl (hI.wf.s rfl) rfl rfl rfl (hI.put0 (hI.wf.s rfl) rfl rfl) (hX.upI rfl) (fun g85 e85 hI hX => ?_)
              refine ev_loc f_X12_minuteGoes (nx := 271) rfl rfl rfl rfl ?_
              refine ev_alu f_X12_minuteGoes (nx := 272) rfl rfl rfl rfl ?_
              refine ev_gvI f_X12_minuteGoes (nx := 275) (w := (gi41 69 64)) rfl (hI.wf.s rfl) rfl rfl ((by rw [e85]; exact x_up2_off (Or.inr (by decide)) : g85 69 64 = g83 69 64).trans ((by rw [e83]; exact x_up2_off (Or.inr (by decide)) : g83 69 64 = g77 69 64).trans ((by rw [e77]; exact x_up2_off (Or.inr (by decide)) : g77 69 64 = gi41 69 64).trans rfl))) rfl ?_
              refine ev_ic f_X12_minuteGoes (nx := 276) (v := 1) rfl (by decide) rfl ?_
              refine ev_addC f_X12_minuteGoes (nx := 277) (c := 1) (l := 1) (u := 6) rfl (by decide) l54 u59 rfl rfl (by decide) (by decide) rfl (fun z86 e86 l86 u86 => ?_)
              refine ev_putIT f_X12_minuteGoes (nx := 280) rfl (hI.wf.s rfl) rfl rfl rfl (hI.putB (hI.wf.s rfl) rfl rfl l86 (by decide) u86 (by decide)) (hX.upI rfl) (fun g87 e87 hI hX => ?_)
              refine ev_jmp f_X12_minuteGoes (nx := 390) rfl rfl rfl ?_
              exact ev_ret f_X12_minuteGoes rfl rfl rfl ⟨_, _, _, rfl, hI, hX, rfl⟩
        · have r88 : (gi41 69 60).toInt ≠ 1 := fun e => h51 (Int32.toInt_inj.mp (e.trans (by decide : (1:Int) = (1 : Int32).toInt)))
          refine ev_sub (lo := [(0, .ref 69)]) rfl (t_sc rfl t_sn) ?_
          exact L1 gi41 gl41 gr41  hI hX  j41_0
      · have r89 : (gi41 69 59).toInt < (gi41 69 62).toInt := Int32.lt_iff_toInt_lt.mp (t_nle h48)
        have l90 : 1 ≤ (gi41 69 62).toInt := t_ltl (t_nle h48) l42 rfl
        refine ev_ic f_X12_isBusy (nx := 23) (v := 1) rfl (by decide) rfl ?_
        refine ev_jmp f_X12_isBusy (nx := 27) rfl rfl rfl ?_
        refine ev_retK1 f_X12_isBusy rfl rfl rfl ?_
        refine ev_f f_X12_minuteGoes (t1 := 168) (t2 := 167) rfl rfl rfl (by decide) ?_
        exact ev_ret f_X12_minuteGoes rfl rfl rfl ⟨_, _, _, rfl, hI, hX, rfl⟩
  have L91 : ∀ (gi91 : Nat → Nat → Int32) (gl91 : Nat → Nat → Int64) (gr91 : Nat → Nat → Value), t_I sh gi91 gr91 → t_X wl_m_minuteGoes sh gi gl gr gi91 gl91 gr91 → t_rpn (gi91 70) 0 → x_Ev X (d + 5) n_X12_minuteGoes 80 [(0, .ref 69)] [] (sh, gi91, gl91, gr91) (t_P wl_m_minuteGoes sh gi gl gr t_Rn) := by
    intro gi91 gl91 gr91 hI hX j91_0
    refine ev_loc f_X12_minuteGoes (nx := 81) rfl rfl rfl rfl ?_
    refine ev_c0 f_X12_minuteGoes (nx := 84) (r := []) rfl rfl rfl rfl rfl rfl rfl (c_m_strikes hI ) rfl hX rfl (fun gi92 gl92 gr92 hI hX hC92 => ?_)
    refine ev_loc f_X12_minuteGoes (nx := 85) rfl rfl rfl rfl ?_
    refine ev_inV1 f_X12_minuteGoes (nx := 88) (lo2 := [(0, .ref 69)]) rfl rfl rfl rfl f_X12_isBusy (hI.wf.s rfl) rfl rfl rfl rfl rfl ?_
    refine ev_loc f_X12_isBusy (nx := 1) rfl rfl rfl rfl ?_
    refine ev_getI f_X12_isBusy (nx := 4) rfl (hI.wf.s rfl) rfl rfl rfl ?_
    refine ev_loc f_X12_isBusy (nx := 5) rfl rfl rfl rfl ?_
    refine ev_getI f_X12_isBusy (nx := 8) rfl (hI.wf.s rfl) rfl rfl rfl ?_
    obtain ⟨l93, u93⟩ := hI.b (hI.wf.s (k := 69) rfl) (t_bdK rfl : t_bd 11 59 = some (0, 301))
    refine ev_if f_X12_isBusy (t1 := 22) (t2 := 11) rfl rfl rfl (fun h94 => ?_) (fun h94 => ?_)
    · have r95 : (gi92 69 59).toInt < (gi92 69 61).toInt := Int32.lt_iff_toInt_lt.mp h94
      have l96 : 1 ≤ (gi92 69 61).toInt := t_ltl h94 l93 rfl
      refine ev_ic f_X12_isBusy (nx := 23) (v := 1) rfl (by decide) rfl ?_
      refine ev_jmp f_X12_isBusy (nx := 27) rfl rfl rfl ?_
      refine ev_retK1 f_X12_isBusy rfl rfl rfl ?_
      refine ev_f f_X12_minuteGoes (t1 := 91) (t2 := 160) rfl rfl rfl (by decide) ?_
      refine ev_sub (lo := [(0, .ref 69)]) rfl (t_sc rfl t_sn) ?_
      exact L41 gi92 gl92 gr92  hI hX  (by have hq := ((funext (fun j => (hC92.1 70 j rfl).1) : gi92 70 = gi91 70)); rw [hq]; exact j91_0)
    · have r97 : (gi92 69 61).toInt ≤ (gi92 69 59).toInt := Int32.le_iff_toInt_le.mp (t_nlt h94)
      have u98 : (gi92 69 61).toInt ≤ 301 := t_leu (t_nlt h94) u93
      refine ev_loc f_X12_isBusy (nx := 12) rfl rfl rfl rfl ?_
      refine ev_getI f_X12_isBusy (nx := 15) rfl (hI.wf.s rfl) rfl rfl rfl ?_
      refine ev_loc f_X12_isBusy (nx := 16) rfl rfl rfl rfl ?_
      refine ev_gvI f_X12_isBusy (nx := 19) (w := (gi92 69 59)) rfl (hI.wf.s rfl) rfl rfl rfl rfl ?_
      refine ev_if f_X12_isBusy (t1 := 26) (t2 := 22) rfl rfl rfl (fun h99 => ?_) (fun h99 => ?_)
      · have r100 : (gi92 69 62).toInt ≤ (gi92 69 59).toInt := Int32.le_iff_toInt_le.mp h99
        have u101 : (gi92 69 62).toInt ≤ 301 := t_leu h99 u93
        refine ev_ic f_X12_isBusy (nx := 27) (v := 0) rfl (by decide) rfl ?_
        refine ev_retK1 f_X12_isBusy rfl rfl rfl ?_
        refine ev_t f_X12_minuteGoes (t1 := 91) (t2 := 160) rfl rfl rfl (by decide) ?_
        refine ev_loc f_X12_minuteGoes (nx := 92) rfl rfl rfl rfl ?_
        refine ev_cI f_X12_minuteGoes (nx := 95) (r := []) rfl rfl rfl rfl rfl rfl rfl (c_m_actNow hI  (by have hq := ((funext (fun j => (hC92.1 70 j rfl).1) : gi92 70 = gi91 70)); rw [hq]; exact j91_0)) rfl hX rfl (fun w102 gi102 gl102 gr102 l102 u102 hI hX hC102 => ?_)
        refine ev_loc f_X12_minuteGoes (nx := 96) (lo' := [(1, .int w102), (0, .ref 69)]) rfl rfl rfl rfl ?_
        refine ev_loc f_X12_minuteGoes (nx := 97) rfl rfl rfl rfl ?_
        refine ev_bp f_X12_minuteGoes (nx := 99) (v := 15) rfl (by decide) rfl ?_
        refine ev_if f_X12_minuteGoes (t1 := 102) (t2 := 109) rfl rfl rfl (fun h103 => ?_) (fun h103 => ?_)
        · have u104 : w102.toInt ≤ 15 := t_equ h103 (by decide : (15:Int32).toInt ≤ (15:Int))
          have l105 : 15 ≤ w102.toInt := t_eql h103 (by decide : (15:Int) ≤ (15:Int32).toInt)
          refine ev_loc f_X12_minuteGoes (nx := 103) rfl rfl rfl rfl ?_
          refine ev_getI f_X12_minuteGoes (nx := 106) rfl (hI.wf.s rfl) rfl rfl rfl ?_
          refine ev_if f_X12_minuteGoes (t1 := 123) (t2 := 109) rfl rfl rfl (fun h106 => ?_) (fun h106 => ?_)
          · have u107 : (gi102 69 60).toInt ≤ 0 := t_equ h106 (by decide : (0:Int32).toInt ≤ (0:Int))
            have l108 : 0 ≤ (gi102 69 60).toInt := t_eql h106 (by decide : (0:Int) ≤ (0:Int32).toInt)
            refine ev_loc f_X12_minuteGoes (nx := 124) rfl rfl rfl rfl ?_
            refine ev_loc f_X12_minuteGoes (nx := 125) rfl rfl rfl rfl ?_
            refine ev_gvI f_X12_minuteGoes (nx := 128) (w := (gi92 69 59)) rfl (hI.wf.s rfl) rfl rfl ((hC102.1 69 59 rfl).1.trans rfl) rfl ?_
            refine ev_loc f_X12_minuteGoes (nx := 129) rfl rfl rfl rfl ?_
            refine ev_loc f_X12_minuteGoes (nx := 130) rfl rfl rfl rfl ?_
            refine ev_gvI f_X12_minuteGoes (nx := 133) (w := (gi92 69 59)) rfl (hI.wf.s rfl) rfl rfl ((hC102.1 69 59 rfl).1.trans rfl) rfl ?_
            refine ev_loc f_X12_minuteGoes (nx := 134) rfl rfl rfl rfl ?_
            refine ev_getR f_X12_minuteGoes (nx := 137) rfl (hI.wf.s rfl) rfl rfl (hI.wf.r rfl) rfl rfl ?_
            refine ev_ic f_X12_minuteGoes (nx := 138) (v := 4) rfl (by decide) rfl ?_
            obtain ⟨l109, u109⟩ := hI.ab (by decide +kernel : t_abr 70 4 4 0 20 = true) (Nat.le_refl _) (Nat.le_refl _)
            refine ev_ialdv f_X12_minuteGoes (nx := 139) (w := (gi102 70 4)) rfl (hI.wf.s rfl) (by decide) (rfl : (4 : Int32).toNatClampNeg = 4) (by decide) rfl rfl ?_
            refine ev_inV3 f_X12_minuteGoes (nx := 142) (lo2 := [(0, .ref 69), (1, .int (gi92 69 59)), (2, .int (gi102 70 4))]) rfl rfl rfl rfl f_X12_turnTime (hI.wf.s rfl) rfl rfl rfl rfl rfl ?_
            refine ev_loc f_X12_turnTime (nx := 1) rfl rfl rfl rfl ?_
            refine ev_loc f_X12_turnTime (nx := 2) rfl rfl rfl rfl ?_
            refine ev_getR f_X12_turnTime (nx := 5) rfl (hI.wf.s rfl) rfl rfl (hI.wf.r rfl) rfl rfl ?_
            refine ev_ic f_X12_turnTime (nx := 6) (v := 5) rfl (by decide) rfl ?_
            obtain ⟨l110, u110⟩ := hI.ab (by decide +kernel : t_abr 70 5 5 0 20 = true) (Nat.le_refl _) (Nat.le_refl _)
            refine ev_ialdv f_X12_turnTime (nx := 7) (w := (gi102 70 5)) rfl (hI.wf.s rfl) (by decide) (rfl : (5 : Int32).toNatClampNeg = 5) (by decide) rfl rfl ?_
            refine ev_if f_X12_turnTime (t1 := 30) (t2 := 10) rfl rfl rfl (fun h111 => ?_) (fun h111 => ?_)
            · have u112 : (gi102 70 5).toInt ≤ 0 := t_leu h111 (by decide : (0:Int32).toInt ≤ (0:Int))
              refine ev_ic f_X12_turnTime (nx := 31) (v := 0) rfl (by decide) rfl ?_
              refine ev_addC f_X12_turnTime (nx := 32) (c := 0) (l := 0) (u := 20) rfl (by decide) l109 u109 rfl rfl (by decide) (by decide) rfl (fun z113 e113 l113 u113 => ?_)
              refine ev_retK1 f_X12_turnTime rfl rfl rfl ?_
              refine ev_addR f_X12_minuteGoes (nx := 143) (l := 0) (u := 321) rfl l93 u93 l113 u113 rfl rfl (by decide) (by decide) rfl (fun z114 e114 l114 u114 => ?_)
              refine ev_putIT f_X12_minuteGoes (nx := 146) rfl (hI.wf.s rfl) rfl rfl rfl (hI.put0 (hI.wf.s rfl) rfl rfl) (hX.upI rfl) (fun g115 e115 hI hX => ?_)
              refine ev_loc f_X12_minuteGoes (nx := 147) rfl rfl rfl rfl ?_
              refine ev_alu f_X12_minuteGoes (nx := 148) rfl rfl rfl rfl ?_
              refine ev_getI f_X12_minuteGoes (nx := 151) rfl (hI.wf.s rfl) rfl rfl rfl ?_
              refine ev_ic f_X12_minuteGoes (nx := 152) (v := 1) rfl (by decide) rfl ?_
              refine ev_anyI f_X12_minuteGoes (nx := 153) rfl rfl rfl rfl (fun z116 => ?_)
              refine ev_putIT f_X12_minuteGoes (nx := 156) rfl (hI.wf.s rfl) rfl rfl rfl (hI.put0 (hI.wf.s rfl) rfl rfl) (hX.upI rfl) (fun g117 e117 hI hX => ?_)
              refine ev_loc f_X12_minuteGoes (nx := 157) rfl rfl rfl rfl ?_
              refine ev_c0 f_X12_minuteGoes (nx := 160) (r := []) rfl rfl rfl rfl rfl rfl rfl (c_m_strikes hI ) rfl hX rfl (fun gi118 gl118 gr118 hI hX hC118 => ?_)
              refine ev_sub (lo := [(0, .ref 69)]) rfl (t_sc rfl t_sn) ?_
              exact L41 gi118 gl118 gr118  hI hX  (by have hq := ((funext (fun j => (hC118.1 70 j rfl).1) : gi118 70 = g117 70).trans ((by rw [e117]; exact x_up2_ne (by decide) : g117 70 = g115 70).trans ((by rw [e115]; exact x_up2_ne (by decide) : g115 70 = gi102 70).trans ((funext (fun j => (hC102.1 70 j rfl).1) : gi102 70 = gi92 70).trans ((funext (fun j => (hC92.1 70 j rfl).1) : gi92 70 = gi91 70)))))); rw [hq]; exact j91_0)
            · have l119 : 1 ≤ (gi102 70 5).toInt := t_ltl (t_nle h111) (by decide : (0:Int) ≤ (0:Int32).toInt) rfl
              refine ev_loc f_X12_turnTime (nx := 11) rfl rfl rfl rfl ?_
              refine ev_loc f_X12_turnTime (nx := 12) rfl rfl rfl rfl ?_
              refine ev_getR f_X12_turnTime (nx := 15) rfl (hI.wf.s rfl) rfl rfl (hI.wf.r rfl) rfl rfl ?_
              refine ev_bp f_X12_turnTime (nx := 17) (v := 6) rfl (by decide) rfl ?_
              obtain ⟨l120, u120⟩ := hI.ab (by decide +kernel : t_abr 70 6 6 0 200 = true) (Nat.le_refl _) (Nat.le_refl _)
              refine ev_ialdv f_X12_turnTime (nx := 18) (w := (gi102 70 6)) rfl (hI.wf.s rfl) (by decide) (rfl : (6 : Int32).toNatClampNeg = 6) (by decide) rfl rfl ?_
              refine ev_if f_X12_turnTime (t1 := 30) (t2 := 21) rfl rfl rfl (fun h121 => ?_) (fun h121 => ?_)
              · have r122 : (gi92 69 59).toInt < (gi102 70 6).toInt := Int32.lt_iff_toInt_lt.mp h121
                have u123 : (gi92 69 59).toInt ≤ 199 := t_ltu h121 u120 rfl
                have l124 : 1 ≤ (gi102 70 6).toInt := t_ltl h121 l93 rfl
                refine ev_ic f_X12_turnTime (nx := 31) (v := 0) rfl (by decide) rfl ?_
                refine ev_addC f_X12_turnTime (nx := 32) (c := 0) (l := 0) (u := 20) rfl (by decide) l109 u109 rfl rfl (by decide) (by decide) rfl (fun z125 e125 l125 u125 => ?_)
                refine ev_retK1 f_X12_turnTime rfl rfl rfl ?_
                refine ev_addR f_X12_minuteGoes (nx := 143) (l := 0) (u := 219) rfl l93 u123 l125 u125 rfl rfl (by decide) (by decide) rfl (fun z126 e126 l126 u126 => ?_)
                refine ev_putIT f_X12_minuteGoes (nx := 146) rfl (hI.wf.s rfl) rfl rfl rfl (hI.put0 (hI.wf.s rfl) rfl rfl) (hX.upI rfl) (fun g127 e127 hI hX => ?_)
                refine ev_loc f_X12_minuteGoes (nx := 147) rfl rfl rfl rfl ?_
                refine ev_alu f_X12_minuteGoes (nx := 148) rfl rfl rfl rfl ?_
                refine ev_getI f_X12_minuteGoes (nx := 151) rfl (hI.wf.s rfl) rfl rfl rfl ?_
                refine ev_ic f_X12_minuteGoes (nx := 152) (v := 1) rfl (by decide) rfl ?_
                refine ev_anyI f_X12_minuteGoes (nx := 153) rfl rfl rfl rfl (fun z128 => ?_)
                refine ev_putIT f_X12_minuteGoes (nx := 156) rfl (hI.wf.s rfl) rfl rfl rfl (hI.put0 (hI.wf.s rfl) rfl rfl) (hX.upI rfl) (fun g129 e129 hI hX => ?_)
                refine ev_loc f_X12_minuteGoes (nx := 157) rfl rfl rfl rfl ?_
                refine ev_c0 f_X12_minuteGoes (nx := 160) (r := []) rfl rfl rfl rfl rfl rfl rfl (c_m_strikes hI ) rfl hX rfl (fun gi130 gl130 gr130 hI hX hC130 => ?_)
                refine ev_sub (lo := [(0, .ref 69)]) rfl (t_sc rfl t_sn) ?_
                exact L41 gi130 gl130 gr130  hI hX  (by have hq := ((funext (fun j => (hC130.1 70 j rfl).1) : gi130 70 = g129 70).trans ((by rw [e129]; exact x_up2_ne (by decide) : g129 70 = g127 70).trans ((by rw [e127]; exact x_up2_ne (by decide) : g127 70 = gi102 70).trans ((funext (fun j => (hC102.1 70 j rfl).1) : gi102 70 = gi92 70).trans ((funext (fun j => (hC92.1 70 j rfl).1) : gi92 70 = gi91 70)))))); rw [hq]; exact j91_0)
              · have r131 : (gi102 70 6).toInt ≤ (gi92 69 59).toInt := Int32.le_iff_toInt_le.mp (t_nlt h121)
                refine ev_loc f_X12_turnTime (nx := 22) rfl rfl rfl rfl ?_
                refine ev_getR f_X12_turnTime (nx := 25) rfl (hI.wf.s rfl) rfl rfl (hI.wf.r rfl) rfl rfl ?_
                refine ev_ic f_X12_turnTime (nx := 26) (v := 5) rfl (by decide) rfl ?_
                refine ev_ialdv f_X12_turnTime (nx := 27) (w := (gi102 70 5)) rfl (hI.wf.s rfl) (by decide) (rfl : (5 : Int32).toNatClampNeg = 5) (by decide) rfl rfl ?_
                refine ev_jmp f_X12_turnTime (nx := 31) rfl rfl rfl ?_
                refine ev_addR f_X12_turnTime (nx := 32) (l := 1) (u := 40) rfl l109 u109 l119 u110 rfl rfl (by decide) (by decide) rfl (fun z133 e133 l133 u133 => ?_)
                refine ev_retK1 f_X12_turnTime rfl rfl rfl ?_
                refine ev_addR f_X12_minuteGoes (nx := 143) (l := 1) (u := 341) rfl l93 u93 l133 u133 rfl rfl (by decide) (by decide) rfl (fun z134 e134 l134 u134 => ?_)
                refine ev_putIT f_X12_minuteGoes (nx := 146) rfl (hI.wf.s rfl) rfl rfl rfl (hI.put0 (hI.wf.s rfl) rfl rfl) (hX.upI rfl) (fun g135 e135 hI hX => ?_)
                refine ev_loc f_X12_minuteGoes (nx := 147) rfl rfl rfl rfl ?_
                refine ev_alu f_X12_minuteGoes (nx := 148) rfl rfl rfl rfl ?_
                refine ev_getI f_X12_minuteGoes (nx := 151) rfl (hI.wf.s rfl) rfl rfl rfl ?_
                refine ev_ic f_X12_minuteGoes (nx := 152) (v := 1) rfl (by decide) rfl ?_
                refine ev_anyI f_X12_minuteGoes (nx := 153) rfl rfl rfl rfl (fun z136 => ?_)
                refine ev_putIT f_X12_minuteGoes (nx := 156) rfl (hI.wf.s rfl) rfl rfl rfl (hI.put0 (hI.wf.s rfl) rfl rfl) (hX.upI rfl) (fun g137 e137 hI hX => ?_)
                refine ev_loc f_X12_minuteGoes (nx := 157) rfl rfl rfl rfl ?_
                refine ev_c0 f_X12_minuteGoes (nx := 160) (r := []) rfl rfl rfl rfl rfl rfl rfl (c_m_strikes hI ) rfl hX rfl (fun gi138 gl138 gr138 hI hX hC138 => ?_)
                refine ev_sub (lo := [(0, .ref 69)]) rfl (t_sc rfl t_sn) ?_
                exact L41 gi138 gl138 gr138  hI hX  (by have hq := ((funext (fun j => (hC138.1 70 j rfl).1) : gi138 70 = g137 70).trans ((by rw [e137]; exact x_up2_ne (by decide) : g137 70 = g135 70).trans ((by rw [e135]; exact x_up2_ne (by decide) : g135 70 = gi102 70).trans ((funext (fun j => (hC102.1 70 j rfl).1) : gi102 70 = gi92 70).trans ((funext (fun j => (hC92.1 70 j rfl).1) : gi92 70 = gi91 70)))))); rw [hq]; exact j91_0)
          · have r139 : (gi102 69 60).toInt ≠ 0 := fun e => h106 (Int32.toInt_inj.mp (e.trans (by decide : (0:Int) = (0 : Int32).toInt)))
            refine ev_loc f_X12_minuteGoes (nx := 110) rfl rfl rfl rfl ?_
            refine ev_bp f_X12_minuteGoes (nx := 112) (v := 16) rfl (by decide) rfl ?_
            refine ev_f f_X12_minuteGoes (t1 := 115) (t2 := 160) rfl rfl rfl (t_neT u104 (by decide : (16:Int) ≤ (16:Int32).toInt) (by decide)) ?_
            refine ev_sub (lo := [(0, .ref 69)]) rfl (t_sc rfl t_sn) ?_
            exact L41 gi102 gl102 gr102  hI hX  (by have hq := ((funext (fun j => (hC102.1 70 j rfl).1) : gi102 70 = gi92 70).trans ((funext (fun j => (hC92.1 70 j rfl).1) : gi92 70 = gi91 70))); rw [hq]; exact j91_0)
        · have r140 : w102.toInt ≠ 15 := fun e => h103 (Int32.toInt_inj.mp (e.trans (by decide : (15:Int) = (15 : Int32).toInt)))
          refine ev_loc f_X12_minuteGoes (nx := 110) rfl rfl rfl rfl ?_
          refine ev_bp f_X12_minuteGoes (nx := 112) (v := 16) rfl (by decide) rfl ?_
          refine ev_if f_X12_minuteGoes (t1 := 115) (t2 := 160) rfl rfl rfl (fun h141 => ?_) (fun h141 => ?_)
          · have u142 : w102.toInt ≤ 16 := t_equ h141 (by decide : (16:Int32).toInt ≤ (16:Int))
            have l143 : 16 ≤ w102.toInt := t_eql h141 (by decide : (16:Int) ≤ (16:Int32).toInt)
            refine ev_loc f_X12_minuteGoes (nx := 116) rfl rfl rfl rfl ?_
            refine ev_getI f_X12_minuteGoes (nx := 119) rfl (hI.wf.s rfl) rfl rfl rfl ?_
            refine ev_ic f_X12_minuteGoes (nx := 120) (v := 1) rfl (by decide) rfl ?_
            refine ev_if f_X12_minuteGoes (t1 := 123) (t2 := 160) rfl rfl rfl (fun h144 => ?_) (fun h144 => ?_)
            · have u145 : (gi102 69 60).toInt ≤ 1 := t_equ h144 (by decide : (1:Int32).toInt ≤ (1:Int))
              have l146 : 1 ≤ (gi102 69 60).toInt := t_eql h144 (by decide : (1:Int) ≤ (1:Int32).toInt)
              refine ev_loc f_X12_minuteGoes (nx := 124) rfl rfl rfl rfl ?_
              refine ev_loc f_X12_minuteGoes (nx := 125) rfl rfl rfl rfl ?_
              refine ev_gvI f_X12_minuteGoes (nx := 128) (w := (gi92 69 59)) rfl (hI.wf.s rfl) rfl rfl ((hC102.1 69 59 rfl).1.trans rfl) rfl ?_
              refine ev_loc f_X12_minuteGoes (nx := 129) rfl rfl rfl rfl ?_
              refine ev_loc f_X12_minuteGoes (nx := 130) rfl rfl rfl rfl ?_
              refine ev_gvI f_X12_minuteGoes (nx := 133) (w := (gi92 69 59)) rfl (hI.wf.s rfl) rfl rfl ((hC102.1 69 59 rfl).1.trans rfl) rfl ?_
              refine ev_loc f_X12_minuteGoes (nx := 134) rfl rfl rfl rfl ?_
              refine ev_getR f_X12_minuteGoes (nx := 137) rfl (hI.wf.s rfl) rfl rfl (hI.wf.r rfl) rfl rfl ?_
              refine ev_ic f_X12_minuteGoes (nx := 138) (v := 4) rfl (by decide) rfl ?_
              obtain ⟨l147, u147⟩ := hI.ab (by decide +kernel : t_abr 70 4 4 0 20 = true) (Nat.le_refl _) (Nat.le_refl _)
              refine ev_ialdv f_X12_minuteGoes (nx := 139) (w := (gi102 70 4)) rfl (hI.wf.s rfl) (by decide) (rfl : (4 : Int32).toNatClampNeg = 4) (by decide) rfl rfl ?_
              refine ev_inV3 f_X12_minuteGoes (nx := 142) (lo2 := [(0, .ref 69), (1, .int (gi92 69 59)), (2, .int (gi102 70 4))]) rfl rfl rfl rfl f_X12_turnTime (hI.wf.s rfl) rfl rfl rfl rfl rfl ?_
              refine ev_loc f_X12_turnTime (nx := 1) rfl rfl rfl rfl ?_
              refine ev_loc f_X12_turnTime (nx := 2) rfl rfl rfl rfl ?_
              refine ev_getR f_X12_turnTime (nx := 5) rfl (hI.wf.s rfl) rfl rfl (hI.wf.r rfl) rfl rfl ?_
              refine ev_ic f_X12_turnTime (nx := 6) (v := 5) rfl (by decide) rfl ?_
              obtain ⟨l148, u148⟩ := hI.ab (by decide +kernel : t_abr 70 5 5 0 20 = true) (Nat.le_refl _) (Nat.le_refl _)
              refine ev_ialdv f_X12_turnTime (nx := 7) (w := (gi102 70 5)) rfl (hI.wf.s rfl) (by decide) (rfl : (5 : Int32).toNatClampNeg = 5) (by decide) rfl rfl ?_
              refine ev_if f_X12_turnTime (t1 := 30) (t2 := 10) rfl rfl rfl (fun h149 => ?_) (fun h149 => ?_)
              · have u150 : (gi102 70 5).toInt ≤ 0 := t_leu h149 (by decide : (0:Int32).toInt ≤ (0:Int))
                refine ev_ic f_X12_turnTime (nx := 31) (v := 0) rfl (by decide) rfl ?_
                refine ev_addC f_X12_turnTime (nx := 32) (c := 0) (l := 0) (u := 20) rfl (by decide) l147 u147 rfl rfl (by decide) (by decide) rfl (fun z151 e151 l151 u151 => ?_)
                refine ev_retK1 f_X12_turnTime rfl rfl rfl ?_
                refine ev_addR f_X12_minuteGoes (nx := 143) (l := 0) (u := 321) rfl l93 u93 l151 u151 rfl rfl (by decide) (by decide) rfl (fun z152 e152 l152 u152 => ?_)
                refine ev_putIT f_X12_minuteGoes (nx := 146) rfl (hI.wf.s rfl) rfl rfl rfl (hI.put0 (hI.wf.s rfl) rfl rfl) (hX.upI rfl) (fun g153 e153 hI hX => ?_)
                refine ev_loc f_X12_minuteGoes (nx := 147) rfl rfl rfl rfl ?_
                refine ev_alu f_X12_minuteGoes (nx := 148) rfl rfl rfl rfl ?_
                refine ev_getI f_X12_minuteGoes (nx := 151) rfl (hI.wf.s rfl) rfl rfl rfl ?_
                refine ev_ic f_X12_minuteGoes (nx := 152) (v := 1) rfl (by decide) rfl ?_
                refine ev_anyI f_X12_minuteGoes (nx := 153) rfl rfl rfl rfl (fun z154 => ?_)
                refine ev_putIT f_X12_minuteGoes (nx := 156) rfl (hI.wf.s rfl) rfl rfl rfl (hI.put0 (hI.wf.s rfl) rfl rfl) (hX.upI rfl) (fun g155 e155 hI hX => ?_)
                refine ev_loc f_X12_minuteGoes (nx := 157) rfl rfl rfl rfl ?_
                refine ev_c0 f_X12_minuteGoes (nx := 160) (r := []) rfl rfl rfl rfl rfl rfl rfl (c_m_strikes hI ) rfl hX rfl (fun gi156 gl156 gr156 hI hX hC156 => ?_)
                refine ev_sub (lo := [(0, .ref 69)]) rfl (t_sc rfl t_sn) ?_
                exact L41 gi156 gl156 gr156  hI hX  (by have hq := ((funext (fun j => (hC156.1 70 j rfl).1) : gi156 70 = g155 70).trans ((by rw [e155]; exact x_up2_ne (by decide) : g155 70 = g153 70).trans ((by rw [e153]; exact x_up2_ne (by decide) : g153 70 = gi102 70).trans ((funext (fun j => (hC102.1 70 j rfl).1) : gi102 70 = gi92 70).trans ((funext (fun j => (hC92.1 70 j rfl).1) : gi92 70 = gi91 70)))))); rw [hq]; exact j91_0)
              · have l157 : 1 ≤ (gi102 70 5).toInt := t_ltl (t_nle h149) (by decide : (0:Int) ≤ (0:Int32).toInt) rfl
                refine ev_loc f_X12_turnTime (nx := 11) rfl rfl rfl rfl ?_
                refine ev_loc f_X12_turnTime (nx := 12) rfl rfl rfl rfl ?_
                refine ev_getR f_X12_turnTime (nx := 15) rfl (hI.wf.s rfl) rfl rfl (hI.wf.r rfl) rfl rfl ?_
                refine ev_bp f_X12_turnTime (nx := 17) (v := 6) rfl (by decide) rfl ?_
                obtain ⟨l158, u158⟩ := hI.ab (by decide +kernel : t_abr 70 6 6 0 200 = true) (Nat.le_refl _) (Nat.le_refl _)
                refine ev_ialdv f_X12_turnTime (nx := 18) (w := (gi102 70 6)) rfl (hI.wf.s rfl) (by decide) (rfl : (6 : Int32).toNatClampNeg = 6) (by decide) rfl rfl ?_
                refine ev_if f_X12_turnTime (t1 := 30) (t2 := 21) rfl rfl rfl (fun h159 => ?_) (fun h159 => ?_)
                · have r160 : (gi92 69 59).toInt < (gi102 70 6).toInt := Int32.lt_iff_toInt_lt.mp h159
                  have u161 : (gi92 69 59).toInt ≤ 199 := t_ltu h159 u158 rfl
                  have l162 : 1 ≤ (gi102 70 6).toInt := t_ltl h159 l93 rfl
                  refine ev_ic f_X12_turnTime (nx := 31) (v := 0) rfl (by decide) rfl ?_
                  refine ev_addC f_X12_turnTime (nx := 32) (c := 0) (l := 0) (u := 20) rfl (by decide) l147 u147 rfl rfl (by decide) (by decide) rfl (fun z163 e163 l163 u163 => ?_)
                  refine ev_retK1 f_X12_turnTime rfl rfl rfl ?_
                  refine ev_addR f_X12_minuteGoes (nx := 143) (l := 0) (u := 219) rfl l93 u161 l163 u163 rfl rfl (by decide) (by decide) rfl (fun z164 e164 l164 u164 => ?_)
                  refine ev_putIT f_X12_minuteGoes (nx := 146) rfl (hI.wf.s rfl) rfl rfl rfl (hI.put0 (hI.wf.s rfl) rfl rfl) (hX.upI rfl) (fun g165 e165 hI hX => ?_)
                  refine ev_loc f_X12_minuteGoes (nx := 147) rfl rfl rfl rfl ?_
                  refine ev_alu f_X12_minuteGoes (nx := 148) rfl rfl rfl rfl ?_
                  refine ev_getI f_X12_minuteGoes (nx := 151) rfl (hI.wf.s rfl) rfl rfl rfl ?_
                  refine ev_ic f_X12_minuteGoes (nx := 152) (v := 1) rfl (by decide) rfl ?_
                  refine ev_anyI f_X12_minuteGoes (nx := 153) rfl rfl rfl rfl (fun z166 => ?_)
                  refine ev_putIT f_X12_minuteGoes (nx := 156) rfl (hI.wf.s rfl) rfl rfl rfl (hI.put0 (hI.wf.s rfl) rfl rfl) (hX.upI rfl) (fun g167 e167 hI hX => ?_)
                  refine ev_loc f_X12_minuteGoes (nx := 157) rfl rfl rfl rfl ?_
                  refine ev_c0 f_X12_minuteGoes (nx := 160) (r := []) rfl rfl rfl rfl rfl rfl rfl (c_m_strikes hI ) rfl hX rfl (fun gi168 gl168 gr168 hI hX hC168 => ?_)
                  refine ev_sub (lo := [(0, .ref 69)]) rfl (t_sc rfl t_sn) ?_
                  exact L41 gi168 gl168 gr168  hI hX  (by have hq := ((funext (fun j => (hC168.1 70 j rfl).1) : gi168 70 = g167 70).trans ((by rw [e167]; exact x_up2_ne (by decide) : g167 70 = g165 70).trans ((by rw [e165]; exact x_up2_ne (by decide) : g165 70 = gi102 70).trans ((funext (fun j => (hC102.1 70 j rfl).1) : gi102 70 = gi92 70).trans ((funext (fun j => (hC92.1 70 j rfl).1) : gi92 70 = gi91 70)))))); rw [hq]; exact j91_0)
                · have r169 : (gi102 70 6).toInt ≤ (gi92 69 59).toInt := Int32.le_iff_toInt_le.mp (t_nlt h159)
                  refine ev_loc f_X12_turnTime (nx := 22) rfl rfl rfl rfl ?_
                  refine ev_getR f_X12_turnTime (nx := 25) rfl (hI.wf.s rfl) rfl rfl (hI.wf.r rfl) rfl rfl ?_
                  refine ev_ic f_X12_turnTime (nx := 26) (v := 5) rfl (by decide) rfl ?_
                  refine ev_ialdv f_X12_turnTime (nx := 27) (w := (gi102 70 5)) rfl (hI.wf.s rfl) (by decide) (rfl : (5 : Int32).toNatClampNeg = 5) (by decide) rfl rfl ?_
                  refine ev_jmp f_X12_turnTime (nx := 31) rfl rfl rfl ?_
                  refine ev_addR f_X12_turnTime (nx := 32) (l := 1) (u := 40) rfl l147 u147 l157 u148 rfl rfl (by decide) (by decide) rfl (fun z171 e171 l171 u171 => ?_)
                  refine ev_retK1 f_X12_turnTime rfl rfl rfl ?_
                  refine ev_addR f_X12_minuteGoes (nx := 143) (l := 1) (u := 341) rfl l93 u93 l171 u171 rfl rfl (by decide) (by decide) rfl (fun z172 e172 l172 u172 => ?_)
                  refine ev_putIT f_X12_minuteGoes (nx := 146) rfl (hI.wf.s rfl) rfl rfl rfl (hI.put0 (hI.wf.s rfl) rfl rfl) (hX.upI rfl) (fun g173 e173 hI hX => ?_)
                  refine ev_loc f_X12_minuteGoes (nx := 147) rfl rfl rfl rfl ?_
                  refine ev_alu f_X12_minuteGoes (nx := 148) rfl rfl rfl rfl ?_
                  refine ev_getI f_X12_minuteGoes (nx := 151) rfl (hI.wf.s rfl) rfl rfl rfl ?_
                  refine ev_ic f_X12_minuteGoes (nx := 152) (v := 1) rfl (by decide) rfl ?_
                  refine ev_anyI f_X12_minuteGoes (nx := 153) rfl rfl rfl rfl (fun z174 => ?_)
                  refine ev_putIT f_X12_minuteGoes (nx := 156) rfl (hI.wf.s rfl) rfl rfl rfl (hI.put0 (hI.wf.s rfl) rfl rfl) (hX.upI rfl) (fun g175 e175 hI hX => ?_)
                  refine ev_loc f_X12_minuteGoes (nx := 157) rfl rfl rfl rfl ?_
                  refine ev_c0 f_X12_minuteGoes (nx := 160) (r := []) rfl rfl rfl rfl rfl rfl rfl (c_m_strikes hI ) rfl hX rfl (fun gi176 gl176 gr176 hI hX hC176 => ?_)
                  refine ev_sub (lo := [(0, .ref 69)]) rfl (t_sc rfl t_sn) ?_
                  exact L41 gi176 gl176 gr176  hI hX  (by have hq := ((funext (fun j => (hC176.1 70 j rfl).1) : gi176 70 = g175 70).trans ((by rw [e175]; exact x_up2_ne (by decide) : g175 70 = g173 70).trans ((by rw [e173]; exact x_up2_ne (by decide) : g173 70 = gi102 70).trans ((funext (fun j => (hC102.1 70 j rfl).1) : gi102 70 = gi92 70).trans ((funext (fun j => (hC92.1 70 j rfl).1) : gi92 70 = gi91 70)))))); rw [hq]; exact j91_0)
            · have r177 : (gi102 69 60).toInt ≠ 1 := fun e => h144 (Int32.toInt_inj.mp (e.trans (by decide : (1:Int) = (1 : Int32).toInt)))
              refine ev_sub (lo := [(0, .ref 69)]) rfl (t_sc rfl t_sn) ?_
              exact L41 gi102 gl102 gr102  hI hX  (by have hq := ((funext (fun j => (hC102.1 70 j rfl).1) : gi102 70 = gi92 70).trans ((funext (fun j => (hC92.1 70 j rfl).1) : gi92 70 = gi91 70))); rw [hq]; exact j91_0)
          · have r178 : w102.toInt ≠ 16 := fun e => h141 (Int32.toInt_inj.mp (e.trans (by decide : (16:Int) = (16 : Int32).toInt)))
            refine ev_sub (lo := [(0, .ref 69)]) rfl (t_sc rfl t_sn) ?_
            exact L41 gi102 gl102 gr102  hI hX  (by have hq := ((funext (fun j => (hC102.1 70 j rfl).1) : gi102 70 = gi92 70).trans ((funext (fun j => (hC92.1 70 j rfl).1) : gi92 70 = gi91 70))); rw [hq]; exact j91_0)
      · have r179 : (gi92 69 59).toInt < (gi92 69 62).toInt := Int32.lt_iff_toInt_lt.mp (t_nle h99)
        have l180 : 1 ≤ (gi92 69 62).toInt := t_ltl (t_nle h99) l93 rfl
        refine ev_ic f_X12_isBusy (nx := 23) (v := 1) rfl (by decide) rfl ?_
        refine ev_jmp f_X12_isBusy (nx := 27) rfl rfl rfl ?_
        refine ev_retK1 f_X12_isBusy rfl rfl rfl ?_
        refine ev_f f_X12_minuteGoes (t1 := 91) (t2 := 160) rfl rfl rfl (by decide) ?_
        refine ev_sub (lo := [(0, .ref 69)]) rfl (t_sc rfl t_sn) ?_
        exact L41 gi92 gl92 gr92  hI hX  (by have hq := ((funext (fun j => (hC92.1 70 j rfl).1) : gi92 70 = gi91 70)); rw [hq]; exact j91_0)
  have L181 : ∀ (gi181 : Nat → Nat → Int32) (gl181 : Nat → Nat → Int64) (gr181 : Nat → Nat → Value), t_I sh gi181 gr181 → t_X wl_m_minuteGoes sh gi gl gr gi181 gl181 gr181 → t_rpn (gi181 70) 0 → x_Ev X (d + 5) n_X12_minuteGoes 34 [(0, .ref 69)] [] (sh, gi181, gl181, gr181) (t_P wl_m_minuteGoes sh gi gl gr t_Rn) := by
    intro gi181 gl181 gr181 hI hX j181_0
    refine ev_loc f_X12_minuteGoes (nx := 35) rfl rfl rfl rfl ?_
    refine ev_c0 f_X12_minuteGoes (nx := 38) (r := []) rfl rfl rfl rfl rfl rfl rfl (c_m_passesOver hI ) rfl hX rfl (fun gi182 gl182 gr182 hI hX hC182 => ?_)
    refine ev_loc f_X12_minuteGoes (nx := 39) rfl rfl rfl rfl ?_
    refine ev_getI f_X12_minuteGoes (nx := 42) rfl (hI.wf.s rfl) rfl rfl rfl ?_
    obtain ⟨l183, u183⟩ := hI.b (hI.wf.s (k := 69) rfl) (t_bdK rfl : t_bd 11 64 = some (0, 6))
    refine ev_loc f_X12_minuteGoes (nx := 43) rfl rfl rfl rfl ?_
    refine ev_getI f_X12_minuteGoes (nx := 46) rfl (hI.wf.s rfl) rfl rfl rfl ?_
    obtain ⟨l184, u184⟩ := hI.b (hI.wf.s (k := 69) rfl) (t_bdK rfl : t_bd 11 44 = some (0, 6))
    refine ev_if f_X12_minuteGoes (t1 := 49) (t2 := 80) rfl rfl rfl (fun h185 => ?_) (fun h185 => ?_)
    · have r186 : (gi182 69 64).toInt = (gi182 69 44).toInt := t_eqi h185
      refine ev_loc f_X12_minuteGoes (nx := 50) rfl rfl rfl rfl ?_
      refine ev_getI f_X12_minuteGoes (nx := 53) rfl (hI.wf.s rfl) rfl rfl rfl ?_
      obtain ⟨l187, u187⟩ := hI.b (hI.wf.s (k := 69) rfl) (t_bdK rfl : t_bd 11 65 = some (0, 6))
      refine ev_loc f_X12_minuteGoes (nx := 54) rfl rfl rfl rfl ?_
      refine ev_getI f_X12_minuteGoes (nx := 57) rfl (hI.wf.s rfl) rfl rfl rfl ?_
      obtain ⟨l188, u188⟩ := hI.b (hI.wf.s (k := 69) rfl) (t_bdK rfl : t_bd 11 45 = some (0, 6))
      refine ev_if f_X12_minuteGoes (t1 := 60) (t2 := 80) rfl rfl rfl (fun h189 => ?_) (fun h189 => ?_)
      · have r190 : (gi182 69 65).toInt = (gi182 69 45).toInt := t_eqi h189
        refine ev_loc f_X12_minuteGoes (nx := 61) rfl rfl rfl rfl ?_
        refine ev_getI f_X12_minuteGoes (nx := 64) rfl (hI.wf.s rfl) rfl rfl rfl ?_
        refine ev_loc f_X12_minuteGoes (nx := 65) rfl rfl rfl rfl ?_
        refine ev_getI f_X12_minuteGoes (nx := 68) rfl (hI.wf.s rfl) rfl rfl rfl ?_
        obtain ⟨l191, u191⟩ := hI.b (hI.wf.s (k := 69) rfl) (t_bdK rfl : t_bd 11 59 = some (0, 301))
        refine ev_if f_X12_minuteGoes (t1 := 80) (t2 := 71) rfl rfl rfl (fun h192 => ?_) (fun h192 => ?_)
        · have r193 : (gi182 69 59).toInt < (gi182 69 62).toInt := Int32.lt_iff_toInt_lt.mp h192
          have l194 : 1 ≤ (gi182 69 62).toInt := t_ltl h192 l191 rfl
          refine ev_sub (lo := [(0, .ref 69)]) rfl (t_sc rfl t_sn) ?_
          exact L91 gi182 gl182 gr182  hI hX  (by have hq := ((funext (fun j => (hC182.1 70 j rfl).1) : gi182 70 = gi181 70)); rw [hq]; exact j181_0)
        · have r195 : (gi182 69 62).toInt ≤ (gi182 69 59).toInt := Int32.le_iff_toInt_le.mp (t_nlt h192)
          have u196 : (gi182 69 62).toInt ≤ 301 := t_leu (t_nlt h192) u191
          refine ev_loc f_X12_minuteGoes (nx := 72) rfl rfl rfl rfl ?_
          refine ev_loc f_X12_minuteGoes (nx := 73) rfl rfl rfl rfl ?_
          refine ev_gvI f_X12_minuteGoes (nx := 76) (w := (gi182 69 59)) rfl (hI.wf.s rfl) rfl rfl rfl rfl ?_
          refine ev_putIT f_X12_minuteGoes (nx := 79) rfl (hI.wf.s rfl) rfl rfl rfl (hI.put0 (hI.wf.s rfl) rfl rfl) (hX.upI rfl) (fun g197 e197 hI hX => ?_)
          exact ev_ret f_X12_minuteGoes rfl rfl rfl ⟨_, _, _, rfl, hI, hX, rfl⟩
      · have r198 : (gi182 69 65).toInt ≠ (gi182 69 45).toInt := t_nei h189
        refine ev_sub (lo := [(0, .ref 69)]) rfl (t_sc rfl t_sn) ?_
        exact L91 gi182 gl182 gr182  hI hX  (by have hq := ((funext (fun j => (hC182.1 70 j rfl).1) : gi182 70 = gi181 70)); rw [hq]; exact j181_0)
    · have r199 : (gi182 69 64).toInt ≠ (gi182 69 44).toInt := t_nei h185
      refine ev_sub (lo := [(0, .ref 69)]) rfl (t_sc rfl t_sn) ?_
      exact L91 gi182 gl182 gr182  hI hX  (by have hq := ((funext (fun j => (hC182.1 70 j rfl).1) : gi182 70 = gi181 70)); rw [hq]; exact j181_0)
  refine ev_loc f_X12_minuteGoes (nx := 1) rfl rfl rfl rfl ?_
  refine ev_getI f_X12_minuteGoes (nx := 4) rfl (hI.wf.s rfl) rfl rfl rfl ?_
  refine ev_loc f_X12_minuteGoes (nx := 5) rfl rfl rfl rfl ?_
  refine ev_getI f_X12_minuteGoes (nx := 8) rfl (hI.wf.s rfl) rfl rfl rfl ?_
  obtain ⟨l200, u200⟩ := hI.b (hI.wf.s (k := 69) rfl) (t_bdK rfl : t_bd 11 59 = some (0, 301))
  refine ev_if f_X12_minuteGoes (t1 := 11) (t2 := 34) rfl rfl rfl (fun h201 => ?_) (fun h201 => ?_)
  · have r202 : (gi 69 61).toInt = (gi 69 59).toInt := t_eqi h201
    have u203 : (gi 69 61).toInt ≤ 301 := t_equ h201 u200
    have l204 : 0 ≤ (gi 69 61).toInt := t_eql h201 l200
    refine ev_loc f_X12_minuteGoes (nx := 12) rfl rfl rfl rfl ?_
    refine ev_ic f_X12_minuteGoes (nx := 13) (v := 1) rfl (by decide) rfl ?_
    refine ev_loc f_X12_minuteGoes (nx := 14) rfl rfl rfl rfl ?_
    refine ev_getI f_X12_minuteGoes (nx := 17) rfl (hI.wf.s rfl) rfl rfl rfl ?_
    refine ev_anyI f_X12_minuteGoes (nx := 18) rfl rfl rfl rfl (fun z205 => ?_)
    refine ev_putIT f_X12_minuteGoes (nx := 21) rfl (hI.wf.s rfl) rfl rfl rfl (hI.put0 (hI.wf.s rfl) rfl rfl) (hX.upI rfl) (fun g206 e206 hI hX => ?_)
    refine ev_loc f_X12_minuteGoes (nx := 22) rfl rfl rfl rfl ?_
    refine ev_loc f_X12_minuteGoes (nx := 23) rfl rfl rfl rfl ?_
    refine ev_gvI f_X12_minuteGoes (nx := 26) (w := (gi 69 59)) rfl (hI.wf.s rfl) rfl rfl ((by rw [e206]; exact x_up2_off (Or.inr (by decide)) : g206 69 59 = gi 69 59).trans rfl) rfl ?_
    refine ev_putIT f_X12_minuteGoes (nx := 29) rfl (hI.wf.s rfl) rfl rfl rfl (hI.put0 (hI.wf.s rfl) rfl rfl) (hX.upI rfl) (fun g207 e207 hI hX => ?_)
    refine ev_loc f_X12_minuteGoes (nx := 30) rfl rfl rfl rfl ?_
    refine ev_ic f_X12_minuteGoes (nx := 31) (v := -1) rfl (by decide) rfl ?_
    refine ev_putIT f_X12_minuteGoes (nx := 34) rfl (hI.wf.s rfl) rfl rfl rfl (hI.put0 (hI.wf.s rfl) rfl rfl) (hX.upI rfl) (fun g208 e208 hI hX => ?_)
    refine ev_sub (lo := [(0, .ref 69)]) rfl (t_sc rfl t_sn) ?_
    exact L181 g208 gl gr  hI hX  (by have hq := ((by rw [e208]; exact x_up2_ne (by decide) : g208 70 = g207 70).trans ((by rw [e207]; exact x_up2_ne (by decide) : g207 70 = g206 70).trans ((by rw [e206]; exact x_up2_ne (by decide) : g206 70 = gi 70)))); rw [hq]; exact e_p0)
  · have r209 : (gi 69 61).toInt ≠ (gi 69 59).toInt := t_nei h201
    refine ev_sub (lo := [(0, .ref 69)]) rfl (t_sc rfl t_sn) ?_
    exact L181 gi gl gr  hI hX  e_p0
noncomputable def wl_m_keeps : List (Nat × Nat) := [(69, 44), (69, 45), (69, 58), (69, 59), (69, 60), (69, 61), (69, 62), (69, 63), (69, 64), (69, 65), (69, 66), (69, 67), (69, 68), (69, 69), (69, 70), (89, 10005), (89, 610011), (90, 9999), (91, 9999), (99, 9999), (100, 9999)]
theorem c_m_keeps {X : x_Ext} {d : Nat} {sh : List (Nat ⊕ (Nat × Nat))} {gi : Nat → Nat → Int32} {gl : Nat → Nat → Int64} {gr : Nat → Nat → Value} (hI : t_I sh gi gr) (ar1 : Int32) (e_p0 : t_rpn (gi 70) 0) : x_Me X (d + 6) n_X12_keeps [.ref 69, .int ar1] (sh, gi, gl, gr) (t_P wl_m_keeps sh gi gl gr t_Rn) := by
  have hX : t_X wl_m_keeps sh gi gl gr gi gl gr := t_X.rf
  refine me_i f_X12_keeps (hI.wf.s rfl) rfl rfl rfl ?_
  refine ev_loc f_X12_keeps (nx := 1) rfl rfl rfl rfl ?_
  refine ev_c0 f_X12_keeps (nx := 4) (r := []) rfl rfl rfl rfl rfl rfl rfl (c_m_tellsMinutes hI ) rfl hX rfl (fun gi1 gl1 gr1 hI hX hC1 => ?_)
  refine ev_loc f_X12_keeps (nx := 5) rfl rfl rfl rfl ?_
  refine ev_loc f_X12_keeps (nx := 6) rfl rfl rfl rfl ?_
  refine ev_putIT f_X12_keeps (nx := 9) rfl (hI.wf.s rfl) rfl rfl rfl (hI.put0 (hI.wf.s rfl) rfl rfl) (hX.upI rfl) (fun g2 e2 hI hX => ?_)
  refine ev_ic f_X12_keeps (nx := 10) (v := 0) rfl (by decide) rfl ?_
  refine ev_loc f_X12_keeps (nx := 11) (lo' := [(2, .int 0), (0, .ref 69), (1, .int ar1)]) rfl rfl rfl rfl ?_
  have L3 : ∀ (m3 : Nat) (gi3 : Nat → Nat → Int32) (gl3 : Nat → Nat → Int64) (gr3 : Nat → Nat → Value) (y3_2 : Int32), t_I sh gi3 gr3 → t_X wl_m_keeps sh gi gl gr gi3 gl3 gr3 → 0 ≤ y3_2.toInt → y3_2.toInt ≤ 6 → t_rpn (gi3 70) 0 → (6 - y3_2.toInt).toNat = m3 → x_Ev X (d + 6) n_X12_keeps 11 [(2, .int y3_2), (0, .ref 69), (1, .int ar1)] [] (sh, gi3, gl3, gr3) (t_P wl_m_keeps sh gi gl gr t_Rn) := by
    intro m3
    induction m3 using Nat.strongRecOn with
    | _ m3 ih3 =>
    intro gi3 gl3 gr3 y3_2 hI hX l3_2 u3_2 j3_0 hm3
    refine ev_loc f_X12_keeps (nx := 12) rfl rfl rfl rfl ?_
    refine ev_loc f_X12_keeps (nx := 13) rfl rfl rfl rfl ?_
    refine ev_getR f_X12_keeps (nx := 16) rfl (hI.wf.s rfl) rfl rfl (hI.wf.r rfl) rfl rfl ?_
    refine ev_ic f_X12_keeps (nx := 17) (v := 1) rfl (by decide) rfl ?_
    obtain ⟨l4, u4⟩ := hI.ab (by decide +kernel : t_abr 70 1 1 0 6 = true) (Nat.le_refl _) (Nat.le_refl _)
    refine ev_ialdv f_X12_keeps (nx := 18) (w := (gi3 70 1)) rfl (hI.wf.s rfl) (by decide) (rfl : (1 : Int32).toNatClampNeg = 1) (by decide) rfl rfl ?_
    refine ev_if f_X12_keeps (t1 := 45) (t2 := 21) rfl rfl rfl (fun h5 => ?_) (fun h5 => ?_)
    · have r6 : (gi3 70 1).toInt ≤ y3_2.toInt := Int32.le_iff_toInt_le.mp h5
      refine ev_ic f_X12_keeps (nx := 46) (v := 0) rfl (by decide) rfl ?_
      refine ev_loc f_X12_keeps (nx := 47) (lo' := [(2, .int 0), (0, .ref 69), (1, .int ar1)]) rfl rfl rfl rfl ?_
      have L7 : ∀ (m7 : Nat) (gi7 : Nat → Nat → Int32) (gl7 : Nat → Nat → Int64) (gr7 : Nat → Nat → Value) (y7_2 : Int32), t_I sh gi7 gr7 → t_X wl_m_keeps sh gi gl gr gi7 gl7 gr7 → 0 ≤ y7_2.toInt → y7_2.toInt ≤ 6 → gi7 70 1 = (gi3 70 1) → t_rpn (gi7 70) 0 → (6 - y7_2.toInt).toNat = m7 → x_Ev X (d + 6) n_X12_keeps 47 [(2, .int y7_2), (0, .ref 69), (1, .int ar1)] [] (sh, gi7, gl7, gr7) (t_P wl_m_keeps sh gi gl gr t_Rn) := by
        intro m7
        induction m7 using Nat.strongRecOn with
        | _ m7 ih7 =>
        intro gi7 gl7 gr7 y7_2 hI hX l7_2 u7_2 c7_0 j7_0 hm7
        refine ev_loc f_X12_keeps (nx := 48) rfl rfl rfl rfl ?_
        refine ev_loc f_X12_keeps (nx := 49) rfl rfl rfl rfl ?_
        refine ev_getR f_X12_keeps (nx := 52) rfl (hI.wf.s rfl) rfl rfl (hI.wf.r rfl) rfl rfl ?_
        refine ev_ic f_X12_keeps (nx := 53) (v := 2) rfl (by decide) rfl ?_
        obtain ⟨l8, u8⟩ := hI.ab (by decide +kernel : t_abr 70 2 2 0 6 = true) (Nat.le_refl _) (Nat.le_refl _)
        refine ev_ialdv f_X12_keeps (nx := 54) (w := (gi7 70 2)) rfl (hI.wf.s rfl) (by decide) (rfl : (2 : Int32).toNatClampNeg = 2) (by decide) rfl rfl ?_
        refine ev_if f_X12_keeps (t1 := 84) (t2 := 57) rfl rfl rfl (fun h9 => ?_) (fun h9 => ?_)
        · have r10 : (gi7 70 2).toInt ≤ y7_2.toInt := Int32.le_iff_toInt_le.mp h9
          refine ev_loc f_X12_keeps (nx := 85) rfl rfl rfl rfl ?_
          refine ev_ic f_X12_keeps (nx := 86) (v := 0) rfl (by decide) rfl ?_
          refine ev_c0 f_X12_keeps (nx := 89) (r := []) rfl rfl rfl rfl rfl rfl rfl (c_m_orders hI (0)) rfl hX rfl (fun gi11 gl11 gr11 hI hX hC11 => ?_)
          refine ev_ic f_X12_keeps (nx := 90) (v := 0) rfl (by decide) rfl ?_
          refine ev_loc f_X12_keeps (nx := 91) (lo' := [(2, .int 0), (0, .ref 69), (1, .int ar1)]) rfl rfl rfl rfl ?_
          have L12 : ∀ (m12 : Nat) (gi12 : Nat → Nat → Int32) (gl12 : Nat → Nat → Int64) (gr12 : Nat → Nat → Value) (y12_2 : Int32), t_I sh gi12 gr12 → t_X wl_m_keeps sh gi gl gr gi12 gl12 gr12 → 0 ≤ y12_2.toInt → y12_2.toInt ≤ 6 → gi12 70 1 = (gi3 70 1) → gi12 70 2 = (gi7 70 2) → t_rpn (gi12 70) 0 → (6 - y12_2.toInt).toNat = m12 → x_Ev X (d + 6) n_X12_keeps 91 [(2, .int y12_2), (0, .ref 69), (1, .int ar1)] [] (sh, gi12, gl12, gr12) (t_P wl_m_keeps sh gi gl gr t_Rn) := by
            intro m12
            induction m12 using Nat.strongRecOn with
            | _ m12 ih12 =>
            intro gi12 gl12 gr12 y12_2 hI hX l12_2 u12_2 c12_0 c12_1 j12_0 hm12
            refine ev_loc f_X12_keeps (nx := 92) rfl rfl rfl rfl ?_
            refine ev_bp f_X12_keeps (nx := 94) (v := 6) rfl (by decide) rfl ?_
            refine ev_if f_X12_keeps (t1 := 110) (t2 := 97) rfl rfl rfl (fun h13 => ?_) (fun h13 => ?_)
            · have l14 : 6 ≤ y12_2.toInt := t_lel h13 (by decide : (6:Int) ≤ (6:Int32).toInt)
              refine ev_loc f_X12_keeps (nx := 111) rfl rfl rfl rfl ?_
              refine ev_ic f_X12_keeps (nx := 112) (v := 0) rfl (by decide) rfl ?_
              refine ev_putIT f_X12_keeps (nx := 115) rfl (hI.wf.s rfl) rfl rfl rfl (hI.put0 (hI.wf.s rfl) rfl rfl) (hX.upI rfl) (fun g15 e15 hI hX => ?_)
              refine ev_loc f_X12_keeps (nx := 116) rfl rfl rfl rfl ?_
              refine ev_ic f_X12_keeps (nx := 117) (v := -1) rfl (by decide) rfl ?_
              refine ev_putIT f_X12_keeps (nx := 120) rfl (hI.wf.s rfl) rfl rfl rfl (hI.put0 (hI.wf.s rfl) rfl rfl) (hX.upI rfl) (fun g16 e16 hI hX => ?_)
              refine ev_loc f_X12_keeps (nx := 121) rfl rfl rfl rfl ?_
              refine ev_ic f_X12_keeps (nx := 122) (v := -1) rfl (by decide) rfl ?_
              refine ev_putIT f_X12_keeps (nx := 125) rfl (hI.wf.s rfl) rfl rfl rfl (hI.put0 (hI.wf.s rfl) rfl rfl) (hX.upI rfl) (fun g17 e17 hI hX => ?_)
              refine ev_loc f_X12_keeps (nx := 126) rfl rfl rfl rfl ?_
              refine ev_ic f_X12_keeps (nx := 127) (v := 0) rfl (by decide) rfl ?_
              refine ev_putIT f_X12_keeps (nx := 130) rfl (hI.wf.s rfl) rfl rfl rfl (hI.put0 (hI.wf.s rfl) rfl rfl) (hX.upI rfl) (fun g18 e18 hI hX => ?_)
              refine ev_loc f_X12_keeps (nx := 131) rfl rfl rfl rfl ?_
              refine ev_ic f_X12_keeps (nx := 132) (v := 0) rfl (by decide) rfl ?_
              refine ev_putIT f_X12_keeps (nx := 135) rfl (hI.wf.s rfl) rfl rfl rfl (hI.putB (hI.wf.s rfl) rfl rfl (by decide : (0:Int) ≤ (0:Int32).toInt) (by decide) (by decide : (0:Int32).toInt ≤ (0:Int)) (by decide)) (hX.upI rfl) (fun g19 e19 hI hX => ?_)
              refine ev_loc f_X12_keeps (nx := 136) rfl rfl rfl rfl ?_
              refine ev_ic f_X12_keeps (nx := 137) (v := 0) rfl (by decide) rfl ?_
              refine ev_putIT f_X12_keeps (nx := 140) rfl (hI.wf.s rfl) rfl rfl rfl (hI.putB (hI.wf.s rfl) rfl rfl (by decide : (0:Int) ≤ (0:Int32).toInt) (by decide) (by decide : (0:Int32).toInt ≤ (0:Int)) (by decide)) (hX.upI rfl) (fun g20 e20 hI hX => ?_)
              refine ev_loc f_X12_keeps (nx := 141) rfl rfl rfl rfl ?_
              refine ev_ic f_X12_keeps (nx := 142) (v := 0) rfl (by decide) rfl ?_
              refine ev_putIT f_X12_keeps (nx := 145) rfl (hI.wf.s rfl) rfl rfl rfl (hI.put0 (hI.wf.s rfl) rfl rfl) (hX.upI rfl) (fun g21 e21 hI hX => ?_)
              refine ev_loc f_X12_keeps (nx := 146) rfl rfl rfl rfl ?_
              refine ev_ic f_X12_keeps (nx := 147) (v := 0) rfl (by decide) rfl ?_
              refine ev_putIT f_X12_keeps (nx := 150) rfl (hI.wf.s rfl) rfl rfl rfl (hI.put0 (hI.wf.s rfl) rfl rfl) (hX.upI rfl) (fun g22 e22 hI hX => ?_)
              refine ev_loc f_X12_keeps (nx := 151) rfl rfl rfl rfl ?_
              refine ev_ic f_X12_keeps (nx := 152) (v := 0) rfl (by decide) rfl ?_
              refine ev_putIT f_X12_keeps (nx := 155) rfl (hI.wf.s rfl) rfl rfl rfl (hI.put0 (hI.wf.s rfl) rfl rfl) (hX.upI rfl) (fun g23 e23 hI hX => ?_)
              refine ev_loc f_X12_keeps (nx := 156) rfl rfl rfl rfl ?_
              refine ev_ic f_X12_keeps (nx := 157) (v := 0) rfl (by decide) rfl ?_
              refine ev_putIT f_X12_keeps (nx := 160) rfl (hI.wf.s rfl) rfl rfl rfl (hI.put0 (hI.wf.s rfl) rfl rfl) (hX.upI rfl) (fun g24 e24 hI hX => ?_)
              refine ev_loc f_X12_keeps (nx := 161) rfl rfl rfl rfl ?_
              refine ev_ic f_X12_keeps (nx := 162) (v := -1) rfl (by decide) rfl ?_
              refine ev_putIT f_X12_keeps (nx := 165) rfl (hI.wf.s rfl) rfl rfl rfl (hI.put0 (hI.wf.s rfl) rfl rfl) (hX.upI rfl) (fun g25 e25 hI hX => ?_)
              refine ev_loc f_X12_keeps (nx := 166) rfl rfl rfl rfl ?_
              refine ev_ic f_X12_keeps (nx := 167) (v := 0) rfl (by decide) rfl ?_
              refine ev_putIT f_X12_keeps (nx := 170) rfl (hI.wf.s rfl) rfl rfl rfl (hI.putB (hI.wf.s rfl) rfl rfl (by decide : (0:Int) ≤ (0:Int32).toInt) (by decide) (by decide : (0:Int32).toInt ≤ (0:Int)) (by decide)) (hX.upI rfl) (fun g26 e26 hI hX => ?_)
              have L27 : ∀ (m27 : Nat) (gi27 : Nat → Nat → Int32) (gl27 : Nat → Nat → Int64) (gr27 : Nat → Nat → Value), t_I sh gi27 gr27 → t_X wl_m_keeps sh gi gl gr gi27 gl27 gr27 → gi27 70 1 = (gi3 70 1) → gi27 70 2 = (gi7 70 2) → t_rpn (gi27 70) 0 → (301 - (gi27 69 59).toInt).toNat = m27 → x_Ev X (d + 6) n_X12_keeps 170 [(2, .int y12_2), (0, .ref 69), (1, .int ar1)] [] (sh, gi27, gl27, gr27) (t_P wl_m_keeps sh gi gl gr t_Rn) := by
                intro m27
                induction m27 using Nat.strongRecOn with
                | _ m27 ih27 =>
                intro gi27 gl27 gr27 hI hX c27_0 c27_1 j27_0 hm27
                refine ev_loc f_X12_keeps (nx := 171) rfl rfl rfl rfl ?_
                refine ev_getI f_X12_keeps (nx := 174) rfl (hI.wf.s rfl) rfl rfl rfl ?_
                obtain ⟨l28, u28⟩ := hI.b (hI.wf.s (k := 69) rfl) (t_bdK rfl : t_bd 11 59 = some (0, 301))
                refine ev_sp f_X12_keeps (nx := 177) (v := 301) rfl (by decide) rfl ?_
                refine ev_if f_X12_keeps (t1 := 205) (t2 := 180) rfl rfl rfl (fun h29 => ?_) (fun h29 => ?_)
                · have l30 : 301 ≤ (gi27 69 59).toInt := t_lel h29 (by decide : (301:Int) ≤ (301:Int32).toInt)
                  refine ev_loc f_X12_keeps (nx := 206) rfl rfl rfl rfl ?_
                  refine ev_getI f_X12_keeps (nx := 209) rfl (hI.wf.s rfl) rfl rfl rfl ?_
                  refine ev_ic f_X12_keeps (nx := 210) (v := -1) rfl (by decide) rfl ?_
                  refine ev_if f_X12_keeps (t1 := 213) (t2 := 220) rfl rfl rfl (fun h31 => ?_) (fun h31 => ?_)
                  · have u32 : (gi27 69 69).toInt ≤ (-1) := t_equ h31 (by decide : ((-1):Int32).toInt ≤ ((-1):Int))
                    have l33 : (-1) ≤ (gi27 69 69).toInt := t_eql h31 (by decide : ((-1):Int) ≤ ((-1):Int32).toInt)
                    refine ev_loc f_X12_keeps (nx := 214) rfl rfl rfl rfl ?_
                    refine ev_sp f_X12_keeps (nx := 217) (v := 301) rfl (by decide) rfl ?_
                    refine ev_putIT f_X12_keeps (nx := 220) rfl (hI.wf.s rfl) rfl rfl rfl (hI.put0 (hI.wf.s rfl) rfl rfl) (hX.upI rfl) (fun g34 e34 hI hX => ?_)
                    refine ev_loc f_X12_keeps (nx := 221) rfl rfl rfl rfl ?_
                    refine ev_c0 f_X12_keeps (nx := 224) (r := []) rfl rfl rfl rfl rfl rfl rfl (c_m_passesOver hI ) rfl hX rfl (fun gi35 gl35 gr35 hI hX hC35 => ?_)
                    exact ev_ret f_X12_keeps rfl rfl rfl ⟨_, _, _, rfl, hI, hX, rfl⟩
                  · have r36 : (gi27 69 69).toInt ≠ (-1) := fun e => h31 (Int32.toInt_inj.mp (e.trans (by decide : ((-1):Int) = ((-1) : Int32).toInt)))
                    refine ev_loc f_X12_keeps (nx := 221) rfl rfl rfl rfl ?_
                    refine ev_c0 f_X12_keeps (nx := 224) (r := []) rfl rfl rfl rfl rfl rfl rfl (c_m_passesOver hI ) rfl hX rfl (fun gi37 gl37 gr37 hI hX hC37 => ?_)
                    exact ev_ret f_X12_keeps rfl rfl rfl ⟨_, _, _, rfl, hI, hX, rfl⟩
                · have u38 : (gi27 69 59).toInt ≤ 300 := t_ltu (t_nle h29) (by decide : (301:Int32).toInt ≤ (301:Int)) rfl
                  refine ev_loc f_X12_keeps (nx := 181) rfl rfl rfl rfl ?_
                  refine ev_getI f_X12_keeps (nx := 184) rfl (hI.wf.s rfl) rfl rfl rfl ?_
                  refine ev_ic f_X12_keeps (nx := 185) (v := -1) rfl (by decide) rfl ?_
                  refine ev_if f_X12_keeps (t1 := 188) (t2 := 205) rfl rfl rfl (fun h39 => ?_) (fun h39 => ?_)
                  · have u40 : (gi27 69 69).toInt ≤ (-1) := t_equ h39 (by decide : ((-1):Int32).toInt ≤ ((-1):Int))
                    have l41 : (-1) ≤ (gi27 69 69).toInt := t_eql h39 (by decide : ((-1):Int) ≤ ((-1):Int32).toInt)
                    refine ev_loc f_X12_keeps (nx := 189) rfl rfl rfl rfl ?_
                    refine ev_c0 f_X12_keeps (nx := 192) (r := []) rfl rfl rfl rfl rfl rfl rfl (c_m_minuteGoes hI  j27_0) rfl hX rfl (fun gi42 gl42 gr42 hI hX hC42 => ?_)
                    refine ev_loc f_X12_keeps (nx := 193) rfl rfl rfl rfl ?_
                    refine ev_alu f_X12_keeps (nx := 194) rfl rfl rfl rfl ?_
                    refine ev_gvI f_X12_keeps (nx := 197) (w := (gi27 69 59)) rfl (hI.wf.s rfl) rfl rfl ((hC42.1 69 59 rfl).1.trans rfl) rfl ?_
                    refine ev_ic f_X12_keeps (nx := 198) (v := 1) rfl (by decide) rfl ?_
                    refine ev_addC f_X12_keeps (nx := 199) (c := 1) (l := 1) (u := 301) rfl (by decide) l28 u38 rfl rfl (by decide) (by decide) rfl (fun z43 e43 l43 u43 => ?_)
                    refine ev_putIT f_X12_keeps (nx := 202) rfl (hI.wf.s rfl) rfl rfl rfl (hI.putB (hI.wf.s rfl) rfl rfl l43 (by decide) u43 (by decide)) (hX.upI rfl) (fun g44 e44 hI hX => ?_)
                    refine ev_jmp f_X12_keeps (nx := 170) rfl rfl rfl ?_
                    refine ev_sub (lo := [(2, .int y12_2), (0, .ref 69), (1, .int ar1)]) rfl (t_sc rfl (t_sc rfl (t_sc rfl t_sn))) ?_
                    have hq27 := ((by rw [e44]; exact x_up2_at _ _ _ _ : g44 69 59 = z43) : g44 69 59 = z43)
                    exact ih27 _ (by rw [hq27]; omega) g44 gl42 gr42  hI hX  ((by rw [e44]; exact x_up2_off (Or.inr (by decide)) : g44 70 1 = gi42 70 1).trans ((hC42.1 70 1 rfl).1.trans c27_0)) ((by rw [e44]; exact x_up2_off (Or.inr (by decide)) : g44 70 2 = gi42 70 2).trans ((hC42.1 70 2 rfl).1.trans c27_1)) (by have hq := ((by rw [e44]; exact x_up2_ne (by decide) : g44 70 = gi42 70).trans ((funext (fun j => (hC42.1 70 j rfl).1) : gi42 70 = gi27 70))); rw [hq]; exact j27_0) rfl
                  · have r45 : (gi27 69 69).toInt ≠ (-1) := fun e => h39 (Int32.toInt_inj.mp (e.trans (by decide : ((-1):Int) = ((-1) : Int32).toInt)))
                    refine ev_loc f_X12_keeps (nx := 206) rfl rfl rfl rfl ?_
                    refine ev_gvI f_X12_keeps (nx := 209) (w := (gi27 69 69)) rfl (hI.wf.s rfl) rfl rfl rfl rfl ?_
                    refine ev_ic f_X12_keeps (nx := 210) (v := -1) rfl (by decide) rfl ?_
                    refine ev_if f_X12_keeps (t1 := 213) (t2 := 220) rfl rfl rfl (fun h46 => ?_) (fun h46 => ?_)
                    · have u47 : (gi27 69 69).toInt ≤ (-1) := t_equ h46 (by decide : ((-1):Int32).toInt ≤ ((-1):Int))
                      have l48 : (-1) ≤ (gi27 69 69).toInt := t_eql h46 (by decide : ((-1):Int) ≤ ((-1):Int32).toInt)
                      refine ev_loc f_X12_keeps (nx := 214) rfl rfl rfl rfl ?_
                      refine ev_sp f_X12_keeps (nx := 217) (v := 301) rfl (by decide) rfl ?_
                      refine ev_putIT f_X12_keeps (nx := 220) rfl (hI.wf.s rfl) rfl rfl rfl (hI.put0 (hI.wf.s rfl) rfl rfl) (hX.upI rfl) (fun g49 e49 hI hX => ?_)
                      refine ev_loc f_X12_keeps (nx := 221) rfl rfl rfl rfl ?_
                      refine ev_c0 f_X12_keeps (nx := 224) (r := []) rfl rfl rfl rfl rfl rfl rfl (c_m_passesOver hI ) rfl hX rfl (fun gi50 gl50 gr50 hI hX hC50 => ?_)
                      exact ev_ret f_X12_keeps rfl rfl rfl ⟨_, _, _, rfl, hI, hX, rfl⟩
                    · have r51 : (gi27 69 69).toInt ≠ (-1) := fun e => h46 (Int32.toInt_inj.mp (e.trans (by decide : ((-1):Int) = ((-1) : Int32).toInt)))
                      refine ev_loc f_X12_keeps (nx := 221) rfl rfl rfl rfl ?_
                      refine ev_c0 f_X12_keeps (nx := 224) (r := []) rfl rfl rfl rfl rfl rfl rfl (c_m_passesOver hI ) rfl hX rfl (fun gi52 gl52 gr52 hI hX hC52 => ?_)
                      exact ev_ret f_X12_keeps rfl rfl rfl ⟨_, _, _, rfl, hI, hX, rfl⟩
              refine ev_sub (lo := [(2, .int y12_2), (0, .ref 69), (1, .int ar1)]) rfl (t_sc rfl (t_sc rfl (t_sc rfl t_sn))) ?_
              exact L27 _ g26 gl12 gr12  hI hX  ((by rw [e26]; exact x_up2_off (Or.inr (by decide)) : g26 70 1 = g25 70 1).trans ((by rw [e25]; exact x_up2_off (Or.inr (by decide)) : g25 70 1 = g24 70 1).trans ((by rw [e24]; exact x_up2_off (Or.inr (by decide)) : g24 70 1 = g23 70 1).trans ((by rw [e23]; exact x_up2_off (Or.inr (by decide)) : g23 70 1 = g22 70 1).trans ((by rw [e22]; exact x_up2_off (Or.inr (by decide)) : g22 70 1 = g21 70 1).trans ((by rw [e21]; exact x_up2_off (Or.inr (by decide)) : g21 70 1 = g20 70 1).trans ((by rw [e20]; exact x_up2_off (Or.inr (by decide)) : g20 70 1 = g19 70 1).trans ((by rw [e19]; exact x_up2_off (Or.inr (by decide)) : g19 70 1 = g18 70 1).trans ((by rw [e18]; exact x_up2_off (Or.inr (by decide)) : g18 70 1 = g17 70 1).trans ((by rw [e17]; exact x_up2_off (Or.inr (by decide)) : g17 70 1 = g16 70 1).trans ((by rw [e16]; exact x_up2_off (Or.inr (by decide)) : g16 70 1 = g15 70 1).trans ((by rw [e15]; exact x_up2_off (Or.inr (by decide)) : g15 70 1 = gi12 70 1).trans c12_0)))))))))))) ((by rw [e26]; exact x_up2_off (Or.inr (by decide)) : g26 70 2 = g25 70 2).trans ((by rw [e25]; exact x_up2_off (Or.inr (by decide)) : g25 70 2 = g24 70 2).trans ((by rw [e24]; exact x_up2_off (Or.inr (by decide)) : g24 70 2 = g23 70 2).trans ((by rw [e23]; exact x_up2_off (Or.inr (by decide)) : g23 70 2 = g22 70 2).trans ((by rw [e22]; exact x_up2_off (Or.inr (by decide)) : g22 70 2 = g21 70 2).trans ((by rw [e21]; exact x_up2_off (Or.inr (by decide)) : g21 70 2 = g20 70 2).trans ((by rw [e20]; exact x_up2_off (Or.inr (by decide)) : g20 70 2 = g19 70 2).trans ((by rw [e19]; exact x_up2_off (Or.inr (by decide)) : g19 70 2 = g18 70 2).trans ((by rw [e18]; exact x_up2_off (Or.inr (by decide)) : g18 70 2 = g17 70 2).trans ((by rw [e17]; exact x_up2_off (Or.inr (by decide)) : g17 70 2 = g16 70 2).trans ((by rw [e16]; exact x_up2_off (Or.inr (by decide)) : g16 70 2 = g15 70 2).trans ((by rw [e15]; exact x_up2_off (Or.inr (by decide)) : g15 70 2 = gi12 70 2).trans c12_1)))))))))))) (by have hq := ((by rw [e26]; exact x_up2_ne (by decide) : g26 70 = g25 70).trans ((by rw [e25]; exact x_up2_ne (by decide) : g25 70 = g24 70).trans ((by rw [e24]; exact x_up2_ne (by decide) : g24 70 = g23 70).trans ((by rw [e23]; exact x_up2_ne (by decide) : g23 70 = g22 70).trans ((by rw [e22]; exact x_up2_ne (by decide) : g22 70 = g21 70).trans ((by rw [e21]; exact x_up2_ne (by decide) : g21 70 = g20 70).trans ((by rw [e20]; exact x_up2_ne (by decide) : g20 70 = g19 70).trans ((by rw [e19]; exact x_up2_ne (by decide) : g19 70 = g18 70).trans ((by rw [e18]; exact x_up2_ne (by decide) : g18 70 = g17 70).trans ((by rw [e17]; exact x_up2_ne (by decide) : g17 70 = g16 70).trans ((by rw [e16]; exact x_up2_ne (by decide) : g16 70 = g15 70).trans ((by rw [e15]; exact x_up2_ne (by decide) : g15 70 = gi12 70))))))))))))); rw [hq]; exact j12_0) rfl
            · have u53 : y12_2.toInt ≤ 5 := t_ltu (t_nle h13) (by decide : (6:Int32).toInt ≤ (6:Int)) rfl
              refine ev_loc f_X12_keeps (nx := 98) rfl rfl rfl rfl ?_
              refine ev_getR f_X12_keeps (nx := 101) rfl (hI.wf.s rfl) rfl rfl (hI.wf.r rfl) rfl rfl ?_
              refine ev_loc f_X12_keeps (nx := 102) rfl rfl rfl rfl ?_
              refine ev_ic f_X12_keeps (nx := 103) (v := 0) rfl (by decide) rfl ?_
              refine ev_zastT f_X12_keeps (nx := 104) rfl (hI.wf.s rfl) l12_2 (by decide) u53 (by decide) rfl (fun x l u => hI.astL (hI.wf.s rfl) (by decide +kernel : t_abw 99 0 5 0 1 = true) (t_cl1 l12_2 (by decide)) (t_cl2 l12_2 u53 (by decide) (by decide)) l u rfl) (fun x => hX.upI (t_inA_ok rfl)) (fun g54 x54 e54 hI hX => ?_)
              refine ev_incR f_X12_keeps (nx := 107) (c := 1) (l := 1) (u := 6) rfl rfl (by decide) (by decide) l12_2 u53 rfl rfl (by decide) (by decide) rfl (fun z55 e55 l55 u55 => ?_)
              refine ev_jmp f_X12_keeps (nx := 91) rfl rfl rfl ?_
              refine ev_sub (lo := [(2, .int z55), (0, .ref 69), (1, .int ar1)]) rfl (t_sc rfl (t_sc rfl (t_sc rfl t_sn))) ?_
              exact ih12 _ (by omega) g54 gl12 gr12 (z55) hI hX  (Int.le_trans (by decide : (0:Int) ≤ 1) l55) u55 ((by rw [e54]; exact x_up2_off (Or.inl (by decide)) : g54 70 1 = gi12 70 1).trans c12_0) ((by rw [e54]; exact x_up2_off (Or.inl (by decide)) : g54 70 2 = gi12 70 2).trans c12_1) (by have hq := ((by rw [e54]; exact x_up2_ne (by decide) : g54 70 = gi12 70)); rw [hq]; exact j12_0) rfl
          refine ev_sub (lo := [(2, .int 0), (0, .ref 69), (1, .int ar1)]) rfl (t_sc rfl (t_sc rfl (t_sc rfl t_sn))) ?_
          exact L12 _ gi11 gl11 gr11 (0) hI hX  (by decide : (0:Int) ≤ (0:Int32).toInt) (Int.le_trans (by decide : (0:Int32).toInt ≤ (0:Int)) (by decide : (0:Int) ≤ 6)) ((hC11.1 70 1 rfl).1.trans c7_0) ((hC11.1 70 2 rfl).1.trans rfl) (by have hq := ((funext (fun j => (hC11.1 70 j rfl).1) : gi11 70 = gi7 70)); rw [hq]; exact j7_0) rfl
        · have r56 : y7_2.toInt < (gi7 70 2).toInt := Int32.lt_iff_toInt_lt.mp (t_nle h9)
          have u57 : y7_2.toInt ≤ 5 := t_ltu (t_nle h9) u8 rfl
          have l58 : 1 ≤ (gi7 70 2).toInt := t_ltl (t_nle h9) l7_2 rfl
          refine ev_loc f_X12_keeps (nx := 58) rfl rfl rfl rfl ?_
          refine ev_ic f_X12_keeps (nx := 59) (v := -1) rfl (by decide) rfl ?_
          refine ev_if f_X12_keeps (t1 := 84) (t2 := 62) rfl rfl rfl (fun h59 => ?_) (fun h59 => ?_)
          · have u60 : ar1.toInt ≤ (-1) := t_equ h59 (by decide : ((-1):Int32).toInt ≤ ((-1):Int))
            have l61 : (-1) ≤ ar1.toInt := t_eql h59 (by decide : ((-1):Int) ≤ ((-1):Int32).toInt)
            refine ev_loc f_X12_keeps (nx := 85) rfl rfl rfl rfl ?_
            refine ev_ic f_X12_keeps (nx := 86) (v := 0) rfl (by decide) rfl ?_
            refine ev_c0 f_X12_keeps (nx := 89) (r := []) rfl rfl rfl rfl rfl rfl rfl (c_m_orders hI (0)) rfl hX rfl (fun gi62 gl62 gr62 hI hX hC62 => ?_)
            refine ev_ic f_X12_keeps (nx := 90) (v := 0) rfl (by decide) rfl ?_
            refine ev_loc f_X12_keeps (nx := 91) (lo' := [(2, .int 0), (0, .ref 69), (1, .int ar1)]) rfl rfl rfl rfl ?_
            have L63 : ∀ (m63 : Nat) (gi63 : Nat → Nat → Int32) (gl63 : Nat → Nat → Int64) (gr63 : Nat → Nat → Value) (y63_2 : Int32), t_I sh gi63 gr63 → t_X wl_m_keeps sh gi gl gr gi63 gl63 gr63 → 0 ≤ y63_2.toInt → y63_2.toInt ≤ 6 → gi63 70 1 = (gi3 70 1) → gi63 70 2 = (gi7 70 2) → t_rpn (gi63 70) 0 → (6 - y63_2.toInt).toNat = m63 → x_Ev X (d + 6) n_X12_keeps 91 [(2, .int y63_2), (0, .ref 69), (1, .int ar1)] [] (sh, gi63, gl63, gr63) (t_P wl_m_keeps sh gi gl gr t_Rn) := by
              intro m63
              induction m63 using Nat.strongRecOn with
              | _ m63 ih63 =>
              intro gi63 gl63 gr63 y63_2 hI hX l63_2 u63_2 c63_0 c63_1 j63_0 hm63
              refine ev_loc f_X12_keeps (nx := 92) rfl rfl rfl rfl ?_
              refine ev_bp f_X12_keeps (nx := 94) (v := 6) rfl (by decide) rfl ?_
              refine ev_if f_X12_keeps (t1 := 110) (t2 := 97) rfl rfl rfl (fun h64 => ?_) (fun h64 => ?_)
              · have l65 : 6 ≤ y63_2.toInt := t_lel h64 (by decide : (6:Int) ≤ (6:Int32).toInt)
                refine ev_loc f_X12_keeps (nx := 111) rfl rfl rfl rfl ?_
                refine ev_ic f_X12_keeps (nx := 112) (v := 0) rfl (by decide) rfl ?_
                refine ev_putIT f_X12_keeps (nx := 115) rfl (hI.wf.s rfl) rfl rfl rfl (hI.put0 (hI.wf.s rfl) rfl rfl) (hX.upI rfl) (fun g66 e66 hI hX => ?_)
                refine ev_loc f_X12_keeps (nx := 116) rfl rfl rfl rfl ?_
                refine ev_ic f_X12_keeps (nx := 117) (v := -1) rfl (by decide) rfl ?_
                refine ev_putIT f_X12_keeps (nx := 120) rfl (hI.wf.s rfl) rfl rfl rfl (hI.put0 (hI.wf.s rfl) rfl rfl) (hX.upI rfl) (fun g67 e67 hI hX => ?_)
                refine ev_loc f_X12_keeps (nx := 121) rfl rfl rfl rfl ?_
                refine ev_ic f_X12_keeps (nx := 122) (v := -1) rfl (by decide) rfl ?_
                refine ev_putIT f_X12_keeps (nx := 125) rfl (hI.wf.s rfl) rfl rfl rfl (hI.put0 (hI.wf.s rfl) rfl rfl) (hX.upI rfl) (fun g68 e68 hI hX => ?_)
                refine ev_loc f_X12_keeps (nx := 126) rfl rfl rfl rfl ?_
                refine ev_ic f_X12_keeps (nx := 127) (v := 0) rfl (by decide) rfl ?_
                refine ev_putIT f_X12_keeps (nx := 130) rfl (hI.wf.s rfl) rfl rfl rfl (hI.put0 (hI.wf.s rfl) rfl rfl) (hX.upI rfl) (fun g69 e69 hI hX => ?_)
                refine ev_loc f_X12_keeps (nx := 131) rfl rfl rfl rfl ?_
                refine ev_ic f_X12_keeps (nx := 132) (v := 0) rfl (by decide) rfl ?_
                refine ev_putIT f_X12_keeps (nx := 135) rfl (hI.wf.s rfl) rfl rfl rfl (hI.putB (hI.wf.s rfl) rfl rfl (by decide : (0:Int) ≤ (0:Int32).toInt) (by decide) (by decide : (0:Int32).toInt ≤ (0:Int)) (by decide)) (hX.upI rfl) (fun g70 e70 hI hX => ?_)
                refine ev_loc f_X12_keeps (nx := 136) rfl rfl rfl rfl ?_
                refine ev_ic f_X12_keeps (nx := 137) (v := 0) rfl (by decide) rfl ?_
                refine ev_putIT f_X12_keeps (nx := 140) rfl (hI.wf.s rfl) rfl rfl rfl (hI.putB (hI.wf.s rfl) rfl rfl (by decide : (0:Int) ≤ (0:Int32).toInt) (by decide) (by decide : (0:Int32).toInt ≤ (0:Int)) (by decide)) (hX.upI rfl) (fun g71 e71 hI hX => ?_)
                refine ev_loc f_X12_keeps (nx := 141) rfl rfl rfl rfl ?_
                refine ev_ic f_X12_keeps (nx := 142) (v := 0) rfl (by decide) rfl ?_
                refine ev_putIT f_X12_keeps (nx := 145) rfl (hI.wf.s rfl) rfl rfl rfl (hI.put0 (hI.wf.s rfl) rfl rfl) (hX.upI rfl) (fun g72 e72 hI hX => ?_)
                refine ev_loc f_X12_keeps (nx := 146) rfl rfl rfl rfl ?_
                refine ev_ic f_X12_keeps (nx := 147) (v := 0) rfl (by decide) rfl ?_
                refine ev_putIT f_X12_keeps (nx := 150) rfl (hI.wf.s rfl) rfl rfl rfl (hI.put0 (hI.wf.s rfl) rfl rfl) (hX.upI rfl) (fun g73 e73 hI hX => ?_)
                refine ev_loc f_X12_keeps (nx := 151) rfl rfl rfl rfl ?_
                refine ev_ic f_X12_keeps (nx := 152) (v := 0) rfl (by decide) rfl ?_
                refine ev_putIT f_X12_keeps (nx := 155) rfl (hI.wf.s rfl) rfl rfl rfl (hI.put0 (hI.wf.s rfl) rfl rfl) (hX.upI rfl) (fun g74 e74 hI hX => ?_)
                refine ev_loc f_X12_keeps (nx := 156) rfl rfl rfl rfl ?_
                refine ev_ic f_X12_keeps (nx := 157) (v := 0) rfl (by decide) rfl ?_
                refine ev_putIT f_X12_keeps (nx := 160) rfl (hI.wf.s rfl) rfl rfl rfl (hI.put0 (hI.wf.s rfl) rfl rfl) (hX.upI rfl) (fun g75 e75 hI hX => ?_)
                refine ev_loc f_X12_keeps (nx := 161) rfl rfl rfl rfl ?_
                refine ev_ic f_X12_keeps (nx := 162) (v := -1) rfl (by decide) rfl ?_
                refine ev_putIT f_X12_keeps (nx := 165) rfl (hI.wf.s rfl) rfl rfl rfl (hI.put0 (hI.wf.s rfl) rfl rfl) (hX.upI rfl) (fun g76 e76 hI hX => ?_)
                refine ev_loc f_X12_keeps (nx := 166) rfl rfl rfl rfl ?_
                refine ev_ic f_X12_keeps (nx := 167) (v := 0) rfl (by decide) rfl ?_
                refine ev_putIT f_X12_keeps (nx := 170) rfl (hI.wf.s rfl) rfl rfl rfl (hI.putB (hI.wf.s rfl) rfl rfl (by decide : (0:Int) ≤ (0:Int32).toInt) (by decide) (by decide : (0:Int32).toInt ≤ (0:Int)) (by decide)) (hX.upI rfl) (fun g77 e77 hI hX => ?_)
                have L78 : ∀ (m78 : Nat) (gi78 : Nat → Nat → Int32) (gl78 : Nat → Nat → Int64) (gr78 : Nat → Nat → Value), t_I sh gi78 gr78 → t_X wl_m_keeps sh gi gl gr gi78 gl78 gr78 → gi78 70 1 = (gi3 70 1) → gi78 70 2 = (gi7 70 2) → t_rpn (gi78 70) 0 → (301 - (gi78 69 59).toInt).toNat = m78 → x_Ev X (d + 6) n_X12_keeps 170 [(2, .int y63_2), (0, .ref 69), (1, .int ar1)] [] (sh, gi78, gl78, gr78) (t_P wl_m_keeps sh gi gl gr t_Rn) := by
                  intro m78
                  induction m78 using Nat.strongRecOn with
                  | _ m78 ih78 =>
                  intro gi78 gl78 gr78 hI hX c78_0 c78_1 j78_0 hm78
                  refine ev_loc f_X12_keeps (nx := 171) rfl rfl rfl rfl ?_
                  refine ev_getI f_X12_keeps (nx := 174) rfl (hI.wf.s rfl) rfl rfl rfl ?_
                  obtain ⟨l79, u79⟩ := hI.b (hI.wf.s (k := 69) rfl) (t_bdK rfl : t_bd 11 59 = some (0, 301))
                  refine ev_sp f_X12_keeps (nx := 177) (v := 301) rfl (by decide) rfl ?_
                  refine ev_if f_X12_keeps (t1 := 205) (t2 := 180) rfl rfl rfl (fun h80 => ?_) (fun h80 => ?_)
                  · have l81 : 301 ≤ (gi78 69 59).toInt := t_lel h80 (by decide : (301:Int) ≤ (301:Int32).toInt)
                    refine ev_loc f_X12_keeps (nx := 206) rfl rfl rfl rfl ?_
                    refine ev_getI f_X12_keeps (nx := 209) rfl (hI.wf.s rfl) rfl rfl rfl ?_
                    refine ev_ic f_X12_keeps (nx := 210) (v := -1) rfl (by decide) rfl ?_
                    refine ev_if f_X12_keeps (t1 := 213) (t2 := 220) rfl rfl rfl (fun h82 => ?_) (fun h82 => ?_)
                    · have u83 : (gi78 69 69).toInt ≤ (-1) := t_equ h82 (by decide : ((-1):Int32).toInt ≤ ((-1):Int))
                      have l84 : (-1) ≤ (gi78 69 69).toInt := t_eql h82 (by decide : ((-1):Int) ≤ ((-1):Int32).toInt)
                      refine ev_loc f_X12_keeps (nx := 214) rfl rfl rfl rfl ?_
                      refine ev_sp f_X12_keeps (nx := 217) (v := 301) rfl (by decide) rfl ?_
                      refine ev_putIT f_X12_keeps (nx := 220) rfl (hI.wf.s rfl) rfl rfl rfl (hI.put0 (hI.wf.s rfl) rfl rfl) (hX.upI rfl) (fun g85 e85 hI hX => ?_)
                      refine ev_loc f_X12_keeps (nx := 221) rfl rfl rfl rfl ?_
                      refine ev_c0 f_X12_keeps (nx := 224) (r := []) rfl rfl rfl rfl rfl rfl rfl (c_m_passesOver hI ) rfl hX rfl (fun gi86 gl86 gr86 hI hX hC86 => ?_)
                      exact ev_ret f_X12_keeps rfl rfl rfl ⟨_, _, _, rfl, hI, hX, rfl⟩
                    · have r87 : (gi78 69 69).toInt ≠ (-1) := fun e => h82 (Int32.toInt_inj.mp (e.trans (by decide : ((-1):Int) = ((-1) : Int32).toInt)))
                      refine ev_loc f_X12_keeps (nx := 221) rfl rfl rfl rfl ?_
                      refine ev_c0 f_X12_keeps (nx := 224) (r := []) rfl rfl rfl rfl rfl rfl rfl (c_m_passesOver hI ) rfl hX rfl (fun gi88 gl88 gr88 hI hX hC88 => ?_)
                      exact ev_ret f_X12_keeps rfl rfl rfl ⟨_, _, _, rfl, hI, hX, rfl⟩
                  · have u89 : (gi78 69 59).toInt ≤ 300 := t_ltu (t_nle h80) (by decide : (301:Int32).toInt ≤ (301:Int)) rfl
                    refine ev_loc f_X12_keeps (nx := 181) rfl rfl rfl rfl ?_
                    refine ev_getI f_X12_keeps (nx := 184) rfl (hI.wf.s rfl) rfl rfl rfl ?_
                    refine ev_ic f_X12_keeps (nx := 185) (v := -1) rfl (by decide) rfl ?_
                    refine ev_if f_X12_keeps (t1 := 188) (t2 := 205) rfl rfl rfl (fun h90 => ?_) (fun h90 => ?_)
                    · have u91 : (gi78 69 69).toInt ≤ (-1) := t_equ h90 (by decide : ((-1):Int32).toInt ≤ ((-1):Int))
                      have l92 : (-1) ≤ (gi78 69 69).toInt := t_eql h90 (by decide : ((-1):Int) ≤ ((-1):Int32).toInt)
                      refine ev_loc f_X12_keeps (nx := 189) rfl rfl rfl rfl ?_
                      refine ev_c0 f_X12_keeps (nx := 192) (r := []) rfl rfl rfl rfl rfl rfl rfl (c_m_minuteGoes hI  j78_0) rfl hX rfl (fun gi93 gl93 gr93 hI hX hC93 => ?_)
                      refine ev_loc f_X12_keeps (nx := 193) rfl rfl rfl rfl ?_
                      refine ev_alu f_X12_keeps (nx := 194) rfl rfl rfl rfl ?_
                      refine ev_gvI f_X12_keeps (nx := 197) (w := (gi78 69 59)) rfl (hI.wf.s rfl) rfl rfl ((hC93.1 69 59 rfl).1.trans rfl) rfl ?_
                      refine ev_ic f_X12_keeps (nx := 198) (v := 1) rfl (by decide) rfl ?_
                      refine ev_addC f_X12_keeps (nx := 199) (c := 1) (l := 1) (u := 301) rfl (by decide) l79 u89 rfl rfl (by decide) (by decide) rfl (fun z94 e94 l94 u94 => ?_)
                      refine ev_putIT f_X12_keeps (nx := 202) rfl (hI.wf.s rfl) rfl rfl rfl (hI.putB (hI.wf.s rfl) rfl rfl l94 (by decide) u94 (by decide)) (hX.upI rfl) (fun g95 e95 hI hX => ?_)
                      refine ev_jmp f_X12_keeps (nx := 170) rfl rfl rfl ?_
                      refine ev_sub (lo := [(2, .int y63_2), (0, .ref 69), (1, .int ar1)]) rfl (t_sc rfl (t_sc rfl (t_sc rfl t_sn))) ?_
                      have hq78 := ((by rw [e95]; exact x_up2_at _ _ _ _ : g95 69 59 = z94) : g95 69 59 = z94)
                      exact ih78 _ (by rw [hq78]; omega) g95 gl93 gr93  hI hX  ((by rw [e95]; exact x_up2_off (Or.inr (by decide)) : g95 70 1 = gi93 70 1).trans ((hC93.1 70 1 rfl).1.trans c78_0)) ((by rw [e95]; exact x_up2_off (Or.inr (by decide)) : g95 70 2 = gi93 70 2).trans ((hC93.1 70 2 rfl).1.trans c78_1)) (by have hq := ((by rw [e95]; exact x_up2_ne (by decide) : g95 70 = gi93 70).trans ((funext (fun j => (hC93.1 70 j rfl).1) : gi93 70 = gi78 70))); rw [hq]; exact j78_0) rfl
                    · have r96 : (gi78 69 69).toInt ≠ (-1) := fun e => h90 (Int32.toInt_inj.mp (e.trans (by decide : ((-1):Int) = ((-1) : Int32).toInt)))
                      refine ev_loc f_X12_keeps (nx := 206) rfl rfl rfl rfl ?_
                      refine ev_gvI f_X12_keeps (nx := 209) (w := (gi78 69 69)) rfl (hI.wf.s rfl) rfl rfl rfl rfl ?_
                      refine ev_ic f_X12_keeps (nx := 210) (v := -1) rfl (by decide) rfl ?_
                      refine ev_if f_X12_keeps (t1 := 213) (t2 := 220) rfl rfl rfl (fun h97 => ?_) (fun h97 => ?_)
                      · have u98 : (gi78 69 69).toInt ≤ (-1) := t_equ h97 (by decide : ((-1):Int32).toInt ≤ ((-1):Int))
                        have l99 : (-1) ≤ (gi78 69 69).toInt := t_eql h97 (by decide : ((-1):Int) ≤ ((-1):Int32).toInt)
                        refine ev_loc f_X12_keeps (nx := 214) rfl rfl rfl rfl ?_
                        refine ev_sp f_X12_keeps (nx := 217) (v := 301) rfl (by decide) rfl ?_
                        refine ev_putIT f_X12_keeps (nx := 220) rfl (hI.wf.s rfl) rfl rfl rfl (hI.put0 (hI.wf.s rfl) rfl rfl) (hX.upI rfl) (fun g100 e100 hI hX => ?_)
                        refine ev_loc f_X12_keeps (nx := 221) rfl rfl rfl rfl ?_
                        refine ev_c0 f_X12_keeps (nx := 224) (r := []) rfl rfl rfl rfl rfl rfl rfl (c_m_passesOver hI ) rfl hX rfl (fun gi101 gl101 gr101 hI hX hC101 => ?_)
                        exact ev_ret f_X12_keeps rfl rfl rfl ⟨_, _, _, rfl, hI, hX, rfl⟩
                      · have r102 : (gi78 69 69).toInt ≠ (-1) := fun e => h97 (Int32.toInt_inj.mp (e.trans (by decide : ((-1):Int) = ((-1) : Int32).toInt)))
                        refine ev_loc f_X12_keeps (nx := 221) rfl rfl rfl rfl ?_
                        refine ev_c0 f_X12_keeps (nx := 224) (r := []) rfl rfl rfl rfl rfl rfl rfl (c_m_passesOver hI ) rfl hX rfl (fun gi103 gl103 gr103 hI hX hC103 => ?_)
                        exact ev_ret f_X12_keeps rfl rfl rfl ⟨_, _, _, rfl, hI, hX, rfl⟩
                refine ev_sub (lo := [(2, .int y63_2), (0, .ref 69), (1, .int ar1)]) rfl (t_sc rfl (t_sc rfl (t_sc rfl t_sn))) ?_
                exact L78 _ g77 gl63 gr63  hI hX  ((by rw [e77]; exact x_up2_off (Or.inr (by decide)) : g77 70 1 = g76 70 1).trans ((by rw [e76]; exact x_up2_off (Or.inr (by decide)) : g76 70 1 = g75 70 1).trans ((by rw [e75]; exact x_up2_off (Or.inr (by decide)) : g75 70 1 = g74 70 1).trans ((by rw [e74]; exact x_up2_off (Or.inr (by decide)) : g74 70 1 = g73 70 1).trans ((by rw [e73]; exact x_up2_off (Or.inr (by decide)) : g73 70 1 = g72 70 1).trans ((by rw [e72]; exact x_up2_off (Or.inr (by decide)) : g72 70 1 = g71 70 1).trans ((by rw [e71]; exact x_up2_off (Or.inr (by decide)) : g71 70 1 = g70 70 1).trans ((by rw [e70]; exact x_up2_off (Or.inr (by decide)) : g70 70 1 = g69 70 1).trans ((by rw [e69]; exact x_up2_off (Or.inr (by decide)) : g69 70 1 = g68 70 1).trans ((by rw [e68]; exact x_up2_off (Or.inr (by decide)) : g68 70 1 = g67 70 1).trans ((by rw [e67]; exact x_up2_off (Or.inr (by decide)) : g67 70 1 = g66 70 1).trans ((by rw [e66]; exact x_up2_off (Or.inr (by decide)) : g66 70 1 = gi63 70 1).trans c63_0)))))))))))) ((by rw [e77]; exact x_up2_off (Or.inr (by decide)) : g77 70 2 = g76 70 2).trans ((by rw [e76]; exact x_up2_off (Or.inr (by decide)) : g76 70 2 = g75 70 2).trans ((by rw [e75]; exact x_up2_off (Or.inr (by decide)) : g75 70 2 = g74 70 2).trans ((by rw [e74]; exact x_up2_off (Or.inr (by decide)) : g74 70 2 = g73 70 2).trans ((by rw [e73]; exact x_up2_off (Or.inr (by decide)) : g73 70 2 = g72 70 2).trans ((by rw [e72]; exact x_up2_off (Or.inr (by decide)) : g72 70 2 = g71 70 2).trans ((by rw [e71]; exact x_up2_off (Or.inr (by decide)) : g71 70 2 = g70 70 2).trans ((by rw [e70]; exact x_up2_off (Or.inr (by decide)) : g70 70 2 = g69 70 2).trans ((by rw [e69]; exact x_up2_off (Or.inr (by decide)) : g69 70 2 = g68 70 2).trans ((by rw [e68]; exact x_up2_off (Or.inr (by decide)) : g68 70 2 = g67 70 2).trans ((by rw [e67]; exact x_up2_off (Or.inr (by decide)) : g67 70 2 = g66 70 2).trans ((by rw [e66]; exact x_up2_off (Or.inr (by decide)) : g66 70 2 = gi63 70 2).trans c63_1)))))))))))) (by have hq := ((by rw [e77]; exact x_up2_ne (by decide) : g77 70 = g76 70).trans ((by rw [e76]; exact x_up2_ne (by decide) : g76 70 = g75 70).trans ((by rw [e75]; exact x_up2_ne (by decide) : g75 70 = g74 70).trans ((by rw [e74]; exact x_up2_ne (by decide) : g74 70 = g73 70).trans ((by rw [e73]; exact x_up2_ne (by decide) : g73 70 = g72 70).trans ((by rw [e72]; exact x_up2_ne (by decide) : g72 70 = g71 70).trans ((by rw [e71]; exact x_up2_ne (by decide) : g71 70 = g70 70).trans ((by rw [e70]; exact x_up2_ne (by decide) : g70 70 = g69 70).trans ((by rw [e69]; exact x_up2_ne (by decide) : g69 70 = g68 70).trans ((by rw [e68]; exact x_up2_ne (by decide) : g68 70 = g67 70).trans ((by rw [e67]; exact x_up2_ne (by decide) : g67 70 = g66 70).trans ((by rw [e66]; exact x_up2_ne (by decide) : g66 70 = gi63 70))))))))))))); rw [hq]; exact j63_0) rfl
              · have u104 : y63_2.toInt ≤ 5 := t_ltu (t_nle h64) (by decide : (6:Int32).toInt ≤ (6:Int)) rfl
                refine ev_loc f_X12_keeps (nx := 98) rfl rfl rfl rfl ?_
                refine ev_getR f_X12_keeps (nx := 101) rfl (hI.wf.s rfl) rfl rfl (hI.wf.r rfl) rfl rfl ?_
                refine ev_loc f_X12_keeps (nx := 102) rfl rfl rfl rfl ?_
                refine ev_ic f_X12_keeps (nx := 103) (v := 0) rfl (by decide) rfl ?_
                refine ev_zastT f_X12_keeps (nx := 104) rfl (hI.wf.s rfl) l63_2 (by decide) u104 (by decide) rfl (fun x l u => hI.astL (hI.wf.s rfl) (by decide +kernel : t_abw 99 0 5 0 1 = true) (t_cl1 l63_2 (by decide)) (t_cl2 l63_2 u104 (by decide) (by decide)) l u rfl) (fun x => hX.upI (t_inA_ok rfl)) (fun g105 x105 e105 hI hX => ?_)
                refine ev_incR f_X12_keeps (nx := 107) (c := 1) (l := 1) (u := 6) rfl rfl (by decide) (by decide) l63_2 u104 rfl rfl (by decide) (by decide) rfl (fun z106 e106 l106 u106 => ?_)
                refine ev_jmp f_X12_keeps (nx := 91) rfl rfl rfl ?_
                refine ev_sub (lo := [(2, .int z106), (0, .ref 69), (1, .int ar1)]) rfl (t_sc rfl (t_sc rfl (t_sc rfl t_sn))) ?_
                exact ih63 _ (by omega) g105 gl63 gr63 (z106) hI hX  (Int.le_trans (by decide : (0:Int) ≤ 1) l106) u106 ((by rw [e105]; exact x_up2_off (Or.inl (by decide)) : g105 70 1 = gi63 70 1).trans c63_0) ((by rw [e105]; exact x_up2_off (Or.inl (by decide)) : g105 70 2 = gi63 70 2).trans c63_1) (by have hq := ((by rw [e105]; exact x_up2_ne (by decide) : g105 70 = gi63 70)); rw [hq]; exact j63_0) rfl
            refine ev_sub (lo := [(2, .int 0), (0, .ref 69), (1, .int ar1)]) rfl (t_sc rfl (t_sc rfl (t_sc rfl t_sn))) ?_
            exact L63 _ gi62 gl62 gr62 (0) hI hX  (by decide : (0:Int) ≤ (0:Int32).toInt) (Int.le_trans (by decide : (0:Int32).toInt ≤ (0:Int)) (by decide : (0:Int) ≤ 6)) ((hC62.1 70 1 rfl).1.trans c7_0) ((hC62.1 70 2 rfl).1.trans rfl) (by have hq := ((funext (fun j => (hC62.1 70 j rfl).1) : gi62 70 = gi7 70)); rw [hq]; exact j7_0) rfl
          · have r107 : ar1.toInt ≠ (-1) := fun e => h59 (Int32.toInt_inj.mp (e.trans (by decide : ((-1):Int) = ((-1) : Int32).toInt)))
            refine ev_loc f_X12_keeps (nx := 63) rfl rfl rfl rfl ?_
            refine ev_getR f_X12_keeps (nx := 66) rfl (hI.wf.s rfl) rfl rfl (hI.wf.r rfl) rfl rfl ?_
            refine ev_bp f_X12_keeps (nx := 68) (v := 6) rfl (by decide) rfl ?_
            refine ev_loc f_X12_keeps (nx := 69) rfl rfl rfl rfl ?_
            refine ev_addK f_X12_keeps (nx := 70) (c := 6) (l := 6) (u := 11) rfl (by decide) l7_2 u57 rfl rfl (by decide) (by decide) rfl (fun z108 e108 l108 u108 => ?_)
            refine ev_alu f_X12_keeps (nx := 71) rfl rfl rfl rfl ?_
            refine ev_ialdT f_X12_keeps (nx := 72) rfl (hI.wf.s rfl) l108 (by decide) u108 (by decide) rfl (fun w109 e109 => ?_)
            refine ev_loc f_X12_keeps (nx := 73) rfl rfl rfl rfl ?_
            refine ev_inV1 f_X12_keeps (nx := 76) (lo2 := [(0, .ref 69)]) rfl rfl rfl rfl f_X12_draw (hI.wf.s rfl) rfl rfl rfl rfl rfl ?_
            refine ev_loc f_X12_draw (nx := 1) rfl rfl rfl rfl ?_
            refine ev_loc f_X12_draw (nx := 2) rfl rfl rfl rfl ?_
            refine ev_getI f_X12_draw (nx := 5) rfl (hI.wf.s rfl) rfl rfl rfl ?_
            refine ev_sp f_X12_draw (nx := 8) (v := 2749) rfl (by decide) rfl ?_
            refine ev_anyI f_X12_draw (nx := 9) rfl rfl rfl rfl (fun z110 => ?_)
            refine ev_sp f_X12_draw (nx := 12) (v := 12553) rfl (by decide) rfl ?_
            refine ev_anyI f_X12_draw (nx := 13) rfl rfl rfl rfl (fun z111 => ?_)
            refine ev_ldW f_X12_draw (nx := 16) (v := 65536) rfl (by decide) rfl ?_
            refine ev_remN f_X12_draw (nx := 17) rfl (by decide) rfl (fun z112 e112 => ?_)
            refine ev_putIT f_X12_draw (nx := 20) rfl (hI.wf.s rfl) rfl rfl rfl (hI.put0 (hI.wf.s rfl) rfl rfl) (hX.upI rfl) (fun g113 e113 hI hX => ?_)
            refine ev_loc f_X12_draw (nx := 21) rfl rfl rfl rfl ?_
            refine ev_gvI f_X12_draw (nx := 24) (w := z112) rfl (hI.wf.s rfl) rfl rfl (by rw [e113]; exact x_up2_at _ _ _ _ : g113 69 58 = z112) rfl ?_
            refine ev_bp f_X12_draw (nx := 26) (v := 8) rfl (by decide) rfl ?_
            refine ev_divN f_X12_draw (nx := 27) rfl (by decide) rfl (fun z114 e114 => ?_)
            refine ev_bp f_X12_draw (nx := 29) (v := 8) rfl (by decide) rfl ?_
            refine ev_remN f_X12_draw (nx := 30) rfl (by decide) rfl (fun z115 e115 => ?_)
            refine ev_retK1 f_X12_draw rfl rfl rfl ?_
            refine ev_anyI f_X12_keeps (nx := 77) rfl rfl rfl rfl (fun z116 => ?_)
            refine ev_iastT f_X12_keeps (nx := 78) rfl (hI.wf.s rfl) l108 (by decide) u108 (by decide) rfl (hI.astG (hI.wf.s rfl) (fun lo hi e => absurd e (t_nob (by decide +kernel) _)) (fun k hk e => by have := hk.2.1; omega)) (hX.upI (t_inR (p := 6) (m := 11) rfl l108 (by decide) u108 (by decide) (by decide))) (fun g117 e117 hI hX => ?_)
            refine ev_incR f_X12_keeps (nx := 81) (c := 1) (l := 1) (u := 6) rfl rfl (by decide) (by decide) l7_2 u57 rfl rfl (by decide) (by decide) rfl (fun z118 e118 l118 u118 => ?_)
            refine ev_jmp f_X12_keeps (nx := 47) rfl rfl rfl ?_
            refine ev_sub (lo := [(2, .int z118), (0, .ref 69), (1, .int ar1)]) rfl (t_sc rfl (t_sc rfl (t_sc rfl t_sn))) ?_
            exact ih7 _ (by omega) g117 gl7 gr7 (z118) hI hX  (Int.le_trans (by decide : (0:Int) ≤ 1) l118) u118 ((by rw [e117]; exact x_up2_off (Or.inl (by decide)) : g117 70 1 = g113 70 1).trans ((by rw [e113]; exact x_up2_off (Or.inr (by decide)) : g113 70 1 = gi7 70 1).trans c7_0)) (by have hq := ((by rw [e117]; exact x_up2_ne (by decide) : g117 70 = g113 70).trans ((by rw [e113]; exact x_up2_ne (by decide) : g113 70 = gi7 70))); rw [hq]; exact j7_0) rfl
      refine ev_sub (lo := [(2, .int 0), (0, .ref 69), (1, .int ar1)]) rfl (t_sc rfl (t_sc rfl (t_sc rfl t_sn))) ?_
      exact L7 _ gi3 gl3 gr3 (0) hI hX  (by decide : (0:Int) ≤ (0:Int32).toInt) (Int.le_trans (by decide : (0:Int32).toInt ≤ (0:Int)) (by decide : (0:Int) ≤ 6)) rfl j3_0 rfl
    · have r119 : y3_2.toInt < (gi3 70 1).toInt := Int32.lt_iff_toInt_lt.mp (t_nle h5)
      have u120 : y3_2.toInt ≤ 5 := t_ltu (t_nle h5) u4 rfl
      have l121 : 1 ≤ (gi3 70 1).toInt := t_ltl (t_nle h5) l3_2 rfl
      refine ev_loc f_X12_keeps (nx := 22) rfl rfl rfl rfl ?_
      refine ev_ic f_X12_keeps (nx := 23) (v := -1) rfl (by decide) rfl ?_
      refine ev_if f_X12_keeps (t1 := 45) (t2 := 26) rfl rfl rfl (fun h122 => ?_) (fun h122 => ?_)
      · have u123 : ar1.toInt ≤ (-1) := t_equ h122 (by decide : ((-1):Int32).toInt ≤ ((-1):Int))
        have l124 : (-1) ≤ ar1.toInt := t_eql h122 (by decide : ((-1):Int) ≤ ((-1):Int32).toInt)
        refine ev_ic f_X12_keeps (nx := 46) (v := 0) rfl (by decide) rfl ?_
        refine ev_loc f_X12_keeps (nx := 47) (lo' := [(2, .int 0), (0, .ref 69), (1, .int ar1)]) rfl rfl rfl rfl ?_
        have L125 : ∀ (m125 : Nat) (gi125 : Nat → Nat → Int32) (gl125 : Nat → Nat → Int64) (gr125 : Nat → Nat → Value) (y125_2 : Int32), t_I sh gi125 gr125 → t_X wl_m_keeps sh gi gl gr gi125 gl125 gr125 → 0 ≤ y125_2.toInt → y125_2.toInt ≤ 6 → gi125 70 1 = (gi3 70 1) → t_rpn (gi125 70) 0 → (6 - y125_2.toInt).toNat = m125 → x_Ev X (d + 6) n_X12_keeps 47 [(2, .int y125_2), (0, .ref 69), (1, .int ar1)] [] (sh, gi125, gl125, gr125) (t_P wl_m_keeps sh gi gl gr t_Rn) := by
          intro m125
          induction m125 using Nat.strongRecOn with
          | _ m125 ih125 =>
          intro gi125 gl125 gr125 y125_2 hI hX l125_2 u125_2 c125_0 j125_0 hm125
          refine ev_loc f_X12_keeps (nx := 48) rfl rfl rfl rfl ?_
          refine ev_loc f_X12_keeps (nx := 49) rfl rfl rfl rfl ?_
          refine ev_getR f_X12_keeps (nx := 52) rfl (hI.wf.s rfl) rfl rfl (hI.wf.r rfl) rfl rfl ?_
          refine ev_ic f_X12_keeps (nx := 53) (v := 2) rfl (by decide) rfl ?_
          obtain ⟨l126, u126⟩ := hI.ab (by decide +kernel : t_abr 70 2 2 0 6 = true) (Nat.le_refl _) (Nat.le_refl _)
          refine ev_ialdv f_X12_keeps (nx := 54) (w := (gi125 70 2)) rfl (hI.wf.s rfl) (by decide) (rfl : (2 : Int32).toNatClampNeg = 2) (by decide) rfl rfl ?_
          refine ev_if f_X12_keeps (t1 := 84) (t2 := 57) rfl rfl rfl (fun h127 => ?_) (fun h127 => ?_)
          · have r128 : (gi125 70 2).toInt ≤ y125_2.toInt := Int32.le_iff_toInt_le.mp h127
            refine ev_loc f_X12_keeps (nx := 85) rfl rfl rfl rfl ?_
            refine ev_ic f_X12_keeps (nx := 86) (v := 0) rfl (by decide) rfl ?_
            refine ev_c0 f_X12_keeps (nx := 89) (r := []) rfl rfl rfl rfl rfl rfl rfl (c_m_orders hI (0)) rfl hX rfl (fun gi129 gl129 gr129 hI hX hC129 => ?_)
            refine ev_ic f_X12_keeps (nx := 90) (v := 0) rfl (by decide) rfl ?_
            refine ev_loc f_X12_keeps (nx := 91) (lo' := [(2, .int 0), (0, .ref 69), (1, .int ar1)]) rfl rfl rfl rfl ?_
            have L130 : ∀ (m130 : Nat) (gi130 : Nat → Nat → Int32) (gl130 : Nat → Nat → Int64) (gr130 : Nat → Nat → Value) (y130_2 : Int32), t_I sh gi130 gr130 → t_X wl_m_keeps sh gi gl gr gi130 gl130 gr130 → 0 ≤ y130_2.toInt → y130_2.toInt ≤ 6 → gi130 70 1 = (gi3 70 1) → gi130 70 2 = (gi125 70 2) → t_rpn (gi130 70) 0 → (6 - y130_2.toInt).toNat = m130 → x_Ev X (d + 6) n_X12_keeps 91 [(2, .int y130_2), (0, .ref 69), (1, .int ar1)] [] (sh, gi130, gl130, gr130) (t_P wl_m_keeps sh gi gl gr t_Rn) := by
              intro m130
              induction m130 using Nat.strongRecOn with
              | _ m130 ih130 =>
              intro gi130 gl130 gr130 y130_2 hI hX l130_2 u130_2 c130_0 c130_1 j130_0 hm130
              refine ev_loc f_X12_keeps (nx := 92) rfl rfl rfl rfl ?_
              refine ev_bp f_X12_keeps (nx := 94) (v := 6) rfl (by decide) rfl ?_
              refine ev_if f_X12_keeps (t1 := 110) (t2 := 97) rfl rfl rfl (fun h131 => ?_) (fun h131 => ?_)
              · have l132 : 6 ≤ y130_2.toInt := t_lel h131 (by decide : (6:Int) ≤ (6:Int32).toInt)
                refine ev_loc f_X12_keeps (nx := 111) rfl rfl rfl rfl ?_
                refine ev_ic f_X12_keeps (nx := 112) (v := 0) rfl (by decide) rfl ?_
                refine ev_putIT f_X12_keeps (nx := 115) rfl (hI.wf.s rfl) rfl rfl rfl (hI.put0 (hI.wf.s rfl) rfl rfl) (hX.upI rfl) (fun g133 e133 hI hX => ?_)
                refine ev_loc f_X12_keeps (nx := 116) rfl rfl rfl rfl ?_
                refine ev_ic f_X12_keeps (nx := 117) (v := -1) rfl (by decide) rfl ?_
                refine ev_putIT f_X12_keeps (nx := 120) rfl (hI.wf.s rfl) rfl rfl rfl (hI.put0 (hI.wf.s rfl) rfl rfl) (hX.upI rfl) (fun g134 e134 hI hX => ?_)
                refine ev_loc f_X12_keeps (nx := 121) rfl rfl rfl rfl ?_
                refine ev_ic f_X12_keeps (nx := 122) (v := -1) rfl (by decide) rfl ?_
                refine ev_putIT f_X12_keeps (nx := 125) rfl (hI.wf.s rfl) rfl rfl rfl (hI.put0 (hI.wf.s rfl) rfl rfl) (hX.upI rfl) (fun g135 e135 hI hX => ?_)
                refine ev_loc f_X12_keeps (nx := 126) rfl rfl rfl rfl ?_
                refine ev_ic f_X12_keeps (nx := 127) (v := 0) rfl (by decide) rfl ?_
                refine ev_putIT f_X12_keeps (nx := 130) rfl (hI.wf.s rfl) rfl rfl rfl (hI.put0 (hI.wf.s rfl) rfl rfl) (hX.upI rfl) (fun g136 e136 hI hX => ?_)
                refine ev_loc f_X12_keeps (nx := 131) rfl rfl rfl rfl ?_
                refine ev_ic f_X12_keeps (nx := 132) (v := 0) rfl (by decide) rfl ?_
                refine ev_putIT f_X12_keeps (nx := 135) rfl (hI.wf.s rfl) rfl rfl rfl (hI.putB (hI.wf.s rfl) rfl rfl (by decide : (0:Int) ≤ (0:Int32).toInt) (by decide) (by decide : (0:Int32).toInt ≤ (0:Int)) (by decide)) (hX.upI rfl) (fun g137 e137 hI hX => ?_)
                refine ev_loc f_X12_keeps (nx := 136) rfl rfl rfl rfl ?_
                refine ev_ic f_X12_keeps (nx := 137) (v := 0) rfl (by decide) rfl ?_
                refine ev_putIT f_X12_keeps (nx := 140) rfl (hI.wf.s rfl) rfl rfl rfl (hI.putB (hI.wf.s rfl) rfl rfl (by decide : (0:Int) ≤ (0:Int32).toInt) (by decide) (by decide : (0:Int32).toInt ≤ (0:Int)) (by decide)) (hX.upI rfl) (fun g138 e138 hI hX => ?_)
                refine ev_loc f_X12_keeps (nx := 141) rfl rfl rfl rfl ?_
                refine ev_ic f_X12_keeps (nx := 142) (v := 0) rfl (by decide) rfl ?_
                refine ev_putIT f_X12_keeps (nx := 145) rfl (hI.wf.s rfl) rfl rfl rfl (hI.put0 (hI.wf.s rfl) rfl rfl) (hX.upI rfl) (fun g139 e139 hI hX => ?_)
                refine ev_loc f_X12_keeps (nx := 146) rfl rfl rfl rfl ?_
                refine ev_ic f_X12_keeps (nx := 147) (v := 0) rfl (by decide) rfl ?_
                refine ev_putIT f_X12_keeps (nx := 150) rfl (hI.wf.s rfl) rfl rfl rfl (hI.put0 (hI.wf.s rfl) rfl rfl) (hX.upI rfl) (fun g140 e140 hI hX => ?_)
                refine ev_loc f_X12_keeps (nx := 151) rfl rfl rfl rfl ?_
                refine ev_ic f_X12_keeps (nx := 152) (v := 0) rfl (by decide) rfl ?_
                refine ev_putIT f_X12_keeps (nx := 155) rfl (hI.wf.s rfl) rfl rfl rfl (hI.put0 (hI.wf.s rfl) rfl rfl) (hX.upI rfl) (fun g141 e141 hI hX => ?_)
                refine ev_loc f_X12_keeps (nx := 156) rfl rfl rfl rfl ?_
                refine ev_ic f_X12_keeps (nx := 157) (v := 0) rfl (by decide) rfl ?_
                refine ev_putIT f_X12_keeps (nx := 160) rfl (hI.wf.s rfl) rfl rfl rfl (hI.put0 (hI.wf.s rfl) rfl rfl) (hX.upI rfl) (fun g142 e142 hI hX => ?_)
                refine ev_loc f_X12_keeps (nx := 161) rfl rfl rfl rfl ?_
                refine ev_ic f_X12_keeps (nx := 162) (v := -1) rfl (by decide) rfl ?_
                refine ev_putIT f_X12_keeps (nx := 165) rfl (hI.wf.s rfl) rfl rfl rfl (hI.put0 (hI.wf.s rfl) rfl rfl) (hX.upI rfl) (fun g143 e143 hI hX => ?_)
                refine ev_loc f_X12_keeps (nx := 166) rfl rfl rfl rfl ?_
                refine ev_ic f_X12_keeps (nx := 167) (v := 0) rfl (by decide) rfl ?_
                refine ev_putIT f_X12_keeps (nx := 170) rfl (hI.wf.s rfl) rfl rfl rfl (hI.putB (hI.wf.s rfl) rfl rfl (by decide : (0:Int) ≤ (0:Int32).toInt) (by decide) (by decide : (0:Int32).toInt ≤ (0:Int)) (by decide)) (hX.upI rfl) (fun g144 e144 hI hX => ?_)
                have L145 : ∀ (m145 : Nat) (gi145 : Nat → Nat → Int32) (gl145 : Nat → Nat → Int64) (gr145 : Nat → Nat → Value), t_I sh gi145 gr145 → t_X wl_m_keeps sh gi gl gr gi145 gl145 gr145 → gi145 70 1 = (gi3 70 1) → gi145 70 2 = (gi125 70 2) → t_rpn (gi145 70) 0 → (301 - (gi145 69 59).toInt).toNat = m145 → x_Ev X (d + 6) n_X12_keeps 170 [(2, .int y130_2), (0, .ref 69), (1, .int ar1)] [] (sh, gi145, gl145, gr145) (t_P wl_m_keeps sh gi gl gr t_Rn) := by
                  intro m145
                  induction m145 using Nat.strongRecOn with
                  | _ m145 ih145 =>
                  intro gi145 gl145 gr145 hI hX c145_0 c145_1 j145_0 hm145
                  refine ev_loc f_X12_keeps (nx := 171) rfl rfl rfl rfl ?_
                  refine ev_getI f_X12_keeps (nx := 174) rfl (hI.wf.s rfl) rfl rfl rfl ?_
                  obtain ⟨l146, u146⟩ := hI.b (hI.wf.s (k := 69) rfl) (t_bdK rfl : t_bd 11 59 = some (0, 301))
                  refine ev_sp f_X12_keeps (nx := 177) (v := 301) rfl (by decide) rfl ?_
                  refine ev_if f_X12_keeps (t1 := 205) (t2 := 180) rfl rfl rfl (fun h147 => ?_) (fun h147 => ?_)
                  · have l148 : 301 ≤ (gi145 69 59).toInt := t_lel h147 (by decide : (301:Int) ≤ (301:Int32).toInt)
                    refine ev_loc f_X12_keeps (nx := 206) rfl rfl rfl rfl ?_
                    refine ev_getI f_X12_keeps (nx := 209) rfl (hI.wf.s rfl) rfl rfl rfl ?_
                    refine ev_ic f_X12_keeps (nx := 210) (v := -1) rfl (by decide) rfl ?_
                    refine ev_if f_X12_keeps (t1 := 213) (t2 := 220) rfl rfl rfl (fun h149 => ?_) (fun h149 => ?_)
                    · have u150 : (gi145 69 69).toInt ≤ (-1) := t_equ h149 (by decide : ((-1):Int32).toInt ≤ ((-1):Int))
                      have l151 : (-1) ≤ (gi145 69 69).toInt := t_eql h149 (by decide : ((-1):Int) ≤ ((-1):Int32).toInt)
                      refine ev_loc f_X12_keeps (nx := 214) rfl rfl rfl rfl ?_
                      refine ev_sp f_X12_keeps (nx := 217) (v := 301) rfl (by decide) rfl ?_
                      refine ev_putIT f_X12_keeps (nx := 220) rfl (hI.wf.s rfl) rfl rfl rfl (hI.put0 (hI.wf.s rfl) rfl rfl) (hX.upI rfl) (fun g152 e152 hI hX => ?_)
                      refine ev_loc f_X12_keeps (nx := 221) rfl rfl rfl rfl ?_
                      refine ev_c0 f_X12_keeps (nx := 224) (r := []) rfl rfl rfl rfl rfl rfl rfl (c_m_passesOver hI ) rfl hX rfl (fun gi153 gl153 gr153 hI hX hC153 => ?_)
                      exact ev_ret f_X12_keeps rfl rfl rfl ⟨_, _, _, rfl, hI, hX, rfl⟩
                    · have r154 : (gi145 69 69).toInt ≠ (-1) := fun e => h149 (Int32.toInt_inj.mp (e.trans (by decide : ((-1):Int) = ((-1) : Int32).toInt)))
                      refine ev_loc f_X12_keeps (nx := 221) rfl rfl rfl rfl ?_
                      refine ev_c0 f_X12_keeps (nx := 224) (r := []) rfl rfl rfl rfl rfl rfl rfl (c_m_passesOver hI ) rfl hX rfl (fun gi155 gl155 gr155 hI hX hC155 => ?_)
                      exact ev_ret f_X12_keeps rfl rfl rfl ⟨_, _, _, rfl, hI, hX, rfl⟩
                  · have u156 : (gi145 69 59).toInt ≤ 300 := t_ltu (t_nle h147) (by decide : (301:Int32).toInt ≤ (301:Int)) rfl
                    refine ev_loc f_X12_keeps (nx := 181) rfl rfl rfl rfl ?_
                    refine ev_getI f_X12_keeps (nx := 184) rfl (hI.wf.s rfl) rfl rfl rfl ?_
                    refine ev_ic f_X12_keeps (nx := 185) (v := -1) rfl (by decide) rfl ?_
                    refine ev_if f_X12_keeps (t1 := 188) (t2 := 205) rfl rfl rfl (fun h157 => ?_) (fun h157 => ?_)
                    · have u158 : (gi145 69 69).toInt ≤ (-1) := t_equ h157 (by decide : ((-1):Int32).toInt ≤ ((-1):Int))
                      have l159 : (-1) ≤ (gi145 69 69).toInt := t_eql h157 (by decide : ((-1):Int) ≤ ((-1):Int32).toInt)
                      refine ev_loc f_X12_keeps (nx := 189) rfl rfl rfl rfl ?_
                      refine ev_c0 f_X12_keeps (nx := 192) (r := []) rfl rfl rfl rfl rfl rfl rfl (c_m_minuteGoes hI  j145_0) rfl hX rfl (fun gi160 gl160 gr160 hI hX hC160 => ?_)
                      refine ev_loc f_X12_keeps (nx := 193) rfl rfl rfl rfl ?_
                      refine ev_alu f_X12_keeps (nx := 194) rfl rfl rfl rfl ?_
                      refine ev_gvI f_X12_keeps (nx := 197) (w := (gi145 69 59)) rfl (hI.wf.s rfl) rfl rfl ((hC160.1 69 59 rfl).1.trans rfl) rfl ?_
                      refine ev_ic f_X12_keeps (nx := 198) (v := 1) rfl (by decide) rfl ?_
                      refine ev_addC f_X12_keeps (nx := 199) (c := 1) (l := 1) (u := 301) rfl (by decide) l146 u156 rfl rfl (by decide) (by decide) rfl (fun z161 e161 l161 u161 => ?_)
                      refine ev_putIT f_X12_keeps (nx := 202) rfl (hI.wf.s rfl) rfl rfl rfl (hI.putB (hI.wf.s rfl) rfl rfl l161 (by decide) u161 (by decide)) (hX.upI rfl) (fun g162 e162 hI hX => ?_)
                      refine ev_jmp f_X12_keeps (nx := 170) rfl rfl rfl ?_
                      refine ev_sub (lo := [(2, .int y130_2), (0, .ref 69), (1, .int ar1)]) rfl (t_sc rfl (t_sc rfl (t_sc rfl t_sn))) ?_
                      have hq145 := ((by rw [e162]; exact x_up2_at _ _ _ _ : g162 69 59 = z161) : g162 69 59 = z161)
                      exact ih145 _ (by rw [hq145]; omega) g162 gl160 gr160  hI hX  ((by rw [e162]; exact x_up2_off (Or.inr (by decide)) : g162 70 1 = gi160 70 1).trans ((hC160.1 70 1 rfl).1.trans c145_0)) ((by rw [e162]; exact x_up2_off (Or.inr (by decide)) : g162 70 2 = gi160 70 2).trans ((hC160.1 70 2 rfl).1.trans c145_1)) (by have hq := ((by rw [e162]; exact x_up2_ne (by decide) : g162 70 = gi160 70).trans ((funext (fun j => (hC160.1 70 j rfl).1) : gi160 70 = gi145 70))); rw [hq]; exact j145_0) rfl
                    · have r163 : (gi145 69 69).toInt ≠ (-1) := fun e => h157 (Int32.toInt_inj.mp (e.trans (by decide : ((-1):Int) = ((-1) : Int32).toInt)))
                      refine ev_loc f_X12_keeps (nx := 206) rfl rfl rfl rfl ?_
                      refine ev_gvI f_X12_keeps (nx := 209) (w := (gi145 69 69)) rfl (hI.wf.s rfl) rfl rfl rfl rfl ?_
                      refine ev_ic f_X12_keeps (nx := 210) (v := -1) rfl (by decide) rfl ?_
                      refine ev_if f_X12_keeps (t1 := 213) (t2 := 220) rfl rfl rfl (fun h164 => ?_) (fun h164 => ?_)
                      · have u165 : (gi145 69 69).toInt ≤ (-1) := t_equ h164 (by decide : ((-1):Int32).toInt ≤ ((-1):Int))
                        have l166 : (-1) ≤ (gi145 69 69).toInt := t_eql h164 (by decide : ((-1):Int) ≤ ((-1):Int32).toInt)
                        refine ev_loc f_X12_keeps (nx := 214) rfl rfl rfl rfl ?_
                        refine ev_sp f_X12_keeps (nx := 217) (v := 301) rfl (by decide) rfl ?_
                        refine ev_putIT f_X12_keeps (nx := 220) rfl (hI.wf.s rfl) rfl rfl rfl (hI.put0 (hI.wf.s rfl) rfl rfl) (hX.upI rfl) (fun g167 e167 hI hX => ?_)
                        refine ev_loc f_X12_keeps (nx := 221) rfl rfl rfl rfl ?_
                        refine ev_c0 f_X12_keeps (nx := 224) (r := []) rfl rfl rfl rfl rfl rfl rfl (c_m_passesOver hI ) rfl hX rfl (fun gi168 gl168 gr168 hI hX hC168 => ?_)
                        exact ev_ret f_X12_keeps rfl rfl rfl ⟨_, _, _, rfl, hI, hX, rfl⟩
                      · have r169 : (gi145 69 69).toInt ≠ (-1) := fun e => h164 (Int32.toInt_inj.mp (e.trans (by decide : ((-1):Int) = ((-1) : Int32).toInt)))
                        refine ev_loc f_X12_keeps (nx := 221) rfl rfl rfl rfl ?_
                        refine ev_c0 f_X12_keeps (nx := 224) (r := []) rfl rfl rfl rfl rfl rfl rfl (c_m_passesOver hI ) rfl hX rfl (fun gi170 gl170 gr170 hI hX hC170 => ?_)
                        exact ev_ret f_X12_keeps rfl rfl rfl ⟨_, _, _, rfl, hI, hX, rfl⟩
                refine ev_sub (lo := [(2, .int y130_2), (0, .ref 69), (1, .int ar1)]) rfl (t_sc rfl (t_sc rfl (t_sc rfl t_sn))) ?_
                exact L145 _ g144 gl130 gr130  hI hX  ((by rw [e144]; exact x_up2_off (Or.inr (by decide)) : g144 70 1 = g143 70 1).trans ((by rw [e143]; exact x_up2_off (Or.inr (by decide)) : g143 70 1 = g142 70 1).trans ((by rw [e142]; exact x_up2_off (Or.inr (by decide)) : g142 70 1 = g141 70 1).trans ((by rw [e141]; exact x_up2_off (Or.inr (by decide)) : g141 70 1 = g140 70 1).trans ((by rw [e140]; exact x_up2_off (Or.inr (by decide)) : g140 70 1 = g139 70 1).trans ((by rw [e139]; exact x_up2_off (Or.inr (by decide)) : g139 70 1 = g138 70 1).trans ((by rw [e138]; exact x_up2_off (Or.inr (by decide)) : g138 70 1 = g137 70 1).trans ((by rw [e137]; exact x_up2_off (Or.inr (by decide)) : g137 70 1 = g136 70 1).trans ((by rw [e136]; exact x_up2_off (Or.inr (by decide)) : g136 70 1 = g135 70 1).trans ((by rw [e135]; exact x_up2_off (Or.inr (by decide)) : g135 70 1 = g134 70 1).trans ((by rw [e134]; exact x_up2_off (Or.inr (by decide)) : g134 70 1 = g133 70 1).trans ((by rw [e133]; exact x_up2_off (Or.inr (by decide)) : g133 70 1 = gi130 70 1).trans c130_0)))))))))))) ((by rw [e144]; exact x_up2_off (Or.inr (by decide)) : g144 70 2 = g143 70 2).trans ((by rw [e143]; exact x_up2_off (Or.inr (by decide)) : g143 70 2 = g142 70 2).trans ((by rw [e142]; exact x_up2_off (Or.inr (by decide)) : g142 70 2 = g141 70 2).trans ((by rw [e141]; exact x_up2_off (Or.inr (by decide)) : g141 70 2 = g140 70 2).trans ((by rw [e140]; exact x_up2_off (Or.inr (by decide)) : g140 70 2 = g139 70 2).trans ((by rw [e139]; exact x_up2_off (Or.inr (by decide)) : g139 70 2 = g138 70 2).trans ((by rw [e138]; exact x_up2_off (Or.inr (by decide)) : g138 70 2 = g137 70 2).trans ((by rw [e137]; exact x_up2_off (Or.inr (by decide)) : g137 70 2 = g136 70 2).trans ((by rw [e136]; exact x_up2_off (Or.inr (by decide)) : g136 70 2 = g135 70 2).trans ((by rw [e135]; exact x_up2_off (Or.inr (by decide)) : g135 70 2 = g134 70 2).trans ((by rw [e134]; exact x_up2_off (Or.inr (by decide)) : g134 70 2 = g133 70 2).trans ((by rw [e133]; exact x_up2_off (Or.inr (by decide)) : g133 70 2 = gi130 70 2).trans c130_1)))))))))))) (by have hq := ((by rw [e144]; exact x_up2_ne (by decide) : g144 70 = g143 70).trans ((by rw [e143]; exact x_up2_ne (by decide) : g143 70 = g142 70).trans ((by rw [e142]; exact x_up2_ne (by decide) : g142 70 = g141 70).trans ((by rw [e141]; exact x_up2_ne (by decide) : g141 70 = g140 70).trans ((by rw [e140]; exact x_up2_ne (by decide) : g140 70 = g139 70).trans ((by rw [e139]; exact x_up2_ne (by decide) : g139 70 = g138 70).trans ((by rw [e138]; exact x_up2_ne (by decide) : g138 70 = g137 70).trans ((by rw [e137]; exact x_up2_ne (by decide) : g137 70 = g136 70).trans ((by rw [e136]; exact x_up2_ne (by decide) : g136 70 = g135 70).trans ((by rw [e135]; exact x_up2_ne (by decide) : g135 70 = g134 70).trans ((by rw [e134]; exact x_up2_ne (by decide) : g134 70 = g133 70).trans ((by rw [e133]; exact x_up2_ne (by decide) : g133 70 = gi130 70))))))))))))); rw [hq]; exact j130_0) rfl
              · have u171 : y130_2.toInt ≤ 5 := t_ltu (t_nle h131) (by decide : (6:Int32).toInt ≤ (6:Int)) rfl
                refine ev_loc f_X12_keeps (nx := 98) rfl rfl rfl rfl ?_
                refine ev_getR f_X12_keeps (nx := 101) rfl (hI.wf.s rfl) rfl rfl (hI.wf.r rfl) rfl rfl ?_
                refine ev_loc f_X12_keeps (nx := 102) rfl rfl rfl rfl ?_
                refine ev_ic f_X12_keeps (nx := 103) (v := 0) rfl (by decide) rfl ?_
                refine ev_zastT f_X12_keeps (nx := 104) rfl (hI.wf.s rfl) l130_2 (by decide) u171 (by decide) rfl (fun x l u => hI.astL (hI.wf.s rfl) (by decide +kernel : t_abw 99 0 5 0 1 = true) (t_cl1 l130_2 (by decide)) (t_cl2 l130_2 u171 (by decide) (by decide)) l u rfl) (fun x => hX.upI (t_inA_ok rfl)) (fun g172 x172 e172 hI hX => ?_)
                refine ev_incR f_X12_keeps (nx := 107) (c := 1) (l := 1) (u := 6) rfl rfl (by decide) (by decide) l130_2 u171 rfl rfl (by decide) (by decide) rfl (fun z173 e173 l173 u173 => ?_)
                refine ev_jmp f_X12_keeps (nx := 91) rfl rfl rfl ?_
                refine ev_sub (lo := [(2, .int z173), (0, .ref 69), (1, .int ar1)]) rfl (t_sc rfl (t_sc rfl (t_sc rfl t_sn))) ?_
                exact ih130 _ (by omega) g172 gl130 gr130 (z173) hI hX  (Int.le_trans (by decide : (0:Int) ≤ 1) l173) u173 ((by rw [e172]; exact x_up2_off (Or.inl (by decide)) : g172 70 1 = gi130 70 1).trans c130_0) ((by rw [e172]; exact x_up2_off (Or.inl (by decide)) : g172 70 2 = gi130 70 2).trans c130_1) (by have hq := ((by rw [e172]; exact x_up2_ne (by decide) : g172 70 = gi130 70)); rw [hq]; exact j130_0) rfl
            refine ev_sub (lo := [(2, .int 0), (0, .ref 69), (1, .int ar1)]) rfl (t_sc rfl (t_sc rfl (t_sc rfl t_sn))) ?_
            exact L130 _ gi129 gl129 gr129 (0) hI hX  (by decide : (0:Int) ≤ (0:Int32).toInt) (Int.le_trans (by decide : (0:Int32).toInt ≤ (0:Int)) (by decide : (0:Int) ≤ 6)) ((hC129.1 70 1 rfl).1.trans c125_0) ((hC129.1 70 2 rfl).1.trans rfl) (by have hq := ((funext (fun j => (hC129.1 70 j rfl).1) : gi129 70 = gi125 70)); rw [hq]; exact j125_0) rfl
          · have r174 : y125_2.toInt < (gi125 70 2).toInt := Int32.lt_iff_toInt_lt.mp (t_nle h127)
            have u175 : y125_2.toInt ≤ 5 := t_ltu (t_nle h127) u126 rfl
            have l176 : 1 ≤ (gi125 70 2).toInt := t_ltl (t_nle h127) l125_2 rfl
            refine ev_loc f_X12_keeps (nx := 58) rfl rfl rfl rfl ?_
            refine ev_ic f_X12_keeps (nx := 59) (v := -1) rfl (by decide) rfl ?_
            refine ev_t f_X12_keeps (t1 := 84) (t2 := 62) rfl rfl rfl (t_eqT u123 l124 (by decide : ((-1):Int32).toInt ≤ ((-1):Int)) (by decide : ((-1):Int) ≤ ((-1):Int32).toInt)) ?_
            refine ev_loc f_X12_keeps (nx := 85) rfl rfl rfl rfl ?_
            refine ev_ic f_X12_keeps (nx := 86) (v := 0) rfl (by decide) rfl ?_
            refine ev_c0 f_X12_keeps (nx := 89) (r := []) rfl rfl rfl rfl rfl rfl rfl (c_m_orders hI (0)) rfl hX rfl (fun gi177 gl177 gr177 hI hX hC177 => ?_)
            refine ev_ic f_X12_keeps (nx := 90) (v := 0) rfl (by decide) rfl ?_
            refine ev_loc f_X12_keeps (nx := 91) (lo' := [(2, .int 0), (0, .ref 69), (1, .int ar1)]) rfl rfl rfl rfl ?_
            have L178 : ∀ (m178 : Nat) (gi178 : Nat → Nat → Int32) (gl178 : Nat → Nat → Int64) (gr178 : Nat → Nat → Value) (y178_2 : Int32), t_I sh gi178 gr178 → t_X wl_m_keeps sh gi gl gr gi178 gl178 gr178 → 0 ≤ y178_2.toInt → y178_2.toInt ≤ 6 → gi178 70 1 = (gi3 70 1) → gi178 70 2 = (gi125 70 2) → t_rpn (gi178 70) 0 → (6 - y178_2.toInt).toNat = m178 → x_Ev X (d + 6) n_X12_keeps 91 [(2, .int y178_2), (0, .ref 69), (1, .int ar1)] [] (sh, gi178, gl178, gr178) (t_P wl_m_keeps sh gi gl gr t_Rn) := by
              intro m178
              induction m178 using Nat.strongRecOn with
              | _ m178 ih178 =>
              intro gi178 gl178 gr178 y178_2 hI hX l178_2 u178_2 c178_0 c178_1 j178_0 hm178
              refine ev_loc f_X12_keeps (nx := 92) rfl rfl rfl rfl ?_
              refine ev_bp f_X12_keeps (nx := 94) (v := 6) rfl (by decide) rfl ?_
              refine ev_if f_X12_keeps (t1 := 110) (t2 := 97) rfl rfl rfl (fun h179 => ?_) (fun h179 => ?_)
              · have l180 : 6 ≤ y178_2.toInt := t_lel h179 (by decide : (6:Int) ≤ (6:Int32).toInt)
                refine ev_loc f_X12_keeps (nx := 111) rfl rfl rfl rfl ?_
                refine ev_ic f_X12_keeps (nx := 112) (v := 0) rfl (by decide) rfl ?_
                refine ev_putIT f_X12_keeps (nx := 115) rfl (hI.wf.s rfl) rfl rfl rfl (hI.put0 (hI.wf.s rfl) rfl rfl) (hX.upI rfl) (fun g181 e181 hI hX => ?_)
                refine ev_loc f_X12_keeps (nx := 116) rfl rfl rfl rfl ?_
                refine ev_ic f_X12_keeps (nx := 117) (v := -1) rfl (by decide) rfl ?_
                refine ev_putIT f_X12_keeps (nx := 120) rfl (hI.wf.s rfl) rfl rfl rfl (hI.put0 (hI.wf.s rfl) rfl rfl) (hX.upI rfl) (fun g182 e182 hI hX => ?_)
                refine ev_loc f_X12_keeps (nx := 121) rfl rfl rfl rfl ?_
                refine ev_ic f_X12_keeps (nx := 122) (v := -1) rfl (by decide) rfl ?_
                refine ev_putIT f_X12_keeps (nx := 125) rfl (hI.wf.s rfl) rfl rfl rfl (hI.put0 (hI.wf.s rfl) rfl rfl) (hX.upI rfl) (fun g183 e183 hI hX => ?_)
                refine ev_loc f_X12_keeps (nx := 126) rfl rfl rfl rfl ?_
                refine ev_ic f_X12_keeps (nx := 127) (v := 0) rfl (by decide) rfl ?_
                refine ev_putIT f_X12_keeps (nx := 130) rfl (hI.wf.s rfl) rfl rfl rfl (hI.put0 (hI.wf.s rfl) rfl rfl) (hX.upI rfl) (fun g184 e184 hI hX => ?_)
                refine ev_loc f_X12_keeps (nx := 131) rfl rfl rfl rfl ?_
                refine ev_ic f_X12_keeps (nx := 132) (v := 0) rfl (by decide) rfl ?_
                refine ev_putIT f_X12_keeps (nx := 135) rfl (hI.wf.s rfl) rfl rfl rfl (hI.putB (hI.wf.s rfl) rfl rfl (by decide : (0:Int) ≤ (0:Int32).toInt) (by decide) (by decide : (0:Int32).toInt ≤ (0:Int)) (by decide)) (hX.upI rfl) (fun g185 e185 hI hX => ?_)
                refine ev_loc f_X12_keeps (nx := 136) rfl rfl rfl rfl ?_
                refine ev_ic f_X12_keeps (nx := 137) (v := 0) rfl (by decide) rfl ?_
                refine ev_putIT f_X12_keeps (nx := 140) rfl (hI.wf.s rfl) rfl rfl rfl (hI.putB (hI.wf.s rfl) rfl rfl (by decide : (0:Int) ≤ (0:Int32).toInt) (by decide) (by decide : (0:Int32).toInt ≤ (0:Int)) (by decide)) (hX.upI rfl) (fun g186 e186 hI hX => ?_)
                refine ev_loc f_X12_keeps (nx := 141) rfl rfl rfl rfl ?_
                refine ev_ic f_X12_keeps (nx := 142) (v := 0) rfl (by decide) rfl ?_
                refine ev_putIT f_X12_keeps (nx := 145) rfl (hI.wf.s rfl) rfl rfl rfl (hI.put0 (hI.wf.s rfl) rfl rfl) (hX.upI rfl) (fun g187 e187 hI hX => ?_)
                refine ev_loc f_X12_keeps (nx := 146) rfl rfl rfl rfl ?_
                refine ev_ic f_X12_keeps (nx := 147) (v := 0) rfl (by decide) rfl ?_
                refine ev_putIT f_X12_keeps (nx := 150) rfl (hI.wf.s rfl) rfl rfl rfl (hI.put0 (hI.wf.s rfl) rfl rfl) (hX.upI rfl) (fun g188 e188 hI hX => ?_)
                refine ev_loc f_X12_keeps (nx := 151) rfl rfl rfl rfl ?_
                refine ev_ic f_X12_keeps (nx := 152) (v := 0) rfl (by decide) rfl ?_
                refine ev_putIT f_X12_keeps (nx := 155) rfl (hI.wf.s rfl) rfl rfl rfl (hI.put0 (hI.wf.s rfl) rfl rfl) (hX.upI rfl) (fun g189 e189 hI hX => ?_)
                refine ev_loc f_X12_keeps (nx := 156) rfl rfl rfl rfl ?_
                refine ev_ic f_X12_keeps (nx := 157) (v := 0) rfl (by decide) rfl ?_
                refine ev_putIT f_X12_keeps (nx := 160) rfl (hI.wf.s rfl) rfl rfl rfl (hI.put0 (hI.wf.s rfl) rfl rfl) (hX.upI rfl) (fun g190 e190 hI hX => ?_)
                refine ev_loc f_X12_keeps (nx := 161) rfl rfl rfl rfl ?_
                refine ev_ic f_X12_keeps (nx := 162) (v := -1) rfl (by decide) rfl ?_
                refine ev_putIT f_X12_keeps (nx := 165) rfl (hI.wf.s rfl) rfl rfl rfl (hI.put0 (hI.wf.s rfl) rfl rfl) (hX.upI rfl) (fun g191 e191 hI hX => ?_)
                refine ev_loc f_X12_keeps (nx := 166) rfl rfl rfl rfl ?_
                refine ev_ic f_X12_keeps (nx := 167) (v := 0) rfl (by decide) rfl ?_
                refine ev_putIT f_X12_keeps (nx := 170) rfl (hI.wf.s rfl) rfl rfl rfl (hI.putB (hI.wf.s rfl) rfl rfl (by decide : (0:Int) ≤ (0:Int32).toInt) (by decide) (by decide : (0:Int32).toInt ≤ (0:Int)) (by decide)) (hX.upI rfl) (fun g192 e192 hI hX => ?_)
                have L193 : ∀ (m193 : Nat) (gi193 : Nat → Nat → Int32) (gl193 : Nat → Nat → Int64) (gr193 : Nat → Nat → Value), t_I sh gi193 gr193 → t_X wl_m_keeps sh gi gl gr gi193 gl193 gr193 → gi193 70 1 = (gi3 70 1) → gi193 70 2 = (gi125 70 2) → t_rpn (gi193 70) 0 → (301 - (gi193 69 59).toInt).toNat = m193 → x_Ev X (d + 6) n_X12_keeps 170 [(2, .int y178_2), (0, .ref 69), (1, .int ar1)] [] (sh, gi193, gl193, gr193) (t_P wl_m_keeps sh gi gl gr t_Rn) := by
                  intro m193
                  induction m193 using Nat.strongRecOn with
                  | _ m193 ih193 =>
                  intro gi193 gl193 gr193 hI hX c193_0 c193_1 j193_0 hm193
                  refine ev_loc f_X12_keeps (nx := 171) rfl rfl rfl rfl ?_
                  refine ev_getI f_X12_keeps (nx := 174) rfl (hI.wf.s rfl) rfl rfl rfl ?_
                  obtain ⟨l194, u194⟩ := hI.b (hI.wf.s (k := 69) rfl) (t_bdK rfl : t_bd 11 59 = some (0, 301))
                  refine ev_sp f_X12_keeps (nx := 177) (v := 301) rfl (by decide) rfl ?_
                  refine ev_if f_X12_keeps (t1 := 205) (t2 := 180) rfl rfl rfl (fun h195 => ?_) (fun h195 => ?_)
                  · have l196 : 301 ≤ (gi193 69 59).toInt := t_lel h195 (by decide : (301:Int) ≤ (301:Int32).toInt)
                    refine ev_loc f_X12_keeps (nx := 206) rfl rfl rfl rfl ?_
                    refine ev_getI f_X12_keeps (nx := 209) rfl (hI.wf.s rfl) rfl rfl rfl ?_
                    refine ev_ic f_X12_keeps (nx := 210) (v := -1) rfl (by decide) rfl ?_
                    refine ev_if f_X12_keeps (t1 := 213) (t2 := 220) rfl rfl rfl (fun h197 => ?_) (fun h197 => ?_)
                    · have u198 : (gi193 69 69).toInt ≤ (-1) := t_equ h197 (by decide : ((-1):Int32).toInt ≤ ((-1):Int))
                      have l199 : (-1) ≤ (gi193 69 69).toInt := t_eql h197 (by decide : ((-1):Int) ≤ ((-1):Int32).toInt)
                      refine ev_loc f_X12_keeps (nx := 214) rfl rfl rfl rfl ?_
                      refine ev_sp f_X12_keeps (nx := 217) (v := 301) rfl (by decide) rfl ?_
                      refine ev_putIT f_X12_keeps (nx := 220) rfl (hI.wf.s rfl) rfl rfl rfl (hI.put0 (hI.wf.s rfl) rfl rfl) (hX.upI rfl) (fun g200 e200 hI hX => ?_)
                      refine ev_loc f_X12_keeps (nx := 221) rfl rfl rfl rfl ?_
                      refine ev_c0 f_X12_keeps (nx := 224) (r := []) rfl rfl rfl rfl rfl rfl rfl (c_m_passesOver hI ) rfl hX rfl (fun gi201 gl201 gr201 hI hX hC201 => ?_)
                      exact ev_ret f_X12_keeps rfl rfl rfl ⟨_, _, _, rfl, hI, hX, rfl⟩
                    · have r202 : (gi193 69 69).toInt ≠ (-1) := fun e => h197 (Int32.toInt_inj.mp (e.trans (by decide : ((-1):Int) = ((-1) : Int32).toInt)))
                      refine ev_loc f_X12_keeps (nx := 221) rfl rfl rfl rfl ?_
                      refine ev_c0 f_X12_keeps (nx := 224) (r := []) rfl rfl rfl rfl rfl rfl rfl (c_m_passesOver hI ) rfl hX rfl (fun gi203 gl203 gr203 hI hX hC203 => ?_)
                      exact ev_ret f_X12_keeps rfl rfl rfl ⟨_, _, _, rfl, hI, hX, rfl⟩
                  · have u204 : (gi193 69 59).toInt ≤ 300 := t_ltu (t_nle h195) (by decide : (301:Int32).toInt ≤ (301:Int)) rfl
                    refine ev_loc f_X12_keeps (nx := 181) rfl rfl rfl rfl ?_
                    refine ev_getI f_X12_keeps (nx := 184) rfl (hI.wf.s rfl) rfl rfl rfl ?_
                    refine ev_ic f_X12_keeps (nx := 185) (v := -1) rfl (by decide) rfl ?_
                    refine ev_if f_X12_keeps (t1 := 188) (t2 := 205) rfl rfl rfl (fun h205 => ?_) (fun h205 => ?_)
                    · have u206 : (gi193 69 69).toInt ≤ (-1) := t_equ h205 (by decide : ((-1):Int32).toInt ≤ ((-1):Int))
                      have l207 : (-1) ≤ (gi193 69 69).toInt := t_eql h205 (by decide : ((-1):Int) ≤ ((-1):Int32).toInt)
                      refine ev_loc f_X12_keeps (nx := 189) rfl rfl rfl rfl ?_
                      refine ev_c0 f_X12_keeps (nx := 192) (r := []) rfl rfl rfl rfl rfl rfl rfl (c_m_minuteGoes hI  j193_0) rfl hX rfl (fun gi208 gl208 gr208 hI hX hC208 => ?_)
                      refine ev_loc f_X12_keeps (nx := 193) rfl rfl rfl rfl ?_
                      refine ev_alu f_X12_keeps (nx := 194) rfl rfl rfl rfl ?_
                      refine ev_gvI f_X12_keeps (nx := 197) (w := (gi193 69 59)) rfl (hI.wf.s rfl) rfl rfl ((hC208.1 69 59 rfl).1.trans rfl) rfl ?_
                      refine ev_ic f_X12_keeps (nx := 198) (v := 1) rfl (by decide) rfl ?_
                      refine ev_addC f_X12_keeps (nx := 199) (c := 1) (l := 1) (u := 301) rfl (by decide) l194 u204 rfl rfl (by decide) (by decide) rfl (fun z209 e209 l209 u209 => ?_)
                      refine ev_putIT f_X12_keeps (nx := 202) rfl (hI.wf.s rfl) rfl rfl rfl (hI.putB (hI.wf.s rfl) rfl rfl l209 (by decide) u209 (by decide)) (hX.upI rfl) (fun g210 e210 hI hX => ?_)
                      refine ev_jmp f_X12_keeps (nx := 170) rfl rfl rfl ?_
                      refine ev_sub (lo := [(2, .int y178_2), (0, .ref 69), (1, .int ar1)]) rfl (t_sc rfl (t_sc rfl (t_sc rfl t_sn))) ?_
                      have hq193 := ((by rw [e210]; exact x_up2_at _ _ _ _ : g210 69 59 = z209) : g210 69 59 = z209)
                      exact ih193 _ (by rw [hq193]; omega) g210 gl208 gr208  hI hX  ((by rw [e210]; exact x_up2_off (Or.inr (by decide)) : g210 70 1 = gi208 70 1).trans ((hC208.1 70 1 rfl).1.trans c193_0)) ((by rw [e210]; exact x_up2_off (Or.inr (by decide)) : g210 70 2 = gi208 70 2).trans ((hC208.1 70 2 rfl).1.trans c193_1)) (by have hq := ((by rw [e210]; exact x_up2_ne (by decide) : g210 70 = gi208 70).trans ((funext (fun j => (hC208.1 70 j rfl).1) : gi208 70 = gi193 70))); rw [hq]; exact j193_0) rfl
                    · have r211 : (gi193 69 69).toInt ≠ (-1) := fun e => h205 (Int32.toInt_inj.mp (e.trans (by decide : ((-1):Int) = ((-1) : Int32).toInt)))
                      refine ev_loc f_X12_keeps (nx := 206) rfl rfl rfl rfl ?_
                      refine ev_gvI f_X12_keeps (nx := 209) (w := (gi193 69 69)) rfl (hI.wf.s rfl) rfl rfl rfl rfl ?_
                      refine ev_ic f_X12_keeps (nx := 210) (v := -1) rfl (by decide) rfl ?_
                      refine ev_if f_X12_keeps (t1 := 213) (t2 := 220) rfl rfl rfl (fun h212 => ?_) (fun h212 => ?_)
                      · have u213 : (gi193 69 69).toInt ≤ (-1) := t_equ h212 (by decide : ((-1):Int32).toInt ≤ ((-1):Int))
                        have l214 : (-1) ≤ (gi193 69 69).toInt := t_eql h212 (by decide : ((-1):Int) ≤ ((-1):Int32).toInt)
                        refine ev_loc f_X12_keeps (nx := 214) rfl rfl rfl rfl ?_
                        refine ev_sp f_X12_keeps (nx := 217) (v := 301) rfl (by decide) rfl ?_
                        refine ev_putIT f_X12_keeps (nx := 220) rfl (hI.wf.s rfl) rfl rfl rfl (hI.put0 (hI.wf.s rfl) rfl rfl) (hX.upI rfl) (fun g215 e215 hI hX => ?_)
                        refine ev_loc f_X12_keeps (nx := 221) rfl rfl rfl rfl ?_
                        refine ev_c0 f_X12_keeps (nx := 224) (r := []) rfl rfl rfl rfl rfl rfl rfl (c_m_passesOver hI ) rfl hX rfl (fun gi216 gl216 gr216 hI hX hC216 => ?_)
                        exact ev_ret f_X12_keeps rfl rfl rfl ⟨_, _, _, rfl, hI, hX, rfl⟩
                      · have r217 : (gi193 69 69).toInt ≠ (-1) := fun e => h212 (Int32.toInt_inj.mp (e.trans (by decide : ((-1):Int) = ((-1) : Int32).toInt)))
                        refine ev_loc f_X12_keeps (nx := 221) rfl rfl rfl rfl ?_
                        refine ev_c0 f_X12_keeps (nx := 224) (r := []) rfl rfl rfl rfl rfl rfl rfl (c_m_passesOver hI ) rfl hX rfl (fun gi218 gl218 gr218 hI hX hC218 => ?_)
                        exact ev_ret f_X12_keeps rfl rfl rfl ⟨_, _, _, rfl, hI, hX, rfl⟩
                refine ev_sub (lo := [(2, .int y178_2), (0, .ref 69), (1, .int ar1)]) rfl (t_sc rfl (t_sc rfl (t_sc rfl t_sn))) ?_
                exact L193 _ g192 gl178 gr178  hI hX  ((by rw [e192]; exact x_up2_off (Or.inr (by decide)) : g192 70 1 = g191 70 1).trans ((by rw [e191]; exact x_up2_off (Or.inr (by decide)) : g191 70 1 = g190 70 1).trans ((by rw [e190]; exact x_up2_off (Or.inr (by decide)) : g190 70 1 = g189 70 1).trans ((by rw [e189]; exact x_up2_off (Or.inr (by decide)) : g189 70 1 = g188 70 1).trans ((by rw [e188]; exact x_up2_off (Or.inr (by decide)) : g188 70 1 = g187 70 1).trans ((by rw [e187]; exact x_up2_off (Or.inr (by decide)) : g187 70 1 = g186 70 1).trans ((by rw [e186]; exact x_up2_off (Or.inr (by decide)) : g186 70 1 = g185 70 1).trans ((by rw [e185]; exact x_up2_off (Or.inr (by decide)) : g185 70 1 = g184 70 1).trans ((by rw [e184]; exact x_up2_off (Or.inr (by decide)) : g184 70 1 = g183 70 1).trans ((by rw [e183]; exact x_up2_off (Or.inr (by decide)) : g183 70 1 = g182 70 1).trans ((by rw [e182]; exact x_up2_off (Or.inr (by decide)) : g182 70 1 = g181 70 1).trans ((by rw [e181]; exact x_up2_off (Or.inr (by decide)) : g181 70 1 = gi178 70 1).trans c178_0)))))))))))) ((by rw [e192]; exact x_up2_off (Or.inr (by decide)) : g192 70 2 = g191 70 2).trans ((by rw [e191]; exact x_up2_off (Or.inr (by decide)) : g191 70 2 = g190 70 2).trans ((by rw [e190]; exact x_up2_off (Or.inr (by decide)) : g190 70 2 = g189 70 2).trans ((by rw [e189]; exact x_up2_off (Or.inr (by decide)) : g189 70 2 = g188 70 2).trans ((by rw [e188]; exact x_up2_off (Or.inr (by decide)) : g188 70 2 = g187 70 2).trans ((by rw [e187]; exact x_up2_off (Or.inr (by decide)) : g187 70 2 = g186 70 2).trans ((by rw [e186]; exact x_up2_off (Or.inr (by decide)) : g186 70 2 = g185 70 2).trans ((by rw [e185]; exact x_up2_off (Or.inr (by decide)) : g185 70 2 = g184 70 2).trans ((by rw [e184]; exact x_up2_off (Or.inr (by decide)) : g184 70 2 = g183 70 2).trans ((by rw [e183]; exact x_up2_off (Or.inr (by decide)) : g183 70 2 = g182 70 2).trans ((by rw [e182]; exact x_up2_off (Or.inr (by decide)) : g182 70 2 = g181 70 2).trans ((by rw [e181]; exact x_up2_off (Or.inr (by decide)) : g181 70 2 = gi178 70 2).trans c178_1)))))))))))) (by have hq := ((by rw [e192]; exact x_up2_ne (by decide) : g192 70 = g191 70).trans ((by rw [e191]; exact x_up2_ne (by decide) : g191 70 = g190 70).trans ((by rw [e190]; exact x_up2_ne (by decide) : g190 70 = g189 70).trans ((by rw [e189]; exact x_up2_ne (by decide) : g189 70 = g188 70).trans ((by rw [e188]; exact x_up2_ne (by decide) : g188 70 = g187 70).trans ((by rw [e187]; exact x_up2_ne (by decide) : g187 70 = g186 70).trans ((by rw [e186]; exact x_up2_ne (by decide) : g186 70 = g185 70).trans ((by rw [e185]; exact x_up2_ne (by decide) : g185 70 = g184 70).trans ((by rw [e184]; exact x_up2_ne (by decide) : g184 70 = g183 70).trans ((by rw [e183]; exact x_up2_ne (by decide) : g183 70 = g182 70).trans ((by rw [e182]; exact x_up2_ne (by decide) : g182 70 = g181 70).trans ((by rw [e181]; exact x_up2_ne (by decide) : g181 70 = gi178 70))))))))))))); rw [hq]; exact j178_0) rfl
              · have u219 : y178_2.toInt ≤ 5 := t_ltu (t_nle h179) (by decide : (6:Int32).toInt ≤ (6:Int)) rfl
                refine ev_loc f_X12_keeps (nx := 98) rfl rfl rfl rfl ?_
                refine ev_getR f_X12_keeps (nx := 101) rfl (hI.wf.s rfl) rfl rfl (hI.wf.r rfl) rfl rfl ?_
                refine ev_loc f_X12_keeps (nx := 102) rfl rfl rfl rfl ?_
                refine ev_ic f_X12_keeps (nx := 103) (v := 0) rfl (by decide) rfl ?_
                refine ev_zastT f_X12_keeps (nx := 104) rfl (hI.wf.s rfl) l178_2 (by decide) u219 (by decide) rfl (fun x l u => hI.astL (hI.wf.s rfl) (by decide +kernel : t_abw 99 0 5 0 1 = true) (t_cl1 l178_2 (by decide)) (t_cl2 l178_2 u219 (by decide) (by decide)) l u rfl) (fun x => hX.upI (t_inA_ok rfl)) (fun g220 x220 e220 hI hX => ?_)
                refine ev_incR f_X12_keeps (nx := 107) (c := 1) (l := 1) (u := 6) rfl rfl (by decide) (by decide) l178_2 u219 rfl rfl (by decide) (by decide) rfl (fun z221 e221 l221 u221 => ?_)
                refine ev_jmp f_X12_keeps (nx := 91) rfl rfl rfl ?_
                refine ev_sub (lo := [(2, .int z221), (0, .ref 69), (1, .int ar1)]) rfl (t_sc rfl (t_sc rfl (t_sc rfl t_sn))) ?_
                exact ih178 _ (by omega) g220 gl178 gr178 (z221) hI hX  (Int.le_trans (by decide : (0:Int) ≤ 1) l221) u221 ((by rw [e220]; exact x_up2_off (Or.inl (by decide)) : g220 70 1 = gi178 70 1).trans c178_0) ((by rw [e220]; exact x_up2_off (Or.inl (by decide)) : g220 70 2 = gi178 70 2).trans c178_1) (by have hq := ((by rw [e220]; exact x_up2_ne (by decide) : g220 70 = gi178 70)); rw [hq]; exact j178_0) rfl
            refine ev_sub (lo := [(2, .int 0), (0, .ref 69), (1, .int ar1)]) rfl (t_sc rfl (t_sc rfl (t_sc rfl t_sn))) ?_
            exact L178 _ gi177 gl177 gr177 (0) hI hX  (by decide : (0:Int) ≤ (0:Int32).toInt) (Int.le_trans (by decide : (0:Int32).toInt ≤ (0:Int)) (by decide : (0:Int) ≤ 6)) ((hC177.1 70 1 rfl).1.trans c125_0) ((hC177.1 70 2 rfl).1.trans rfl) (by have hq := ((funext (fun j => (hC177.1 70 j rfl).1) : gi177 70 = gi125 70)); rw [hq]; exact j125_0) rfl
        refine ev_sub (lo := [(2, .int 0), (0, .ref 69), (1, .int ar1)]) rfl (t_sc rfl (t_sc rfl (t_sc rfl t_sn))) ?_
        exact L125 _ gi3 gl3 gr3 (0) hI hX  (by decide : (0:Int) ≤ (0:Int32).toInt) (Int.le_trans (by decide : (0:Int32).toInt ≤ (0:Int)) (by decide : (0:Int) ≤ 6)) rfl j3_0 rfl
      · have r222 : ar1.toInt ≠ (-1) := fun e => h122 (Int32.toInt_inj.mp (e.trans (by decide : ((-1):Int) = ((-1) : Int32).toInt)))
        refine ev_loc f_X12_keeps (nx := 27) rfl rfl rfl rfl ?_
        refine ev_getR f_X12_keeps (nx := 30) rfl (hI.wf.s rfl) rfl rfl (hI.wf.r rfl) rfl rfl ?_
        refine ev_loc f_X12_keeps (nx := 31) rfl rfl rfl rfl ?_
        refine ev_alu f_X12_keeps (nx := 32) rfl rfl rfl rfl ?_
        refine ev_ialdT f_X12_keeps (nx := 33) rfl (hI.wf.s rfl) l3_2 (by decide) u120 (by decide) rfl (fun w223 e223 => ?_)
        refine ev_loc f_X12_keeps (nx := 34) rfl rfl rfl rfl ?_
        refine ev_inV1 f_X12_keeps (nx := 37) (lo2 := [(0, .ref 69)]) rfl rfl rfl rfl f_X12_draw (hI.wf.s rfl) rfl rfl rfl rfl rfl ?_
        refine ev_loc f_X12_draw (nx := 1) rfl rfl rfl rfl ?_
        refine ev_loc f_X12_draw (nx := 2) rfl rfl rfl rfl ?_
        refine ev_getI f_X12_draw (nx := 5) rfl (hI.wf.s rfl) rfl rfl rfl ?_
        refine ev_sp f_X12_draw (nx := 8) (v := 2749) rfl (by decide) rfl ?_
        refine ev_anyI f_X12_draw (nx := 9) rfl rfl rfl rfl (fun z224 => ?_)
        refine ev_sp f_X12_draw (nx := 12) (v := 12553) rfl (by decide) rfl ?_
        refine ev_anyI f_X12_draw (nx := 13) rfl rfl rfl rfl (fun z225 => ?_)
        refine ev_ldW f_X12_draw (nx := 16) (v := 65536) rfl (by decide) rfl ?_
        refine ev_remN f_X12_draw (nx := 17) rfl (by decide) rfl (fun z226 e226 => ?_)
        refine ev_putIT f_X12_draw (nx := 20) rfl (hI.wf.s rfl) rfl rfl rfl (hI.put0 (hI.wf.s rfl) rfl rfl) (hX.upI rfl) (fun g227 e227 hI hX => ?_)
        refine ev_loc f_X12_draw (nx := 21) rfl rfl rfl rfl ?_
        refine ev_gvI f_X12_draw (nx := 24) (w := z226) rfl (hI.wf.s rfl) rfl rfl (by rw [e227]; exact x_up2_at _ _ _ _ : g227 69 58 = z226) rfl ?_
        refine ev_bp f_X12_draw (nx := 26) (v := 8) rfl (by decide) rfl ?_
        refine ev_divN f_X12_draw (nx := 27) rfl (by decide) rfl (fun z228 e228 => ?_)
        refine ev_bp f_X12_draw (nx := 29) (v := 8) rfl (by decide) rfl ?_
        refine ev_remN f_X12_draw (nx := 30) rfl (by decide) rfl (fun z229 e229 => ?_)
        refine ev_retK1 f_X12_draw rfl rfl rfl ?_
        refine ev_anyI f_X12_keeps (nx := 38) rfl rfl rfl rfl (fun z230 => ?_)
        refine ev_iastT f_X12_keeps (nx := 39) rfl (hI.wf.s rfl) l3_2 (by decide) u120 (by decide) rfl (hI.astG (hI.wf.s rfl) (fun lo hi e => absurd e (t_nob (by decide +kernel) _)) (fun k hk e => by have := hk.2.1; omega)) (hX.upI (t_inR (p := 0) (m := 5) rfl l3_2 (by decide) u120 (by decide) (by decide))) (fun g231 e231 hI hX => ?_)
        refine ev_incR f_X12_keeps (nx := 42) (c := 1) (l := 1) (u := 6) rfl rfl (by decide) (by decide) l3_2 u120 rfl rfl (by decide) (by decide) rfl (fun z232 e232 l232 u232 => ?_)
        refine ev_jmp f_X12_keeps (nx := 11) rfl rfl rfl ?_
        refine ev_sub (lo := [(2, .int z232), (0, .ref 69), (1, .int ar1)]) rfl (t_sc rfl (t_sc rfl (t_sc rfl t_sn))) ?_
        exact ih3 _ (by omega) g231 gl3 gr3 (z232) hI hX  (Int.le_trans (by decide : (0:Int) ≤ 1) l232) u232 (by have hq := ((by rw [e231]; exact x_up2_ne (by decide) : g231 70 = g227 70).trans ((by rw [e227]; exact x_up2_ne (by decide) : g227 70 = gi3 70))); rw [hq]; exact j3_0) rfl
  refine ev_sub (lo := [(2, .int 0), (0, .ref 69), (1, .int ar1)]) rfl (t_sc rfl (t_sc rfl (t_sc rfl t_sn))) ?_
  exact L3 _ g2 gl1 gr1 (0) hI hX  (by decide : (0:Int) ≤ (0:Int32).toInt) (Int.le_trans (by decide : (0:Int32).toInt ≤ (0:Int)) (by decide : (0:Int) ≤ 6)) (by have hq := ((by rw [e2]; exact x_up2_ne (by decide) : g2 70 = gi1 70).trans ((funext (fun j => (hC1.1 70 j rfl).1) : gi1 70 = gi 70))); rw [hq]; exact e_p0) rfl
noncomputable def wl_m_keep : List (Nat × Nat) := [(69, 2), (69, 44), (69, 45), (69, 58), (69, 59), (69, 60), (69, 61), (69, 62), (69, 63), (69, 64), (69, 65), (69, 66), (69, 67), (69, 68), (69, 69), (69, 70), (69, 74), (89, 10005), (89, 610011), (90, 9999), (91, 9999), (99, 9999), (100, 9999), (101, 9999)]
theorem c_m_keep {X : x_Ext} {d : Nat} {sh : List (Nat ⊕ (Nat × Nat))} {gi : Nat → Nat → Int32} {gl : Nat → Nat → Int64} {gr : Nat → Nat → Value} (hI : t_I sh gi gr) (ar1 : Int32) (e_p0 : t_rpn (gi 70) 0) : x_Me X (d + 7) n_X12_keep [.ref 69, .int ar1] (sh, gi, gl, gr) (t_P wl_m_keep sh gi gl gr (t_Ri (-2147483648) 2147483647)) := by
  have hX : t_X wl_m_keep sh gi gl gr gi gl gr := t_X.rf
  refine me_i f_X12_keep (hI.wf.s rfl) rfl rfl rfl ?_
  refine ev_loc f_X12_keep (nx := 1) rfl rfl rfl rfl ?_
  refine ev_ic f_X12_keep (nx := 2) (v := -1) rfl (by decide) rfl ?_
  refine ev_if f_X12_keep (t1 := 23) (t2 := 5) rfl rfl rfl (fun h1 => ?_) (fun h1 => ?_)
  · have u2 : ar1.toInt ≤ (-1) := t_equ h1 (by decide : ((-1):Int32).toInt ≤ ((-1):Int))
    have l3 : (-1) ≤ ar1.toInt := t_eql h1 (by decide : ((-1):Int) ≤ ((-1):Int32).toInt)
    refine ev_loc f_X12_keep (nx := 24) rfl rfl rfl rfl ?_
    refine ev_getR f_X12_keep (nx := 27) rfl (hI.wf.s rfl) rfl rfl (hI.wf.r rfl) rfl rfl ?_
    refine ev_bp f_X12_keep (nx := 29) (v := 8) rfl (by decide) rfl ?_
    obtain ⟨l4, u4⟩ := hI.ab (by decide +kernel : t_abr 70 8 8 0 1 = true) (Nat.le_refl _) (Nat.le_refl _)
    refine ev_ialdv f_X12_keep (nx := 30) (w := (gi 70 8)) rfl (hI.wf.s rfl) (by decide) (rfl : (8 : Int32).toNatClampNeg = 8) (by decide) rfl rfl ?_
    refine ev_if f_X12_keep (t1 := 33) (t2 := 40) rfl rfl rfl (fun h5 => ?_) (fun h5 => ?_)
    · have u6 : (gi 70 8).toInt ≤ 0 := t_equ h5 (by decide : (0:Int32).toInt ≤ (0:Int))
      refine ev_loc f_X12_keep (nx := 34) rfl rfl rfl rfl ?_
      refine ev_bp f_X12_keep (nx := 36) (v := 6) rfl (by decide) rfl ?_
      refine ev_inV2 f_X12_keep (nx := 39) (lo2 := [(0, .ref 69), (1, .int 6)]) rfl rfl rfl rfl f_X12_refuse (hI.wf.s rfl) rfl rfl rfl rfl rfl ?_
      refine ev_loc f_X12_refuse (nx := 1) rfl rfl rfl rfl ?_
      refine ev_loc f_X12_refuse (nx := 2) rfl rfl rfl rfl ?_
      refine ev_putIT f_X12_refuse (nx := 5) rfl (hI.wf.s rfl) rfl rfl rfl (hI.put0 (hI.wf.s rfl) rfl rfl) (hX.upI rfl) (fun g7 e7 hI hX => ?_)
      refine ev_ic f_X12_refuse (nx := 6) (v := -1) rfl (by decide) rfl ?_
      refine ev_retK1 f_X12_refuse rfl rfl rfl ?_
      exact ev_ret f_X12_keep rfl rfl rfl ⟨_, _, _, rfl, hI, hX, ⟨_, rfl, (Int.le_trans (by decide : ((-2147483648):Int) ≤ (-1)) (by decide : ((-1):Int) ≤ ((-1):Int32).toInt)), (Int.le_trans (by decide : ((-1):Int32).toInt ≤ ((-1):Int)) (by decide : ((-1):Int) ≤ 2147483647))⟩⟩
    · have r8 : (gi 70 8).toInt ≠ 0 := fun e => h5 (Int32.toInt_inj.mp (e.trans (by decide : (0:Int) = (0 : Int32).toInt)))
      have l9 : 1 ≤ (gi 70 8).toInt := t_nel h5 l4 rfl rfl
      refine ev_loc f_X12_keep (nx := 41) rfl rfl rfl rfl ?_
      refine ev_loc f_X12_keep (nx := 42) rfl rfl rfl rfl ?_
      refine ev_c0 f_X12_keep (nx := 45) (r := []) rfl rfl rfl rfl rfl rfl rfl (c_m_keeps hI (ar1) e_p0) rfl hX rfl (fun gi10 gl10 gr10 hI hX hC10 => ?_)
      refine ev_loc f_X12_keep (nx := 46) rfl rfl rfl rfl ?_
      refine ev_getR f_X12_keep (nx := 49) rfl (hI.wf.s rfl) rfl rfl (hI.wf.r rfl) rfl rfl ?_
      refine ev_ic f_X12_keep (nx := 50) (v := 0) rfl (by decide) rfl ?_
      refine ev_loc f_X12_keep (nx := 51) rfl rfl rfl rfl ?_
      refine ev_getI f_X12_keep (nx := 54) rfl (hI.wf.s rfl) rfl rfl rfl ?_
      refine ev_iastT f_X12_keep (nx := 55) rfl (hI.wf.s rfl) (by decide : (0:Int) ≤ (0:Int32).toInt) (by decide) (by decide : (0:Int32).toInt ≤ (0:Int)) (by decide) rfl (hI.astG (hI.wf.s rfl) (fun lo hi e => absurd e (t_nob (by decide +kernel) _)) (fun k hk e => by have := hk.2.1; omega)) (hX.upI (t_inA_ok rfl)) (fun g11 e11 hI hX => ?_)
      refine ev_loc f_X12_keep (nx := 56) rfl rfl rfl rfl ?_
      refine ev_getR f_X12_keep (nx := 59) rfl (hI.wf.s rfl) rfl rfl (hI.wf.r rfl) rfl rfl ?_
      refine ev_ic f_X12_keep (nx := 60) (v := 1) rfl (by decide) rfl ?_
      refine ev_loc f_X12_keep (nx := 61) rfl rfl rfl rfl ?_
      refine ev_getI f_X12_keep (nx := 64) rfl (hI.wf.s rfl) rfl rfl rfl ?_
      refine ev_iastT f_X12_keep (nx := 65) rfl (hI.wf.s rfl) (by decide : (1:Int) ≤ (1:Int32).toInt) (by decide) (by decide : (1:Int32).toInt ≤ (1:Int)) (by decide) rfl (hI.astG (hI.wf.s rfl) (fun lo hi e => absurd e (t_nob (by decide +kernel) _)) (fun k hk e => by have := hk.2.1; omega)) (hX.upI (t_inA_ok rfl)) (fun g12 e12 hI hX => ?_)
      refine ev_loc f_X12_keep (nx := 66) rfl rfl rfl rfl ?_
      refine ev_getR f_X12_keep (nx := 69) rfl (hI.wf.s rfl) rfl rfl (hI.wf.r rfl) rfl rfl ?_
      refine ev_ic f_X12_keep (nx := 70) (v := 2) rfl (by decide) rfl ?_
      refine ev_loc f_X12_keep (nx := 71) rfl rfl rfl rfl ?_
      refine ev_getI f_X12_keep (nx := 74) rfl (hI.wf.s rfl) rfl rfl rfl ?_
      refine ev_iastT f_X12_keep (nx := 75) rfl (hI.wf.s rfl) (by decide : (2:Int) ≤ (2:Int32).toInt) (by decide) (by decide : (2:Int32).toInt ≤ (2:Int)) (by decide) rfl (hI.astG (hI.wf.s rfl) (fun lo hi e => absurd e (t_nob (by decide +kernel) _)) (fun k hk e => by have := hk.2.1; omega)) (hX.upI (t_inA_ok rfl)) (fun g13 e13 hI hX => ?_)
      refine ev_loc f_X12_keep (nx := 76) rfl rfl rfl rfl ?_
      refine ev_getR f_X12_keep (nx := 79) rfl (hI.wf.s rfl) rfl rfl (hI.wf.r rfl) rfl rfl ?_
      refine ev_ic f_X12_keep (nx := 80) (v := 3) rfl (by decide) rfl ?_
      refine ev_loc f_X12_keep (nx := 81) rfl rfl rfl rfl ?_
      refine ev_cI f_X12_keep (nx := 84) (r := [.int 3, .ref 101]) rfl rfl rfl rfl rfl rfl rfl (c_m_leftOver hI ) rfl hX rfl (fun w14 gi14 gl14 gr14 l14 u14 hI hX hC14 => ?_)
      refine ev_iastT f_X12_keep (nx := 85) rfl (hI.wf.s rfl) (by decide : (3:Int) ≤ (3:Int32).toInt) (by decide) (by decide : (3:Int32).toInt ≤ (3:Int)) (by decide) rfl (hI.astG (hI.wf.s rfl) (fun lo hi e => absurd e (t_nob (by decide +kernel) _)) (fun k hk e => by have := hk.2.1; omega)) (hX.upI (t_inA_ok rfl)) (fun g15 e15 hI hX => ?_)
      refine ev_loc f_X12_keep (nx := 86) rfl rfl rfl rfl ?_
      refine ev_getR f_X12_keep (nx := 89) rfl (hI.wf.s rfl) rfl rfl (hI.wf.r rfl) rfl rfl ?_
      refine ev_ic f_X12_keep (nx := 90) (v := 4) rfl (by decide) rfl ?_
      refine ev_loc f_X12_keep (nx := 91) rfl rfl rfl rfl ?_
      refine ev_getI f_X12_keep (nx := 94) rfl (hI.wf.s rfl) rfl rfl rfl ?_
      refine ev_iastT f_X12_keep (nx := 95) rfl (hI.wf.s rfl) (by decide : (4:Int) ≤ (4:Int32).toInt) (by decide) (by decide : (4:Int32).toInt ≤ (4:Int)) (by decide) rfl (hI.astG (hI.wf.s rfl) (fun lo hi e => absurd e (t_nob (by decide +kernel) _)) (fun k hk e => by have := hk.2.1; omega)) (hX.upI (t_inA_ok rfl)) (fun g16 e16 hI hX => ?_)
      refine ev_loc f_X12_keep (nx := 96) rfl rfl rfl rfl ?_
      refine ev_ic f_X12_keep (nx := 97) (v := 1) rfl (by decide) rfl ?_
      refine ev_putZT f_X12_keep (nx := 100) rfl (hI.wf.s rfl) rfl rfl (Int.le_trans (by decide : (0:Int) ≤ 1) (by decide : (1:Int) ≤ (1:Int32).toInt)) (by decide : (1:Int32).toInt ≤ (1:Int)) rfl (hI.put0 (hI.wf.s rfl) rfl rfl) (hX.upI rfl) (fun g17 e17 hI hX => ?_)
      refine ev_loc f_X12_keep (nx := 101) rfl rfl rfl rfl ?_
      refine ev_loc f_X12_keep (nx := 102) rfl rfl rfl rfl ?_
      refine ev_getI f_X12_keep (nx := 105) rfl (hI.wf.s rfl) rfl rfl rfl ?_
      refine ev_inV2 f_X12_keep (nx := 108) (lo2 := [(0, .ref 69), (1, .int (g17 69 66))]) rfl rfl rfl rfl f_X12_gives (hI.wf.s rfl) rfl rfl rfl rfl rfl ?_
      refine ev_loc f_X12_gives (nx := 1) rfl rfl rfl rfl ?_
      refine ev_ic f_X12_gives (nx := 2) (v := 0) rfl (by decide) rfl ?_
      refine ev_putIT f_X12_gives (nx := 5) rfl (hI.wf.s rfl) rfl rfl rfl (hI.put0 (hI.wf.s rfl) rfl rfl) (hX.upI rfl) (fun g18 e18 hI hX => ?_)
      refine ev_loc f_X12_gives (nx := 6) rfl rfl rfl rfl ?_
      refine ev_retK1 f_X12_gives rfl rfl rfl ?_
      exact ev_ret f_X12_keep rfl rfl rfl ⟨_, _, _, rfl, hI, hX, ⟨_, rfl, (t_lo (g17 69 66)), (t_hi (g17 69 66))⟩⟩
  · have r19 : ar1.toInt ≠ (-1) := fun e => h1 (Int32.toInt_inj.mp (e.trans (by decide : ((-1):Int) = ((-1) : Int32).toInt)))
    refine ev_loc f_X12_keep (nx := 6) rfl rfl rfl rfl ?_
    refine ev_anyLE f_X12_keep (nx := 7) rfl rfl rfl rfl (fun z20 e20 => ?_)
    have i20 : z20.toInt = ar1.toInt := by rw [e20]; exact Int32.toInt_toInt64 _
    refine ev_lc f_X12_keep (nx := 8) (v := 0) rfl (by decide) rfl ?_
    refine ev_ldL f_X12_keep (nx := 11) (v := 9999) rfl (by decide) rfl ?_
    refine ev_inS3 f_X12_keep (nx := 14) (lo2 := [(0, .long z20), (2, .long 0), (4, .long 9999)]) rfl rfl rfl rfl f_X12_isFrom rfl rfl rfl rfl ?_
    refine ev_loc f_X12_isFrom (nx := 1) rfl rfl rfl rfl ?_
    refine ev_loc f_X12_isFrom (nx := 2) rfl rfl rfl rfl ?_
    refine ev_anyIE f_X12_isFrom (nx := 3) rfl rfl rfl rfl (fun z21 e21 => ?_)
    refine ev_if f_X12_isFrom (t1 := 17) (t2 := 6) rfl rfl rfl (fun h22 => ?_) (fun h22 => ?_)
    · have u23 : ar1.toInt ≤ ((-1):Int) := Int.le_sub_one_of_lt ((lgc_lt (by decide : (0 : Int64).toInt = 0)).mp (by have hh := h22; rw [e21, e20] at hh; exact hh))
      have u24 : z21.toInt ≤ (-1) := t_ltu h22 (by decide : (0:Int32).toInt ≤ (0:Int)) rfl
      refine ev_ic f_X12_isFrom (nx := 18) (v := 0) rfl (by decide) rfl ?_
      refine ev_retK1 f_X12_isFrom rfl rfl rfl ?_
      refine ev_t f_X12_keep (t1 := 17) (t2 := 23) rfl rfl rfl (by decide) ?_
      refine ev_loc f_X12_keep (nx := 18) rfl rfl rfl rfl ?_
      refine ev_ic f_X12_keep (nx := 19) (v := 1) rfl (by decide) rfl ?_
      refine ev_inV2 f_X12_keep (nx := 22) (lo2 := [(0, .ref 69), (1, .int 1)]) rfl rfl rfl rfl f_X12_refuse (hI.wf.s rfl) rfl rfl rfl rfl rfl ?_
      refine ev_loc f_X12_refuse (nx := 1) rfl rfl rfl rfl ?_
      refine ev_loc f_X12_refuse (nx := 2) rfl rfl rfl rfl ?_
      refine ev_putIT f_X12_refuse (nx := 5) rfl (hI.wf.s rfl) rfl rfl rfl (hI.put0 (hI.wf.s rfl) rfl rfl) (hX.upI rfl) (fun g25 e25 hI hX => ?_)
      refine ev_ic f_X12_refuse (nx := 6) (v := -1) rfl (by decide) rfl ?_
      refine ev_retK1 f_X12_refuse rfl rfl rfl ?_
      exact ev_ret f_X12_keep rfl rfl rfl ⟨_, _, _, rfl, hI, hX, ⟨_, rfl, (Int.le_trans (by decide : ((-2147483648):Int) ≤ (-1)) (by decide : ((-1):Int) ≤ ((-1):Int32).toInt)), (Int.le_trans (by decide : ((-1):Int32).toInt ≤ ((-1):Int)) (by decide : ((-1):Int) ≤ 2147483647))⟩⟩
    · have l26 : (0:Int) ≤ ar1.toInt := (lgc_ge (by decide : (0 : Int64).toInt = 0)).mp (by have hh := (t_nlt h22); rw [e21, e20] at hh; exact hh)
      have l27 : 0 ≤ z21.toInt := t_lel (t_nlt h22) (by decide : (0:Int) ≤ (0:Int32).toInt)
      refine ev_loc f_X12_isFrom (nx := 7) rfl rfl rfl rfl ?_
      refine ev_loc f_X12_isFrom (nx := 9) rfl rfl rfl rfl ?_
      refine ev_anyIE f_X12_isFrom (nx := 10) rfl rfl rfl rfl (fun z28 e28 => ?_)
      refine ev_if f_X12_isFrom (t1 := 17) (t2 := 13) rfl rfl rfl (fun h29 => ?_) (fun h29 => ?_)
      · have l30 : (10000:Int) ≤ ar1.toInt := Int.add_one_le_of_lt ((lgc_gt (by decide : (9999 : Int64).toInt = 9999)).mp (by have hh := h29; rw [e28, e20] at hh; exact hh))
        have l31 : 1 ≤ z28.toInt := t_ltl h29 (by decide : (0:Int) ≤ (0:Int32).toInt) rfl
        refine ev_ic f_X12_isFrom (nx := 18) (v := 0) rfl (by decide) rfl ?_
        refine ev_retK1 f_X12_isFrom rfl rfl rfl ?_
        refine ev_t f_X12_keep (t1 := 17) (t2 := 23) rfl rfl rfl (by decide) ?_
        refine ev_loc f_X12_keep (nx := 18) rfl rfl rfl rfl ?_
        refine ev_ic f_X12_keep (nx := 19) (v := 1) rfl (by decide) rfl ?_
        refine ev_inV2 f_X12_keep (nx := 22) (lo2 := [(0, .ref 69), (1, .int 1)]) rfl rfl rfl rfl f_X12_refuse (hI.wf.s rfl) rfl rfl rfl rfl rfl ?_
        refine ev_loc f_X12_refuse (nx := 1) rfl rfl rfl rfl ?_
        refine ev_loc f_X12_refuse (nx := 2) rfl rfl rfl rfl ?_
        refine ev_putIT f_X12_refuse (nx := 5) rfl (hI.wf.s rfl) rfl rfl rfl (hI.put0 (hI.wf.s rfl) rfl rfl) (hX.upI rfl) (fun g32 e32 hI hX => ?_)
        refine ev_ic f_X12_refuse (nx := 6) (v := -1) rfl (by decide) rfl ?_
        refine ev_retK1 f_X12_refuse rfl rfl rfl ?_
        exact ev_ret f_X12_keep rfl rfl rfl ⟨_, _, _, rfl, hI, hX, ⟨_, rfl, (Int.le_trans (by decide : ((-2147483648):Int) ≤ (-1)) (by decide : ((-1):Int) ≤ ((-1):Int32).toInt)), (Int.le_trans (by decide : ((-1):Int32).toInt ≤ ((-1):Int)) (by decide : ((-1):Int) ≤ 2147483647))⟩⟩
      · have u33 : ar1.toInt ≤ (9999:Int) := (lgc_le (by decide : (9999 : Int64).toInt = 9999)).mp (by have hh := (t_nlt h29); rw [e28, e20] at hh; exact hh)
        have u34 : z28.toInt ≤ 0 := t_leu (t_nlt h29) (by decide : (0:Int32).toInt ≤ (0:Int))
        refine ev_ic f_X12_isFrom (nx := 14) (v := 1) rfl (by decide) rfl ?_
        refine ev_jmp f_X12_isFrom (nx := 18) rfl rfl rfl ?_
        refine ev_retK1 f_X12_isFrom rfl rfl rfl ?_
        refine ev_f f_X12_keep (t1 := 17) (t2 := 23) rfl rfl rfl (by decide) ?_
        refine ev_loc f_X12_keep (nx := 24) rfl rfl rfl rfl ?_
        refine ev_getR f_X12_keep (nx := 27) rfl (hI.wf.s rfl) rfl rfl (hI.wf.r rfl) rfl rfl ?_
        refine ev_bp f_X12_keep (nx := 29) (v := 8) rfl (by decide) rfl ?_
        obtain ⟨l35, u35⟩ := hI.ab (by decide +kernel : t_abr 70 8 8 0 1 = true) (Nat.le_refl _) (Nat.le_refl _)
        refine ev_ialdv f_X12_keep (nx := 30) (w := (gi 70 8)) rfl (hI.wf.s rfl) (by decide) (rfl : (8 : Int32).toNatClampNeg = 8) (by decide) rfl rfl ?_
        refine ev_if f_X12_keep (t1 := 33) (t2 := 40) rfl rfl rfl (fun h36 => ?_) (fun h36 => ?_)
        · have u37 : (gi 70 8).toInt ≤ 0 := t_equ h36 (by decide : (0:Int32).toInt ≤ (0:Int))
          refine ev_loc f_X12_keep (nx := 34) rfl rfl rfl rfl ?_
          refine ev_bp f_X12_keep (nx := 36) (v := 6) rfl (by decide) rfl ?_
          refine ev_inV2 f_X12_keep (nx := 39) (lo2 := [(0, .ref 69), (1, .int 6)]) rfl rfl rfl rfl f_X12_refuse (hI.wf.s rfl) rfl rfl rfl rfl rfl ?_
          refine ev_loc f_X12_refuse (nx := 1) rfl rfl rfl rfl ?_
          refine ev_loc f_X12_refuse (nx := 2) rfl rfl rfl rfl ?_
          refine ev_putIT f_X12_refuse (nx := 5) rfl (hI.wf.s rfl) rfl rfl rfl (hI.put0 (hI.wf.s rfl) rfl rfl) (hX.upI rfl) (fun g38 e38 hI hX => ?_)
          refine ev_ic f_X12_refuse (nx := 6) (v := -1) rfl (by decide) rfl ?_
          refine ev_retK1 f_X12_refuse rfl rfl rfl ?_
          exact ev_ret f_X12_keep rfl rfl rfl ⟨_, _, _, rfl, hI, hX, ⟨_, rfl, (Int.le_trans (by decide : ((-2147483648):Int) ≤ (-1)) (by decide : ((-1):Int) ≤ ((-1):Int32).toInt)), (Int.le_trans (by decide : ((-1):Int32).toInt ≤ ((-1):Int)) (by decide : ((-1):Int) ≤ 2147483647))⟩⟩
        · have r39 : (gi 70 8).toInt ≠ 0 := fun e => h36 (Int32.toInt_inj.mp (e.trans (by decide : (0:Int) = (0 : Int32).toInt)))
          have l40 : 1 ≤ (gi 70 8).toInt := t_nel h36 l35 rfl rfl
          refine ev_loc f_X12_keep (nx := 41) rfl rfl rfl rfl ?_
          refine ev_loc f_X12_keep (nx := 42) rfl rfl rfl rfl ?_
          refine ev_c0 f_X12_keep (nx := 45) (r := []) rfl rfl rfl rfl rfl rfl rfl (c_m_keeps hI (ar1) e_p0) rfl hX rfl (fun gi41 gl41 gr41 hI hX hC41 => ?_)
          refine ev_loc f_X12_keep (nx := 46) rfl rfl rfl rfl ?_
          refine ev_getR f_X12_keep (nx := 49) rfl (hI.wf.s rfl) rfl rfl (hI.wf.r rfl) rfl rfl ?_
          refine ev_ic f_X12_keep (nx := 50) (v := 0) rfl (by decide) rfl ?_
          refine ev_loc f_X12_keep (nx := 51) rfl rfl rfl rfl ?_
          refine ev_getI f_X12_keep (nx := 54) rfl (hI.wf.s rfl) rfl rfl rfl ?_
          refine ev_iastT f_X12_keep (nx := 55) rfl (hI.wf.s rfl) (by decide : (0:Int) ≤ (0:Int32).toInt) (by decide) (by decide : (0:Int32).toInt ≤ (0:Int)) (by decide) rfl (hI.astG (hI.wf.s rfl) (fun lo hi e => absurd e (t_nob (by decide +kernel) _)) (fun k hk e => by have := hk.2.1; omega)) (hX.upI (t_inA_ok rfl)) (fun g42 e42 hI hX => ?_)
          refine ev_loc f_X12_keep (nx := 56) rfl rfl rfl rfl ?_
          refine ev_getR f_X12_keep (nx := 59) rfl (hI.wf.s rfl) rfl rfl (hI.wf.r rfl) rfl rfl ?_
          refine ev_ic f_X12_keep (nx := 60) (v := 1) rfl (by decide) rfl ?_
          refine ev_loc f_X12_keep (nx := 61) rfl rfl rfl rfl ?_
          refine ev_getI f_X12_keep (nx := 64) rfl (hI.wf.s rfl) rfl rfl rfl ?_
          refine ev_iastT f_X12_keep (nx := 65) rfl (hI.wf.s rfl) (by decide : (1:Int) ≤ (1:Int32).toInt) (by decide) (by decide : (1:Int32).toInt ≤ (1:Int)) (by decide) rfl (hI.astG (hI.wf.s rfl) (fun lo hi e => absurd e (t_nob (by decide +kernel) _)) (fun k hk e => by have := hk.2.1; omega)) (hX.upI (t_inA_ok rfl)) (fun g43 e43 hI hX => ?_)
          refine ev_loc f_X12_keep (nx := 66) rfl rfl rfl rfl ?_
          refine ev_getR f_X12_keep (nx := 69) rfl (hI.wf.s rfl) rfl rfl (hI.wf.r rfl) rfl rfl ?_
          refine ev_ic f_X12_keep (nx := 70) (v := 2) rfl (by decide) rfl ?_
          refine ev_loc f_X12_keep (nx := 71) rfl rfl rfl rfl ?_
          refine ev_getI f_X12_keep (nx := 74) rfl (hI.wf.s rfl) rfl rfl rfl ?_
          refine ev_iastT f_X12_keep (nx := 75) rfl (hI.wf.s rfl) (by decide : (2:Int) ≤ (2:Int32).toInt) (by decide) (by decide : (2:Int32).toInt ≤ (2:Int)) (by decide) rfl (hI.astG (hI.wf.s rfl) (fun lo hi e => absurd e (t_nob (by decide +kernel) _)) (fun k hk e => by have := hk.2.1; omega)) (hX.upI (t_inA_ok rfl)) (fun g44 e44 hI hX => ?_)
          refine ev_loc f_X12_keep (nx := 76) rfl rfl rfl rfl ?_
          refine ev_getR f_X12_keep (nx := 79) rfl (hI.wf.s rfl) rfl rfl (hI.wf.r rfl) rfl rfl ?_
          refine ev_ic f_X12_keep (nx := 80) (v := 3) rfl (by decide) rfl ?_
          refine ev_loc f_X12_keep (nx := 81) rfl rfl rfl rfl ?_
          refine ev_cI f_X12_keep (nx := 84) (r := [.int 3, .ref 101]) rfl rfl rfl rfl rfl rfl rfl (c_m_leftOver hI ) rfl hX rfl (fun w45 gi45 gl45 gr45 l45 u45 hI hX hC45 => ?_)
          refine ev_iastT f_X12_keep (nx := 85) rfl (hI.wf.s rfl) (by decide : (3:Int) ≤ (3:Int32).toInt) (by decide) (by decide : (3:Int32).toInt ≤ (3:Int)) (by decide) rfl (hI.astG (hI.wf.s rfl) (fun lo hi e => absurd e (t_nob (by decide +kernel) _)) (fun k hk e => by have := hk.2.1; omega)) (hX.upI (t_inA_ok rfl)) (fun g46 e46 hI hX => ?_)
          refine ev_loc f_X12_keep (nx := 86) rfl rfl rfl rfl ?_
          refine ev_getR f_X12_keep (nx := 89) rfl (hI.wf.s rfl) rfl rfl (hI.wf.r rfl) rfl rfl ?_
          refine ev_ic f_X12_keep (nx := 90) (v := 4) rfl (by decide) rfl ?_
          refine ev_loc f_X12_keep (nx := 91) rfl rfl rfl rfl ?_
          refine ev_getI f_X12_keep (nx := 94) rfl (hI.wf.s rfl) rfl rfl rfl ?_
          refine ev_iastT f_X12_keep (nx := 95) rfl (hI.wf.s rfl) (by decide : (4:Int) ≤ (4:Int32).toInt) (by decide) (by decide : (4:Int32).toInt ≤ (4:Int)) (by decide) rfl (hI.astG (hI.wf.s rfl) (fun lo hi e => absurd e (t_nob (by decide +kernel) _)) (fun k hk e => by have := hk.2.1; omega)) (hX.upI (t_inA_ok rfl)) (fun g47 e47 hI hX => ?_)
          refine ev_loc f_X12_keep (nx := 96) rfl rfl rfl rfl ?_
          refine ev_ic f_X12_keep (nx := 97) (v := 1) rfl (by decide) rfl ?_
          refine ev_putZT f_X12_keep (nx := 100) rfl (hI.wf.s rfl) rfl rfl (Int.le_trans (by decide : (0:Int) ≤ 1) (by decide : (1:Int) ≤ (1:Int32).toInt)) (by decide : (1:Int32).toInt ≤ (1:Int)) rfl (hI.put0 (hI.wf.s rfl) rfl rfl) (hX.upI rfl) (fun g48 e48 hI hX => ?_)
          refine ev_loc f_X12_keep (nx := 101) rfl rfl rfl rfl ?_
          refine ev_loc f_X12_keep (nx := 102) rfl rfl rfl rfl ?_
          refine ev_getI f_X12_keep (nx := 105) rfl (hI.wf.s rfl) rfl rfl rfl ?_
          refine ev_inV2 f_X12_keep (nx := 108) (lo2 := [(0, .ref 69), (1, .int (g48 69 66))]) rfl rfl rfl rfl f_X12_gives (hI.wf.s rfl) rfl rfl rfl rfl rfl ?_
          refine ev_loc f_X12_gives (nx := 1) rfl rfl rfl rfl ?_
          refine ev_ic f_X12_gives (nx := 2) (v := 0) rfl (by decide) rfl ?_
          refine ev_putIT f_X12_gives (nx := 5) rfl (hI.wf.s rfl) rfl rfl rfl (hI.put0 (hI.wf.s rfl) rfl rfl) (hX.upI rfl) (fun g49 e49 hI hX => ?_)
          refine ev_loc f_X12_gives (nx := 6) rfl rfl rfl rfl ?_
          refine ev_retK1 f_X12_gives rfl rfl rfl ?_
          exact ev_ret f_X12_keep rfl rfl rfl ⟨_, _, _, rfl, hI, hX, ⟨_, rfl, (t_lo (g48 69 66)), (t_hi (g48 69 66))⟩⟩
noncomputable def wl_m_odds : List (Nat × Nat) := [(69, 2), (69, 3), (69, 4), (69, 44), (69, 45), (69, 58), (69, 59), (69, 60), (69, 61), (69, 62), (69, 63), (69, 64), (69, 65), (69, 66), (69, 67), (69, 68), (69, 69), (69, 70), (89, 10005), (89, 610011), (90, 9999), (91, 9999), (99, 9999), (100, 9999)]
theorem c_m_odds {X : x_Ext} {d : Nat} {sh : List (Nat ⊕ (Nat × Nat))} {gi : Nat → Nat → Int32} {gl : Nat → Nat → Int64} {gr : Nat → Nat → Value} (hI : t_I sh gi gr) (ar1 : Int32) (ar2 : Int32) (e_p0 : t_rpn (gi 70) 0) : x_Me X (d + 7) n_X12_odds [.ref 69, .int ar1, .int ar2] (sh, gi, gl, gr) (t_P wl_m_odds sh gi gl gr (t_Ri 0 1)) := by
  have hX : t_X wl_m_odds sh gi gl gr gi gl gr := t_X.rf
  refine me_i f_X12_odds (hI.wf.s rfl) rfl rfl rfl ?_
  refine ev_loc f_X12_odds (nx := 1) rfl rfl rfl rfl ?_
  refine ev_loc f_X12_odds (nx := 2) rfl rfl rfl rfl ?_
  refine ev_loc f_X12_odds (nx := 3) rfl rfl rfl rfl ?_
  refine ev_inV3 f_X12_odds (nx := 6) (lo2 := [(0, .ref 69), (1, .int ar1), (2, .int ar2)]) rfl rfl rfl rfl f_X12_areSeeds (hI.wf.s rfl) rfl rfl rfl rfl rfl ?_
  refine ev_loc f_X12_areSeeds (nx := 1) rfl rfl rfl rfl ?_
  refine ev_anyLE f_X12_areSeeds (nx := 2) rfl rfl rfl rfl (fun z1 e1 => ?_)
  have i1 : z1.toInt = ar1.toInt := by rw [e1]; exact Int32.toInt_toInt64 _
  refine ev_lc f_X12_areSeeds (nx := 3) (v := 0) rfl (by decide) rfl ?_
  refine ev_ldL f_X12_areSeeds (nx := 6) (v := 9999) rfl (by decide) rfl ?_
  refine ev_inS3 f_X12_areSeeds (nx := 9) (lo2 := [(0, .long z1), (2, .long 0), (4, .long 9999)]) rfl rfl rfl rfl f_X12_isFrom rfl rfl rfl rfl ?_
  refine ev_loc f_X12_isFrom (nx := 1) rfl rfl rfl rfl ?_
  refine ev_loc f_X12_isFrom (nx := 2) rfl rfl rfl rfl ?_
  refine ev_anyIE f_X12_isFrom (nx := 3) rfl rfl rfl rfl (fun z2 e2 => ?_)
  refine ev_if f_X12_isFrom (t1 := 17) (t2 := 6) rfl rfl rfl (fun h3 => ?_) (fun h3 => ?_)
  · have u4 : ar1.toInt ≤ ((-1):Int) := Int.le_sub_one_of_lt ((lgc_lt (by decide : (0 : Int64).toInt = 0)).mp (by have hh := h3; rw [e2, e1] at hh; exact hh))
    have u5 : z2.toInt ≤ (-1) := t_ltu h3 (by decide : (0:Int32).toInt ≤ (0:Int)) rfl
    refine ev_ic f_X12_isFrom (nx := 18) (v := 0) rfl (by decide) rfl ?_
    refine ev_retK1 f_X12_isFrom rfl rfl rfl ?_
    refine ev_t f_X12_areSeeds (t1 := 39) (t2 := 12) rfl rfl rfl (by decide) ?_
    refine ev_ic f_X12_areSeeds (nx := 40) (v := 0) rfl (by decide) rfl ?_
    refine ev_retK1 f_X12_areSeeds rfl rfl rfl ?_
    refine ev_t f_X12_odds (t1 := 9) (t2 := 15) rfl rfl rfl (by decide) ?_
    refine ev_loc f_X12_odds (nx := 10) rfl rfl rfl rfl ?_
    refine ev_ic f_X12_odds (nx := 11) (v := 1) rfl (by decide) rfl ?_
    refine ev_inV2 f_X12_odds (nx := 14) (lo2 := [(0, .ref 69), (1, .int 1)]) rfl rfl rfl rfl f_X12_is (hI.wf.s rfl) rfl rfl rfl rfl rfl ?_
    refine ev_loc f_X12_is (nx := 1) rfl rfl rfl rfl ?_
    refine ev_loc f_X12_is (nx := 2) rfl rfl rfl rfl ?_
    refine ev_putIT f_X12_is (nx := 5) rfl (hI.wf.s rfl) rfl rfl rfl (hI.put0 (hI.wf.s rfl) rfl rfl) (hX.upI rfl) (fun g6 e6 hI hX => ?_)
    refine ev_loc f_X12_is (nx := 6) rfl rfl rfl rfl ?_
    refine ev_f f_X12_is (t1 := 9) (t2 := 13) rfl rfl rfl (by decide) ?_
    refine ev_ic f_X12_is (nx := 14) (v := 0) rfl (by decide) rfl ?_
    refine ev_retK1 f_X12_is rfl rfl rfl ?_
    exact ev_ret f_X12_odds rfl rfl rfl ⟨_, _, _, rfl, hI, hX, ⟨_, rfl, (by decide : (0:Int) ≤ (0:Int32).toInt), (Int.le_trans (by decide : (0:Int32).toInt ≤ (0:Int)) (by decide : (0:Int) ≤ 1))⟩⟩
  · have l7 : (0:Int) ≤ ar1.toInt := (lgc_ge (by decide : (0 : Int64).toInt = 0)).mp (by have hh := (t_nlt h3); rw [e2, e1] at hh; exact hh)
    have l8 : 0 ≤ z2.toInt := t_lel (t_nlt h3) (by decide : (0:Int) ≤ (0:Int32).toInt)
    refine ev_loc f_X12_isFrom (nx := 7) rfl rfl rfl rfl ?_
    refine ev_loc f_X12_isFrom (nx := 9) rfl rfl rfl rfl ?_
    refine ev_anyIE f_X12_isFrom (nx := 10) rfl rfl rfl rfl (fun z9 e9 => ?_)
    refine ev_if f_X12_isFrom (t1 := 17) (t2 := 13) rfl rfl rfl (fun h10 => ?_) (fun h10 => ?_)
    · have l11 : (10000:Int) ≤ ar1.toInt := Int.add_one_le_of_lt ((lgc_gt (by decide : (9999 : Int64).toInt = 9999)).mp (by have hh := h10; rw [e9, e1] at hh; exact hh))
      have l12 : 1 ≤ z9.toInt := t_ltl h10 (by decide : (0:Int) ≤ (0:Int32).toInt) rfl
      refine ev_ic f_X12_isFrom (nx := 18) (v := 0) rfl (by decide) rfl ?_
      refine ev_retK1 f_X12_isFrom rfl rfl rfl ?_
      refine ev_t f_X12_areSeeds (t1 := 39) (t2 := 12) rfl rfl rfl (by decide) ?_
      refine ev_ic f_X12_areSeeds (nx := 40) (v := 0) rfl (by decide) rfl ?_
      refine ev_retK1 f_X12_areSeeds rfl rfl rfl ?_
      refine ev_t f_X12_odds (t1 := 9) (t2 := 15) rfl rfl rfl (by decide) ?_
      refine ev_loc f_X12_odds (nx := 10) rfl rfl rfl rfl ?_
      refine ev_ic f_X12_odds (nx := 11) (v := 1) rfl (by decide) rfl ?_
      refine ev_inV2 f_X12_odds (nx := 14) (lo2 := [(0, .ref 69), (1, .int 1)]) rfl rfl rfl rfl f_X12_is (hI.wf.s rfl) rfl rfl rfl rfl rfl ?_
      refine ev_loc f_X12_is (nx := 1) rfl rfl rfl rfl ?_
      refine ev_loc f_X12_is (nx := 2) rfl rfl rfl rfl ?_
      refine ev_putIT f_X12_is (nx := 5) rfl (hI.wf.s rfl) rfl rfl rfl (hI.put0 (hI.wf.s rfl) rfl rfl) (hX.upI rfl) (fun g13 e13 hI hX => ?_)
      refine ev_loc f_X12_is (nx := 6) rfl rfl rfl rfl ?_
      refine ev_f f_X12_is (t1 := 9) (t2 := 13) rfl rfl rfl (by decide) ?_
      refine ev_ic f_X12_is (nx := 14) (v := 0) rfl (by decide) rfl ?_
      refine ev_retK1 f_X12_is rfl rfl rfl ?_
      exact ev_ret f_X12_odds rfl rfl rfl ⟨_, _, _, rfl, hI, hX, ⟨_, rfl, (by decide : (0:Int) ≤ (0:Int32).toInt), (Int.le_trans (by decide : (0:Int32).toInt ≤ (0:Int)) (by decide : (0:Int) ≤ 1))⟩⟩
    · have u14 : ar1.toInt ≤ (9999:Int) := (lgc_le (by decide : (9999 : Int64).toInt = 9999)).mp (by have hh := (t_nlt h10); rw [e9, e1] at hh; exact hh)
      have u15 : z9.toInt ≤ 0 := t_leu (t_nlt h10) (by decide : (0:Int32).toInt ≤ (0:Int))
      refine ev_ic f_X12_isFrom (nx := 14) (v := 1) rfl (by decide) rfl ?_
      refine ev_jmp f_X12_isFrom (nx := 18) rfl rfl rfl ?_
      refine ev_retK1 f_X12_isFrom rfl rfl rfl ?_
      refine ev_f f_X12_areSeeds (t1 := 39) (t2 := 12) rfl rfl rfl (by decide) ?_
      refine ev_loc f_X12_areSeeds (nx := 13) rfl rfl rfl rfl ?_
      refine ev_anyLE f_X12_areSeeds (nx := 14) rfl rfl rfl rfl (fun z16 e16 => ?_)
      have i16 : z16.toInt = ar2.toInt := by rw [e16]; exact Int32.toInt_toInt64 _
      refine ev_lc f_X12_areSeeds (nx := 15) (v := 1) rfl (by decide) rfl ?_
      refine ev_ldL f_X12_areSeeds (nx := 18) (v := 20) rfl (by decide) rfl ?_
      refine ev_inS3 f_X12_areSeeds (nx := 21) (lo2 := [(0, .long z16), (2, .long 1), (4, .long 20)]) rfl rfl rfl rfl f_X12_isFrom rfl rfl rfl rfl ?_
      refine ev_loc f_X12_isFrom (nx := 1) rfl rfl rfl rfl ?_
      refine ev_loc f_X12_isFrom (nx := 2) rfl rfl rfl rfl ?_
      refine ev_anyIE f_X12_isFrom (nx := 3) rfl rfl rfl rfl (fun z17 e17 => ?_)
      refine ev_if f_X12_isFrom (t1 := 17) (t2 := 6) rfl rfl rfl (fun h18 => ?_) (fun h18 => ?_)
      · have u19 : ar2.toInt ≤ (0:Int) := Int.le_sub_one_of_lt ((lgc_lt (by decide : (1 : Int64).toInt = 1)).mp (by have hh := h18; rw [e17, e16] at hh; exact hh))
        have u20 : z17.toInt ≤ (-1) := t_ltu h18 (by decide : (0:Int32).toInt ≤ (0:Int)) rfl
        refine ev_ic f_X12_isFrom (nx := 18) (v := 0) rfl (by decide) rfl ?_
        refine ev_retK1 f_X12_isFrom rfl rfl rfl ?_
        refine ev_t f_X12_areSeeds (t1 := 39) (t2 := 24) rfl rfl rfl (by decide) ?_
        refine ev_ic f_X12_areSeeds (nx := 40) (v := 0) rfl (by decide) rfl ?_
        refine ev_retK1 f_X12_areSeeds rfl rfl rfl ?_
        refine ev_t f_X12_odds (t1 := 9) (t2 := 15) rfl rfl rfl (by decide) ?_
        refine ev_loc f_X12_odds (nx := 10) rfl rfl rfl rfl ?_
        refine ev_ic f_X12_odds (nx := 11) (v := 1) rfl (by decide) rfl ?_
        refine ev_inV2 f_X12_odds (nx := 14) (lo2 := [(0, .ref 69), (1, .int 1)]) rfl rfl rfl rfl f_X12_is (hI.wf.s rfl) rfl rfl rfl rfl rfl ?_
        refine ev_loc f_X12_is (nx := 1) rfl rfl rfl rfl ?_
        refine ev_loc f_X12_is (nx := 2) rfl rfl rfl rfl ?_
        refine ev_putIT f_X12_is (nx := 5) rfl (hI.wf.s rfl) rfl rfl rfl (hI.put0 (hI.wf.s rfl) rfl rfl) (hX.upI rfl) (fun g21 e21 hI hX => ?_)
        refine ev_loc f_X12_is (nx := 6) rfl rfl rfl rfl ?_
        refine ev_f f_X12_is (t1 := 9) (t2 := 13) rfl rfl rfl (by decide) ?_
        refine ev_ic f_X12_is (nx := 14) (v := 0) rfl (by decide) rfl ?_
        refine ev_retK1 f_X12_is rfl rfl rfl ?_
        exact ev_ret f_X12_odds rfl rfl rfl ⟨_, _, _, rfl, hI, hX, ⟨_, rfl, (by decide : (0:Int) ≤ (0:Int32).toInt), (Int.le_trans (by decide : (0:Int32).toInt ≤ (0:Int)) (by decide : (0:Int) ≤ 1))⟩⟩
      · have l22 : (1:Int) ≤ ar2.toInt := (lgc_ge (by decide : (1 : Int64).toInt = 1)).mp (by have hh := (t_nlt h18); rw [e17, e16] at hh; exact hh)
        have l23 : 0 ≤ z17.toInt := t_lel (t_nlt h18) (by decide : (0:Int) ≤ (0:Int32).toInt)
        refine ev_loc f_X12_isFrom (nx := 7) rfl rfl rfl rfl ?_
        refine ev_loc f_X12_isFrom (nx := 9) rfl rfl rfl rfl ?_
        refine ev_anyIE f_X12_isFrom (nx := 10) rfl rfl rfl rfl (fun z24 e24 => ?_)
        refine ev_if f_X12_isFrom (t1 := 17) (t2 := 13) rfl rfl rfl (fun h25 => ?_) (fun h25 => ?_)
        · have l26 : (21:Int) ≤ ar2.toInt := Int.add_one_le_of_lt ((lgc_gt (by decide : (20 : Int64).toInt = 20)).mp (by have hh := h25; rw [e24, e16] at hh; exact hh))
          have l27 : 1 ≤ z24.toInt := t_ltl h25 (by decide : (0:Int) ≤ (0:Int32).toInt) rfl
          refine ev_ic f_X12_isFrom (nx := 18) (v := 0) rfl (by decide) rfl ?_
          refine ev_retK1 f_X12_isFrom rfl rfl rfl ?_
          refine ev_t f_X12_areSeeds (t1 := 39) (t2 := 24) rfl rfl rfl (by decide) ?_
          refine ev_ic f_X12_areSeeds (nx := 40) (v := 0) rfl (by decide) rfl ?_
          refine ev_retK1 f_X12_areSeeds rfl rfl rfl ?_
          refine ev_t f_X12_odds (t1 := 9) (t2 := 15) rfl rfl rfl (by decide) ?_
          refine ev_loc f_X12_odds (nx := 10) rfl rfl rfl rfl ?_
          refine ev_ic f_X12_odds (nx := 11) (v := 1) rfl (by decide) rfl ?_
          refine ev_inV2 f_X12_odds (nx := 14) (lo2 := [(0, .ref 69), (1, .int 1)]) rfl rfl rfl rfl f_X12_is (hI.wf.s rfl) rfl rfl rfl rfl rfl ?_
          refine ev_loc f_X12_is (nx := 1) rfl rfl rfl rfl ?_
          refine ev_loc f_X12_is (nx := 2) rfl rfl rfl rfl ?_
          refine ev_putIT f_X12_is (nx := 5) rfl (hI.wf.s rfl) rfl rfl rfl (hI.put0 (hI.wf.s rfl) rfl rfl) (hX.upI rfl) (fun g28 e28 hI hX => ?_)
          refine ev_loc f_X12_is (nx := 6) rfl rfl rfl rfl ?_
          refine ev_f f_X12_is (t1 := 9) (t2 := 13) rfl rfl rfl (by decide) ?_
          refine ev_ic f_X12_is (nx := 14) (v := 0) rfl (by decide) rfl ?_
          refine ev_retK1 f_X12_is rfl rfl rfl ?_
          exact ev_ret f_X12_odds rfl rfl rfl ⟨_, _, _, rfl, hI, hX, ⟨_, rfl, (by decide : (0:Int) ≤ (0:Int32).toInt), (Int.le_trans (by decide : (0:Int32).toInt ≤ (0:Int)) (by decide : (0:Int) ≤ 1))⟩⟩
        · have u29 : ar2.toInt ≤ (20:Int) := (lgc_le (by decide : (20 : Int64).toInt = 20)).mp (by have hh := (t_nlt h25); rw [e24, e16] at hh; exact hh)
          have u30 : z24.toInt ≤ 0 := t_leu (t_nlt h25) (by decide : (0:Int32).toInt ≤ (0:Int))
          refine ev_ic f_X12_isFrom (nx := 14) (v := 1) rfl (by decide) rfl ?_
          refine ev_jmp f_X12_isFrom (nx := 18) rfl rfl rfl ?_
          refine ev_retK1 f_X12_isFrom rfl rfl rfl ?_
          refine ev_f f_X12_areSeeds (t1 := 39) (t2 := 24) rfl rfl rfl (by decide) ?_
          refine ev_loc f_X12_areSeeds (nx := 25) rfl rfl rfl rfl ?_
          refine ev_loc f_X12_areSeeds (nx := 26) rfl rfl rfl rfl ?_
          refine ev_addR f_X12_areSeeds (nx := 27) (l := 1) (u := 10019) rfl l7 u14 l22 u29 rfl rfl (by decide) (by decide) rfl (fun z31 e31 l31 u31 => ?_)
          refine ev_ic f_X12_areSeeds (nx := 28) (v := 1) rfl (by decide) rfl ?_
          refine ev_subC f_X12_areSeeds (nx := 29) (c := 1) (l := 0) (u := 10018) rfl (by decide) l31 u31 rfl rfl (by decide) (by decide) rfl (fun z32 e32 l32 u32 => ?_)
          refine ev_sp f_X12_areSeeds (nx := 32) (v := 9999) rfl (by decide) rfl ?_
          refine ev_if f_X12_areSeeds (t1 := 39) (t2 := 35) rfl rfl rfl (fun h33 => ?_) (fun h33 => ?_)
          · have l34 : 10000 ≤ z32.toInt := t_ltl h33 (by decide : (9999:Int) ≤ (9999:Int32).toInt) rfl
            refine ev_ic f_X12_areSeeds (nx := 40) (v := 0) rfl (by decide) rfl ?_
            refine ev_retK1 f_X12_areSeeds rfl rfl rfl ?_
            refine ev_t f_X12_odds (t1 := 9) (t2 := 15) rfl rfl rfl (by decide) ?_
            refine ev_loc f_X12_odds (nx := 10) rfl rfl rfl rfl ?_
            refine ev_ic f_X12_odds (nx := 11) (v := 1) rfl (by decide) rfl ?_
            refine ev_inV2 f_X12_odds (nx := 14) (lo2 := [(0, .ref 69), (1, .int 1)]) rfl rfl rfl rfl f_X12_is (hI.wf.s rfl) rfl rfl rfl rfl rfl ?_
            refine ev_loc f_X12_is (nx := 1) rfl rfl rfl rfl ?_
            refine ev_loc f_X12_is (nx := 2) rfl rfl rfl rfl ?_
            refine ev_putIT f_X12_is (nx := 5) rfl (hI.wf.s rfl) rfl rfl rfl (hI.put0 (hI.wf.s rfl) rfl rfl) (hX.upI rfl) (fun g35 e35 hI hX => ?_)
            refine ev_loc f_X12_is (nx := 6) rfl rfl rfl rfl ?_
            refine ev_f f_X12_is (t1 := 9) (t2 := 13) rfl rfl rfl (by decide) ?_
            refine ev_ic f_X12_is (nx := 14) (v := 0) rfl (by decide) rfl ?_
            refine ev_retK1 f_X12_is rfl rfl rfl ?_
            exact ev_ret f_X12_odds rfl rfl rfl ⟨_, _, _, rfl, hI, hX, ⟨_, rfl, (by decide : (0:Int) ≤ (0:Int32).toInt), (Int.le_trans (by decide : (0:Int32).toInt ≤ (0:Int)) (by decide : (0:Int) ≤ 1))⟩⟩
          · have u36 : z32.toInt ≤ 9999 := t_leu (t_nlt h33) (by decide : (9999:Int32).toInt ≤ (9999:Int))
            refine ev_ic f_X12_areSeeds (nx := 36) (v := 1) rfl (by decide) rfl ?_
            refine ev_jmp f_X12_areSeeds (nx := 40) rfl rfl rfl ?_
            refine ev_retK1 f_X12_areSeeds rfl rfl rfl ?_
            refine ev_f f_X12_odds (t1 := 9) (t2 := 15) rfl rfl rfl (by decide) ?_
            refine ev_loc f_X12_odds (nx := 16) rfl rfl rfl rfl ?_
            refine ev_getR f_X12_odds (nx := 19) rfl (hI.wf.s rfl) rfl rfl (hI.wf.r rfl) rfl rfl ?_
            refine ev_bp f_X12_odds (nx := 21) (v := 8) rfl (by decide) rfl ?_
            obtain ⟨l37, u37⟩ := hI.ab (by decide +kernel : t_abr 70 8 8 0 1 = true) (Nat.le_refl _) (Nat.le_refl _)
            refine ev_ialdv f_X12_odds (nx := 22) (w := (gi 70 8)) rfl (hI.wf.s rfl) (by decide) (rfl : (8 : Int32).toNatClampNeg = 8) (by decide) rfl rfl ?_
            refine ev_if f_X12_odds (t1 := 25) (t2 := 32) rfl rfl rfl (fun h38 => ?_) (fun h38 => ?_)
            · have u39 : (gi 70 8).toInt ≤ 0 := t_equ h38 (by decide : (0:Int32).toInt ≤ (0:Int))
              refine ev_loc f_X12_odds (nx := 26) rfl rfl rfl rfl ?_
              refine ev_bp f_X12_odds (nx := 28) (v := 6) rfl (by decide) rfl ?_
              refine ev_inV2 f_X12_odds (nx := 31) (lo2 := [(0, .ref 69), (1, .int 6)]) rfl rfl rfl rfl f_X12_is (hI.wf.s rfl) rfl rfl rfl rfl rfl ?_
              refine ev_loc f_X12_is (nx := 1) rfl rfl rfl rfl ?_
              refine ev_loc f_X12_is (nx := 2) rfl rfl rfl rfl ?_
              refine ev_putIT f_X12_is (nx := 5) rfl (hI.wf.s rfl) rfl rfl rfl (hI.put0 (hI.wf.s rfl) rfl rfl) (hX.upI rfl) (fun g40 e40 hI hX => ?_)
              refine ev_loc f_X12_is (nx := 6) rfl rfl rfl rfl ?_
              refine ev_f f_X12_is (t1 := 9) (t2 := 13) rfl rfl rfl (by decide) ?_
              refine ev_ic f_X12_is (nx := 14) (v := 0) rfl (by decide) rfl ?_
              refine ev_retK1 f_X12_is rfl rfl rfl ?_
              exact ev_ret f_X12_odds rfl rfl rfl ⟨_, _, _, rfl, hI, hX, ⟨_, rfl, (by decide : (0:Int) ≤ (0:Int32).toInt), (Int.le_trans (by decide : (0:Int32).toInt ≤ (0:Int)) (by decide : (0:Int) ≤ 1))⟩⟩
            · have r41 : (gi 70 8).toInt ≠ 0 := fun e => h38 (Int32.toInt_inj.mp (e.trans (by decide : (0:Int) = (0 : Int32).toInt)))
              have l42 : 1 ≤ (gi 70 8).toInt := t_nel h38 l37 rfl rfl
              refine ev_ic f_X12_odds (nx := 33) (v := 0) rfl (by decide) rfl ?_
              refine ev_loc f_X12_odds (nx := 34) (lo' := [(3, .int 0), (0, .ref 69), (1, .int ar1), (2, .int ar2)]) rfl rfl rfl rfl ?_
              refine ev_ic f_X12_odds (nx := 35) (v := 0) rfl (by decide) rfl ?_
              refine ev_loc f_X12_odds (nx := 37) (lo' := [(4, .int 0), (3, .int 0), (0, .ref 69), (1, .int ar1), (2, .int ar2)]) rfl rfl rfl rfl ?_
              have L43 : ∀ (m43 : Nat) (gi43 : Nat → Nat → Int32) (gl43 : Nat → Nat → Int64) (gr43 : Nat → Nat → Value) (y43_4 : Int32) (y43_3 : Int32), t_I sh gi43 gr43 → t_X wl_m_odds sh gi gl gr gi43 gl43 gr43 → 0 ≤ y43_4.toInt → y43_4.toInt ≤ 20 → 0 ≤ y43_3.toInt → y43_3.toInt ≤ 20 → gi43 70 8 = (gi 70 8) → t_rpn (gi43 70) 0 → 0 ≤ y43_3.toInt → y43_3.toInt ≤ y43_4.toInt → (20 - y43_4.toInt).toNat = m43 → x_Ev X (d + 7) n_X12_odds 37 [(4, .int y43_4), (3, .int y43_3), (0, .ref 69), (1, .int ar1), (2, .int ar2)] [] (sh, gi43, gl43, gr43) (t_P wl_m_odds sh gi gl gr (t_Ri 0 1)) := by
                intro m43
                induction m43 using Nat.strongRecOn with
                | _ m43 ih43 =>
                intro gi43 gl43 gr43 y43_4 y43_3 hI hX l43_4 u43_4 l43_3 u43_3 c43_0 j43_0 j43_1 j43_2 hm43
                refine ev_loc f_X12_odds (nx := 39) rfl rfl rfl rfl ?_
                refine ev_loc f_X12_odds (nx := 40) rfl rfl rfl rfl ?_
                refine ev_if f_X12_odds (t1 := 79) (t2 := 43) rfl rfl rfl (fun h44 => ?_) (fun h44 => ?_)
                · have r45 : ar2.toInt ≤ y43_4.toInt := Int32.le_iff_toInt_le.mp h44
                  have l46 : 1 ≤ y43_4.toInt := t_lel h44 l22
                  refine ev_loc f_X12_odds (nx := 80) rfl rfl rfl rfl ?_
                  refine ev_loc f_X12_odds (nx := 81) rfl rfl rfl rfl ?_
                  refine ev_anyLE f_X12_odds (nx := 82) rfl rfl rfl rfl (fun z47 e47 => ?_)
                  have i47 : z47.toInt = y43_3.toInt := by rw [e47]; exact Int32.toInt_toInt64 _
                  refine ev_loc f_X12_odds (nx := 83) rfl rfl rfl rfl ?_
                  refine ev_anyLE f_X12_odds (nx := 84) rfl rfl rfl rfl (fun z48 e48 => ?_)
                  have i48 : z48.toInt = ar2.toInt := by rw [e48]; exact Int32.toInt_toInt64 _
                  refine ev_cI f_X12_odds (nx := 87) (r := []) rfl rfl rfl rfl rfl rfl rfl (c_m_tellsBy hI (z47) (z48) (by omega) (by omega)) rfl hX rfl (fun w49 gi49 gl49 gr49 l49 u49 hI hX hC49 => ?_)
                  exact ev_retZ f_X12_odds rfl (Int.le_trans (by decide : (0:Int) ≤ 1) l49) u49 ⟨_, _, _, rfl, hI, hX, ⟨_, rfl, (Int.le_trans (by decide : (0:Int) ≤ 1) l49), u49⟩⟩
                · have r50 : y43_4.toInt < ar2.toInt := Int32.lt_iff_toInt_lt.mp (t_nle h44)
                  have u51 : y43_4.toInt ≤ 19 := t_ltu (t_nle h44) u29 rfl
                  refine ev_loc f_X12_odds (nx := 44) rfl rfl rfl rfl ?_
                  refine ev_loc f_X12_odds (nx := 45) rfl rfl rfl rfl ?_
                  refine ev_loc f_X12_odds (nx := 47) rfl rfl rfl rfl ?_
                  refine ev_addR f_X12_odds (nx := 48) (l := 0) (u := 10018) rfl l7 u14 l43_4 u51 rfl rfl (by decide) (by decide) rfl (fun z52 e52 l52 u52 => ?_)
                  refine ev_c0 f_X12_odds (nx := 51) (r := []) rfl rfl rfl rfl rfl rfl rfl (c_m_keeps hI (z52) j43_0) rfl hX rfl (fun gi53 gl53 gr53 hI hX hC53 => ?_)
                  refine ev_loc f_X12_odds (nx := 52) rfl rfl rfl rfl ?_
                  refine ev_loc f_X12_odds (nx := 53) rfl rfl rfl rfl ?_
                  refine ev_getI f_X12_odds (nx := 56) rfl (hI.wf.s rfl) rfl rfl rfl ?_
                  refine ev_if f_X12_odds (t1 := 59) (t2 := 70) rfl rfl rfl (fun h54 => ?_) (fun h54 => ?_)
                  · have u55 : (gi53 69 67).toInt ≤ 0 := t_equ h54 (by decide : (0:Int32).toInt ≤ (0:Int))
                    have l56 : 0 ≤ (gi53 69 67).toInt := t_eql h54 (by decide : (0:Int) ≤ (0:Int32).toInt)
                    refine ev_loc f_X12_odds (nx := 60) rfl rfl rfl rfl ?_
                    refine ev_cI f_X12_odds (nx := 63) (r := [.int y43_3]) rfl rfl rfl rfl rfl rfl rfl (c_m_leftOver hI ) rfl hX rfl (fun w57 gi57 gl57 gr57 l57 u57 hI hX hC57 => ?_)
                    refine ev_if f_X12_odds (t1 := 66) (t2 := 70) rfl rfl rfl (fun h58 => ?_) (fun h58 => ?_)
                    · have u59 : w57.toInt ≤ 0 := t_equ h58 (by decide : (0:Int32).toInt ≤ (0:Int))
                      have l60 : 0 ≤ w57.toInt := t_eql h58 (by decide : (0:Int) ≤ (0:Int32).toInt)
                      refine ev_ic f_X12_odds (nx := 67) (v := 1) rfl (by decide) rfl ?_
                      refine ev_jmp f_X12_odds (nx := 71) rfl rfl rfl ?_
                      refine ev_addC f_X12_odds (nx := 72) (c := 1) (l := 1) (u := 21) rfl (by decide) l43_3 u43_3 rfl rfl (by decide) (by decide) rfl (fun z61 e61 l61 u61 => ?_)
                      refine ev_loc f_X12_odds (nx := 73) (lo' := [(3, .int z61), (4, .int y43_4), (0, .ref 69), (1, .int ar1), (2, .int ar2)]) rfl rfl rfl rfl ?_
                      refine ev_incR f_X12_odds (nx := 76) (c := 1) (l := 1) (u := 20) rfl rfl (by decide) (by decide) l43_4 u51 rfl rfl (by decide) (by decide) rfl (fun z62 e62 l62 u62 => ?_)
                      refine ev_jmp f_X12_odds (nx := 37) rfl rfl rfl ?_
                      refine ev_sub (lo := [(4, .int z62), (3, .int z61), (0, .ref 69), (1, .int ar1), (2, .int ar2)]) rfl (t_sc rfl (t_sc rfl (t_sc rfl (t_sc rfl (t_sc rfl t_sn))))) ?_
                      exact ih43 _ (by omega) gi57 gl57 gr57 (z62) (z61) hI hX  (Int.le_trans (by decide : (0:Int) ≤ 1) l62) u62 (Int.le_trans (by decide : (0:Int) ≤ 1) l61) (by omega : z61.toInt ≤ (20:Int)) ((hC57.1 70 8 rfl).1.trans ((hC53.1 70 8 rfl).1.trans c43_0)) (by have hq := ((funext (fun j => (hC57.1 70 j rfl).1) : gi57 70 = gi53 70).trans ((funext (fun j => (hC53.1 70 j rfl).1) : gi53 70 = gi43 70))); rw [hq]; exact j43_0) (by omega) (by omega) rfl
                    · have r63 : w57.toInt ≠ 0 := fun e => h58 (Int32.toInt_inj.mp (e.trans (by decide : (0:Int) = (0 : Int32).toInt)))
                      refine ev_ic f_X12_odds (nx := 71) (v := 0) rfl (by decide) rfl ?_
                      refine ev_addC f_X12_odds (nx := 72) (c := 0) (l := 0) (u := 20) rfl (by decide) l43_3 u43_3 rfl rfl (by decide) (by decide) rfl (fun z64 e64 l64 u64 => ?_)
                      refine ev_loc f_X12_odds (nx := 73) (lo' := [(3, .int z64), (4, .int y43_4), (0, .ref 69), (1, .int ar1), (2, .int ar2)]) rfl rfl rfl rfl ?_
                      refine ev_incR f_X12_odds (nx := 76) (c := 1) (l := 1) (u := 20) rfl rfl (by decide) (by decide) l43_4 u51 rfl rfl (by decide) (by decide) rfl (fun z65 e65 l65 u65 => ?_)
                      refine ev_jmp f_X12_odds (nx := 37) rfl rfl rfl ?_
                      refine ev_sub (lo := [(4, .int z65), (3, .int z64), (0, .ref 69), (1, .int ar1), (2, .int ar2)]) rfl (t_sc rfl (t_sc rfl (t_sc rfl (t_sc rfl (t_sc rfl t_sn))))) ?_
                      exact ih43 _ (by omega) gi57 gl57 gr57 (z65) (z64) hI hX  (Int.le_trans (by decide : (0:Int) ≤ 1) l65) u65 l64 u64 ((hC57.1 70 8 rfl).1.trans ((hC53.1 70 8 rfl).1.trans c43_0)) (by have hq := ((funext (fun j => (hC57.1 70 j rfl).1) : gi57 70 = gi53 70).trans ((funext (fun j => (hC53.1 70 j rfl).1) : gi53 70 = gi43 70))); rw [hq]; exact j43_0) (by omega) (by omega) rfl
                  · have r66 : (gi53 69 67).toInt ≠ 0 := fun e => h54 (Int32.toInt_inj.mp (e.trans (by decide : (0:Int) = (0 : Int32).toInt)))
                    refine ev_ic f_X12_odds (nx := 71) (v := 0) rfl (by decide) rfl ?_
                    refine ev_addC f_X12_odds (nx := 72) (c := 0) (l := 0) (u := 20) rfl (by decide) l43_3 u43_3 rfl rfl (by decide) (by decide) rfl (fun z67 e67 l67 u67 => ?_)
                    refine ev_loc f_X12_odds (nx := 73) (lo' := [(3, .int z67), (4, .int y43_4), (0, .ref 69), (1, .int ar1), (2, .int ar2)]) rfl rfl rfl rfl ?_
                    refine ev_incR f_X12_odds (nx := 76) (c := 1) (l := 1) (u := 20) rfl rfl (by decide) (by decide) l43_4 u51 rfl rfl (by decide) (by decide) rfl (fun z68 e68 l68 u68 => ?_)
                    refine ev_jmp f_X12_odds (nx := 37) rfl rfl rfl ?_
                    refine ev_sub (lo := [(4, .int z68), (3, .int z67), (0, .ref 69), (1, .int ar1), (2, .int ar2)]) rfl (t_sc rfl (t_sc rfl (t_sc rfl (t_sc rfl (t_sc rfl t_sn))))) ?_
                    exact ih43 _ (by omega) gi53 gl53 gr53 (z68) (z67) hI hX  (Int.le_trans (by decide : (0:Int) ≤ 1) l68) u68 l67 u67 ((hC53.1 70 8 rfl).1.trans c43_0) (by have hq := ((funext (fun j => (hC53.1 70 j rfl).1) : gi53 70 = gi43 70)); rw [hq]; exact j43_0) (by omega) (by omega) rfl
              refine ev_sub (lo := [(4, .int 0), (3, .int 0), (0, .ref 69), (1, .int ar1), (2, .int ar2)]) rfl (t_sc rfl (t_sc rfl (t_sc rfl (t_sc rfl (t_sc rfl t_sn))))) ?_
              exact L43 _ gi gl gr (0) (0) hI hX  (by decide : (0:Int) ≤ (0:Int32).toInt) (Int.le_trans (by decide : (0:Int32).toInt ≤ (0:Int)) (by decide : (0:Int) ≤ 20)) (by decide : (0:Int) ≤ (0:Int32).toInt) (Int.le_trans (by decide : (0:Int32).toInt ≤ (0:Int)) (by decide : (0:Int) ≤ 20)) rfl e_p0 (by have kf69 : (0 : Int32).toInt = 0 := (by decide); omega) (by have kf70 : (0 : Int32).toInt = 0 := (by decide); omega) rfl
noncomputable def wl_m_waits : List (Nat × Nat) := [(69, 2), (69, 44), (69, 45), (69, 58), (69, 59), (69, 60), (69, 61), (69, 62), (69, 63), (69, 64), (69, 65), (69, 66), (69, 67), (69, 68), (69, 69), (69, 70), (89, 10005), (89, 610011), (90, 9999), (91, 9999), (99, 9999), (100, 9999)]
theorem c_m_waits {X : x_Ext} {d : Nat} {sh : List (Nat ⊕ (Nat × Nat))} {gi : Nat → Nat → Int32} {gl : Nat → Nat → Int64} {gr : Nat → Nat → Value} (hI : t_I sh gi gr) (ar1 : Int32) (ar2 : Int32) (e_p0 : t_rpn (gi 70) 0) : x_Me X (d + 7) n_X12_waits [.ref 69, .int ar1, .int ar2] (sh, gi, gl, gr) (t_P wl_m_waits sh gi gl gr (t_Ri (-2147483648) 2147483647)) := by
  have hX : t_X wl_m_waits sh gi gl gr gi gl gr := t_X.rf
  refine me_i f_X12_waits (hI.wf.s rfl) rfl rfl rfl ?_
  refine ev_loc f_X12_waits (nx := 1) rfl rfl rfl rfl ?_
  refine ev_loc f_X12_waits (nx := 2) rfl rfl rfl rfl ?_
  refine ev_loc f_X12_waits (nx := 3) rfl rfl rfl rfl ?_
  refine ev_inV3 f_X12_waits (nx := 6) (lo2 := [(0, .ref 69), (1, .int ar1), (2, .int ar2)]) rfl rfl rfl rfl f_X12_areSeeds (hI.wf.s rfl) rfl rfl rfl rfl rfl ?_
  refine ev_loc f_X12_areSeeds (nx := 1) rfl rfl rfl rfl ?_
  refine ev_anyLE f_X12_areSeeds (nx := 2) rfl rfl rfl rfl (fun z1 e1 => ?_)
  have i1 : z1.toInt = ar1.toInt := by rw [e1]; exact Int32.toInt_toInt64 _
  refine ev_lc f_X12_areSeeds (nx := 3) (v := 0) rfl (by decide) rfl ?_
  refine ev_ldL f_X12_areSeeds (nx := 6) (v := 9999) rfl (by decide) rfl ?_
  refine ev_inS3 f_X12_areSeeds (nx := 9) (lo2 := [(0, .long z1), (2, .long 0), (4, .long 9999)]) rfl rfl rfl rfl f_X12_isFrom rfl rfl rfl rfl ?_
  refine ev_loc f_X12_isFrom (nx := 1) rfl rfl rfl rfl ?_
  refine ev_loc f_X12_isFrom (nx := 2) rfl rfl rfl rfl ?_
  refine ev_anyIE f_X12_isFrom (nx := 3) rfl rfl rfl rfl (fun z2 e2 => ?_)
  refine ev_if f_X12_isFrom (t1 := 17) (t2 := 6) rfl rfl rfl (fun h3 => ?_) (fun h3 => ?_)
  · have u4 : ar1.toInt ≤ ((-1):Int) := Int.le_sub_one_of_lt ((lgc_lt (by decide : (0 : Int64).toInt = 0)).mp (by have hh := h3; rw [e2, e1] at hh; exact hh))
    have u5 : z2.toInt ≤ (-1) := t_ltu h3 (by decide : (0:Int32).toInt ≤ (0:Int)) rfl
    refine ev_ic f_X12_isFrom (nx := 18) (v := 0) rfl (by decide) rfl ?_
    refine ev_retK1 f_X12_isFrom rfl rfl rfl ?_
    refine ev_t f_X12_areSeeds (t1 := 39) (t2 := 12) rfl rfl rfl (by decide) ?_
    refine ev_ic f_X12_areSeeds (nx := 40) (v := 0) rfl (by decide) rfl ?_
    refine ev_retK1 f_X12_areSeeds rfl rfl rfl ?_
    refine ev_t f_X12_waits (t1 := 9) (t2 := 15) rfl rfl rfl (by decide) ?_
    refine ev_loc f_X12_waits (nx := 10) rfl rfl rfl rfl ?_
    refine ev_ic f_X12_waits (nx := 11) (v := 1) rfl (by decide) rfl ?_
    refine ev_inV2 f_X12_waits (nx := 14) (lo2 := [(0, .ref 69), (1, .int 1)]) rfl rfl rfl rfl f_X12_refuse (hI.wf.s rfl) rfl rfl rfl rfl rfl ?_
    refine ev_loc f_X12_refuse (nx := 1) rfl rfl rfl rfl ?_
    refine ev_loc f_X12_refuse (nx := 2) rfl rfl rfl rfl ?_
    refine ev_putIT f_X12_refuse (nx := 5) rfl (hI.wf.s rfl) rfl rfl rfl (hI.put0 (hI.wf.s rfl) rfl rfl) (hX.upI rfl) (fun g6 e6 hI hX => ?_)
    refine ev_ic f_X12_refuse (nx := 6) (v := -1) rfl (by decide) rfl ?_
    refine ev_retK1 f_X12_refuse rfl rfl rfl ?_
    exact ev_ret f_X12_waits rfl rfl rfl ⟨_, _, _, rfl, hI, hX, ⟨_, rfl, (Int.le_trans (by decide : ((-2147483648):Int) ≤ (-1)) (by decide : ((-1):Int) ≤ ((-1):Int32).toInt)), (Int.le_trans (by decide : ((-1):Int32).toInt ≤ ((-1):Int)) (by decide : ((-1):Int) ≤ 2147483647))⟩⟩
  · have l7 : (0:Int) ≤ ar1.toInt := (lgc_ge (by decide : (0 : Int64).toInt = 0)).mp (by have hh := (t_nlt h3); rw [e2, e1] at hh; exact hh)
    have l8 : 0 ≤ z2.toInt := t_lel (t_nlt h3) (by decide : (0:Int) ≤ (0:Int32).toInt)
    refine ev_loc f_X12_isFrom (nx := 7) rfl rfl rfl rfl ?_
    refine ev_loc f_X12_isFrom (nx := 9) rfl rfl rfl rfl ?_
    refine ev_anyIE f_X12_isFrom (nx := 10) rfl rfl rfl rfl (fun z9 e9 => ?_)
    refine ev_if f_X12_isFrom (t1 := 17) (t2 := 13) rfl rfl rfl (fun h10 => ?_) (fun h10 => ?_)
    · have l11 : (10000:Int) ≤ ar1.toInt := Int.add_one_le_of_lt ((lgc_gt (by decide : (9999 : Int64).toInt = 9999)).mp (by have hh := h10; rw [e9, e1] at hh; exact hh))
      have l12 : 1 ≤ z9.toInt := t_ltl h10 (by decide : (0:Int) ≤ (0:Int32).toInt) rfl
      refine ev_ic f_X12_isFrom (nx := 18) (v := 0) rfl (by decide) rfl ?_
      refine ev_retK1 f_X12_isFrom rfl rfl rfl ?_
      refine ev_t f_X12_areSeeds (t1 := 39) (t2 := 12) rfl rfl rfl (by decide) ?_
      refine ev_ic f_X12_areSeeds (nx := 40) (v := 0) rfl (by decide) rfl ?_
      refine ev_retK1 f_X12_areSeeds rfl rfl rfl ?_
      refine ev_t f_X12_waits (t1 := 9) (t2 := 15) rfl rfl rfl (by decide) ?_
      refine ev_loc f_X12_waits (nx := 10) rfl rfl rfl rfl ?_
      refine ev_ic f_X12_waits (nx := 11) (v := 1) rfl (by decide) rfl ?_
      refine ev_inV2 f_X12_waits (nx := 14) (lo2 := [(0, .ref 69), (1, .int 1)]) rfl rfl rfl rfl f_X12_refuse (hI.wf.s rfl) rfl rfl rfl rfl rfl ?_
      refine ev_loc f_X12_refuse (nx := 1) rfl rfl rfl rfl ?_
      refine ev_loc f_X12_refuse (nx := 2) rfl rfl rfl rfl ?_
      refine ev_putIT f_X12_refuse (nx := 5) rfl (hI.wf.s rfl) rfl rfl rfl (hI.put0 (hI.wf.s rfl) rfl rfl) (hX.upI rfl) (fun g13 e13 hI hX => ?_)
      refine ev_ic f_X12_refuse (nx := 6) (v := -1) rfl (by decide) rfl ?_
      refine ev_retK1 f_X12_refuse rfl rfl rfl ?_
      exact ev_ret f_X12_waits rfl rfl rfl ⟨_, _, _, rfl, hI, hX, ⟨_, rfl, (Int.le_trans (by decide : ((-2147483648):Int) ≤ (-1)) (by decide : ((-1):Int) ≤ ((-1):Int32).toInt)), (Int.le_trans (by decide : ((-1):Int32).toInt ≤ ((-1):Int)) (by decide : ((-1):Int) ≤ 2147483647))⟩⟩
    · have u14 : ar1.toInt ≤ (9999:Int) := (lgc_le (by decide : (9999 : Int64).toInt = 9999)).mp (by have hh := (t_nlt h10); rw [e9, e1] at hh; exact hh)
      have u15 : z9.toInt ≤ 0 := t_leu (t_nlt h10) (by decide : (0:Int32).toInt ≤ (0:Int))
      refine ev_ic f_X12_isFrom (nx := 14) (v := 1) rfl (by decide) rfl ?_
      refine ev_jmp f_X12_isFrom (nx := 18) rfl rfl rfl ?_
      refine ev_retK1 f_X12_isFrom rfl rfl rfl ?_
      refine ev_f f_X12_areSeeds (t1 := 39) (t2 := 12) rfl rfl rfl (by decide) ?_
      refine ev_loc f_X12_areSeeds (nx := 13) rfl rfl rfl rfl ?_
      refine ev_anyLE f_X12_areSeeds (nx := 14) rfl rfl rfl rfl (fun z16 e16 => ?_)
      have i16 : z16.toInt = ar2.toInt := by rw [e16]; exact Int32.toInt_toInt64 _
      refine ev_lc f_X12_areSeeds (nx := 15) (v := 1) rfl (by decide) rfl ?_
      refine ev_ldL f_X12_areSeeds (nx := 18) (v := 20) rfl (by decide) rfl ?_
      refine ev_inS3 f_X12_areSeeds (nx := 21) (lo2 := [(0, .long z16), (2, .long 1), (4, .long 20)]) rfl rfl rfl rfl f_X12_isFrom rfl rfl rfl rfl ?_
      refine ev_loc f_X12_isFrom (nx := 1) rfl rfl rfl rfl ?_
      refine ev_loc f_X12_isFrom (nx := 2) rfl rfl rfl rfl ?_
      refine ev_anyIE f_X12_isFrom (nx := 3) rfl rfl rfl rfl (fun z17 e17 => ?_)
      refine ev_if f_X12_isFrom (t1 := 17) (t2 := 6) rfl rfl rfl (fun h18 => ?_) (fun h18 => ?_)
      · have u19 : ar2.toInt ≤ (0:Int) := Int.le_sub_one_of_lt ((lgc_lt (by decide : (1 : Int64).toInt = 1)).mp (by have hh := h18; rw [e17, e16] at hh; exact hh))
        have u20 : z17.toInt ≤ (-1) := t_ltu h18 (by decide : (0:Int32).toInt ≤ (0:Int)) rfl
        refine ev_ic f_X12_isFrom (nx := 18) (v := 0) rfl (by decide) rfl ?_
        refine ev_retK1 f_X12_isFrom rfl rfl rfl ?_
        refine ev_t f_X12_areSeeds (t1 := 39) (t2 := 24) rfl rfl rfl (by decide) ?_
        refine ev_ic f_X12_areSeeds (nx := 40) (v := 0) rfl (by decide) rfl ?_
        refine ev_retK1 f_X12_areSeeds rfl rfl rfl ?_
        refine ev_t f_X12_waits (t1 := 9) (t2 := 15) rfl rfl rfl (by decide) ?_
        refine ev_loc f_X12_waits (nx := 10) rfl rfl rfl rfl ?_
        refine ev_ic f_X12_waits (nx := 11) (v := 1) rfl (by decide) rfl ?_
        refine ev_inV2 f_X12_waits (nx := 14) (lo2 := [(0, .ref 69), (1, .int 1)]) rfl rfl rfl rfl f_X12_refuse (hI.wf.s rfl) rfl rfl rfl rfl rfl ?_
        refine ev_loc f_X12_refuse (nx := 1) rfl rfl rfl rfl ?_
        refine ev_loc f_X12_refuse (nx := 2) rfl rfl rfl rfl ?_
        refine ev_putIT f_X12_refuse (nx := 5) rfl (hI.wf.s rfl) rfl rfl rfl (hI.put0 (hI.wf.s rfl) rfl rfl) (hX.upI rfl) (fun g21 e21 hI hX => ?_)
        refine ev_ic f_X12_refuse (nx := 6) (v := -1) rfl (by decide) rfl ?_
        refine ev_retK1 f_X12_refuse rfl rfl rfl ?_
        exact ev_ret f_X12_waits rfl rfl rfl ⟨_, _, _, rfl, hI, hX, ⟨_, rfl, (Int.le_trans (by decide : ((-2147483648):Int) ≤ (-1)) (by decide : ((-1):Int) ≤ ((-1):Int32).toInt)), (Int.le_trans (by decide : ((-1):Int32).toInt ≤ ((-1):Int)) (by decide : ((-1):Int) ≤ 2147483647))⟩⟩
      · have l22 : (1:Int) ≤ ar2.toInt := (lgc_ge (by decide : (1 : Int64).toInt = 1)).mp (by have hh := (t_nlt h18); rw [e17, e16] at hh; exact hh)
        have l23 : 0 ≤ z17.toInt := t_lel (t_nlt h18) (by decide : (0:Int) ≤ (0:Int32).toInt)
        refine ev_loc f_X12_isFrom (nx := 7) rfl rfl rfl rfl ?_
        refine ev_loc f_X12_isFrom (nx := 9) rfl rfl rfl rfl ?_
        refine ev_anyIE f_X12_isFrom (nx := 10) rfl rfl rfl rfl (fun z24 e24 => ?_)
        refine ev_if f_X12_isFrom (t1 := 17) (t2 := 13) rfl rfl rfl (fun h25 => ?_) (fun h25 => ?_)
        · have l26 : (21:Int) ≤ ar2.toInt := Int.add_one_le_of_lt ((lgc_gt (by decide : (20 : Int64).toInt = 20)).mp (by have hh := h25; rw [e24, e16] at hh; exact hh))
          have l27 : 1 ≤ z24.toInt := t_ltl h25 (by decide : (0:Int) ≤ (0:Int32).toInt) rfl
          refine ev_ic f_X12_isFrom (nx := 18) (v := 0) rfl (by decide) rfl ?_
          refine ev_retK1 f_X12_isFrom rfl rfl rfl ?_
          refine ev_t f_X12_areSeeds (t1 := 39) (t2 := 24) rfl rfl rfl (by decide) ?_
          refine ev_ic f_X12_areSeeds (nx := 40) (v := 0) rfl (by decide) rfl ?_
          refine ev_retK1 f_X12_areSeeds rfl rfl rfl ?_
          refine ev_t f_X12_waits (t1 := 9) (t2 := 15) rfl rfl rfl (by decide) ?_
          refine ev_loc f_X12_waits (nx := 10) rfl rfl rfl rfl ?_
          refine ev_ic f_X12_waits (nx := 11) (v := 1) rfl (by decide) rfl ?_
          refine ev_inV2 f_X12_waits (nx := 14) (lo2 := [(0, .ref 69), (1, .int 1)]) rfl rfl rfl rfl f_X12_refuse (hI.wf.s rfl) rfl rfl rfl rfl rfl ?_
          refine ev_loc f_X12_refuse (nx := 1) rfl rfl rfl rfl ?_
          refine ev_loc f_X12_refuse (nx := 2) rfl rfl rfl rfl ?_
          refine ev_putIT f_X12_refuse (nx := 5) rfl (hI.wf.s rfl) rfl rfl rfl (hI.put0 (hI.wf.s rfl) rfl rfl) (hX.upI rfl) (fun g28 e28 hI hX => ?_)
          refine ev_ic f_X12_refuse (nx := 6) (v := -1) rfl (by decide) rfl ?_
          refine ev_retK1 f_X12_refuse rfl rfl rfl ?_
          exact ev_ret f_X12_waits rfl rfl rfl ⟨_, _, _, rfl, hI, hX, ⟨_, rfl, (Int.le_trans (by decide : ((-2147483648):Int) ≤ (-1)) (by decide : ((-1):Int) ≤ ((-1):Int32).toInt)), (Int.le_trans (by decide : ((-1):Int32).toInt ≤ ((-1):Int)) (by decide : ((-1):Int) ≤ 2147483647))⟩⟩
        · have u29 : ar2.toInt ≤ (20:Int) := (lgc_le (by decide : (20 : Int64).toInt = 20)).mp (by have hh := (t_nlt h25); rw [e24, e16] at hh; exact hh)
          have u30 : z24.toInt ≤ 0 := t_leu (t_nlt h25) (by decide : (0:Int32).toInt ≤ (0:Int))
          refine ev_ic f_X12_isFrom (nx := 14) (v := 1) rfl (by decide) rfl ?_
          refine ev_jmp f_X12_isFrom (nx := 18) rfl rfl rfl ?_
          refine ev_retK1 f_X12_isFrom rfl rfl rfl ?_
          refine ev_f f_X12_areSeeds (t1 := 39) (t2 := 24) rfl rfl rfl (by decide) ?_
          refine ev_loc f_X12_areSeeds (nx := 25) rfl rfl rfl rfl ?_
          refine ev_loc f_X12_areSeeds (nx := 26) rfl rfl rfl rfl ?_
          refine ev_addR f_X12_areSeeds (nx := 27) (l := 1) (u := 10019) rfl l7 u14 l22 u29 rfl rfl (by decide) (by decide) rfl (fun z31 e31 l31 u31 => ?_)
          refine ev_ic f_X12_areSeeds (nx := 28) (v := 1) rfl (by decide) rfl ?_
          refine ev_subC f_X12_areSeeds (nx := 29) (c := 1) (l := 0) (u := 10018) rfl (by decide) l31 u31 rfl rfl (by decide) (by decide) rfl (fun z32 e32 l32 u32 => ?_)
          refine ev_sp f_X12_areSeeds (nx := 32) (v := 9999) rfl (by decide) rfl ?_
          refine ev_if f_X12_areSeeds (t1 := 39) (t2 := 35) rfl rfl rfl (fun h33 => ?_) (fun h33 => ?_)
          · have l34 : 10000 ≤ z32.toInt := t_ltl h33 (by decide : (9999:Int) ≤ (9999:Int32).toInt) rfl
            refine ev_ic f_X12_areSeeds (nx := 40) (v := 0) rfl (by decide) rfl ?_
            refine ev_retK1 f_X12_areSeeds rfl rfl rfl ?_
            refine ev_t f_X12_waits (t1 := 9) (t2 := 15) rfl rfl rfl (by decide) ?_
            refine ev_loc f_X12_waits (nx := 10) rfl rfl rfl rfl ?_
            refine ev_ic f_X12_waits (nx := 11) (v := 1) rfl (by decide) rfl ?_
            refine ev_inV2 f_X12_waits (nx := 14) (lo2 := [(0, .ref 69), (1, .int 1)]) rfl rfl rfl rfl f_X12_refuse (hI.wf.s rfl) rfl rfl rfl rfl rfl ?_
            refine ev_loc f_X12_refuse (nx := 1) rfl rfl rfl rfl ?_
            refine ev_loc f_X12_refuse (nx := 2) rfl rfl rfl rfl ?_
            refine ev_putIT f_X12_refuse (nx := 5) rfl (hI.wf.s rfl) rfl rfl rfl (hI.put0 (hI.wf.s rfl) rfl rfl) (hX.upI rfl) (fun g35 e35 hI hX => ?_)
            refine ev_ic f_X12_refuse (nx := 6) (v := -1) rfl (by decide) rfl ?_
            refine ev_retK1 f_X12_refuse rfl rfl rfl ?_
            exact ev_ret f_X12_waits rfl rfl rfl ⟨_, _, _, rfl, hI, hX, ⟨_, rfl, (Int.le_trans (by decide : ((-2147483648):Int) ≤ (-1)) (by decide : ((-1):Int) ≤ ((-1):Int32).toInt)), (Int.le_trans (by decide : ((-1):Int32).toInt ≤ ((-1):Int)) (by decide : ((-1):Int) ≤ 2147483647))⟩⟩
          · have u36 : z32.toInt ≤ 9999 := t_leu (t_nlt h33) (by decide : (9999:Int32).toInt ≤ (9999:Int))
            refine ev_ic f_X12_areSeeds (nx := 36) (v := 1) rfl (by decide) rfl ?_
            refine ev_jmp f_X12_areSeeds (nx := 40) rfl rfl rfl ?_
            refine ev_retK1 f_X12_areSeeds rfl rfl rfl ?_
            refine ev_f f_X12_waits (t1 := 9) (t2 := 15) rfl rfl rfl (by decide) ?_
            refine ev_loc f_X12_waits (nx := 16) rfl rfl rfl rfl ?_
            refine ev_getR f_X12_waits (nx := 19) rfl (hI.wf.s rfl) rfl rfl (hI.wf.r rfl) rfl rfl ?_
            refine ev_bp f_X12_waits (nx := 21) (v := 8) rfl (by decide) rfl ?_
            obtain ⟨l37, u37⟩ := hI.ab (by decide +kernel : t_abr 70 8 8 0 1 = true) (Nat.le_refl _) (Nat.le_refl _)
            refine ev_ialdv f_X12_waits (nx := 22) (w := (gi 70 8)) rfl (hI.wf.s rfl) (by decide) (rfl : (8 : Int32).toNatClampNeg = 8) (by decide) rfl rfl ?_
            refine ev_if f_X12_waits (t1 := 25) (t2 := 32) rfl rfl rfl (fun h38 => ?_) (fun h38 => ?_)
            · have u39 : (gi 70 8).toInt ≤ 0 := t_equ h38 (by decide : (0:Int32).toInt ≤ (0:Int))
              refine ev_loc f_X12_waits (nx := 26) rfl rfl rfl rfl ?_
              refine ev_bp f_X12_waits (nx := 28) (v := 6) rfl (by decide) rfl ?_
              refine ev_inV2 f_X12_waits (nx := 31) (lo2 := [(0, .ref 69), (1, .int 6)]) rfl rfl rfl rfl f_X12_refuse (hI.wf.s rfl) rfl rfl rfl rfl rfl ?_
              refine ev_loc f_X12_refuse (nx := 1) rfl rfl rfl rfl ?_
              refine ev_loc f_X12_refuse (nx := 2) rfl rfl rfl rfl ?_
              refine ev_putIT f_X12_refuse (nx := 5) rfl (hI.wf.s rfl) rfl rfl rfl (hI.put0 (hI.wf.s rfl) rfl rfl) (hX.upI rfl) (fun g40 e40 hI hX => ?_)
              refine ev_ic f_X12_refuse (nx := 6) (v := -1) rfl (by decide) rfl ?_
              refine ev_retK1 f_X12_refuse rfl rfl rfl ?_
              exact ev_ret f_X12_waits rfl rfl rfl ⟨_, _, _, rfl, hI, hX, ⟨_, rfl, (Int.le_trans (by decide : ((-2147483648):Int) ≤ (-1)) (by decide : ((-1):Int) ≤ ((-1):Int32).toInt)), (Int.le_trans (by decide : ((-1):Int32).toInt ≤ ((-1):Int)) (by decide : ((-1):Int) ≤ 2147483647))⟩⟩
            · have r41 : (gi 70 8).toInt ≠ 0 := fun e => h38 (Int32.toInt_inj.mp (e.trans (by decide : (0:Int) = (0 : Int32).toInt)))
              have l42 : 1 ≤ (gi 70 8).toInt := t_nel h38 l37 rfl rfl
              refine ev_ic f_X12_waits (nx := 33) (v := 0) rfl (by decide) rfl ?_
              refine ev_loc f_X12_waits (nx := 34) (lo' := [(3, .int 0), (0, .ref 69), (1, .int ar1), (2, .int ar2)]) rfl rfl rfl rfl ?_
              refine ev_ic f_X12_waits (nx := 35) (v := 0) rfl (by decide) rfl ?_
              refine ev_loc f_X12_waits (nx := 37) (lo' := [(4, .int 0), (3, .int 0), (0, .ref 69), (1, .int ar1), (2, .int ar2)]) rfl rfl rfl rfl ?_
              have L43 : ∀ (m43 : Nat) (gi43 : Nat → Nat → Int32) (gl43 : Nat → Nat → Int64) (gr43 : Nat → Nat → Value) (y43_4 : Int32) (y43_3 : Int32), t_I sh gi43 gr43 → t_X wl_m_waits sh gi gl gr gi43 gl43 gr43 → 0 ≤ y43_4.toInt → y43_4.toInt ≤ 20 → gi43 70 8 = (gi 70 8) → t_rpn (gi43 70) 0 → (20 - y43_4.toInt).toNat = m43 → x_Ev X (d + 7) n_X12_waits 37 [(4, .int y43_4), (3, .int y43_3), (0, .ref 69), (1, .int ar1), (2, .int ar2)] [] (sh, gi43, gl43, gr43) (t_P wl_m_waits sh gi gl gr (t_Ri (-2147483648) 2147483647)) := by
                intro m43
                induction m43 using Nat.strongRecOn with
                | _ m43 ih43 =>
                intro gi43 gl43 gr43 y43_4 y43_3 hI hX l43_4 u43_4 c43_0 j43_0 hm43
                refine ev_loc f_X12_waits (nx := 39) rfl rfl rfl rfl ?_
                refine ev_loc f_X12_waits (nx := 40) rfl rfl rfl rfl ?_
                refine ev_if f_X12_waits (t1 := 64) (t2 := 43) rfl rfl rfl (fun h44 => ?_) (fun h44 => ?_)
                · have r45 : ar2.toInt ≤ y43_4.toInt := Int32.le_iff_toInt_le.mp h44
                  have l46 : 1 ≤ y43_4.toInt := t_lel h44 l22
                  refine ev_loc f_X12_waits (nx := 65) rfl rfl rfl rfl ?_
                  refine ev_loc f_X12_waits (nx := 66) rfl rfl rfl rfl ?_
                  refine ev_inV2 f_X12_waits (nx := 69) (lo2 := [(0, .ref 69), (1, .int y43_3)]) rfl rfl rfl rfl f_X12_gives (hI.wf.s rfl) rfl rfl rfl rfl rfl ?_
                  refine ev_loc f_X12_gives (nx := 1) rfl rfl rfl rfl ?_
                  refine ev_ic f_X12_gives (nx := 2) (v := 0) rfl (by decide) rfl ?_
                  refine ev_putIT f_X12_gives (nx := 5) rfl (hI.wf.s rfl) rfl rfl rfl (hI.put0 (hI.wf.s rfl) rfl rfl) (hX.upI rfl) (fun g47 e47 hI hX => ?_)
                  refine ev_loc f_X12_gives (nx := 6) rfl rfl rfl rfl ?_
                  refine ev_retK1 f_X12_gives rfl rfl rfl ?_
                  exact ev_ret f_X12_waits rfl rfl rfl ⟨_, _, _, rfl, hI, hX, ⟨_, rfl, (t_lo y43_3), (t_hi y43_3)⟩⟩
                · have r48 : y43_4.toInt < ar2.toInt := Int32.lt_iff_toInt_lt.mp (t_nle h44)
                  have u49 : y43_4.toInt ≤ 19 := t_ltu (t_nle h44) u29 rfl
                  refine ev_loc f_X12_waits (nx := 44) rfl rfl rfl rfl ?_
                  refine ev_loc f_X12_waits (nx := 45) rfl rfl rfl rfl ?_
                  refine ev_loc f_X12_waits (nx := 47) rfl rfl rfl rfl ?_
                  refine ev_addR f_X12_waits (nx := 48) (l := 0) (u := 10018) rfl l7 u14 l43_4 u49 rfl rfl (by decide) (by decide) rfl (fun z50 e50 l50 u50 => ?_)
                  refine ev_c0 f_X12_waits (nx := 51) (r := []) rfl rfl rfl rfl rfl rfl rfl (c_m_keeps hI (z50) j43_0) rfl hX rfl (fun gi51 gl51 gr51 hI hX hC51 => ?_)
                  refine ev_loc f_X12_waits (nx := 52) rfl rfl rfl rfl ?_
                  refine ev_loc f_X12_waits (nx := 53) rfl rfl rfl rfl ?_
                  refine ev_getI f_X12_waits (nx := 56) rfl (hI.wf.s rfl) rfl rfl rfl ?_
                  refine ev_anyIE f_X12_waits (nx := 57) rfl rfl rfl rfl (fun z52 e52 => ?_)
                  refine ev_loc f_X12_waits (nx := 58) (lo' := [(3, .int z52), (4, .int y43_4), (0, .ref 69), (1, .int ar1), (2, .int ar2)]) rfl rfl rfl rfl ?_
                  refine ev_incR f_X12_waits (nx := 61) (c := 1) (l := 1) (u := 20) rfl rfl (by decide) (by decide) l43_4 u49 rfl rfl (by decide) (by decide) rfl (fun z53 e53 l53 u53 => ?_)
                  refine ev_jmp f_X12_waits (nx := 37) rfl rfl rfl ?_
                  refine ev_sub (lo := [(4, .int z53), (3, .int z52), (0, .ref 69), (1, .int ar1), (2, .int ar2)]) rfl (t_sc rfl (t_sc rfl (t_sc rfl (t_sc rfl (t_sc rfl t_sn))))) ?_
                  exact ih43 _ (by omega) gi51 gl51 gr51 (z53) (z52) hI hX  (Int.le_trans (by decide : (0:Int) ≤ 1) l53) u53 ((hC51.1 70 8 rfl).1.trans c43_0) (by have hq := ((funext (fun j => (hC51.1 70 j rfl).1) : gi51 70 = gi43 70)); rw [hq]; exact j43_0) rfl
              refine ev_sub (lo := [(4, .int 0), (3, .int 0), (0, .ref 69), (1, .int ar1), (2, .int ar2)]) rfl (t_sc rfl (t_sc rfl (t_sc rfl (t_sc rfl (t_sc rfl t_sn))))) ?_
              exact L43 _ gi gl gr (0) (0) hI hX  (by decide : (0:Int) ≤ (0:Int32).toInt) (Int.le_trans (by decide : (0:Int32).toInt ≤ (0:Int)) (by decide : (0:Int) ≤ 20)) rfl e_p0 rfl
