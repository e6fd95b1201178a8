/-! ===== the READINGS of a number, one after another ===== -/
noncomputable def s_rE (D : s_D) (x : Int64) (a b : Int) : Nat → Int → s_RL
  | 0, _ => []
  | m + 1, e => s_if (s_bw D a b e = x) ((a, b, e) :: s_rE D x a b m (e + 1)) (s_rE D x a b m (e + 1))
noncomputable def s_rB (D : s_D) (x : Int64) (a : Int) : Nat → Int → s_RL
  | 0, _ => []
  | m + 1, b => s_rE D x a b (13 - s_lb a b).toNat (s_lb a b) ++ s_rB D x a m (b + 1)
noncomputable def s_rA (D : s_D) (x : Int64) : Nat → Int → s_RL
  | 0, _ => []
  | m + 1, a => s_rB D x a (D 0).toNat 0 ++ s_rA D x m (a + 1)
noncomputable def s_rP (D : s_D) (x : Int64) : Nat → Int → s_RL
  | 0, _ => []
  | m + 1, p => s_if (s_hd D p = x) ((p, -1, -1) :: s_rP D x m (p + 1)) (s_rP D x m (p + 1))
/-- all of them: the single ones, then the couples -/
noncomputable def s_rL (D : s_D) (x : Int64) : s_RL := s_rP D x (D 0).toNat 0 ++ s_rA D x (D 0).toNat 0
/-- what is still to come -/
noncomputable def s_R1 (D : s_D) (x : Int64) (p : Int) : s_RL := s_rP D x (D 0 - p).toNat p ++ s_rA D x (D 0).toNat 0
noncomputable def s_R2 (D : s_D) (x : Int64) (a : Int) : s_RL := s_rA D x (D 0 - a).toNat a
noncomputable def s_R3 (D : s_D) (x : Int64) (a b : Int) : s_RL := s_rB D x a (D 0 - b).toNat b ++ s_R2 D x (a + 1)
noncomputable def s_R4 (D : s_D) (x : Int64) (a b e : Int) : s_RL := s_rE D x a b (13 - e).toNat e ++ s_R3 D x a (b + 1)
section RDG
variable {D : s_D} {x : Int64} {a b e p : Int}
theorem s_R1_0 : s_R1 D x 0 = s_rL D x := by
  unfold s_R1 s_rL
  rw [show (D 0 - 0).toNat = (D 0).toNat by omega]
theorem s_R1_y (h : p < D 0) (hx : s_hd D p = x) : s_R1 D x p = (p, -1, -1) :: s_R1 D x (p + 1) := by
  unfold s_R1
  rw [show (D 0 - p).toNat = (D 0 - (p + 1)).toNat + 1 by omega]
  show s_if (s_hd D p = x) _ _ ++ _ = _
  rw [s_ifT hx]; rfl
theorem s_R1_n (h : p < D 0) (hx : ¬ s_hd D p = x) : s_R1 D x p = s_R1 D x (p + 1) := by
  unfold s_R1
  rw [show (D 0 - p).toNat = (D 0 - (p + 1)).toNat + 1 by omega]
  show s_if (s_hd D p = x) _ _ ++ _ = _
  rw [s_ifF hx]
theorem s_R1_e (h : D 0 ≤ p) : s_R1 D x p = s_R2 D x 0 := by
  unfold s_R1 s_R2
  rw [show (D 0 - p).toNat = 0 by omega, show (D 0 - 0).toNat = (D 0).toNat by omega]; rfl
theorem s_R2_s (h : a < D 0) : s_R2 D x a = s_R3 D x a 0 := by
  unfold s_R3 s_R2
  rw [show (D 0 - a).toNat = (D 0 - (a + 1)).toNat + 1 by omega, show (D 0 - 0).toNat = (D 0).toNat by omega]; rfl
theorem s_R2_e (h : D 0 ≤ a) : s_R2 D x a = [] := by
  unfold s_R2
  rw [show (D 0 - a).toNat = 0 by omega]; rfl
theorem s_R3_s (h : b < D 0) : s_R3 D x a b = s_R4 D x a b (s_lb a b) := by
  unfold s_R4 s_R3
  rw [show (D 0 - b).toNat = (D 0 - (b + 1)).toNat + 1 by omega]
  exact List.append_assoc _ _ _
theorem s_R3_e (h : D 0 ≤ b) : s_R3 D x a b = s_R2 D x (a + 1) := by
  unfold s_R3
  rw [show (D 0 - b).toNat = 0 by omega]; rfl
theorem s_R4_y (h : e ≤ 12) (hx : s_bw D a b e = x) : s_R4 D x a b e = (a, b, e) :: s_R4 D x a b (e + 1) := by
  unfold s_R4
  rw [show (13 - e).toNat = (13 - (e + 1)).toNat + 1 by omega]
  show s_if (s_bw D a b e = x) _ _ ++ _ = _
  rw [s_ifT hx]; rfl
theorem s_R4_n (h : e ≤ 12) (hx : ¬ s_bw D a b e = x) : s_R4 D x a b e = s_R4 D x a b (e + 1) := by
  unfold s_R4
  rw [show (13 - e).toNat = (13 - (e + 1)).toNat + 1 by omega]
  show s_if (s_bw D a b e = x) _ _ ++ _ = _
  rw [s_ifF hx]
theorem s_R4_e (h : 13 ≤ e) : s_R4 D x a b e = s_R3 D x a (b + 1) := by
  unfold s_R4
  rw [show (13 - e).toNat = 0 by omega]; rfl
end RDG
/-! ===== how they are kept ===== -/
noncomputable def s_a6 (b : Int) : Int := if b = -1 then 6 else b
noncomputable def s_a0 (b e : Int) : Int := if b = -1 then 0 else e
theorem s_a6_n {b : Int} (h : 0 ≤ b) : s_a6 b = b := if_neg (by omega)
theorem s_a0_n {b e : Int} (h : 0 ≤ b) : s_a0 b e = e := if_neg (by omega)
/-- by the class -/
noncomputable def s_S1 (g : Nat → Nat → Int32) (L : s_RL) : Prop := (g 0 14).toInt = (L.length : Int) ∧ ∀ (k : Nat) (t : Int × Int × Int), L[k]? = some t → (g 21 (3 * k)).toInt = t.1 ∧ (g 21 (3 * k + 1)).toInt = s_a6 t.2.1 ∧ (g 21 (3 * k + 2)).toInt = s_a0 t.2.1 t.2.2
/-- by the other side: while they are sought, and behind it -/
noncomputable def s_S2 (g : Nat → Nat → Int32) (L : s_RL) : Prop := (g 69 29).toInt = (L.length : Int) ∧ ∀ (k : Nat) (t : Int × Int × Int), L[k]? = some t → (g 78 k).toInt = t.1 ∧ (g 79 k).toInt = t.2.1 ∧ (g 80 k).toInt = t.2.2
noncomputable def s_S3 (g : Nat → Nat → Int32) (L : s_RL) : Prop := (g 69 30).toInt = (L.length : Int) ∧ ∀ (k : Nat) (t : Int × Int × Int), L[k]? = some t → (g 81 k).toInt = t.1 ∧ (g 82 k).toInt = t.2.1 ∧ (g 83 k).toInt = t.2.2
section KEP
variable {g g0 g1 g2 g3 g4 : Nat → Nat → Int32} {i1 i2 i3 a b c n : Int32} {L : s_RL} {t : Int × Int × Int}
theorem s_S1.cg (h : s_S1 g L) (e1 : g1 0 14 = g 0 14) (e2 : g1 21 = g 21) : s_S1 g1 L := by
  unfold s_S1; rw [e1, e2]; exact h
theorem s_S2.cg (h : s_S2 g L) (e1 : g1 69 29 = g 69 29) (e2 : g1 78 = g 78) (e3 : g1 79 = g 79) (e4 : g1 80 = g 80) : s_S2 g1 L := by
  unfold s_S2; rw [e1, e2, e3, e4]; exact h
theorem s_S3.cg (h : s_S3 g L) (e1 : g1 69 30 = g 69 30) (e2 : g1 81 = g 81) (e3 : g1 82 = g 82) (e4 : g1 83 = g 83) : s_S3 g1 L := by
  unfold s_S3; rw [e1, e2, e3, e4]; exact h
theorem s_S1_nil (h : (g 0 14).toInt = 0) : s_S1 g [] := ⟨h, fun k t hk => absurd hk (by intro h2; cases h2)⟩
theorem s_S2_nil (h : (g 69 29).toInt = 0) : s_S2 g [] := ⟨h, fun k t hk => absurd hk (by intro h2; cases h2)⟩
theorem s_S1_add (h : s_S1 g0 L) (e1 : g1 = x_up2 g0 21 i1.toNatClampNeg a) (e2 : g2 = x_up2 g1 21 i2.toNatClampNeg b) (e3 : g3 = x_up2 g2 21 i3.toNatClampNeg c) (e4 : g4 = x_up2 g3 0 14 n) (k1 : i1.toInt = 3 * (g0 0 14).toInt) (k2 : i2.toInt = 3 * (g0 0 14).toInt + 1) (k3 : i3.toInt = 3 * (g0 0 14).toInt + 2) (k4 : n.toInt = (g0 0 14).toInt + 1) (h1 : a.toInt = t.1) (h2 : b.toInt = s_a6 t.2.1) (h3 : c.toInt = s_a0 t.2.1 t.2.2) : s_S1 g4 (L ++ [t]) := by
  obtain ⟨hn, hl⟩ := h
  have c1 := t_clamp (i := i1) (by omega)
  have c2 := t_clamp (i := i2) (by omega)
  have c3 := t_clamp (i := i3) (by omega)
  have o21 : g4 21 = g3 21 := by rw [e4]; exact x_up2_ne (by decide)
  have q1 : g4 21 (3 * L.length) = a := by
    rw [o21, e3, x_up2_off (Or.inr (by omega)), e2, x_up2_off (Or.inr (by omega)), e1, show 3 * L.length = i1.toNatClampNeg by omega, x_up2_at]
  have q2 : g4 21 (3 * L.length + 1) = b := by
    rw [o21, e3, x_up2_off (Or.inr (by omega)), e2, show 3 * L.length + 1 = i2.toNatClampNeg by omega, x_up2_at]
  have q3 : g4 21 (3 * L.length + 2) = c := by
    rw [o21, e3, show 3 * L.length + 2 = i3.toNatClampNeg by omega, x_up2_at]
  have q4 : ∀ j, j < 3 * L.length → g4 21 j = g0 21 j := by
    intro j hj
    rw [o21, e3, x_up2_off (Or.inr (by omega)), e2, x_up2_off (Or.inr (by omega)), e1, x_up2_off (Or.inr (by omega))]
  refine ⟨by rw [e4, x_up2_at, List.length_append]; show _ = ((L.length + 1 : Nat) : Int); omega, fun k t' hk => ?_⟩
  rcases s_ap_get hk with ⟨k1, k2⟩ | ⟨k1, k2⟩
  · rw [q4 _ (by omega), q4 _ (by omega), q4 _ (by omega)]; exact hl k t' k2
  · subst k1; subst k2
    rw [q1, q2, q3]; exact ⟨h1, h2, h3⟩
theorem s_S2_add (h : s_S2 g0 L) (e1 : g1 = x_up2 g0 78 i1.toNatClampNeg a) (e2 : g2 = x_up2 g1 79 i1.toNatClampNeg b) (e3 : g3 = x_up2 g2 80 i1.toNatClampNeg c) (e4 : g4 = x_up2 g3 69 29 n) (k1 : i1.toInt = (g0 69 29).toInt) (k4 : n.toInt = (g0 69 29).toInt + 1) (h1 : a.toInt = t.1) (h2 : b.toInt = t.2.1) (h3 : c.toInt = t.2.2) : s_S2 g4 (L ++ [t]) := by
  obtain ⟨hn, hl⟩ := h
  have c1 := t_clamp (i := i1) (by omega)
  have d1 : ∀ j, g4 78 j = x_up2 g0 78 i1.toNatClampNeg a 78 j := fun j => by rw [e4, x_up2_off (Or.inl (by decide)), e3, x_up2_off (Or.inl (by decide)), e2, x_up2_off (Or.inl (by decide)), e1]
  have d2 : ∀ j, g4 79 j = x_up2 g1 79 i1.toNatClampNeg b 79 j := fun j => by rw [e4, x_up2_off (Or.inl (by decide)), e3, x_up2_off (Or.inl (by decide)), e2]
  have d3 : ∀ j, g4 80 j = x_up2 g2 80 i1.toNatClampNeg c 80 j := fun j => by rw [e4, x_up2_off (Or.inl (by decide)), e3]
  have o1 : ∀ j, g1 79 j = g0 79 j := fun j => by rw [e1, x_up2_off (Or.inl (by decide))]
  have o2 : ∀ j, g2 80 j = g0 80 j := fun j => by rw [e2, x_up2_off (Or.inl (by decide)), e1, x_up2_off (Or.inl (by decide))]
  refine ⟨by rw [e4, x_up2_at, List.length_append]; show _ = ((L.length + 1 : Nat) : Int); omega, fun k t' hk => ?_⟩
  rw [d1, d2, d3]
  rcases s_ap_get hk with ⟨k1, k2⟩ | ⟨k1, k2⟩
  · rw [x_up2_off (Or.inr (by omega)), x_up2_off (Or.inr (by omega)), x_up2_off (Or.inr (by omega)), o1, o2]; exact hl k t' k2
  · subst k2
    rw [show k = i1.toNatClampNeg by omega, x_up2_at, x_up2_at, x_up2_at]; exact ⟨h1, h2, h3⟩
theorem s_cp3 {y z : Int32} (h : ∀ k : Nat, (k : Int) < y.toInt → g0 81 k = g0 78 k ∧ g0 82 k = g0 79 k ∧ g0 83 k = g0 80 k) (e1 : g1 = x_up2 g0 81 y.toNatClampNeg a) (l1 : a = g0 78 y.toNatClampNeg) (e2 : g2 = x_up2 g1 82 y.toNatClampNeg b) (l2 : b = g1 79 y.toNatClampNeg) (e3 : g3 = x_up2 g2 83 y.toNatClampNeg c) (l3 : c = g2 80 y.toNatClampNeg) (h0 : 0 ≤ y.toInt) (hz : z.toInt = y.toInt + 1) : ∀ k : Nat, (k : Int) < z.toInt → g3 81 k = g3 78 k ∧ g3 82 k = g3 79 k ∧ g3 83 k = g3 80 k := by
  intro k hk
  have c1 := t_clamp (i := y) h0
  have o : ∀ q j, q ≠ 81 → q ≠ 82 → q ≠ 83 → g3 q j = g0 q j := fun q j a1 a2 a3 => by rw [e3, x_up2_off (Or.inl a3), e2, x_up2_off (Or.inl a2), e1, x_up2_off (Or.inl a1)]
  rw [o 78 k (by decide) (by decide) (by decide), o 79 k (by decide) (by decide) (by decide), o 80 k (by decide) (by decide) (by decide)]
  have d1 : g3 81 k = x_up2 g0 81 y.toNatClampNeg a 81 k := by rw [e3, x_up2_off (Or.inl (by decide)), e2, x_up2_off (Or.inl (by decide)), e1]
  have d2 : g3 82 k = x_up2 g1 82 y.toNatClampNeg b 82 k := by rw [e3, x_up2_off (Or.inl (by decide)), e2]
  have o2 : g1 82 k = g0 82 k := by rw [e1, x_up2_off (Or.inl (by decide))]
  have o3 : g2 83 k = g0 83 k := by rw [e2, x_up2_off (Or.inl (by decide)), e1, x_up2_off (Or.inl (by decide))]
  rw [d1, d2, e3]
  by_cases hy : k = y.toNatClampNeg
  · subst hy
    rw [x_up2_at, x_up2_at, x_up2_at]
    refine ⟨l1, ?_, ?_⟩
    · rw [l2, e1, x_up2_off (Or.inl (by decide))]
    · rw [l3, e2, x_up2_off (Or.inl (by decide)), e1, x_up2_off (Or.inl (by decide))]
  · rw [x_up2_off (Or.inr hy), x_up2_off (Or.inr hy), x_up2_off (Or.inr hy), o2, o3]
    exact h k (by omega)
/-- they are copied -/
theorem s_S3_of (h : s_S2 g0 L) (h1 : (g 69 30).toInt = (g0 69 29).toInt) (h2 : ∀ k : Nat, (k : Int) < (g0 69 29).toInt → g 81 k = g0 78 k ∧ g 82 k = g0 79 k ∧ g 83 k = g0 80 k) : s_S3 g L := by
  obtain ⟨hn, hl⟩ := h
  refine ⟨h1.trans hn, fun k t hk => ?_⟩
  have hk2 : k < L.length := by
    rcases Nat.lt_or_ge k L.length with h | h
    · exact h
    · rw [List.getElem?_eq_none h] at hk; cases hk
  obtain ⟨a1, a2, a3⟩ := h2 k (by omega)
  rw [a1, a2, a3]; exact hl k t hk
end KEP
/-- what is told of one: the first PORT, the second, the BEATS -/
noncomputable def s_rd (L : s_RL) (k : Nat) (w : Int) : Int := match L[k]? with
  | none => -1
  | some t => if w = 0 then t.1 else if w = 1 then t.2.1 else t.2.2
section TOLD
variable {g : Nat → Nat → Int32} {L : s_RL} {k : Nat} {v z : Int32}
theorem s_rd_g (h : k < L.length) : ∃ t, L[k]? = some t := ⟨L[k], List.getElem?_eq_getElem h⟩
theorem s_rd_0 {t : Int × Int × Int} (h : L[k]? = some t) : s_rd L k 0 = t.1 ∧ s_rd L k 1 = t.2.1 ∧ s_rd L k 2 = t.2.2 := by
  unfold s_rd; rw [h]; exact ⟨rfl, rfl, rfl⟩
end TOLD
noncomputable def s_tO (t : Int × Int × Int) : Prop := 0 ≤ t.1 ∧ ((t.2.1 = -1 ∧ t.2.2 = -1) ∨ (0 ≤ t.2.1 ∧ t.2.1 ≤ 5 ∧ 0 ≤ t.2.2))
noncomputable def s_LO (L : s_RL) : Prop := ∀ (k : Nat) (t : Int × Int × Int), L[k]? = some t → s_tO t
theorem s_6_y {t : Int × Int × Int} (h : s_tO t) (e : s_a6 t.2.1 = 6) : t.2.1 = -1 ∧ t.2.2 = -1 := by
  unfold s_a6 at e
  rcases h.2 with h | h
  · exact h
  · rw [if_neg (by omega)] at e; omega
theorem s_6_n {t : Int × Int × Int} (h : s_tO t) (e : ¬ s_a6 t.2.1 = 6) : s_a6 t.2.1 = t.2.1 ∧ s_a0 t.2.1 t.2.2 = t.2.2 := by
  rcases h.2 with h | h
  · exact absurd (by rw [h.1]; rfl) e
  · exact ⟨s_a6_n h.1, s_a0_n h.1⟩

theorem s_tO_0 {t : Int × Int × Int} (h : s_tO t) : 0 ≤ t.1 := h.1
theorem s_tO_1 {t : Int × Int × Int} (h : s_tO t) (e : s_a6 t.2.1 ≠ 6) : 0 ≤ s_a6 t.2.1 := by
  rw [(s_6_n h e).1]
  rcases h.2 with h2 | h2
  · exact absurd (show s_a6 t.2.1 = 6 by unfold s_a6; rw [if_pos h2.1]) e
  · exact h2.1
theorem s_tO_2 {t : Int × Int × Int} (h : s_tO t) (e : s_a6 t.2.1 ≠ 6) : 0 ≤ s_a0 t.2.1 t.2.2 := by
  rw [(s_6_n h e).2]
  rcases h.2 with h2 | h2
  · exact absurd (show s_a6 t.2.1 = 6 by unfold s_a6; rw [if_pos h2.1]) e
  · exact h2.2.2
/-! ===== printed by riv.py: READINGS: the class ===== -/
noncomputable def wl_d_addReading : List (Nat × Nat) := [(0, 14), (21, 9999)]
noncomputable def Q_d_addReading (gi : Nat → Nat → Int32) (gl : Nat → Nat → Int64) (gr : Nat → Nat → Value) (ar1 : Int32) (ar2 : Int32) (ar3 : Int32) : (Nat → Nat → Int32) → (Nat → Nat → Int64) → (Nat → Nat → Value) → Prop := fun (gi2 : Nat → Nat → Int32) (gl2 : Nat → Nat → Int64) (gr2 : Nat → Nat → Value) => (gi2 0 14).toInt ≤ (gi 0 14).toInt + 1 ∧ (∀ (L : s_RL) (t : Int × Int × Int), s_S1 gi L → (gi 0 14).toInt < 474 → ar1.toInt = t.1 → ar2.toInt = s_a6 t.2.1 → ar3.toInt = s_a0 t.2.1 t.2.2 → s_S1 gi2 (L ++ [t]))
theorem c_d_addReading {X : x_Ext} {d : Nat} {sh : List (Nat ⊕ (Nat × Nat))} {gi : Nat → Nat → Int32} {gl : Nat → Nat → Int64} {gr : Nat → Nat → Value} (hI : t_I sh gi gr) (ar1 : Int32) (ar2 : Int32) (ar3 : Int32) : x_Me X (d + 1) n_X11_addReading [.ref 0, .int ar1, .int ar2, .int ar3] (sh, gi, gl, gr) (t_PN wl_d_addReading sh gi gl gr (Q_d_addReading gi gl gr ar1 ar2 ar3)) := by
  have hX : t_X wl_d_addReading sh gi gl gr gi gl gr := t_X.rf
  refine me_i f_X11_addReading (hI.wf.s rfl) rfl rfl rfl ?_
  obtain ⟨l1, u1⟩ := hI.b (hI.wf.s (k := 0) rfl) (t_bdK rfl : t_bd 10 14 = some (0, 474))
  refine ev_loc f_X11_addReading (nx := 1) rfl rfl rfl rfl ?_
  refine ev_gvI f_X11_addReading (nx := 4) (w := (gi 0 14)) rfl (hI.wf.s rfl) rfl rfl rfl rfl ?_
  refine ev_sp f_X11_addReading (nx := 7) (v := 474) rfl (by decide) rfl ?_
  refine ev_if f_X11_addReading (t1 := 60) (t2 := 10) rfl rfl rfl (fun h2 => ?_) (fun h2 => ?_)
  · have l3 : 474 ≤ (gi 0 14).toInt := t_lel h2 (by decide : (474:Int) ≤ (474:Int32).toInt)
    exact ev_ret f_X11_addReading rfl rfl rfl ⟨_, _, _, rfl, hI, hX, ⟨rfl, (show (gi 0 14).toInt ≤ (gi 0 14).toInt + 1 ∧ (∀ (L : s_RL) (t : Int × Int × Int), s_S1 gi L → (gi 0 14).toInt < 474 → ar1.toInt = t.1 → ar2.toInt = s_a6 t.2.1 → ar3.toInt = s_a0 t.2.1 t.2.2 → s_S1 gi (L ++ [t])) from (by
                                                            refine ⟨by omega, ?_⟩
                                                            intro L t h hk h1 h2 h3
                                                            exact absurd hk (by omega)))⟩⟩
  · have u4 : (gi 0 14).toInt ≤ 473 := t_ltu (t_nle h2) (by decide : (474:Int32).toInt ≤ (474:Int)) rfl
    refine ev_loc f_X11_addReading (nx := 11) rfl rfl rfl rfl ?_
    refine ev_getR f_X11_addReading (nx := 14) rfl (hI.wf.s rfl) rfl rfl (hI.wf.r rfl) rfl rfl ?_
    refine ev_ic f_X11_addReading (nx := 15) (v := 3) rfl (by decide) rfl ?_
    refine ev_loc f_X11_addReading (nx := 16) rfl rfl rfl rfl ?_
    refine ev_gvI f_X11_addReading (nx := 19) (w := (gi 0 14)) rfl (hI.wf.s rfl) rfl rfl rfl rfl ?_
    refine ev_mulL f_X11_addReading (nx := 20) (c := 3) (l := 0) (u := 1419) rfl (by decide) (by decide) l1 u4 rfl rfl (by decide) (by decide) rfl (fun z5 e5 l5 u5 => ?_)
    refine ev_loc f_X11_addReading (nx := 21) rfl rfl rfl rfl ?_
    refine ev_iastT f_X11_addReading (nx := 22) rfl (hI.wf.s rfl) l5 (by decide) u5 (by decide) rfl (hI.astO (hI.wf.s rfl) (Or.inl (by decide)) (by decide +kernel)) (hX.upI (t_inA_ok rfl)) (fun g6 e6 hI hX => ?_)
    refine ev_loc f_X11_addReading (nx := 23) rfl rfl rfl rfl ?_
    refine ev_getR f_X11_addReading (nx := 26) rfl (hI.wf.s rfl) rfl rfl (hI.wf.r rfl) rfl rfl ?_
    refine ev_ic f_X11_addReading (nx := 27) (v := 3) rfl (by decide) rfl ?_
    refine ev_loc f_X11_addReading (nx := 28) rfl rfl rfl rfl ?_
    refine ev_gvI f_X11_addReading (nx := 31) (w := (gi 0 14)) rfl (hI.wf.s rfl) rfl rfl ((by rw [e6]; exact x_up2_off (Or.inl (by decide)) : g6 0 14 = gi 0 14).trans rfl) rfl ?_
    refine ev_mulL f_X11_addReading (nx := 32) (c := 3) (l := 0) (u := 1419) rfl (by decide) (by decide) l1 u4 rfl rfl (by decide) (by decide) rfl (fun z7 e7 l7 u7 => ?_)
    refine ev_ic f_X11_addReading (nx := 33) (v := 1) rfl (by decide) rfl ?_
    refine ev_addC f_X11_addReading (nx := 34) (c := 1) (l := 1) (u := 1420) rfl (by decide) l7 u7 rfl rfl (by decide) (by decide) rfl (fun z8 e8 l8 u8 => ?_)
    refine ev_loc f_X11_addReading (nx := 35) rfl rfl rfl rfl ?_
    refine ev_iastT f_X11_addReading (nx := 36) rfl (hI.wf.s rfl) l8 (by decide) u8 (by decide) rfl (hI.astO (hI.wf.s rfl) (Or.inl (by decide)) (by decide +kernel)) (hX.upI (t_inA_ok rfl)) (fun g9 e9 hI hX => ?_)
    refine ev_loc f_X11_addReading (nx := 37) rfl rfl rfl rfl ?_
    refine ev_getR f_X11_addReading (nx := 40) rfl (hI.wf.s rfl) rfl rfl (hI.wf.r rfl) rfl rfl ?_
    refine ev_ic f_X11_addReading (nx := 41) (v := 3) rfl (by decide) rfl ?_
    refine ev_loc f_X11_addReading (nx := 42) rfl rfl rfl rfl ?_
    refine ev_gvI f_X11_addReading (nx := 45) (w := (gi 0 14)) rfl (hI.wf.s rfl) rfl rfl ((by rw [e9]; exact x_up2_off (Or.inl (by decide)) : g9 0 14 = g6 0 14).trans ((by rw [e6]; exact x_up2_off (Or.inl (by decide)) : g6 0 14 = gi 0 14).trans rfl)) rfl ?_
    refine ev_mulL f_X11_addReading (nx := 46) (c := 3) (l := 0) (u := 1419) rfl (by decide) (by decide) l1 u4 rfl rfl (by decide) (by decide) rfl (fun z10 e10 l10 u10 => ?_)
    refine ev_ic f_X11_addReading (nx := 47) (v := 2) rfl (by decide) rfl ?_
    refine ev_addC f_X11_addReading (nx := 48) (c := 2) (l := 2) (u := 1421) rfl (by decide) l10 u10 rfl rfl (by decide) (by decide) rfl (fun z11 e11 l11 u11 => ?_)
    refine ev_loc f_X11_addReading (nx := 49) rfl rfl rfl rfl ?_
    refine ev_iastT f_X11_addReading (nx := 50) rfl (hI.wf.s rfl) l11 (by decide) u11 (by decide) rfl (hI.astO (hI.wf.s rfl) (Or.inl (by decide)) (by decide +kernel)) (hX.upI (t_inA_ok rfl)) (fun g12 e12 hI hX => ?_)
    refine ev_loc f_X11_addReading (nx := 51) rfl rfl rfl rfl ?_
    refine ev_alu f_X11_addReading (nx := 52) rfl rfl rfl rfl ?_
    refine ev_gvI f_X11_addReading (nx := 55) (w := (gi 0 14)) rfl (hI.wf.s rfl) rfl rfl ((by rw [e12]; exact x_up2_off (Or.inl (by decide)) : g12 0 14 = g9 0 14).trans ((by rw [e9]; exact x_up2_off (Or.inl (by decide)) : g9 0 14 = g6 0 14).trans ((by rw [e6]; exact x_up2_off (Or.inl (by decide)) : g6 0 14 = gi 0 14).trans rfl))) rfl ?_
    refine ev_ic f_X11_addReading (nx := 56) (v := 1) rfl (by decide) rfl ?_
    refine ev_addC f_X11_addReading (nx := 57) (c := 1) (l := 1) (u := 474) rfl (by decide) l1 u4 rfl rfl (by decide) (by decide) rfl (fun z13 e13 l13 u13 => ?_)
    refine ev_putIT f_X11_addReading (nx := 60) rfl (hI.wf.s rfl) rfl rfl rfl (hI.putB (hI.wf.s rfl) rfl rfl l13 (by decide) u13 (by decide)) (hX.upI rfl) (fun g14 e14 hI hX => ?_)
    exact ev_ret f_X11_addReading rfl rfl rfl ⟨_, _, _, rfl, hI, hX, ⟨rfl, (show (g14 0 14).toInt ≤ (gi 0 14).toInt + 1 ∧ (∀ (L : s_RL) (t : Int × Int × Int), s_S1 gi L → (gi 0 14).toInt < 474 → ar1.toInt = t.1 → ar2.toInt = s_a6 t.2.1 → ar3.toInt = s_a0 t.2.1 t.2.2 → s_S1 g14 (L ++ [t])) from (by
                                                            refine ⟨by have ff15 : (g14 0 14).toInt = z13.toInt := congrArg Int32.toInt (by rw [e14]; exact x_up2_at _ _ _ _ : g14 0 14 = z13); omega, ?_⟩
                                                            intro L t h hk h1 h2 h3
                                                            exact s_S1_add h e6 e9 e12 e14 (by omega) (by omega) (by omega) (by omega) h1 h2 h3))⟩⟩
noncomputable def wl_d_readings : List (Nat × Nat) := [(0, 0), (0, 14), (21, 9999)]
noncomputable def Q_d_readings (gi : Nat → Nat → Int32) (gl : Nat → Nat → Int64) (gr : Nat → Nat → Value) (ar1 : Int64) : Int32 → (Nat → Nat → Int32) → (Nat → Nat → Int64) → (Nat → Nat → Value) → Prop := fun (v : Int32) (gi2 : Nat → Nat → Int32) (gl2 : Nat → Nat → Int64) (gr2 : Nat → Nat → Value) => (∀ (u : Nat) (D : s_D), gr 0 6 = .ref u → t_VL gr u → t_CV gi gl u D → t_Cb D → (u = 3 ∨ 102 ≤ u) → (1 ≤ ar1.toInt → s_S1 gi2 (s_rL D ar1) ∧ v.toInt = ((s_rL D ar1).length : Int)) ∧ (ar1.toInt < 1 → v.toInt = -1 ∧ ∀ L, s_S1 gi L → s_S1 gi2 L))
theorem c_d_readings {X : x_Ext} {d : Nat} {sh : List (Nat ⊕ (Nat × Nat))} {gi : Nat → Nat → Int32} {gl : Nat → Nat → Int64} {gr : Nat → Nat → Value} (hI : t_I sh gi gr) (ar1 : Int64) : x_Me X (d + 4) n_X11_readings [.ref 0, .long ar1] (sh, gi, gl, gr) (t_PI wl_d_readings sh gi gl gr (-1) 474 (Q_d_readings gi gl gr ar1)) := by
  have hX : t_X wl_d_readings sh gi gl gr gi gl gr := t_X.rf
  refine me_i f_X11_readings (hI.wf.s rfl) rfl rfl rfl ?_
  obtain ⟨l1, u1⟩ := hI.b (hI.wf.s (k := 0) rfl) (t_bdK rfl : t_bd 10 14 = some (0, 474))
  refine ev_loc f_X11_readings (nx := 1) rfl rfl rfl rfl ?_
  refine ev_lc f_X11_readings (nx := 2) (v := 1) rfl (by decide) rfl ?_
  refine ev_anyIE f_X11_readings (nx := 3) rfl rfl rfl rfl (fun z2 e2 => ?_)
  refine ev_if f_X11_readings (t1 := 12) (t2 := 6) rfl rfl rfl (fun h3 => ?_) (fun h3 => ?_)
  · have l4 : 0 ≤ z2.toInt := t_lel h3 (by decide : (0:Int) ≤ (0:Int32).toInt)
    refine ev_loc f_X11_readings (nx := 13) rfl rfl rfl rfl ?_
    have hlt := (t_lt1r e2 h3)
    refine ev_ic f_X11_readings (nx := 14) (v := 0) rfl (by decide) rfl ?_
    refine ev_putIT f_X11_readings (nx := 17) rfl (hI.wf.s rfl) rfl rfl rfl (hI.putB (hI.wf.s rfl) rfl rfl (by decide : (0:Int) ≤ (0:Int32).toInt) (by decide) (by decide : (0:Int32).toInt ≤ (0:Int)) (by decide)) (hX.upI rfl) (fun g5 e5 hI hX => ?_)
    refine ev_ic f_X11_readings (nx := 18) (v := 0) rfl (by decide) rfl ?_
    refine ev_loc f_X11_readings (nx := 19) (lo' := [(3, .int 0), (0, .ref 0), (1, .long ar1)]) rfl rfl rfl rfl ?_
    have L6 : ∀ (m6 : Nat) (gi6 : Nat → Nat → Int32) (gl6 : Nat → Nat → Int64) (gr6 : Nat → Nat → Value) (y6_3 : Int32), t_I sh gi6 gr6 → t_X wl_d_readings sh gi gl gr gi6 gl6 gr6 → 0 ≤ y6_3.toInt → y6_3.toInt ≤ 6 → (gi6 0 14).toInt ≤ y6_3.toInt → (∀ (u : Nat) (D : s_D), gr 0 6 = .ref u → t_VL gr u → t_CV gi gl u D → t_Cb D → (u = 3 ∨ 102 ≤ u) → s_RI (s_S1 gi6) (s_R1 D ar1 y6_3.toInt) (s_rL D ar1)) → (6 - y6_3.toInt).toNat = m6 → x_Ev X (d + 4) n_X11_readings 19 [(3, .int y6_3), (0, .ref 0), (1, .long ar1)] [] (sh, gi6, gl6, gr6) (t_PI wl_d_readings sh gi gl gr (-1) 474 (Q_d_readings gi gl gr ar1)) := by
      intro m6
      induction m6 using Nat.strongRecOn with
      | _ m6 ih6 =>
      intro gi6 gl6 gr6 y6_3 hI hX l6_3 u6_3 j6_0 j6_1 hm6
      obtain ⟨l7, u7⟩ := hI.b (hI.wf.s (k := 0) rfl) (t_bdK rfl : t_bd 10 14 = some (0, 474))
      refine ev_loc f_X11_readings (nx := 20) rfl rfl rfl rfl ?_
      have hX19 := hX
      refine ev_loc f_X11_readings (nx := 21) rfl rfl rfl rfl ?_
      obtain ⟨a8, e8, p8⟩ := hI.2.2.2.1.1
      refine ev_getR f_X11_readings (nx := 24) rfl (hI.wf.s rfl) rfl rfl e8 rfl rfl ?_
      refine ev_getI f_X11_readings (nx := 27) rfl p8.1 rfl rfl rfl ?_
      obtain ⟨l9, u9⟩ := hI.b p8.1 (t_bdK rfl : t_bd 4 0 = some (0, 6))
      refine ev_if f_X11_readings (t1 := 57) (t2 := 30) rfl rfl rfl (fun h10 => ?_) (fun h10 => ?_)
      · have r11 : (gi6 a8 0).toInt ≤ y6_3.toInt := Int32.le_iff_toInt_le.mp h10
        refine ev_ic f_X11_readings (nx := 58) (v := 0) rfl (by decide) rfl ?_
        refine ev_loc f_X11_readings (nx := 59) (lo' := [(3, .int 0), (0, .ref 0), (1, .long ar1)]) rfl rfl rfl rfl ?_
        have L12 : ∀ (m12 : Nat) (gi12 : Nat → Nat → Int32) (gl12 : Nat → Nat → Int64) (gr12 : Nat → Nat → Value) (y12_3 : Int32), t_I sh gi12 gr12 → t_X wl_d_readings sh gi gl gr gi12 gl12 gr12 → 0 ≤ y12_3.toInt → y12_3.toInt ≤ 6 → (gi12 0 14).toInt ≤ 6 + 78 * y12_3.toInt → (∀ (u : Nat) (D : s_D), gr 0 6 = .ref u → t_VL gr u → t_CV gi gl u D → t_Cb D → (u = 3 ∨ 102 ≤ u) → s_RI (s_S1 gi12) (s_R2 D ar1 y12_3.toInt) (s_rL D ar1)) → (6 - y12_3.toInt).toNat = m12 → x_Ev X (d + 4) n_X11_readings 59 [(3, .int y12_3), (0, .ref 0), (1, .long ar1)] [] (sh, gi12, gl12, gr12) (t_PI wl_d_readings sh gi gl gr (-1) 474 (Q_d_readings gi gl gr ar1)) := by
          intro m12
          induction m12 using Nat.strongRecOn with
          | _ m12 ih12 =>
          intro gi12 gl12 gr12 y12_3 hI hX l12_3 u12_3 j12_0 j12_1 hm12
          obtain ⟨l13, u13⟩ := hI.b (hI.wf.s (k := 0) rfl) (t_bdK rfl : t_bd 10 14 = some (0, 474))
          refine ev_loc f_X11_readings (nx := 60) rfl rfl rfl rfl ?_
          have hX59 := hX
          refine ev_loc f_X11_readings (nx := 61) rfl rfl rfl rfl ?_
          obtain ⟨a14, e14, p14⟩ := hI.2.2.2.1.1
          refine ev_getR f_X11_readings (nx := 64) rfl (hI.wf.s rfl) rfl rfl e14 rfl rfl ?_
          refine ev_getI f_X11_readings (nx := 67) rfl p14.1 rfl rfl rfl ?_
          obtain ⟨l15, u15⟩ := hI.b p14.1 (t_bdK rfl : t_bd 4 0 = some (0, 6))
          refine ev_if f_X11_readings (t1 := 148) (t2 := 70) rfl rfl rfl (fun h16 => ?_) (fun h16 => ?_)
          · have r17 : (gi12 a14 0).toInt ≤ y12_3.toInt := Int32.le_iff_toInt_le.mp h16
            refine ev_loc f_X11_readings (nx := 149) rfl rfl rfl rfl ?_
            refine ev_loc f_X11_readings (nx := 150) rfl rfl rfl rfl ?_
            refine ev_gvI f_X11_readings (nx := 153) (w := (gi12 0 14)) rfl (hI.wf.s rfl) rfl rfl rfl rfl ?_
            refine ev_inV2 f_X11_readings (nx := 156) (lo2 := [(0, .ref 0), (1, .int (gi12 0 14))]) rfl rfl rfl rfl f_X11_answer (hI.wf.s rfl) rfl rfl rfl rfl rfl ?_
            refine ev_loc f_X11_answer (nx := 1) rfl rfl rfl rfl ?_
            refine ev_ic f_X11_answer (nx := 2) (v := 0) rfl (by decide) rfl ?_
            refine ev_putIT f_X11_answer (nx := 5) rfl (hI.wf.s rfl) rfl rfl rfl (hI.put0 (hI.wf.s rfl) rfl rfl) (hX.upI rfl) (fun g18 e18 hI hX => ?_)
            refine ev_loc f_X11_answer (nx := 6) rfl rfl rfl rfl ?_
            refine ev_retK1 f_X11_answer rfl rfl rfl ?_
            exact ev_ret f_X11_readings rfl rfl rfl ⟨_, _, _, rfl, hI, hX, ⟨_, rfl, (Int.le_trans (by decide : ((-1):Int) ≤ 0) l13), u13, (show (∀ (u : Nat) (D : s_D), gr 0 6 = .ref u → t_VL gr u → t_CV gi gl u D → t_Cb D → (u = 3 ∨ 102 ≤ u) → (1 ≤ ar1.toInt → s_S1 g18 (s_rL D ar1) ∧ (gi12 0 14).toInt = ((s_rL D ar1).length : Int)) ∧ (ar1.toInt < 1 → (gi12 0 14).toInt = -1 ∧ ∀ L, s_S1 gi L → s_S1 g18 L)) from (by
                                                            intro u D hu hl hc hb hv
                                                            have g1 := j12_1 u D hu hl hc hb hv
                                                            have hun : gr12 0 6 = .ref u := ((t_F_X hX59) 0 6 (by decide) rfl).2.2.trans hu
                                                            have hKh := t_nd_fr hX59 rfl
                                                            have hlh := hl.fr (fun K k1 k2 => hKh K (by omega))
                                                            have hch := hc.fr (fun K k1 k2 => hKh K (by omega))
                                                            have ha : a14 = u := Value.ref.inj ((e14).symm.trans hun)
                                                            subst ha
                                                            have hm := hch.1.1
                                                            have h1 := hlt
                                                            have g2 := g1.fin (s_R2_e (by omega))
                                                            exact ⟨fun _ => ⟨g2.cg (by rw [e18]; exact x_up2_off (Or.inr (by decide))) (by rw [e18]; exact x_up2_ne (by decide)), g2.1⟩, fun h => absurd h (by omega)⟩))⟩⟩
          · have r19 : y12_3.toInt < (gi12 a14 0).toInt := Int32.lt_iff_toInt_lt.mp (t_nle h16)
            have u20 : y12_3.toInt ≤ 5 := t_ltu (t_nle h16) u15 rfl
            have l21 : 1 ≤ (gi12 a14 0).toInt := t_ltl (t_nle h16) l12_3 rfl
            refine ev_ic f_X11_readings (nx := 71) (v := 0) rfl (by decide) rfl ?_
            refine ev_loc f_X11_readings (nx := 73) (lo' := [(4, .int 0), (3, .int y12_3), (0, .ref 0), (1, .long ar1)]) rfl rfl rfl rfl ?_
            have L22 : ∀ (m22 : Nat) (gi22 : Nat → Nat → Int32) (gl22 : Nat → Nat → Int64) (gr22 : Nat → Nat → Value) (y22_4 : Int32), t_I sh gi22 gr22 → t_X wl_d_readings sh gi gl gr gi22 gl22 gr22 → 0 ≤ y22_4.toInt → y22_4.toInt ≤ 6 → (gi22 0 14).toInt ≤ 6 + 78 * y12_3.toInt + 13 * y22_4.toInt → (∀ (u : Nat) (D : s_D), gr 0 6 = .ref u → t_VL gr u → t_CV gi gl u D → t_Cb D → (u = 3 ∨ 102 ≤ u) → s_RI (s_S1 gi22) (s_R3 D ar1 y12_3.toInt y22_4.toInt) (s_rL D ar1) ∧ y12_3.toInt < D 0) → (6 - y22_4.toInt).toNat = m22 → x_Ev X (d + 4) n_X11_readings 73 [(4, .int y22_4), (3, .int y12_3), (0, .ref 0), (1, .long ar1)] [] (sh, gi22, gl22, gr22) (t_PI wl_d_readings sh gi gl gr (-1) 474 (Q_d_readings gi gl gr ar1)) := by
              intro m22
              induction m22 using Nat.strongRecOn with
              | _ m22 ih22 =>
              intro gi22 gl22 gr22 y22_4 hI hX l22_4 u22_4 j22_0 j22_1 hm22
              obtain ⟨l23, u23⟩ := hI.b (hI.wf.s (k := 0) rfl) (t_bdK rfl : t_bd 10 14 = some (0, 474))
              refine ev_loc f_X11_readings (nx := 75) rfl rfl rfl rfl ?_
              have hX73 := hX
              refine ev_loc f_X11_readings (nx := 76) rfl rfl rfl rfl ?_
              obtain ⟨a24, e24, p24⟩ := hI.2.2.2.1.1
              refine ev_getR f_X11_readings (nx := 79) rfl (hI.wf.s rfl) rfl rfl e24 rfl rfl ?_
              refine ev_getI f_X11_readings (nx := 82) rfl p24.1 rfl rfl rfl ?_
              obtain ⟨l25, u25⟩ := hI.b p24.1 (t_bdK rfl : t_bd 4 0 = some (0, 6))
              refine ev_if f_X11_readings (t1 := 142) (t2 := 85) rfl rfl rfl (fun h26 => ?_) (fun h26 => ?_)
              · have r27 : (gi22 a24 0).toInt ≤ y22_4.toInt := Int32.le_iff_toInt_le.mp h26
                refine ev_incR f_X11_readings (nx := 145) (c := 1) (l := 1) (u := 6) rfl rfl (by decide) (by decide) l12_3 u20 rfl rfl (by decide) (by decide) rfl (fun z28 e28 l28 u28 => ?_)
                refine ev_jmp f_X11_readings (nx := 59) rfl rfl rfl ?_
                refine ev_sub (lo := [(3, .int z28), (0, .ref 0), (1, .long ar1)]) rfl (t_sc rfl (t_sc rfl (t_sc rfl t_sn))) ?_
                exact ih12 _ (by omega) gi22 gl22 gr22 (z28) hI hX  (Int.le_trans (by decide : (0:Int) ≤ 1) l28) u28 (by omega) (by
                                                            intro u D hu hl hc hb hv
                                                            obtain ⟨g1, g2⟩ := j22_1 u D hu hl hc hb hv
                                                            have hun : gr22 0 6 = .ref u := ((t_F_X hX73) 0 6 (by decide) rfl).2.2.trans hu
                                                            have hKh := t_nd_fr hX73 rfl
                                                            have hlh := hl.fr (fun K k1 k2 => hKh K (by omega))
                                                            have hch := hc.fr (fun K k1 k2 => hKh K (by omega))
                                                            have ha : a24 = u := Value.ref.inj ((e24).symm.trans hun)
                                                            subst ha
                                                            have hm := hch.1.1
                                                            exact g1.cg ((s_R3_e (by omega)).trans (by rw [show z28.toInt = y12_3.toInt + 1 by omega]))) rfl
              · have r29 : y22_4.toInt < (gi22 a24 0).toInt := Int32.lt_iff_toInt_lt.mp (t_nle h26)
                have u30 : y22_4.toInt ≤ 5 := t_ltu (t_nle h26) u25 rfl
                have l31 : 1 ≤ (gi22 a24 0).toInt := t_ltl (t_nle h26) l22_4 rfl
                refine ev_loc f_X11_readings (nx := 86) rfl rfl rfl rfl ?_
                refine ev_getR f_X11_readings (nx := 89) (v := .ref a24) rfl (hI.wf.s rfl) rfl rfl e24 rfl rfl ?_
                refine ev_loc f_X11_readings (nx := 90) rfl rfl rfl rfl ?_
                refine ev_loc f_X11_readings (nx := 92) rfl rfl rfl rfl ?_
                refine ev_inV3 f_X11_readings (nx := 95) (lo2 := [(0, .ref a24), (1, .int y12_3), (2, .int y22_4)]) rfl rfl rfl rfl f_X5_leastBeats p24.1 rfl rfl rfl rfl rfl ?_
                refine ev_loc f_X5_leastBeats (nx := 1) rfl rfl rfl rfl ?_
                refine ev_loc f_X5_leastBeats (nx := 2) rfl rfl rfl rfl ?_
                refine ev_if f_X5_leastBeats (t1 := 9) (t2 := 5) rfl rfl rfl (fun h32 => ?_) (fun h32 => ?_)
                · have r33 : y12_3.toInt ≤ y22_4.toInt := Int32.le_iff_toInt_le.mp h32
                  refine ev_ic f_X5_leastBeats (nx := 10) (v := 0) rfl (by decide) rfl ?_
                  refine ev_retK1 f_X5_leastBeats rfl rfl rfl ?_
                  refine ev_loc f_X11_readings (nx := 97) (lo' := [(5, .int 0), (4, .int y22_4), (3, .int y12_3), (0, .ref 0), (1, .long ar1)]) rfl rfl rfl rfl ?_
                  have L34 : ∀ (m34 : Nat) (gi34 : Nat → Nat → Int32) (gl34 : Nat → Nat → Int64) (gr34 : Nat → Nat → Value) (y34_5 : Int32), t_I sh gi34 gr34 → t_X wl_d_readings sh gi gl gr gi34 gl34 gr34 → 0 ≤ y34_5.toInt → y34_5.toInt ≤ 13 → (gi34 0 14).toInt ≤ 6 + 78 * y12_3.toInt + 13 * y22_4.toInt + y34_5.toInt → (∀ (u : Nat) (D : s_D), gr 0 6 = .ref u → t_VL gr u → t_CV gi gl u D → t_Cb D → (u = 3 ∨ 102 ≤ u) → s_RI (s_S1 gi34) (s_R4 D ar1 y12_3.toInt y22_4.toInt y34_5.toInt) (s_rL D ar1) ∧ y12_3.toInt < D 0 ∧ y22_4.toInt < D 0) → (13 - y34_5.toInt).toNat = m34 → x_Ev X (d + 4) n_X11_readings 97 [(5, .int y34_5), (4, .int y22_4), (3, .int y12_3), (0, .ref 0), (1, .long ar1)] [] (sh, gi34, gl34, gr34) (t_PI wl_d_readings sh gi gl gr (-1) 474 (Q_d_readings gi gl gr ar1)) := by
                    intro m34
                    induction m34 using Nat.strongRecOn with
                    | _ m34 ih34 =>
                    intro gi34 gl34 gr34 y34_5 hI hX l34_5 u34_5 j34_0 j34_1 hm34
                    obtain ⟨l35, u35⟩ := hI.b (hI.wf.s (k := 0) rfl) (t_bdK rfl : t_bd 10 14 = some (0, 474))
                    refine ev_loc f_X11_readings (nx := 99) rfl rfl rfl rfl ?_
                    have hX97 := hX
                    refine ev_bp f_X11_readings (nx := 101) (v := 12) rfl (by decide) rfl ?_
                    refine ev_if f_X11_readings (t1 := 136) (t2 := 104) rfl rfl rfl (fun h36 => ?_) (fun h36 => ?_)
                    · have l37 : 13 ≤ y34_5.toInt := t_ltl h36 (by decide : (12:Int) ≤ (12:Int32).toInt) rfl
                      refine ev_incR f_X11_readings (nx := 139) (c := 1) (l := 1) (u := 6) rfl rfl (by decide) (by decide) l22_4 u30 rfl rfl (by decide) (by decide) rfl (fun z38 e38 l38 u38 => ?_)
                      refine ev_jmp f_X11_readings (nx := 73) rfl rfl rfl ?_
                      refine ev_sub (lo := [(4, .int z38), (3, .int y12_3), (0, .ref 0), (1, .long ar1)]) rfl (t_sc rfl (t_sc rfl (t_sc rfl (t_sc rfl t_sn)))) ?_
                      exact ih22 _ (by omega) gi34 gl34 gr34 (z38) hI hX  (Int.le_trans (by decide : (0:Int) ≤ 1) l38) u38 (by omega) (by
                                                            intro u D hu hl hc hb hv
                                                            obtain ⟨g1, g2, g3⟩ := j34_1 u D hu hl hc hb hv
                                                            exact ⟨g1.cg ((s_R4_e (by omega)).trans (by rw [show z38.toInt = y22_4.toInt + 1 by omega])), by omega⟩) rfl
                    · have u39 : y34_5.toInt ≤ 12 := t_leu (t_nlt h36) (by decide : (12:Int32).toInt ≤ (12:Int))
                      refine ev_loc f_X11_readings (nx := 105) rfl rfl rfl rfl ?_
                      obtain ⟨a40, e40, p40⟩ := hI.2.2.2.1.1
                      refine ev_getR f_X11_readings (nx := 108) rfl (hI.wf.s rfl) rfl rfl e40 rfl rfl ?_
                      refine ev_loc f_X11_readings (nx := 109) rfl rfl rfl rfl ?_
                      refine ev_loc f_X11_readings (nx := 111) rfl rfl rfl rfl ?_
                      refine ev_loc f_X11_readings (nx := 113) rfl rfl rfl rfl ?_
                      refine ev_inV4 f_X11_readings (nx := 116) (lo2 := [(0, .ref a40), (1, .int y12_3), (2, .int y22_4), (3, .int y34_5)]) rfl rfl rfl rfl f_X5_bothHeard p40.1 rfl rfl rfl rfl rfl ?_
                      refine ev_loc f_X5_bothHeard (nx := 1) rfl rfl rfl rfl ?_
                      refine ev_loc f_X5_bothHeard (nx := 2) rfl rfl rfl rfl ?_
                      refine ev_qL0 f_X5_bothHeard (nx := 5) (r := []) rfl rfl rfl rfl rfl rfl rfl (c_d_heardOf hI (a40) p40 (y12_3)) rfl (fun w41 q41 => ?_)
                      have q41 : ∀ D : s_D, t_VL gr34 a40 → t_CV gi34 gl34 a40 D → w41 = s_hd D y12_3.toInt := q41
                      refine ev_loc f_X5_bothHeard (nx := 6) rfl rfl rfl rfl ?_
                      refine ev_loc f_X5_bothHeard (nx := 7) rfl rfl rfl rfl ?_
                      refine ev_qL0 f_X5_bothHeard (nx := 10) (r := [.long w41]) rfl rfl rfl rfl rfl rfl rfl (c_d_heardOf hI (a40) p40 (y22_4)) rfl (fun w42 q42 => ?_)
                      have q42 : ∀ D : s_D, t_VL gr34 a40 → t_CV gi34 gl34 a40 D → w42 = s_hd D y22_4.toInt := q42
                      refine ev_loc f_X5_bothHeard (nx := 11) rfl rfl rfl rfl ?_
                      refine ev_anyLE f_X5_bothHeard (nx := 12) rfl rfl rfl rfl (fun z43 e43 => ?_)
                      refine ev_anyLE f_X5_bothHeard (nx := 13) rfl rfl rfl rfl (fun z44 e44 => ?_)
                      refine ev_retK1 f_X5_bothHeard rfl rfl rfl ?_
                      refine ev_loc f_X11_readings (nx := 117) rfl rfl rfl rfl ?_
                      refine ev_anyIE f_X11_readings (nx := 118) rfl rfl rfl rfl (fun z45 e45 => ?_)
                      refine ev_if f_X11_readings (t1 := 121) (t2 := 130) rfl rfl rfl (fun h46 => ?_) (fun h46 => ?_)
                      · have u47 : z45.toInt ≤ 0 := t_equ h46 (by decide : (0:Int32).toInt ≤ (0:Int))
                        have l48 : 0 ≤ z45.toInt := t_eql h46 (by decide : (0:Int) ≤ (0:Int32).toInt)
                        refine ev_loc f_X11_readings (nx := 122) rfl rfl rfl rfl ?_
                        refine ev_loc f_X11_readings (nx := 123) rfl rfl rfl rfl ?_
                        refine ev_loc f_X11_readings (nx := 125) rfl rfl rfl rfl ?_
                        refine ev_loc f_X11_readings (nx := 127) rfl rfl rfl rfl ?_
                        refine ev_qN f_X11_readings (nx := 130) (r := []) rfl rfl rfl rfl rfl rfl rfl (c_d_addReading hI (y12_3) (y22_4) (y34_5)) rfl hX rfl (fun gi49 gl49 gr49 hI hX hC49 q49 => ?_)
                        have q49 : (gi49 0 14).toInt ≤ (gi34 0 14).toInt + 1 ∧ (∀ (L : s_RL) (t : Int × Int × Int), s_S1 gi34 L → (gi34 0 14).toInt < 474 → y12_3.toInt = t.1 → y22_4.toInt = s_a6 t.2.1 → y34_5.toInt = s_a0 t.2.1 t.2.2 → s_S1 gi49 (L ++ [t])) := q49
                        replace p40 := p40.ext hC49.2
                        obtain ⟨l50, u50⟩ := hI.b (hI.wf.s (k := 0) rfl) (t_bdK rfl : t_bd 10 14 = some (0, 474))
                        refine ev_incR f_X11_readings (nx := 133) (c := 1) (l := 1) (u := 13) rfl rfl (by decide) (by decide) l34_5 u39 rfl rfl (by decide) (by decide) rfl (fun z51 e51 l51 u51 => ?_)
                        refine ev_jmp f_X11_readings (nx := 97) rfl rfl rfl ?_
                        refine ev_sub (lo := [(5, .int z51), (4, .int y22_4), (3, .int y12_3), (0, .ref 0), (1, .long ar1)]) rfl (t_sc rfl (t_sc rfl (t_sc rfl (t_sc rfl (t_sc rfl t_sn))))) ?_
                        exact ih34 _ (by omega) gi49 gl49 gr49 (z51) hI hX  (Int.le_trans (by decide : (0:Int) ≤ 1) l51) u51 (by omega) (by
                                                            intro u D hu hl hc hb hv
                                                            obtain ⟨g1, g2, g3⟩ := j34_1 u D hu hl hc hb hv
                                                            have hun : gr34 0 6 = .ref u := ((t_F_X hX97) 0 6 (by decide) rfl).2.2.trans hu
                                                            have hKh := t_nd_fr hX97 rfl
                                                            have hlh := hl.fr (fun K k1 k2 => hKh K (by omega))
                                                            have hch := hc.fr (fun K k1 k2 => hKh K (by omega))
                                                            have ha : a40 = u := Value.ref.inj ((e40).symm.trans hun)
                                                            subst ha
                                                            have hm := hch.1.1
                                                            have hw := s_bw_e (q41 D hlh hch) (q42 D hlh hch) e43 e44
                                                            have hne := (t_le0 e45 h46)
                                                            rw [hw] at hne
                                                            exact ⟨(g1.add (s_R4_y (by omega) hne) (fun L hL => q49.2 L _ hL (by omega) rfl (s_a6_n (by omega)).symm (s_a0_n (by omega)).symm)).cg (by rw [show z51.toInt = y34_5.toInt + 1 by omega]), g2, g3⟩) rfl
                      · have r52 : z45.toInt ≠ 0 := fun e => h46 (Int32.toInt_inj.mp (e.trans (by decide : (0:Int) = (0 : Int32).toInt)))
                        refine ev_incR f_X11_readings (nx := 133) (c := 1) (l := 1) (u := 13) rfl rfl (by decide) (by decide) l34_5 u39 rfl rfl (by decide) (by decide) rfl (fun z53 e53 l53 u53 => ?_)
                        refine ev_jmp f_X11_readings (nx := 97) rfl rfl rfl ?_
                        refine ev_sub (lo := [(5, .int z53), (4, .int y22_4), (3, .int y12_3), (0, .ref 0), (1, .long ar1)]) rfl (t_sc rfl (t_sc rfl (t_sc rfl (t_sc rfl (t_sc rfl t_sn))))) ?_
                        exact ih34 _ (by omega) gi34 gl34 gr34 (z53) hI hX  (Int.le_trans (by decide : (0:Int) ≤ 1) l53) u53 (by omega) (by
                                                            intro u D hu hl hc hb hv
                                                            obtain ⟨g1, g2, g3⟩ := j34_1 u D hu hl hc hb hv
                                                            have hun : gr34 0 6 = .ref u := ((t_F_X hX97) 0 6 (by decide) rfl).2.2.trans hu
                                                            have hKh := t_nd_fr hX97 rfl
                                                            have hlh := hl.fr (fun K k1 k2 => hKh K (by omega))
                                                            have hch := hc.fr (fun K k1 k2 => hKh K (by omega))
                                                            have ha : a40 = u := Value.ref.inj ((e40).symm.trans hun)
                                                            subst ha
                                                            have hm := hch.1.1
                                                            have hw := s_bw_e (q41 D hlh hch) (q42 D hlh hch) e43 e44
                                                            have hne := (t_le1 e45 h46)
                                                            rw [hw] at hne
                                                            exact ⟨g1.cg ((s_R4_n (by omega) hne).trans (by rw [show z53.toInt = y34_5.toInt + 1 by omega])), g2, g3⟩) rfl
                  refine ev_sub (lo := [(5, .int 0), (4, .int y22_4), (3, .int y12_3), (0, .ref 0), (1, .long ar1)]) rfl (t_sc rfl (t_sc rfl (t_sc rfl (t_sc rfl (t_sc rfl t_sn))))) ?_
                  exact L34 _ gi22 gl22 gr22 (0) hI hX  (by decide : (0:Int) ≤ (0:Int32).toInt) (Int.le_trans (by decide : (0:Int32).toInt ≤ (0:Int)) (by decide : (0:Int) ≤ 13)) (by have kf54 : (0 : Int32).toInt = 0 := (by decide); omega) (by
                                                            intro u D hu hl hc hb hv
                                                            obtain ⟨g1, g2⟩ := j22_1 u D hu hl hc hb hv
                                                            have hun : gr22 0 6 = .ref u := ((t_F_X hX73) 0 6 (by decide) rfl).2.2.trans hu
                                                            have hKh := t_nd_fr hX73 rfl
                                                            have hlh := hl.fr (fun K k1 k2 => hKh K (by omega))
                                                            have hch := hc.fr (fun K k1 k2 => hKh K (by omega))
                                                            have ha : a24 = u := Value.ref.inj ((e24).symm.trans hun)
                                                            subst ha
                                                            have hm := hch.1.1
                                                            have hl2 : s_lb y12_3.toInt y22_4.toInt = (0 : Int32).toInt := s_lb_0 (by omega)
                                                            exact ⟨g1.cg ((s_R3_s (by omega)).trans (by rw [hl2])), g2, by omega⟩) rfl
                · have r55 : y22_4.toInt < y12_3.toInt := Int32.lt_iff_toInt_lt.mp (t_nle h32)
                  have u56 : y22_4.toInt ≤ 4 := t_ltu (t_nle h32) u20 rfl
                  have l57 : 1 ≤ y12_3.toInt := t_ltl (t_nle h32) l22_4 rfl
                  refine ev_ic f_X5_leastBeats (nx := 6) (v := 1) rfl (by decide) rfl ?_
                  refine ev_jmp f_X5_leastBeats (nx := 10) rfl rfl rfl ?_
                  refine ev_retK1 f_X5_leastBeats rfl rfl rfl ?_
                  refine ev_loc f_X11_readings (nx := 97) (lo' := [(5, .int 1), (4, .int y22_4), (3, .int y12_3), (0, .ref 0), (1, .long ar1)]) rfl rfl rfl rfl ?_
                  have L58 : ∀ (m58 : Nat) (gi58 : Nat → Nat → Int32) (gl58 : Nat → Nat → Int64) (gr58 : Nat → Nat → Value) (y58_5 : Int32), t_I sh gi58 gr58 → t_X wl_d_readings sh gi gl gr gi58 gl58 gr58 → 0 ≤ y58_5.toInt → y58_5.toInt ≤ 13 → (gi58 0 14).toInt ≤ 6 + 78 * y12_3.toInt + 13 * y22_4.toInt + y58_5.toInt → (∀ (u : Nat) (D : s_D), gr 0 6 = .ref u → t_VL gr u → t_CV gi gl u D → t_Cb D → (u = 3 ∨ 102 ≤ u) → s_RI (s_S1 gi58) (s_R4 D ar1 y12_3.toInt y22_4.toInt y58_5.toInt) (s_rL D ar1) ∧ y12_3.toInt < D 0 ∧ y22_4.toInt < D 0) → (13 - y58_5.toInt).toNat = m58 → x_Ev X (d + 4) n_X11_readings 97 [(5, .int y58_5), (4, .int y22_4), (3, .int y12_3), (0, .ref 0), (1, .long ar1)] [] (sh, gi58, gl58, gr58) (t_PI wl_d_readings sh gi gl gr (-1) 474 (Q_d_readings gi gl gr ar1)) := by
                    intro m58
                    induction m58 using Nat.strongRecOn with
                    | _ m58 ih58 =>
                    intro gi58 gl58 gr58 y58_5 hI hX l58_5 u58_5 j58_0 j58_1 hm58
                    obtain ⟨l59, u59⟩ := hI.b (hI.wf.s (k := 0) rfl) (t_bdK rfl : t_bd 10 14 = some (0, 474))
                    refine ev_loc f_X11_readings (nx := 99) rfl rfl rfl rfl ?_
                    have hX97 := hX
                    refine ev_bp f_X11_readings (nx := 101) (v := 12) rfl (by decide) rfl ?_
                    refine ev_if f_X11_readings (t1 := 136) (t2 := 104) rfl rfl rfl (fun h60 => ?_) (fun h60 => ?_)
                    · have l61 : 13 ≤ y58_5.toInt := t_ltl h60 (by decide : (12:Int) ≤ (12:Int32).toInt) rfl
                      refine ev_incR f_X11_readings (nx := 139) (c := 1) (l := 1) (u := 5) rfl rfl (by decide) (by decide) l22_4 u56 rfl rfl (by decide) (by decide) rfl (fun z62 e62 l62 u62 => ?_)
                      refine ev_jmp f_X11_readings (nx := 73) rfl rfl rfl ?_
                      refine ev_sub (lo := [(4, .int z62), (3, .int y12_3), (0, .ref 0), (1, .long ar1)]) rfl (t_sc rfl (t_sc rfl (t_sc rfl (t_sc rfl t_sn)))) ?_
                      exact ih22 _ (by omega) gi58 gl58 gr58 (z62) hI hX  (Int.le_trans (by decide : (0:Int) ≤ 1) l62) (Int.le_trans u62 (by decide : (5:Int) ≤ 6)) (by omega) (by
                                                            intro u D hu hl hc hb hv
                                                            obtain ⟨g1, g2, g3⟩ := j58_1 u D hu hl hc hb hv
                                                            exact ⟨g1.cg ((s_R4_e (by omega)).trans (by rw [show z62.toInt = y22_4.toInt + 1 by omega])), by omega⟩) rfl
                    · have u63 : y58_5.toInt ≤ 12 := t_leu (t_nlt h60) (by decide : (12:Int32).toInt ≤ (12:Int))
                      refine ev_loc f_X11_readings (nx := 105) rfl rfl rfl rfl ?_
                      obtain ⟨a64, e64, p64⟩ := hI.2.2.2.1.1
                      refine ev_getR f_X11_readings (nx := 108) rfl (hI.wf.s rfl) rfl rfl e64 rfl rfl ?_
                      refine ev_loc f_X11_readings (nx := 109) rfl rfl rfl rfl ?_
                      refine ev_loc f_X11_readings (nx := 111) rfl rfl rfl rfl ?_
                      refine ev_loc f_X11_readings (nx := 113) rfl rfl rfl rfl ?_
                      refine ev_inV4 f_X11_readings (nx := 116) (lo2 := [(0, .ref a64), (1, .int y12_3), (2, .int y22_4), (3, .int y58_5)]) rfl rfl rfl rfl f_X5_bothHeard p64.1 rfl rfl rfl rfl rfl ?_
                      refine ev_loc f_X5_bothHeard (nx := 1) rfl rfl rfl rfl ?_
                      refine ev_loc f_X5_bothHeard (nx := 2) rfl rfl rfl rfl ?_
                      refine ev_qL0 f_X5_bothHeard (nx := 5) (r := []) rfl rfl rfl rfl rfl rfl rfl (c_d_heardOf hI (a64) p64 (y12_3)) rfl (fun w65 q65 => ?_)
                      have q65 : ∀ D : s_D, t_VL gr58 a64 → t_CV gi58 gl58 a64 D → w65 = s_hd D y12_3.toInt := q65
                      refine ev_loc f_X5_bothHeard (nx := 6) rfl rfl rfl rfl ?_
                      refine ev_loc f_X5_bothHeard (nx := 7) rfl rfl rfl rfl ?_
                      refine ev_qL0 f_X5_bothHeard (nx := 10) (r := [.long w65]) rfl rfl rfl rfl rfl rfl rfl (c_d_heardOf hI (a64) p64 (y22_4)) rfl (fun w66 q66 => ?_)
                      have q66 : ∀ D : s_D, t_VL gr58 a64 → t_CV gi58 gl58 a64 D → w66 = s_hd D y22_4.toInt := q66
                      refine ev_loc f_X5_bothHeard (nx := 11) rfl rfl rfl rfl ?_
                      refine ev_anyLE f_X5_bothHeard (nx := 12) rfl rfl rfl rfl (fun z67 e67 => ?_)
                      refine ev_anyLE f_X5_bothHeard (nx := 13) rfl rfl rfl rfl (fun z68 e68 => ?_)
                      refine ev_retK1 f_X5_bothHeard rfl rfl rfl ?_
                      refine ev_loc f_X11_readings (nx := 117) rfl rfl rfl rfl ?_
                      refine ev_anyIE f_X11_readings (nx := 118) rfl rfl rfl rfl (fun z69 e69 => ?_)
                      refine ev_if f_X11_readings (t1 := 121) (t2 := 130) rfl rfl rfl (fun h70 => ?_) (fun h70 => ?_)
                      · have u71 : z69.toInt ≤ 0 := t_equ h70 (by decide : (0:Int32).toInt ≤ (0:Int))
                        have l72 : 0 ≤ z69.toInt := t_eql h70 (by decide : (0:Int) ≤ (0:Int32).toInt)
                        refine ev_loc f_X11_readings (nx := 122) rfl rfl rfl rfl ?_
                        refine ev_loc f_X11_readings (nx := 123) rfl rfl rfl rfl ?_
                        refine ev_loc f_X11_readings (nx := 125) rfl rfl rfl rfl ?_
                        refine ev_loc f_X11_readings (nx := 127) rfl rfl rfl rfl ?_
                        refine ev_qN f_X11_readings (nx := 130) (r := []) rfl rfl rfl rfl rfl rfl rfl (c_d_addReading hI (y12_3) (y22_4) (y58_5)) rfl hX rfl (fun gi73 gl73 gr73 hI hX hC73 q73 => ?_)
                        have q73 : (gi73 0 14).toInt ≤ (gi58 0 14).toInt + 1 ∧ (∀ (L : s_RL) (t : Int × Int × Int), s_S1 gi58 L → (gi58 0 14).toInt < 474 → y12_3.toInt = t.1 → y22_4.toInt = s_a6 t.2.1 → y58_5.toInt = s_a0 t.2.1 t.2.2 → s_S1 gi73 (L ++ [t])) := q73
                        replace p64 := p64.ext hC73.2
                        obtain ⟨l74, u74⟩ := hI.b (hI.wf.s (k := 0) rfl) (t_bdK rfl : t_bd 10 14 = some (0, 474))
                        refine ev_incR f_X11_readings (nx := 133) (c := 1) (l := 1) (u := 13) rfl rfl (by decide) (by decide) l58_5 u63 rfl rfl (by decide) (by decide) rfl (fun z75 e75 l75 u75 => ?_)
                        refine ev_jmp f_X11_readings (nx := 97) rfl rfl rfl ?_
                        refine ev_sub (lo := [(5, .int z75), (4, .int y22_4), (3, .int y12_3), (0, .ref 0), (1, .long ar1)]) rfl (t_sc rfl (t_sc rfl (t_sc rfl (t_sc rfl (t_sc rfl t_sn))))) ?_
                        exact ih58 _ (by omega) gi73 gl73 gr73 (z75) hI hX  (Int.le_trans (by decide : (0:Int) ≤ 1) l75) u75 (by omega) (by
                                                            intro u D hu hl hc hb hv
                                                            obtain ⟨g1, g2, g3⟩ := j58_1 u D hu hl hc hb hv
                                                            have hun : gr58 0 6 = .ref u := ((t_F_X hX97) 0 6 (by decide) rfl).2.2.trans hu
                                                            have hKh := t_nd_fr hX97 rfl
                                                            have hlh := hl.fr (fun K k1 k2 => hKh K (by omega))
                                                            have hch := hc.fr (fun K k1 k2 => hKh K (by omega))
                                                            have ha : a64 = u := Value.ref.inj ((e64).symm.trans hun)
                                                            subst ha
                                                            have hm := hch.1.1
                                                            have hw := s_bw_e (q65 D hlh hch) (q66 D hlh hch) e67 e68
                                                            have hne := (t_le0 e69 h70)
                                                            rw [hw] at hne
                                                            exact ⟨(g1.add (s_R4_y (by omega) hne) (fun L hL => q73.2 L _ hL (by omega) rfl (s_a6_n (by omega)).symm (s_a0_n (by omega)).symm)).cg (by rw [show z75.toInt = y58_5.toInt + 1 by omega]), g2, g3⟩) rfl
                      · have r76 : z69.toInt ≠ 0 := fun e => h70 (Int32.toInt_inj.mp (e.trans (by decide : (0:Int) = (0 : Int32).toInt)))
                        refine ev_incR f_X11_readings (nx := 133) (c := 1) (l := 1) (u := 13) rfl rfl (by decide) (by decide) l58_5 u63 rfl rfl (by decide) (by decide) rfl (fun z77 e77 l77 u77 => ?_)
                        refine ev_jmp f_X11_readings (nx := 97) rfl rfl rfl ?_
                        refine ev_sub (lo := [(5, .int z77), (4, .int y22_4), (3, .int y12_3), (0, .ref 0), (1, .long ar1)]) rfl (t_sc rfl (t_sc rfl (t_sc rfl (t_sc rfl (t_sc rfl t_sn))))) ?_
                        exact ih58 _ (by omega) gi58 gl58 gr58 (z77) hI hX  (Int.le_trans (by decide : (0:Int) ≤ 1) l77) u77 (by omega) (by
                                                            intro u D hu hl hc hb hv
                                                            obtain ⟨g1, g2, g3⟩ := j58_1 u D hu hl hc hb hv
                                                            have hun : gr58 0 6 = .ref u := ((t_F_X hX97) 0 6 (by decide) rfl).2.2.trans hu
                                                            have hKh := t_nd_fr hX97 rfl
                                                            have hlh := hl.fr (fun K k1 k2 => hKh K (by omega))
                                                            have hch := hc.fr (fun K k1 k2 => hKh K (by omega))
                                                            have ha : a64 = u := Value.ref.inj ((e64).symm.trans hun)
                                                            subst ha
                                                            have hm := hch.1.1
                                                            have hw := s_bw_e (q65 D hlh hch) (q66 D hlh hch) e67 e68
                                                            have hne := (t_le1 e69 h70)
                                                            rw [hw] at hne
                                                            exact ⟨g1.cg ((s_R4_n (by omega) hne).trans (by rw [show z77.toInt = y58_5.toInt + 1 by omega])), g2, g3⟩) rfl
                  refine ev_sub (lo := [(5, .int 1), (4, .int y22_4), (3, .int y12_3), (0, .ref 0), (1, .long ar1)]) rfl (t_sc rfl (t_sc rfl (t_sc rfl (t_sc rfl (t_sc rfl t_sn))))) ?_
                  exact L58 _ gi22 gl22 gr22 (1) hI hX  (Int.le_trans (by decide : (0:Int) ≤ 1) (by decide : (1:Int) ≤ (1:Int32).toInt)) (Int.le_trans (by decide : (1:Int32).toInt ≤ (1:Int)) (by decide : (1:Int) ≤ 13)) (by have kf78 : (1 : Int32).toInt = 1 := (by decide); omega) (by
                                                            intro u D hu hl hc hb hv
                                                            obtain ⟨g1, g2⟩ := j22_1 u D hu hl hc hb hv
                                                            have hun : gr22 0 6 = .ref u := ((t_F_X hX73) 0 6 (by decide) rfl).2.2.trans hu
                                                            have hKh := t_nd_fr hX73 rfl
                                                            have hlh := hl.fr (fun K k1 k2 => hKh K (by omega))
                                                            have hch := hc.fr (fun K k1 k2 => hKh K (by omega))
                                                            have ha : a24 = u := Value.ref.inj ((e24).symm.trans hun)
                                                            subst ha
                                                            have hm := hch.1.1
                                                            have hl2 : s_lb y12_3.toInt y22_4.toInt = (1 : Int32).toInt := s_lb_1 (by omega)
                                                            exact ⟨g1.cg ((s_R3_s (by omega)).trans (by rw [hl2])), g2, by omega⟩) rfl
            refine ev_sub (lo := [(4, .int 0), (3, .int y12_3), (0, .ref 0), (1, .long ar1)]) rfl (t_sc rfl (t_sc rfl (t_sc rfl (t_sc rfl t_sn)))) ?_
            exact L22 _ gi12 gl12 gr12 (0) hI hX  (by decide : (0:Int) ≤ (0:Int32).toInt) (Int.le_trans (by decide : (0:Int32).toInt ≤ (0:Int)) (by decide : (0:Int) ≤ 6)) (by have kf79 : (0 : Int32).toInt = 0 := (by decide); omega) (by
                                                            intro u D hu hl hc hb hv
                                                            have g1 := j12_1 u D hu hl hc hb hv
                                                            have hun : gr12 0 6 = .ref u := ((t_F_X hX59) 0 6 (by decide) rfl).2.2.trans hu
                                                            have hKh := t_nd_fr hX59 rfl
                                                            have hlh := hl.fr (fun K k1 k2 => hKh K (by omega))
                                                            have hch := hc.fr (fun K k1 k2 => hKh K (by omega))
                                                            have ha : a14 = u := Value.ref.inj ((e14).symm.trans hun)
                                                            subst ha
                                                            have hm := hch.1.1
                                                            exact ⟨g1.cg (s_R2_s (by omega)), by omega⟩) rfl
        refine ev_sub (lo := [(3, .int 0), (0, .ref 0), (1, .long ar1)]) rfl (t_sc rfl (t_sc rfl (t_sc rfl t_sn))) ?_
        exact L12 _ gi6 gl6 gr6 (0) hI hX  (by decide : (0:Int) ≤ (0:Int32).toInt) (Int.le_trans (by decide : (0:Int32).toInt ≤ (0:Int)) (by decide : (0:Int) ≤ 6)) (by have kf80 : (0 : Int32).toInt = 0 := (by decide); omega) (by
                                                            intro u D hu hl hc hb hv
                                                            have g1 := j6_1 u D hu hl hc hb hv
                                                            have hun : gr6 0 6 = .ref u := ((t_F_X hX19) 0 6 (by decide) rfl).2.2.trans hu
                                                            have hKh := t_nd_fr hX19 rfl
                                                            have hlh := hl.fr (fun K k1 k2 => hKh K (by omega))
                                                            have hch := hc.fr (fun K k1 k2 => hKh K (by omega))
                                                            have ha : a8 = u := Value.ref.inj ((e8).symm.trans hun)
                                                            subst ha
                                                            have hm := hch.1.1
                                                            exact g1.cg (s_R1_e (by omega))) rfl
      · have r81 : y6_3.toInt < (gi6 a8 0).toInt := Int32.lt_iff_toInt_lt.mp (t_nle h10)
        have u82 : y6_3.toInt ≤ 5 := t_ltu (t_nle h10) u9 rfl
        have l83 : 1 ≤ (gi6 a8 0).toInt := t_ltl (t_nle h10) l6_3 rfl
        refine ev_loc f_X11_readings (nx := 31) rfl rfl rfl rfl ?_
        refine ev_getR f_X11_readings (nx := 34) (v := .ref a8) rfl (hI.wf.s rfl) rfl rfl e8 rfl rfl ?_
        refine ev_loc f_X11_readings (nx := 35) rfl rfl rfl rfl ?_
        refine ev_qL0 f_X11_readings (nx := 38) (r := []) rfl rfl rfl rfl rfl rfl rfl (c_d_heardOf hI (a8) p8 (y6_3)) rfl (fun w84 q84 => ?_)
        have q84 : ∀ D : s_D, t_VL gr6 a8 → t_CV gi6 gl6 a8 D → w84 = s_hd D y6_3.toInt := q84
        refine ev_loc f_X11_readings (nx := 39) rfl rfl rfl rfl ?_
        refine ev_anyIE f_X11_readings (nx := 40) rfl rfl rfl rfl (fun z85 e85 => ?_)
        refine ev_if f_X11_readings (t1 := 43) (t2 := 51) rfl rfl rfl (fun h86 => ?_) (fun h86 => ?_)
        · have u87 : z85.toInt ≤ 0 := t_equ h86 (by decide : (0:Int32).toInt ≤ (0:Int))
          have l88 : 0 ≤ z85.toInt := t_eql h86 (by decide : (0:Int) ≤ (0:Int32).toInt)
          refine ev_loc f_X11_readings (nx := 44) rfl rfl rfl rfl ?_
          refine ev_loc f_X11_readings (nx := 45) rfl rfl rfl rfl ?_
          refine ev_bp f_X11_readings (nx := 47) (v := 6) rfl (by decide) rfl ?_
          refine ev_ic f_X11_readings (nx := 48) (v := 0) rfl (by decide) rfl ?_
          refine ev_qN f_X11_readings (nx := 51) (r := []) rfl rfl rfl rfl rfl rfl rfl (c_d_addReading hI (y6_3) (6) (0)) rfl hX rfl (fun gi89 gl89 gr89 hI hX hC89 q89 => ?_)
          have q89 : (gi89 0 14).toInt ≤ (gi6 0 14).toInt + 1 ∧ (∀ (L : s_RL) (t : Int × Int × Int), s_S1 gi6 L → (gi6 0 14).toInt < 474 → y6_3.toInt = t.1 → 6 = s_a6 t.2.1 → 0 = s_a0 t.2.1 t.2.2 → s_S1 gi89 (L ++ [t])) := q89
          replace p8 := p8.ext hC89.2
          obtain ⟨l90, u90⟩ := hI.b (hI.wf.s (k := 0) rfl) (t_bdK rfl : t_bd 10 14 = some (0, 474))
          refine ev_incR f_X11_readings (nx := 54) (c := 1) (l := 1) (u := 6) rfl rfl (by decide) (by decide) l6_3 u82 rfl rfl (by decide) (by decide) rfl (fun z91 e91 l91 u91 => ?_)
          refine ev_jmp f_X11_readings (nx := 19) rfl rfl rfl ?_
          refine ev_sub (lo := [(3, .int z91), (0, .ref 0), (1, .long ar1)]) rfl (t_sc rfl (t_sc rfl (t_sc rfl t_sn))) ?_
          exact ih6 _ (by omega) gi89 gl89 gr89 (z91) hI hX  (Int.le_trans (by decide : (0:Int) ≤ 1) l91) u91 (by omega) (by
                                                            intro u D hu hl hc hb hv
                                                            have g1 := j6_1 u D hu hl hc hb hv
                                                            have hun : gr6 0 6 = .ref u := ((t_F_X hX19) 0 6 (by decide) rfl).2.2.trans hu
                                                            have hKh := t_nd_fr hX19 rfl
                                                            have hlh := hl.fr (fun K k1 k2 => hKh K (by omega))
                                                            have hch := hc.fr (fun K k1 k2 => hKh K (by omega))
                                                            have ha : a8 = u := Value.ref.inj ((e8).symm.trans hun)
                                                            subst ha
                                                            have hm := hch.1.1
                                                            have hw := q84 D hlh hch
                                                            have hne := (t_le0 e85 h86)
                                                            rw [hw] at hne
                                                            exact (g1.add (s_R1_y (by omega) hne) (fun L hL => q89.2 L _ hL (by omega) rfl rfl rfl)).cg (by rw [show z91.toInt = y6_3.toInt + 1 by omega])) rfl
        · have r92 : z85.toInt ≠ 0 := fun e => h86 (Int32.toInt_inj.mp (e.trans (by decide : (0:Int) = (0 : Int32).toInt)))
          refine ev_incR f_X11_readings (nx := 54) (c := 1) (l := 1) (u := 6) rfl rfl (by decide) (by decide) l6_3 u82 rfl rfl (by decide) (by decide) rfl (fun z93 e93 l93 u93 => ?_)
          refine ev_jmp f_X11_readings (nx := 19) rfl rfl rfl ?_
          refine ev_sub (lo := [(3, .int z93), (0, .ref 0), (1, .long ar1)]) rfl (t_sc rfl (t_sc rfl (t_sc rfl t_sn))) ?_
          exact ih6 _ (by omega) gi6 gl6 gr6 (z93) hI hX  (Int.le_trans (by decide : (0:Int) ≤ 1) l93) u93 (by omega) (by
                                                            intro u D hu hl hc hb hv
                                                            have g1 := j6_1 u D hu hl hc hb hv
                                                            have hun : gr6 0 6 = .ref u := ((t_F_X hX19) 0 6 (by decide) rfl).2.2.trans hu
                                                            have hKh := t_nd_fr hX19 rfl
                                                            have hlh := hl.fr (fun K k1 k2 => hKh K (by omega))
                                                            have hch := hc.fr (fun K k1 k2 => hKh K (by omega))
                                                            have ha : a8 = u := Value.ref.inj ((e8).symm.trans hun)
                                                            subst ha
                                                            have hm := hch.1.1
                                                            have hw := q84 D hlh hch
                                                            have hne := (t_le1 e85 h86)
                                                            rw [hw] at hne
                                                            exact g1.cg ((s_R1_n (by omega) hne).trans (by rw [show z93.toInt = y6_3.toInt + 1 by omega]))) rfl
    refine ev_sub (lo := [(3, .int 0), (0, .ref 0), (1, .long ar1)]) rfl (t_sc rfl (t_sc rfl (t_sc rfl t_sn))) ?_
    exact L6 _ g5 gl gr (0) hI hX  (by decide : (0:Int) ≤ (0:Int32).toInt) (Int.le_trans (by decide : (0:Int32).toInt ≤ (0:Int)) (by decide : (0:Int) ≤ 6)) (by have kf94 : (0 : Int32).toInt = 0 := (by decide); have ff95 : (g5 0 14).toInt = 0 := (congrArg Int32.toInt (by rw [e5]; exact x_up2_at _ _ _ _ : g5 0 14 = 0)).trans (by decide); omega) (by
                                                            intro u D hu hl hc hb hv
                                                            exact s_RI.nil (s_S1_nil (by have ff96 : (g5 0 14).toInt = 0 := (congrArg Int32.toInt (by rw [e5]; exact x_up2_at _ _ _ _ : g5 0 14 = 0)).trans (by decide); omega)) s_R1_0) rfl
  · have u97 : z2.toInt ≤ (-1) := t_ltu (t_nle h3) (by decide : (0:Int32).toInt ≤ (0:Int)) rfl
    refine ev_loc f_X11_readings (nx := 7) rfl rfl rfl rfl ?_
    refine ev_ic f_X11_readings (nx := 8) (v := 1) rfl (by decide) rfl ?_
    refine ev_inV2 f_X11_readings (nx := 11) (lo2 := [(0, .ref 0), (1, .int 1)]) rfl rfl rfl rfl f_X11_refuse (hI.wf.s rfl) rfl rfl rfl rfl rfl ?_
    refine ev_loc f_X11_refuse (nx := 1) rfl rfl rfl rfl ?_
    refine ev_loc f_X11_refuse (nx := 2) rfl rfl rfl rfl ?_
    refine ev_putIT f_X11_refuse (nx := 5) rfl (hI.wf.s rfl) rfl rfl rfl (hI.put0 (hI.wf.s rfl) rfl rfl) (hX.upI rfl) (fun g98 e98 hI hX => ?_)
    refine ev_ic f_X11_refuse (nx := 6) (v := -1) rfl (by decide) rfl ?_
    refine ev_retK1 f_X11_refuse rfl rfl rfl ?_
    exact ev_ret f_X11_readings rfl rfl rfl ⟨_, _, _, rfl, hI, hX, ⟨_, rfl, (by decide : ((-1):Int) ≤ ((-1):Int32).toInt), (Int.le_trans (by decide : ((-1):Int32).toInt ≤ ((-1):Int)) (by decide : ((-1):Int) ≤ 474)), (show (∀ (u : Nat) (D : s_D), gr 0 6 = .ref u → t_VL gr u → t_CV gi gl u D → t_Cb D → (u = 3 ∨ 102 ≤ u) → (1 ≤ ar1.toInt → s_S1 g98 (s_rL D ar1) ∧ ((-1) : Int) = ((s_rL D ar1).length : Int)) ∧ (ar1.toInt < 1 → ((-1) : Int) = -1 ∧ ∀ L, s_S1 gi L → s_S1 g98 L)) from (by
                                                            intro u D hu hl hc hb hv
                                                            have h1 := (t_lt1q e2 h3)
                                                            exact ⟨fun h => absurd h (by omega), fun _ => ⟨rfl, fun L hL => hL.cg (by rw [e98]; exact x_up2_off (Or.inr (by decide))) (by rw [e98]; exact x_up2_ne (by decide))⟩⟩))⟩⟩
/-! ===== printed by riv.py: READINGS: the other side ===== -/
noncomputable def wl_n_reads : List (Nat × Nat) := [(69, 29), (78, 9999), (79, 9999), (80, 9999)]
noncomputable def Q_n_reads (gi : Nat → Nat → Int32) (gl : Nat → Nat → Int64) (gr : Nat → Nat → Value) (ar1 : Int32) (ar2 : Int32) (ar3 : Int32) : (Nat → Nat → Int32) → (Nat → Nat → Int64) → (Nat → Nat → Value) → Prop := fun (gi2 : Nat → Nat → Int32) (gl2 : Nat → Nat → Int64) (gr2 : Nat → Nat → Value) => (gi2 69 29).toInt = (gi 69 29).toInt + 1 ∧ (∀ (L : s_RL) (t : Int × Int × Int), s_S2 gi L → ar1.toInt = t.1 → ar2.toInt = t.2.1 → ar3.toInt = t.2.2 → s_S2 gi2 (L ++ [t]))
theorem c_n_reads {X : x_Ext} {d : Nat} {sh : List (Nat ⊕ (Nat × Nat))} {gi : Nat → Nat → Int32} {gl : Nat → Nat → Int64} {gr : Nat → Nat → Value} (hI : t_I sh gi gr) (ar1 : Int32) (ar2 : Int32) (ar3 : Int32) (e_p0 : (gi 69 29).toInt ≤ 499) : x_Me X (d + 1) n_X12_reads [.ref 69, .int ar1, .int ar2, .int ar3] (sh, gi, gl, gr) (t_PN wl_n_reads sh gi gl gr (Q_n_reads gi gl gr ar1 ar2 ar3)) := by
  have hX : t_X wl_n_reads sh gi gl gr gi gl gr := t_X.rf
  refine me_i f_X12_reads (hI.wf.s rfl) rfl rfl rfl ?_
  obtain ⟨l1, u1⟩ := hI.b (hI.wf.s (k := 69) rfl) (t_bdK rfl : t_bd 11 29 = some (0, 500))
  refine ev_loc f_X12_reads (nx := 1) rfl rfl rfl rfl ?_
  refine ev_getR f_X12_reads (nx := 4) rfl (hI.wf.s rfl) rfl rfl (hI.wf.r rfl) rfl rfl ?_
  refine ev_loc f_X12_reads (nx := 5) rfl rfl rfl rfl ?_
  refine ev_gvI f_X12_reads (nx := 8) (w := (gi 69 29)) rfl (hI.wf.s rfl) rfl rfl rfl rfl ?_
  refine ev_loc f_X12_reads (nx := 9) rfl rfl rfl rfl ?_
  have u3 : (gi 69 29).toInt ≤ (499:Int) := (by omega)
  refine ev_iastT f_X12_reads (nx := 10) rfl (hI.wf.s rfl) l1 (by decide) u3 (by decide) rfl (hI.astG (hI.wf.s rfl) (fun lo hi e => absurd e (t_nob (by decide +kernel) _)) (fun k hk e => by have := hk.2.1; omega)) (hX.upI (t_inA_ok rfl)) (fun g2 e2 hI hX => ?_)
  refine ev_loc f_X12_reads (nx := 11) rfl rfl rfl rfl ?_
  refine ev_getR f_X12_reads (nx := 14) rfl (hI.wf.s rfl) rfl rfl (hI.wf.r rfl) rfl rfl ?_
  refine ev_loc f_X12_reads (nx := 15) rfl rfl rfl rfl ?_
  refine ev_gvI f_X12_reads (nx := 18) (w := (gi 69 29)) rfl (hI.wf.s rfl) rfl rfl ((by rw [e2]; exact x_up2_off (Or.inl (by decide)) : g2 69 29 = gi 69 29).trans rfl) rfl ?_
  refine ev_loc f_X12_reads (nx := 19) rfl rfl rfl rfl ?_
  refine ev_iastT f_X12_reads (nx := 20) rfl (hI.wf.s rfl) l1 (by decide) u3 (by decide) rfl (hI.astG (hI.wf.s rfl) (fun lo hi e => absurd e (t_nob (by decide +kernel) _)) (fun k hk e => by have := hk.2.1; omega)) (hX.upI (t_inA_ok rfl)) (fun g4 e4 hI hX => ?_)
  refine ev_loc f_X12_reads (nx := 21) rfl rfl rfl rfl ?_
  refine ev_getR f_X12_reads (nx := 24) rfl (hI.wf.s rfl) rfl rfl (hI.wf.r rfl) rfl rfl ?_
  refine ev_loc f_X12_reads (nx := 25) rfl rfl rfl rfl ?_
  refine ev_gvI f_X12_reads (nx := 28) (w := (gi 69 29)) rfl (hI.wf.s rfl) rfl rfl ((by rw [e4]; exact x_up2_off (Or.inl (by decide)) : g4 69 29 = g2 69 29).trans ((by rw [e2]; exact x_up2_off (Or.inl (by decide)) : g2 69 29 = gi 69 29).trans rfl)) rfl ?_
  refine ev_loc f_X12_reads (nx := 29) rfl rfl rfl rfl ?_
  refine ev_iastT f_X12_reads (nx := 30) rfl (hI.wf.s rfl) l1 (by decide) u3 (by decide) rfl (hI.astG (hI.wf.s rfl) (fun lo hi e => absurd e (t_nob (by decide +kernel) _)) (fun k hk e => by have := hk.2.1; omega)) (hX.upI (t_inA_ok rfl)) (fun g5 e5 hI hX => ?_)
  refine ev_loc f_X12_reads (nx := 31) rfl rfl rfl rfl ?_
  refine ev_alu f_X12_reads (nx := 32) rfl rfl rfl rfl ?_
  refine ev_gvI f_X12_reads (nx := 35) (w := (gi 69 29)) rfl (hI.wf.s rfl) rfl rfl ((by rw [e5]; exact x_up2_off (Or.inl (by decide)) : g5 69 29 = g4 69 29).trans ((by rw [e4]; exact x_up2_off (Or.inl (by decide)) : g4 69 29 = g2 69 29).trans ((by rw [e2]; exact x_up2_off (Or.inl (by decide)) : g2 69 29 = gi 69 29).trans rfl))) rfl ?_
  refine ev_ic f_X12_reads (nx := 36) (v := 1) rfl (by decide) rfl ?_
  refine ev_addC f_X12_reads (nx := 37) (c := 1) (l := 1) (u := 500) rfl (by decide) l1 u3 rfl rfl (by decide) (by decide) rfl (fun z6 e6 l6 u6 => ?_)
  refine ev_putIT f_X12_reads (nx := 40) rfl (hI.wf.s rfl) rfl rfl rfl (hI.putB (hI.wf.s rfl) rfl rfl l6 (by decide) u6 (by decide)) (hX.upI rfl) (fun g7 e7 hI hX => ?_)
  exact ev_ret f_X12_reads rfl rfl rfl ⟨_, _, _, rfl, hI, hX, ⟨rfl, (show (g7 69 29).toInt = (gi 69 29).toInt + 1 ∧ (∀ (L : s_RL) (t : Int × Int × Int), s_S2 gi L → ar1.toInt = t.1 → ar2.toInt = t.2.1 → ar3.toInt = t.2.2 → s_S2 g7 (L ++ [t])) from (by
                                                            refine ⟨by have ff8 : (g7 69 29).toInt = z6.toInt := congrArg Int32.toInt (by rw [e7]; exact x_up2_at _ _ _ _ : g7 69 29 = z6); omega, ?_⟩
                                                            intro L t h h1 h2 h3
                                                            exact s_S2_add h e2 e4 e5 e7 rfl (by omega) h1 h2 h3))⟩⟩
noncomputable def wl_l_findsReadings : List (Nat × Nat) := [(69, 29), (78, 9999), (79, 9999), (80, 9999)]
noncomputable def Q_l_findsReadings (gi : Nat → Nat → Int32) (gl : Nat → Nat → Int64) (gr : Nat → Nat → Value) (ar1 : Int64) : (Nat → Nat → Int32) → (Nat → Nat → Int64) → (Nat → Nat → Value) → Prop := fun (gi2 : Nat → Nat → Int32) (gl2 : Nat → Nat → Int64) (gr2 : Nat → Nat → Value) => (gi2 69 29).toInt ≤ 474 ∧ (∀ j, gi2 70 j = gi 70 j) ∧ (∀ D : s_D, t_ME 0 gi D → t_Cb D → s_S2 gi2 (s_rL D ar1))
theorem c_l_findsReadings {X : x_Ext} {d : Nat} {sh : List (Nat ⊕ (Nat × Nat))} {gi : Nat → Nat → Int32} {gl : Nat → Nat → Int64} {gr : Nat → Nat → Value} (hI : t_I sh gi gr) (ar1 : Int64) : x_Me X (d + 4) n_X12_findsReadings [.ref 69, .long ar1] (sh, gi, gl, gr) (t_PN wl_l_findsReadings sh gi gl gr (Q_l_findsReadings gi gl gr ar1)) := by
  have hX : t_X wl_l_findsReadings sh gi gl gr gi gl gr := t_X.rf
  refine me_i f_X12_findsReadings (hI.wf.s rfl) rfl rfl rfl ?_
  obtain ⟨l1, u1⟩ := hI.b (hI.wf.s (k := 69) rfl) (t_bdK rfl : t_bd 11 29 = some (0, 500))
  refine ev_loc f_X12_findsReadings (nx := 1) rfl rfl rfl rfl ?_
  refine ev_ic f_X12_findsReadings (nx := 2) (v := 0) rfl (by decide) rfl ?_
  refine ev_putIT f_X12_findsReadings (nx := 5) rfl (hI.wf.s rfl) rfl rfl rfl (hI.putB (hI.wf.s rfl) rfl rfl (by decide : (0:Int) ≤ (0:Int32).toInt) (by decide) (by decide : (0:Int32).toInt ≤ (0:Int)) (by decide)) (hX.upI rfl) (fun g2 e2 hI hX => ?_)
  refine ev_loc f_X12_findsReadings (nx := 6) rfl rfl rfl rfl ?_
  refine ev_getR f_X12_findsReadings (nx := 9) rfl (hI.wf.s rfl) rfl rfl (hI.wf.r rfl) rfl rfl ?_
  refine ev_ic f_X12_findsReadings (nx := 10) (v := 0) rfl (by decide) rfl ?_
  obtain ⟨l3, u3⟩ := hI.ab (by decide +kernel : t_abr 70 0 0 0 6 = true) (Nat.le_refl _) (Nat.le_refl _)
  refine ev_ialdv f_X12_findsReadings (nx := 11) (w := (g2 70 0)) rfl (hI.wf.s rfl) (by decide) (rfl : (0 : Int32).toNatClampNeg = 0) (by decide) rfl rfl ?_
  refine ev_loc f_X12_findsReadings (nx := 12) (lo' := [(3, .int (g2 70 0)), (0, .ref 69), (1, .long ar1)]) rfl rfl rfl rfl ?_
  refine ev_ic f_X12_findsReadings (nx := 13) (v := 0) rfl (by decide) rfl ?_
  refine ev_loc f_X12_findsReadings (nx := 15) (lo' := [(4, .int 0), (3, .int (g2 70 0)), (0, .ref 69), (1, .long ar1)]) rfl rfl rfl rfl ?_
  have L4 : ∀ (m4 : Nat) (gi4 : Nat → Nat → Int32) (gl4 : Nat → Nat → Int64) (gr4 : Nat → Nat → Value) (y4_4 : Int32), t_I sh gi4 gr4 → t_X wl_l_findsReadings sh gi gl gr gi4 gl4 gr4 → 0 ≤ y4_4.toInt → y4_4.toInt ≤ 6 → gi4 70 0 = (g2 70 0) → (gi4 69 29).toInt ≤ y4_4.toInt → (∀ j, gi4 70 j = gi 70 j) → (∀ D : s_D, t_ME 0 gi D → t_Cb D → s_RI (s_S2 gi4) (s_R1 D ar1 y4_4.toInt) (s_rL D ar1) ∧ (g2 70 0).toInt = D 0) → (6 - y4_4.toInt).toNat = m4 → x_Ev X (d + 4) n_X12_findsReadings 15 [(4, .int y4_4), (3, .int (g2 70 0)), (0, .ref 69), (1, .long ar1)] [] (sh, gi4, gl4, gr4) (t_PN wl_l_findsReadings sh gi gl gr (Q_l_findsReadings gi gl gr ar1)) := by
    intro m4
    induction m4 using Nat.strongRecOn with
    | _ m4 ih4 =>
    intro gi4 gl4 gr4 y4_4 hI hX l4_4 u4_4 c4_0 j4_0 j4_1 j4_2 hm4
    obtain ⟨l5, u5⟩ := hI.b (hI.wf.s (k := 69) rfl) (t_bdK rfl : t_bd 11 29 = some (0, 500))
    refine ev_loc f_X12_findsReadings (nx := 17) rfl rfl rfl rfl ?_
    refine ev_loc f_X12_findsReadings (nx := 18) rfl rfl rfl rfl ?_
    refine ev_if f_X12_findsReadings (t1 := 46) (t2 := 21) rfl rfl rfl (fun h6 => ?_) (fun h6 => ?_)
    · have r7 : (g2 70 0).toInt ≤ y4_4.toInt := Int32.le_iff_toInt_le.mp h6
      refine ev_ic f_X12_findsReadings (nx := 47) (v := 0) rfl (by decide) rfl ?_
      refine ev_loc f_X12_findsReadings (nx := 49) (lo' := [(4, .int 0), (3, .int (g2 70 0)), (0, .ref 69), (1, .long ar1)]) rfl rfl rfl rfl ?_
      have L8 : ∀ (m8 : Nat) (gi8 : Nat → Nat → Int32) (gl8 : Nat → Nat → Int64) (gr8 : Nat → Nat → Value) (y8_4 : Int32), t_I sh gi8 gr8 → t_X wl_l_findsReadings sh gi gl gr gi8 gl8 gr8 → 0 ≤ y8_4.toInt → y8_4.toInt ≤ 6 → gi8 70 0 = (g2 70 0) → (gi8 69 29).toInt ≤ 6 + 78 * y8_4.toInt → (∀ j, gi8 70 j = gi 70 j) → (∀ D : s_D, t_ME 0 gi D → t_Cb D → s_RI (s_S2 gi8) (s_R2 D ar1 y8_4.toInt) (s_rL D ar1) ∧ (g2 70 0).toInt = D 0) → (6 - y8_4.toInt).toNat = m8 → x_Ev X (d + 4) n_X12_findsReadings 49 [(4, .int y8_4), (3, .int (g2 70 0)), (0, .ref 69), (1, .long ar1)] [] (sh, gi8, gl8, gr8) (t_PN wl_l_findsReadings sh gi gl gr (Q_l_findsReadings gi gl gr ar1)) := by
        intro m8
        induction m8 using Nat.strongRecOn with
        | _ m8 ih8 =>
        intro gi8 gl8 gr8 y8_4 hI hX l8_4 u8_4 c8_0 j8_0 j8_1 j8_2 hm8
        obtain ⟨l9, u9⟩ := hI.b (hI.wf.s (k := 69) rfl) (t_bdK rfl : t_bd 11 29 = some (0, 500))
        refine ev_loc f_X12_findsReadings (nx := 51) rfl rfl rfl rfl ?_
        refine ev_loc f_X12_findsReadings (nx := 52) rfl rfl rfl rfl ?_
        refine ev_if f_X12_findsReadings (t1 := 134) (t2 := 55) rfl rfl rfl (fun h10 => ?_) (fun h10 => ?_)
        · have r11 : (g2 70 0).toInt ≤ y8_4.toInt := Int32.le_iff_toInt_le.mp h10
          exact ev_ret f_X12_findsReadings rfl rfl rfl ⟨_, _, _, rfl, hI, hX, ⟨rfl, (show (gi8 69 29).toInt ≤ 474 ∧ (∀ j, gi8 70 j = gi 70 j) ∧ (∀ D : s_D, t_ME 0 gi D → t_Cb D → s_S2 gi8 (s_rL D ar1)) from ⟨(by omega), j8_1, (by
                                                            intro D hm hb
                                                            obtain ⟨g1, hn⟩ := j8_2 D hm hb
                                                            exact g1.fin (s_R2_e (by omega)))⟩)⟩⟩
        · have r12 : y8_4.toInt < (g2 70 0).toInt := Int32.lt_iff_toInt_lt.mp (t_nle h10)
          have u13 : y8_4.toInt ≤ 5 := t_ltu (t_nle h10) u3 rfl
          have l14 : 1 ≤ (g2 70 0).toInt := t_ltl (t_nle h10) l8_4 rfl
          refine ev_ic f_X12_findsReadings (nx := 56) (v := 0) rfl (by decide) rfl ?_
          refine ev_loc f_X12_findsReadings (nx := 58) (lo' := [(5, .int 0), (4, .int y8_4), (3, .int (g2 70 0)), (0, .ref 69), (1, .long ar1)]) rfl rfl rfl rfl ?_
          have L15 : ∀ (m15 : Nat) (gi15 : Nat → Nat → Int32) (gl15 : Nat → Nat → Int64) (gr15 : Nat → Nat → Value) (y15_5 : Int32), t_I sh gi15 gr15 → t_X wl_l_findsReadings sh gi gl gr gi15 gl15 gr15 → 0 ≤ y15_5.toInt → y15_5.toInt ≤ 6 → gi15 70 0 = (g2 70 0) → (gi15 69 29).toInt ≤ 6 + 78 * y8_4.toInt + 13 * y15_5.toInt → (∀ j, gi15 70 j = gi 70 j) → (∀ D : s_D, t_ME 0 gi D → t_Cb D → s_RI (s_S2 gi15) (s_R3 D ar1 y8_4.toInt y15_5.toInt) (s_rL D ar1) ∧ (g2 70 0).toInt = D 0 ∧ y8_4.toInt < D 0) → (6 - y15_5.toInt).toNat = m15 → x_Ev X (d + 4) n_X12_findsReadings 58 [(5, .int y15_5), (4, .int y8_4), (3, .int (g2 70 0)), (0, .ref 69), (1, .long ar1)] [] (sh, gi15, gl15, gr15) (t_PN wl_l_findsReadings sh gi gl gr (Q_l_findsReadings gi gl gr ar1)) := by
            intro m15
            induction m15 using Nat.strongRecOn with
            | _ m15 ih15 =>
            intro gi15 gl15 gr15 y15_5 hI hX l15_5 u15_5 c15_0 j15_0 j15_1 j15_2 hm15
            obtain ⟨l16, u16⟩ := hI.b (hI.wf.s (k := 69) rfl) (t_bdK rfl : t_bd 11 29 = some (0, 500))
            refine ev_loc f_X12_findsReadings (nx := 60) rfl rfl rfl rfl ?_
            refine ev_loc f_X12_findsReadings (nx := 61) rfl rfl rfl rfl ?_
            refine ev_if f_X12_findsReadings (t1 := 128) (t2 := 64) rfl rfl rfl (fun h17 => ?_) (fun h17 => ?_)
            · have r18 : (g2 70 0).toInt ≤ y15_5.toInt := Int32.le_iff_toInt_le.mp h17
              have l19 : 1 ≤ y15_5.toInt := t_lel h17 l14
              refine ev_incR f_X12_findsReadings (nx := 131) (c := 1) (l := 1) (u := 6) rfl rfl (by decide) (by decide) l8_4 u13 rfl rfl (by decide) (by decide) rfl (fun z20 e20 l20 u20 => ?_)
              refine ev_jmp f_X12_findsReadings (nx := 49) rfl rfl rfl ?_
              refine ev_sub (lo := [(4, .int z20), (3, .int (g2 70 0)), (0, .ref 69), (1, .long ar1)]) rfl (t_sc rfl (t_sc rfl (t_sc rfl (t_sc rfl t_sn)))) ?_
              exact ih8 _ (by omega) gi15 gl15 gr15 (z20) hI hX  (Int.le_trans (by decide : (0:Int) ≤ 1) l20) u20 c15_0 (by omega) j15_1 (by
                                                            intro D hm hb
                                                            obtain ⟨g1, hn, g2⟩ := j15_2 D hm hb
                                                            exact ⟨g1.cg ((s_R3_e (by omega)).trans (by rw [show z20.toInt = y8_4.toInt + 1 by omega])), hn⟩) rfl
            · have r21 : y15_5.toInt < (g2 70 0).toInt := Int32.lt_iff_toInt_lt.mp (t_nle h17)
              have u22 : y15_5.toInt ≤ 5 := t_ltu (t_nle h17) u3 rfl
              refine ev_loc f_X12_findsReadings (nx := 66) rfl rfl rfl rfl ?_
              refine ev_loc f_X12_findsReadings (nx := 68) rfl rfl rfl rfl ?_
              refine ev_if f_X12_findsReadings (t1 := 75) (t2 := 71) rfl rfl rfl (fun h23 => ?_) (fun h23 => ?_)
              · have r24 : y8_4.toInt ≤ y15_5.toInt := Int32.le_iff_toInt_le.mp h23
                refine ev_ic f_X12_findsReadings (nx := 76) (v := 0) rfl (by decide) rfl ?_
                refine ev_loc f_X12_findsReadings (nx := 78) (lo' := [(6, .int 0), (5, .int y15_5), (4, .int y8_4), (3, .int (g2 70 0)), (0, .ref 69), (1, .long ar1)]) rfl rfl rfl rfl ?_
                have L25 : ∀ (m25 : Nat) (gi25 : Nat → Nat → Int32) (gl25 : Nat → Nat → Int64) (gr25 : Nat → Nat → Value) (y25_6 : Int32), t_I sh gi25 gr25 → t_X wl_l_findsReadings sh gi gl gr gi25 gl25 gr25 → 0 ≤ y25_6.toInt → y25_6.toInt ≤ 13 → gi25 70 0 = (g2 70 0) → (gi25 69 29).toInt ≤ 6 + 78 * y8_4.toInt + 13 * y15_5.toInt + y25_6.toInt → (∀ j, gi25 70 j = gi 70 j) → (∀ D : s_D, t_ME 0 gi D → t_Cb D → s_RI (s_S2 gi25) (s_R4 D ar1 y8_4.toInt y15_5.toInt y25_6.toInt) (s_rL D ar1) ∧ (g2 70 0).toInt = D 0 ∧ y8_4.toInt < D 0 ∧ y15_5.toInt < D 0) → (13 - y25_6.toInt).toNat = m25 → x_Ev X (d + 4) n_X12_findsReadings 78 [(6, .int y25_6), (5, .int y15_5), (4, .int y8_4), (3, .int (g2 70 0)), (0, .ref 69), (1, .long ar1)] [] (sh, gi25, gl25, gr25) (t_PN wl_l_findsReadings sh gi gl gr (Q_l_findsReadings gi gl gr ar1)) := by
                  intro m25
                  induction m25 using Nat.strongRecOn with
                  | _ m25 ih25 =>
                  intro gi25 gl25 gr25 y25_6 hI hX l25_6 u25_6 c25_0 j25_0 j25_1 j25_2 hm25
                  obtain ⟨l26, u26⟩ := hI.b (hI.wf.s (k := 69) rfl) (t_bdK rfl : t_bd 11 29 = some (0, 500))
                  refine ev_loc f_X12_findsReadings (nx := 80) rfl rfl rfl rfl ?_
                  refine ev_bp f_X12_findsReadings (nx := 82) (v := 12) rfl (by decide) rfl ?_
                  refine ev_if f_X12_findsReadings (t1 := 122) (t2 := 85) rfl rfl rfl (fun h27 => ?_) (fun h27 => ?_)
                  · have l28 : 13 ≤ y25_6.toInt := t_ltl h27 (by decide : (12:Int) ≤ (12:Int32).toInt) rfl
                    refine ev_incR f_X12_findsReadings (nx := 125) (c := 1) (l := 1) (u := 6) rfl rfl (by decide) (by decide) l15_5 u22 rfl rfl (by decide) (by decide) rfl (fun z29 e29 l29 u29 => ?_)
                    refine ev_jmp f_X12_findsReadings (nx := 58) rfl rfl rfl ?_
                    refine ev_sub (lo := [(5, .int z29), (4, .int y8_4), (3, .int (g2 70 0)), (0, .ref 69), (1, .long ar1)]) rfl (t_sc rfl (t_sc rfl (t_sc rfl (t_sc rfl (t_sc rfl t_sn))))) ?_
                    exact ih15 _ (by omega) gi25 gl25 gr25 (z29) hI hX  (Int.le_trans (by decide : (0:Int) ≤ 1) l29) u29 c25_0 (by omega) j25_1 (by
                                                            intro D hm hb
                                                            obtain ⟨g1, hn, g2, g3⟩ := j25_2 D hm hb
                                                            exact ⟨g1.cg ((s_R4_e (by omega)).trans (by rw [show z29.toInt = y15_5.toInt + 1 by omega])), hn, by omega⟩) rfl
                  · have u30 : y25_6.toInt ≤ 12 := t_leu (t_nlt h27) (by decide : (12:Int32).toInt ≤ (12:Int))
                    refine ev_loc f_X12_findsReadings (nx := 86) rfl rfl rfl rfl ?_
                    refine ev_loc f_X12_findsReadings (nx := 88) rfl rfl rfl rfl ?_
                    refine ev_qL0 f_X12_findsReadings (nx := 91) (r := []) rfl rfl rfl rfl rfl rfl rfl (c_n_heardOf hI (y8_4) l8_4 u13) rfl (fun w31 q31 => ?_)
                    have q31 : (0 ≤ w31.toInt ∧ w31.toInt < 8589934592) ∧ ∀ D : s_D, t_ME 0 gi25 D → y8_4.toInt < D 0 → w31 = s_ec (s_so D y8_4.toNatClampNeg) (D 7) := q31
                    refine ev_loc f_X12_findsReadings (nx := 92) rfl rfl rfl rfl ?_
                    refine ev_loc f_X12_findsReadings (nx := 94) rfl rfl rfl rfl ?_
                    refine ev_qL0 f_X12_findsReadings (nx := 97) (r := [.long w31]) rfl rfl rfl rfl rfl rfl rfl (c_n_heardOf hI (y15_5) l15_5 u22) rfl (fun w32 q32 => ?_)
                    have q32 : (0 ≤ w32.toInt ∧ w32.toInt < 8589934592) ∧ ∀ D : s_D, t_ME 0 gi25 D → y15_5.toInt < D 0 → w32 = s_ec (s_so D y15_5.toNatClampNeg) (D 7) := q32
                    refine ev_loc f_X12_findsReadings (nx := 99) rfl rfl rfl rfl ?_
                    refine ev_anyLE f_X12_findsReadings (nx := 100) rfl rfl rfl rfl (fun z33 e33 => ?_)
                    refine ev_anyLE f_X12_findsReadings (nx := 101) rfl rfl rfl rfl (fun z34 e34 => ?_)
                    refine ev_loc f_X12_findsReadings (nx := 102) rfl rfl rfl rfl ?_
                    refine ev_anyIE f_X12_findsReadings (nx := 103) rfl rfl rfl rfl (fun z35 e35 => ?_)
                    refine ev_if f_X12_findsReadings (t1 := 106) (t2 := 116) rfl rfl rfl (fun h36 => ?_) (fun h36 => ?_)
                    · have u37 : z35.toInt ≤ 0 := t_equ h36 (by decide : (0:Int32).toInt ≤ (0:Int))
                      have l38 : 0 ≤ z35.toInt := t_eql h36 (by decide : (0:Int) ≤ (0:Int32).toInt)
                      refine ev_loc f_X12_findsReadings (nx := 107) rfl rfl rfl rfl ?_
                      refine ev_loc f_X12_findsReadings (nx := 109) rfl rfl rfl rfl ?_
                      refine ev_loc f_X12_findsReadings (nx := 111) rfl rfl rfl rfl ?_
                      refine ev_loc f_X12_findsReadings (nx := 113) rfl rfl rfl rfl ?_
                      refine ev_qN f_X12_findsReadings (nx := 116) (r := []) rfl rfl rfl rfl rfl rfl rfl (c_n_reads hI (y8_4) (y15_5) (y25_6) (by omega)) rfl hX rfl (fun gi39 gl39 gr39 hI hX hC39 q39 => ?_)
                      have q39 : (gi39 69 29).toInt = (gi25 69 29).toInt + 1 ∧ (∀ (L : s_RL) (t : Int × Int × Int), s_S2 gi25 L → y8_4.toInt = t.1 → y15_5.toInt = t.2.1 → y25_6.toInt = t.2.2 → s_S2 gi39 (L ++ [t])) := q39
                      obtain ⟨l40, u40⟩ := hI.b (hI.wf.s (k := 69) rfl) (t_bdK rfl : t_bd 11 29 = some (0, 500))
                      refine ev_incR f_X12_findsReadings (nx := 119) (c := 1) (l := 1) (u := 13) rfl rfl (by decide) (by decide) l25_6 u30 rfl rfl (by decide) (by decide) rfl (fun z41 e41 l41 u41 => ?_)
                      refine ev_jmp f_X12_findsReadings (nx := 78) rfl rfl rfl ?_
                      refine ev_sub (lo := [(6, .int z41), (5, .int y15_5), (4, .int y8_4), (3, .int (g2 70 0)), (0, .ref 69), (1, .long ar1)]) rfl (t_sc rfl (t_sc rfl (t_sc rfl (t_sc rfl (t_sc rfl (t_sc rfl t_sn)))))) ?_
                      exact ih25 _ (by omega) gi39 gl39 gr39 (z41) hI hX  (Int.le_trans (by decide : (0:Int) ≤ 1) l41) u41 ((hC39.1 70 0 rfl).1.trans c25_0) (by omega) (fun j => (congrFun ((funext (fun j => (hC39.1 70 j rfl).1) : gi39 70 = gi25 70)) j).trans (j25_1 j)) (by
                                                            intro D hm hb
                                                            obtain ⟨g1, hn, g2, g3⟩ := j25_2 D hm hb
                                                            have hmN : t_ME 0 gi25 D := hm.mv hb (fun j _ _ _ => j25_1 (0 + j))
                                                            have hw31 : w31 = s_hd D y8_4.toInt := (q31.2 D hmN (by omega)).trans ((s_hd_i (D := D) (p := y8_4.toInt) (by omega) (by omega)).trans (by rw [show y8_4.toInt.toNat = y8_4.toNatClampNeg from (by have := t_clamp (i := y8_4) (by omega); omega)])).symm
                                                            have hw32 : w32 = s_hd D y15_5.toInt := (q32.2 D hmN (by omega)).trans ((s_hd_i (D := D) (p := y15_5.toInt) (by omega) (by omega)).trans (by rw [show y15_5.toInt.toNat = y15_5.toNatClampNeg from (by have := t_clamp (i := y15_5) (by omega); omega)])).symm
                                                            have hv := s_bw_e hw31 hw32 e33 e34
                                                            have hne := (t_le0 e35 h36)
                                                            rw [hv] at hne
                                                            exact ⟨(g1.add (s_R4_y (by omega) hne) (fun L hL => q39.2 L _ hL rfl rfl rfl)).cg (by rw [show z41.toInt = y25_6.toInt + 1 by omega]), hn, g2, g3⟩) rfl
                    · have r42 : z35.toInt ≠ 0 := fun e => h36 (Int32.toInt_inj.mp (e.trans (by decide : (0:Int) = (0 : Int32).toInt)))
                      refine ev_incR f_X12_findsReadings (nx := 119) (c := 1) (l := 1) (u := 13) rfl rfl (by decide) (by decide) l25_6 u30 rfl rfl (by decide) (by decide) rfl (fun z43 e43 l43 u43 => ?_)
                      refine ev_jmp f_X12_findsReadings (nx := 78) rfl rfl rfl ?_
                      refine ev_sub (lo := [(6, .int z43), (5, .int y15_5), (4, .int y8_4), (3, .int (g2 70 0)), (0, .ref 69), (1, .long ar1)]) rfl (t_sc rfl (t_sc rfl (t_sc rfl (t_sc rfl (t_sc rfl (t_sc rfl t_sn)))))) ?_
                      exact ih25 _ (by omega) gi25 gl25 gr25 (z43) hI hX  (Int.le_trans (by decide : (0:Int) ≤ 1) l43) u43 c25_0 (by omega) j25_1 (by
                                                            intro D hm hb
                                                            obtain ⟨g1, hn, g2, g3⟩ := j25_2 D hm hb
                                                            have hmN : t_ME 0 gi25 D := hm.mv hb (fun j _ _ _ => j25_1 (0 + j))
                                                            have hw31 : w31 = s_hd D y8_4.toInt := (q31.2 D hmN (by omega)).trans ((s_hd_i (D := D) (p := y8_4.toInt) (by omega) (by omega)).trans (by rw [show y8_4.toInt.toNat = y8_4.toNatClampNeg from (by have := t_clamp (i := y8_4) (by omega); omega)])).symm
                                                            have hw32 : w32 = s_hd D y15_5.toInt := (q32.2 D hmN (by omega)).trans ((s_hd_i (D := D) (p := y15_5.toInt) (by omega) (by omega)).trans (by rw [show y15_5.toInt.toNat = y15_5.toNatClampNeg from (by have := t_clamp (i := y15_5) (by omega); omega)])).symm
                                                            have hv := s_bw_e hw31 hw32 e33 e34
                                                            have hne := (t_le1 e35 h36)
                                                            rw [hv] at hne
                                                            exact ⟨g1.cg ((s_R4_n (by omega) hne).trans (by rw [show z43.toInt = y25_6.toInt + 1 by omega])), hn, g2, g3⟩) rfl
                refine ev_sub (lo := [(6, .int 0), (5, .int y15_5), (4, .int y8_4), (3, .int (g2 70 0)), (0, .ref 69), (1, .long ar1)]) rfl (t_sc rfl (t_sc rfl (t_sc rfl (t_sc rfl (t_sc rfl (t_sc rfl t_sn)))))) ?_
                exact L25 _ gi15 gl15 gr15 (0) hI hX  (by decide : (0:Int) ≤ (0:Int32).toInt) (Int.le_trans (by decide : (0:Int32).toInt ≤ (0:Int)) (by decide : (0:Int) ≤ 13)) c15_0 (by have kf44 : (0 : Int32).toInt = 0 := (by decide); omega) j15_1 (by
                                                            intro D hm hb
                                                            obtain ⟨g1, hn, g2⟩ := j15_2 D hm hb
                                                            have hl2 : s_lb y8_4.toInt y15_5.toInt = (0 : Int32).toInt := s_lb_0 (by omega)
                                                            exact ⟨g1.cg ((s_R3_s (by omega)).trans (by rw [hl2])), hn, g2, by omega⟩) rfl
              · have r45 : y15_5.toInt < y8_4.toInt := Int32.lt_iff_toInt_lt.mp (t_nle h23)
                have u46 : y15_5.toInt ≤ 4 := t_ltu (t_nle h23) u13 rfl
                have l47 : 1 ≤ y8_4.toInt := t_ltl (t_nle h23) l15_5 rfl
                refine ev_ic f_X12_findsReadings (nx := 72) (v := 1) rfl (by decide) rfl ?_
                refine ev_jmp f_X12_findsReadings (nx := 76) rfl rfl rfl ?_
                refine ev_loc f_X12_findsReadings (nx := 78) (lo' := [(6, .int 1), (5, .int y15_5), (4, .int y8_4), (3, .int (g2 70 0)), (0, .ref 69), (1, .long ar1)]) rfl rfl rfl rfl ?_
                have L48 : ∀ (m48 : Nat) (gi48 : Nat → Nat → Int32) (gl48 : Nat → Nat → Int64) (gr48 : Nat → Nat → Value) (y48_6 : Int32), t_I sh gi48 gr48 → t_X wl_l_findsReadings sh gi gl gr gi48 gl48 gr48 → 0 ≤ y48_6.toInt → y48_6.toInt ≤ 13 → gi48 70 0 = (g2 70 0) → (gi48 69 29).toInt ≤ 6 + 78 * y8_4.toInt + 13 * y15_5.toInt + y48_6.toInt → (∀ j, gi48 70 j = gi 70 j) → (∀ D : s_D, t_ME 0 gi D → t_Cb D → s_RI (s_S2 gi48) (s_R4 D ar1 y8_4.toInt y15_5.toInt y48_6.toInt) (s_rL D ar1) ∧ (g2 70 0).toInt = D 0 ∧ y8_4.toInt < D 0 ∧ y15_5.toInt < D 0) → (13 - y48_6.toInt).toNat = m48 → x_Ev X (d + 4) n_X12_findsReadings 78 [(6, .int y48_6), (5, .int y15_5), (4, .int y8_4), (3, .int (g2 70 0)), (0, .ref 69), (1, .long ar1)] [] (sh, gi48, gl48, gr48) (t_PN wl_l_findsReadings sh gi gl gr (Q_l_findsReadings gi gl gr ar1)) := by
                  intro m48
                  induction m48 using Nat.strongRecOn with
                  | _ m48 ih48 =>
                  intro gi48 gl48 gr48 y48_6 hI hX l48_6 u48_6 c48_0 j48_0 j48_1 j48_2 hm48
                  obtain ⟨l49, u49⟩ := hI.b (hI.wf.s (k := 69) rfl) (t_bdK rfl : t_bd 11 29 = some (0, 500))
                  refine ev_loc f_X12_findsReadings (nx := 80) rfl rfl rfl rfl ?_
                  refine ev_bp f_X12_findsReadings (nx := 82) (v := 12) rfl (by decide) rfl ?_
                  refine ev_if f_X12_findsReadings (t1 := 122) (t2 := 85) rfl rfl rfl (fun h50 => ?_) (fun h50 => ?_)
                  · have l51 : 13 ≤ y48_6.toInt := t_ltl h50 (by decide : (12:Int) ≤ (12:Int32).toInt) rfl
                    refine ev_incR f_X12_findsReadings (nx := 125) (c := 1) (l := 1) (u := 5) rfl rfl (by decide) (by decide) l15_5 u46 rfl rfl (by decide) (by decide) rfl (fun z52 e52 l52 u52 => ?_)
                    refine ev_jmp f_X12_findsReadings (nx := 58) rfl rfl rfl ?_
                    refine ev_sub (lo := [(5, .int z52), (4, .int y8_4), (3, .int (g2 70 0)), (0, .ref 69), (1, .long ar1)]) rfl (t_sc rfl (t_sc rfl (t_sc rfl (t_sc rfl (t_sc rfl t_sn))))) ?_
                    exact ih15 _ (by omega) gi48 gl48 gr48 (z52) hI hX  (Int.le_trans (by decide : (0:Int) ≤ 1) l52) (Int.le_trans u52 (by decide : (5:Int) ≤ 6)) c48_0 (by omega) j48_1 (by
                                                            intro D hm hb
                                                            obtain ⟨g1, hn, g2, g3⟩ := j48_2 D hm hb
                                                            exact ⟨g1.cg ((s_R4_e (by omega)).trans (by rw [show z52.toInt = y15_5.toInt + 1 by omega])), hn, by omega⟩) rfl
                  · have u53 : y48_6.toInt ≤ 12 := t_leu (t_nlt h50) (by decide : (12:Int32).toInt ≤ (12:Int))
                    refine ev_loc f_X12_findsReadings (nx := 86) rfl rfl rfl rfl ?_
                    refine ev_loc f_X12_findsReadings (nx := 88) rfl rfl rfl rfl ?_
                    refine ev_qL0 f_X12_findsReadings (nx := 91) (r := []) rfl rfl rfl rfl rfl rfl rfl (c_n_heardOf hI (y8_4) (Int.le_trans (by decide : (0:Int) ≤ 1) l47) u13) rfl (fun w54 q54 => ?_)
                    have q54 : (0 ≤ w54.toInt ∧ w54.toInt < 8589934592) ∧ ∀ D : s_D, t_ME 0 gi48 D → y8_4.toInt < D 0 → w54 = s_ec (s_so D y8_4.toNatClampNeg) (D 7) := q54
                    refine ev_loc f_X12_findsReadings (nx := 92) rfl rfl rfl rfl ?_
                    refine ev_loc f_X12_findsReadings (nx := 94) rfl rfl rfl rfl ?_
                    refine ev_qL0 f_X12_findsReadings (nx := 97) (r := [.long w54]) rfl rfl rfl rfl rfl rfl rfl (c_n_heardOf hI (y15_5) l15_5 (Int.le_trans u46 (by decide : (4:Int) ≤ 5))) rfl (fun w55 q55 => ?_)
                    have q55 : (0 ≤ w55.toInt ∧ w55.toInt < 8589934592) ∧ ∀ D : s_D, t_ME 0 gi48 D → y15_5.toInt < D 0 → w55 = s_ec (s_so D y15_5.toNatClampNeg) (D 7) := q55
                    refine ev_loc f_X12_findsReadings (nx := 99) rfl rfl rfl rfl ?_
                    refine ev_anyLE f_X12_findsReadings (nx := 100) rfl rfl rfl rfl (fun z56 e56 => ?_)
                    refine ev_anyLE f_X12_findsReadings (nx := 101) rfl rfl rfl rfl (fun z57 e57 => ?_)
                    refine ev_loc f_X12_findsReadings (nx := 102) rfl rfl rfl rfl ?_
                    refine ev_anyIE f_X12_findsReadings (nx := 103) rfl rfl rfl rfl (fun z58 e58 => ?_)
                    refine ev_if f_X12_findsReadings (t1 := 106) (t2 := 116) rfl rfl rfl (fun h59 => ?_) (fun h59 => ?_)
                    · have u60 : z58.toInt ≤ 0 := t_equ h59 (by decide : (0:Int32).toInt ≤ (0:Int))
                      have l61 : 0 ≤ z58.toInt := t_eql h59 (by decide : (0:Int) ≤ (0:Int32).toInt)
                      refine ev_loc f_X12_findsReadings (nx := 107) rfl rfl rfl rfl ?_
                      refine ev_loc f_X12_findsReadings (nx := 109) rfl rfl rfl rfl ?_
                      refine ev_loc f_X12_findsReadings (nx := 111) rfl rfl rfl rfl ?_
                      refine ev_loc f_X12_findsReadings (nx := 113) rfl rfl rfl rfl ?_
                      refine ev_qN f_X12_findsReadings (nx := 116) (r := []) rfl rfl rfl rfl rfl rfl rfl (c_n_reads hI (y8_4) (y15_5) (y48_6) (by omega)) rfl hX rfl (fun gi62 gl62 gr62 hI hX hC62 q62 => ?_)
                      have q62 : (gi62 69 29).toInt = (gi48 69 29).toInt + 1 ∧ (∀ (L : s_RL) (t : Int × Int × Int), s_S2 gi48 L → y8_4.toInt = t.1 → y15_5.toInt = t.2.1 → y48_6.toInt = t.2.2 → s_S2 gi62 (L ++ [t])) := q62
                      obtain ⟨l63, u63⟩ := hI.b (hI.wf.s (k := 69) rfl) (t_bdK rfl : t_bd 11 29 = some (0, 500))
                      refine ev_incR f_X12_findsReadings (nx := 119) (c := 1) (l := 1) (u := 13) rfl rfl (by decide) (by decide) l48_6 u53 rfl rfl (by decide) (by decide) rfl (fun z64 e64 l64 u64 => ?_)
                      refine ev_jmp f_X12_findsReadings (nx := 78) rfl rfl rfl ?_
                      refine ev_sub (lo := [(6, .int z64), (5, .int y15_5), (4, .int y8_4), (3, .int (g2 70 0)), (0, .ref 69), (1, .long ar1)]) rfl (t_sc rfl (t_sc rfl (t_sc rfl (t_sc rfl (t_sc rfl (t_sc rfl t_sn)))))) ?_
                      exact ih48 _ (by omega) gi62 gl62 gr62 (z64) hI hX  (Int.le_trans (by decide : (0:Int) ≤ 1) l64) u64 ((hC62.1 70 0 rfl).1.trans c48_0) (by omega) (fun j => (congrFun ((funext (fun j => (hC62.1 70 j rfl).1) : gi62 70 = gi48 70)) j).trans (j48_1 j)) (by
                                                            intro D hm hb
                                                            obtain ⟨g1, hn, g2, g3⟩ := j48_2 D hm hb
                                                            have hmN : t_ME 0 gi48 D := hm.mv hb (fun j _ _ _ => j48_1 (0 + j))
                                                            have hw54 : w54 = s_hd D y8_4.toInt := (q54.2 D hmN (by omega)).trans ((s_hd_i (D := D) (p := y8_4.toInt) (by omega) (by omega)).trans (by rw [show y8_4.toInt.toNat = y8_4.toNatClampNeg from (by have := t_clamp (i := y8_4) (by omega); omega)])).symm
                                                            have hw55 : w55 = s_hd D y15_5.toInt := (q55.2 D hmN (by omega)).trans ((s_hd_i (D := D) (p := y15_5.toInt) (by omega) (by omega)).trans (by rw [show y15_5.toInt.toNat = y15_5.toNatClampNeg from (by have := t_clamp (i := y15_5) (by omega); omega)])).symm
                                                            have hv := s_bw_e hw54 hw55 e56 e57
                                                            have hne := (t_le0 e58 h59)
                                                            rw [hv] at hne
                                                            exact ⟨(g1.add (s_R4_y (by omega) hne) (fun L hL => q62.2 L _ hL rfl rfl rfl)).cg (by rw [show z64.toInt = y48_6.toInt + 1 by omega]), hn, g2, g3⟩) rfl
                    · have r65 : z58.toInt ≠ 0 := fun e => h59 (Int32.toInt_inj.mp (e.trans (by decide : (0:Int) = (0 : Int32).toInt)))
                      refine ev_incR f_X12_findsReadings (nx := 119) (c := 1) (l := 1) (u := 13) rfl rfl (by decide) (by decide) l48_6 u53 rfl rfl (by decide) (by decide) rfl (fun z66 e66 l66 u66 => ?_)
                      refine ev_jmp f_X12_findsReadings (nx := 78) rfl rfl rfl ?_
                      refine ev_sub (lo := [(6, .int z66), (5, .int y15_5), (4, .int y8_4), (3, .int (g2 70 0)), (0, .ref 69), (1, .long ar1)]) rfl (t_sc rfl (t_sc rfl (t_sc rfl (t_sc rfl (t_sc rfl (t_sc rfl t_sn)))))) ?_
                      exact ih48 _ (by omega) gi48 gl48 gr48 (z66) hI hX  (Int.le_trans (by decide : (0:Int) ≤ 1) l66) u66 c48_0 (by omega) j48_1 (by
                                                            intro D hm hb
                                                            obtain ⟨g1, hn, g2, g3⟩ := j48_2 D hm hb
                                                            have hmN : t_ME 0 gi48 D := hm.mv hb (fun j _ _ _ => j48_1 (0 + j))
                                                            have hw54 : w54 = s_hd D y8_4.toInt := (q54.2 D hmN (by omega)).trans ((s_hd_i (D := D) (p := y8_4.toInt) (by omega) (by omega)).trans (by rw [show y8_4.toInt.toNat = y8_4.toNatClampNeg from (by have := t_clamp (i := y8_4) (by omega); omega)])).symm
                                                            have hw55 : w55 = s_hd D y15_5.toInt := (q55.2 D hmN (by omega)).trans ((s_hd_i (D := D) (p := y15_5.toInt) (by omega) (by omega)).trans (by rw [show y15_5.toInt.toNat = y15_5.toNatClampNeg from (by have := t_clamp (i := y15_5) (by omega); omega)])).symm
                                                            have hv := s_bw_e hw54 hw55 e56 e57
                                                            have hne := (t_le1 e58 h59)
                                                            rw [hv] at hne
                                                            exact ⟨g1.cg ((s_R4_n (by omega) hne).trans (by rw [show z66.toInt = y48_6.toInt + 1 by omega])), hn, g2, g3⟩) rfl
                refine ev_sub (lo := [(6, .int 1), (5, .int y15_5), (4, .int y8_4), (3, .int (g2 70 0)), (0, .ref 69), (1, .long ar1)]) rfl (t_sc rfl (t_sc rfl (t_sc rfl (t_sc rfl (t_sc rfl (t_sc rfl t_sn)))))) ?_
                exact L48 _ gi15 gl15 gr15 (1) hI hX  (Int.le_trans (by decide : (0:Int) ≤ 1) (by decide : (1:Int) ≤ (1:Int32).toInt)) (Int.le_trans (by decide : (1:Int32).toInt ≤ (1:Int)) (by decide : (1:Int) ≤ 13)) c15_0 (by have kf67 : (1 : Int32).toInt = 1 := (by decide); omega) j15_1 (by
                                                            intro D hm hb
                                                            obtain ⟨g1, hn, g2⟩ := j15_2 D hm hb
                                                            have hl2 : s_lb y8_4.toInt y15_5.toInt = (1 : Int32).toInt := s_lb_1 (by omega)
                                                            exact ⟨g1.cg ((s_R3_s (by omega)).trans (by rw [hl2])), hn, g2, by omega⟩) rfl
          refine ev_sub (lo := [(5, .int 0), (4, .int y8_4), (3, .int (g2 70 0)), (0, .ref 69), (1, .long ar1)]) rfl (t_sc rfl (t_sc rfl (t_sc rfl (t_sc rfl (t_sc rfl t_sn))))) ?_
          exact L15 _ gi8 gl8 gr8 (0) hI hX  (by decide : (0:Int) ≤ (0:Int32).toInt) (Int.le_trans (by decide : (0:Int32).toInt ≤ (0:Int)) (by decide : (0:Int) ≤ 6)) c8_0 (by have kf68 : (0 : Int32).toInt = 0 := (by decide); omega) j8_1 (by
                                                            intro D hm hb
                                                            obtain ⟨g1, hn⟩ := j8_2 D hm hb
                                                            exact ⟨g1.cg (s_R2_s (by omega)), hn, by omega⟩) rfl
      refine ev_sub (lo := [(4, .int 0), (3, .int (g2 70 0)), (0, .ref 69), (1, .long ar1)]) rfl (t_sc rfl (t_sc rfl (t_sc rfl (t_sc rfl t_sn)))) ?_
      exact L8 _ gi4 gl4 gr4 (0) hI hX  (by decide : (0:Int) ≤ (0:Int32).toInt) (Int.le_trans (by decide : (0:Int32).toInt ≤ (0:Int)) (by decide : (0:Int) ≤ 6)) c4_0 (by have kf69 : (0 : Int32).toInt = 0 := (by decide); omega) j4_1 (by
                                                            intro D hm hb
                                                            obtain ⟨g1, hn⟩ := j4_2 D hm hb
                                                            exact ⟨g1.cg (s_R1_e (by omega)), hn⟩) rfl
    · have r70 : y4_4.toInt < (g2 70 0).toInt := Int32.lt_iff_toInt_lt.mp (t_nle h6)
      have u71 : y4_4.toInt ≤ 5 := t_ltu (t_nle h6) u3 rfl
      have l72 : 1 ≤ (g2 70 0).toInt := t_ltl (t_nle h6) l4_4 rfl
      refine ev_loc f_X12_findsReadings (nx := 22) rfl rfl rfl rfl ?_
      refine ev_loc f_X12_findsReadings (nx := 24) rfl rfl rfl rfl ?_
      refine ev_qL0 f_X12_findsReadings (nx := 27) (r := []) rfl rfl rfl rfl rfl rfl rfl (c_n_heardOf hI (y4_4) l4_4 u71) rfl (fun w73 q73 => ?_)
      have q73 : (0 ≤ w73.toInt ∧ w73.toInt < 8589934592) ∧ ∀ D : s_D, t_ME 0 gi4 D → y4_4.toInt < D 0 → w73 = s_ec (s_so D y4_4.toNatClampNeg) (D 7) := q73
      refine ev_loc f_X12_findsReadings (nx := 28) rfl rfl rfl rfl ?_
      refine ev_anyIE f_X12_findsReadings (nx := 29) rfl rfl rfl rfl (fun z74 e74 => ?_)
      refine ev_if f_X12_findsReadings (t1 := 32) (t2 := 40) rfl rfl rfl (fun h75 => ?_) (fun h75 => ?_)
      · have u76 : z74.toInt ≤ 0 := t_equ h75 (by decide : (0:Int32).toInt ≤ (0:Int))
        have l77 : 0 ≤ z74.toInt := t_eql h75 (by decide : (0:Int) ≤ (0:Int32).toInt)
        refine ev_loc f_X12_findsReadings (nx := 33) rfl rfl rfl rfl ?_
        refine ev_loc f_X12_findsReadings (nx := 35) rfl rfl rfl rfl ?_
        refine ev_ic f_X12_findsReadings (nx := 36) (v := -1) rfl (by decide) rfl ?_
        refine ev_ic f_X12_findsReadings (nx := 37) (v := -1) rfl (by decide) rfl ?_
        refine ev_qN f_X12_findsReadings (nx := 40) (r := []) rfl rfl rfl rfl rfl rfl rfl (c_n_reads hI (y4_4) ((-1)) ((-1)) (by omega)) rfl hX rfl (fun gi78 gl78 gr78 hI hX hC78 q78 => ?_)
        have q78 : (gi78 69 29).toInt = (gi4 69 29).toInt + 1 ∧ (∀ (L : s_RL) (t : Int × Int × Int), s_S2 gi4 L → y4_4.toInt = t.1 → (-1) = t.2.1 → (-1) = t.2.2 → s_S2 gi78 (L ++ [t])) := q78
        obtain ⟨l79, u79⟩ := hI.b (hI.wf.s (k := 69) rfl) (t_bdK rfl : t_bd 11 29 = some (0, 500))
        refine ev_incR f_X12_findsReadings (nx := 43) (c := 1) (l := 1) (u := 6) rfl rfl (by decide) (by decide) l4_4 u71 rfl rfl (by decide) (by decide) rfl (fun z80 e80 l80 u80 => ?_)
        refine ev_jmp f_X12_findsReadings (nx := 15) rfl rfl rfl ?_
        refine ev_sub (lo := [(4, .int z80), (3, .int (g2 70 0)), (0, .ref 69), (1, .long ar1)]) rfl (t_sc rfl (t_sc rfl (t_sc rfl (t_sc rfl t_sn)))) ?_
        exact ih4 _ (by omega) gi78 gl78 gr78 (z80) hI hX  (Int.le_trans (by decide : (0:Int) ≤ 1) l80) u80 ((hC78.1 70 0 rfl).1.trans c4_0) (by omega) (fun j => (congrFun ((funext (fun j => (hC78.1 70 j rfl).1) : gi78 70 = gi4 70)) j).trans (j4_1 j)) (by
                                                            intro D hm hb
                                                            obtain ⟨g1, hn⟩ := j4_2 D hm hb
                                                            have hmN : t_ME 0 gi4 D := hm.mv hb (fun j _ _ _ => j4_1 (0 + j))
                                                            have hw73 : w73 = s_hd D y4_4.toInt := (q73.2 D hmN (by omega)).trans ((s_hd_i (D := D) (p := y4_4.toInt) (by omega) (by omega)).trans (by rw [show y4_4.toInt.toNat = y4_4.toNatClampNeg from (by have := t_clamp (i := y4_4) (by omega); omega)])).symm
                                                            have hne := (t_le0 e74 h75)
                                                            rw [hw73] at hne
                                                            exact ⟨(g1.add (s_R1_y (by omega) hne) (fun L hL => q78.2 L _ hL rfl rfl rfl)).cg (by rw [show z80.toInt = y4_4.toInt + 1 by omega]), hn⟩) rfl
      · have r81 : z74.toInt ≠ 0 := fun e => h75 (Int32.toInt_inj.mp (e.trans (by decide : (0:Int) = (0 : Int32).toInt)))
        refine ev_incR f_X12_findsReadings (nx := 43) (c := 1) (l := 1) (u := 6) rfl rfl (by decide) (by decide) l4_4 u71 rfl rfl (by decide) (by decide) rfl (fun z82 e82 l82 u82 => ?_)
        refine ev_jmp f_X12_findsReadings (nx := 15) rfl rfl rfl ?_
        refine ev_sub (lo := [(4, .int z82), (3, .int (g2 70 0)), (0, .ref 69), (1, .long ar1)]) rfl (t_sc rfl (t_sc rfl (t_sc rfl (t_sc rfl t_sn)))) ?_
        exact ih4 _ (by omega) gi4 gl4 gr4 (z82) hI hX  (Int.le_trans (by decide : (0:Int) ≤ 1) l82) u82 c4_0 (by omega) j4_1 (by
                                                            intro D hm hb
                                                            obtain ⟨g1, hn⟩ := j4_2 D hm hb
                                                            have hmN : t_ME 0 gi4 D := hm.mv hb (fun j _ _ _ => j4_1 (0 + j))
                                                            have hw73 : w73 = s_hd D y4_4.toInt := (q73.2 D hmN (by omega)).trans ((s_hd_i (D := D) (p := y4_4.toInt) (by omega) (by omega)).trans (by rw [show y4_4.toInt.toNat = y4_4.toNatClampNeg from (by have := t_clamp (i := y4_4) (by omega); omega)])).symm
                                                            have hne := (t_le1 e74 h75)
                                                            rw [hw73] at hne
                                                            exact ⟨g1.cg ((s_R1_n (by omega) hne).trans (by rw [show z82.toInt = y4_4.toInt + 1 by omega])), hn⟩) rfl
  refine ev_sub (lo := [(4, .int 0), (3, .int (g2 70 0)), (0, .ref 69), (1, .long ar1)]) rfl (t_sc rfl (t_sc rfl (t_sc rfl (t_sc rfl t_sn)))) ?_
  exact L4 _ g2 gl gr (0) hI hX  (by decide : (0:Int) ≤ (0:Int32).toInt) (Int.le_trans (by decide : (0:Int32).toInt ≤ (0:Int)) (by decide : (0:Int) ≤ 6)) rfl (by have kf83 : (0 : Int32).toInt = 0 := (by decide); have ff84 : (g2 69 29).toInt = 0 := (congrArg Int32.toInt (by rw [e2]; exact x_up2_at _ _ _ _ : g2 69 29 = 0)).trans (by decide); omega) (fun j => (congrFun ((by rw [e2]; exact x_up2_ne (by decide) : g2 70 = gi 70)) j).trans ((fun _ => rfl) j)) (by
                                                            intro D hm hb
                                                            have ff85 : (g2 69 29).toInt = 0 := (congrArg Int32.toInt (by rw [e2]; exact x_up2_at _ _ _ _ : g2 69 29 = 0)).trans (by decide)
                                                            have hn : (g2 70 0).toInt = D 0 := by rw [e2, x_up2_off (Or.inl (by decide))]; exact hm.1.1.1
                                                            exact ⟨s_RI.nil (s_S2_nil (by omega)) s_R1_0, hn⟩) rfl
noncomputable def wl_e_readings : List (Nat × Nat) := [(69, 2), (69, 29), (69, 30), (78, 9999), (79, 9999), (80, 9999), (81, 9999), (82, 9999), (83, 9999)]
noncomputable def Q_e_readings (gi : Nat → Nat → Int32) (gl : Nat → Nat → Int64) (gr : Nat → Nat → Value) (ar1 : Int64) : Int32 → (Nat → Nat → Int32) → (Nat → Nat → Int64) → (Nat → Nat → Value) → Prop := fun (v : Int32) (gi2 : Nat → Nat → Int32) (gl2 : Nat → Nat → Int64) (gr2 : Nat → Nat → Value) => (∀ D : s_D, t_ME 0 gi D → t_Cb D → (1 ≤ ar1.toInt → s_S3 gi2 (s_rL D ar1) ∧ v.toInt = ((s_rL D ar1).length : Int)) ∧ (ar1.toInt < 1 → v.toInt = -1 ∧ ∀ L, s_S3 gi L → s_S3 gi2 L))
theorem c_e_readings {X : x_Ext} {d : Nat} {sh : List (Nat ⊕ (Nat × Nat))} {gi : Nat → Nat → Int32} {gl : Nat → Nat → Int64} {gr : Nat → Nat → Value} (hI : t_I sh gi gr) (ar1 : Int64) : x_Me X (d + 5) n_X12_readings [.ref 69, .long ar1] (sh, gi, gl, gr) (t_PI wl_e_readings sh gi gl gr (-1) 500 (Q_e_readings gi gl gr ar1)) := by
  have hX : t_X wl_e_readings sh gi gl gr gi gl gr := t_X.rf
  refine me_i f_X12_readings (hI.wf.s rfl) rfl rfl rfl ?_
  obtain ⟨l1, u1⟩ := hI.b (hI.wf.s (k := 69) rfl) (t_bdK rfl : t_bd 11 29 = some (0, 500))
  refine ev_loc f_X12_readings (nx := 1) rfl rfl rfl rfl ?_
  refine ev_lc f_X12_readings (nx := 2) (v := 1) rfl (by decide) rfl ?_
  refine ev_anyIE f_X12_readings (nx := 3) rfl rfl rfl rfl (fun z2 e2 => ?_)
  refine ev_if f_X12_readings (t1 := 12) (t2 := 6) rfl rfl rfl (fun h3 => ?_) (fun h3 => ?_)
  · have l4 : 0 ≤ z2.toInt := t_lel h3 (by decide : (0:Int) ≤ (0:Int32).toInt)
    refine ev_loc f_X12_readings (nx := 13) rfl rfl rfl rfl ?_
    have hlt := (t_lt1r e2 h3)
    refine ev_loc f_X12_readings (nx := 14) rfl rfl rfl rfl ?_
    refine ev_qN f_X12_readings (nx := 17) (r := []) rfl rfl rfl rfl rfl rfl rfl (c_l_findsReadings hI (ar1)) rfl hX rfl (fun gi5 gl5 gr5 hI hX hC5 q5 => ?_)
    have q5 : (gi5 69 29).toInt ≤ 474 ∧ (∀ j, gi5 70 j = gi 70 j) ∧ (∀ D : s_D, t_ME 0 gi D → t_Cb D → s_S2 gi5 (s_rL D ar1)) := q5
    obtain ⟨l6, u6⟩ := hI.b (hI.wf.s (k := 69) rfl) (t_bdK rfl : t_bd 11 29 = some (0, 500))
    refine ev_ic f_X12_readings (nx := 18) (v := 0) rfl (by decide) rfl ?_
    refine ev_loc f_X12_readings (nx := 19) (lo' := [(3, .int 0), (0, .ref 69), (1, .long ar1)]) rfl rfl rfl rfl ?_
    have L7 : ∀ (m7 : Nat) (gi7 : Nat → Nat → Int32) (gl7 : Nat → Nat → Int64) (gr7 : Nat → Nat → Value) (y7_3 : Int32), t_I sh gi7 gr7 → t_X wl_e_readings sh gi gl gr gi7 gl7 gr7 → 0 ≤ y7_3.toInt → y7_3.toInt ≤ 899 → gi7 69 29 = (gi5 69 29) → (gi7 69 29).toInt ≤ 474 → (∀ k : Nat, (k : Int) < y7_3.toInt → gi7 81 k = gi7 78 k ∧ gi7 82 k = gi7 79 k ∧ gi7 83 k = gi7 80 k) → (∀ D : s_D, t_ME 0 gi D → t_Cb D → s_S2 gi7 (s_rL D ar1)) → (899 - y7_3.toInt).toNat = m7 → x_Ev X (d + 5) n_X12_readings 19 [(3, .int y7_3), (0, .ref 69), (1, .long ar1)] [] (sh, gi7, gl7, gr7) (t_PI wl_e_readings sh gi gl gr (-1) 500 (Q_e_readings gi gl gr ar1)) := by
      intro m7
      induction m7 using Nat.strongRecOn with
      | _ m7 ih7 =>
      intro gi7 gl7 gr7 y7_3 hI hX l7_3 u7_3 c7_0 j7_0 j7_1 j7_2 hm7
      refine ev_loc f_X12_readings (nx := 20) rfl rfl rfl rfl ?_
      refine ev_loc f_X12_readings (nx := 21) rfl rfl rfl rfl ?_
      refine ev_gvI f_X12_readings (nx := 24) (w := (gi5 69 29)) rfl (hI.wf.s rfl) rfl rfl c7_0 rfl ?_
      refine ev_if f_X12_readings (t1 := 69) (t2 := 27) rfl rfl rfl (fun h8 => ?_) (fun h8 => ?_)
      · have r9 : (gi5 69 29).toInt ≤ y7_3.toInt := Int32.le_iff_toInt_le.mp h8
        refine ev_loc f_X12_readings (nx := 70) rfl rfl rfl rfl ?_
        refine ev_loc f_X12_readings (nx := 71) rfl rfl rfl rfl ?_
        refine ev_gvI f_X12_readings (nx := 74) (w := (gi5 69 29)) rfl (hI.wf.s rfl) rfl rfl c7_0 rfl ?_
        refine ev_putIT f_X12_readings (nx := 77) rfl (hI.wf.s rfl) rfl rfl rfl (hI.putB (hI.wf.s rfl) rfl rfl l6 (by decide) u6 (by decide)) (hX.upI rfl) (fun g10 e10 hI hX => ?_)
        refine ev_loc f_X12_readings (nx := 78) rfl rfl rfl rfl ?_
        refine ev_loc f_X12_readings (nx := 79) rfl rfl rfl rfl ?_
        refine ev_gvI f_X12_readings (nx := 82) (w := (gi5 69 29)) rfl (hI.wf.s rfl) rfl rfl ((by rw [e10]; exact x_up2_off (Or.inr (by decide)) : g10 69 29 = gi7 69 29).trans c7_0) rfl ?_
        refine ev_inV2 f_X12_readings (nx := 85) (lo2 := [(0, .ref 69), (1, .int (gi5 69 29))]) rfl rfl rfl rfl f_X12_gives (hI.wf.s rfl) rfl rfl rfl rfl rfl ?_
        refine ev_loc f_X12_gives (nx := 1) rfl rfl rfl rfl ?_
        refine ev_ic f_X12_gives (nx := 2) (v := 0) rfl (by decide) rfl ?_
        refine ev_putIT f_X12_gives (nx := 5) rfl (hI.wf.s rfl) rfl rfl rfl (hI.put0 (hI.wf.s rfl) rfl rfl) (hX.upI rfl) (fun g11 e11 hI hX => ?_)
        refine ev_loc f_X12_gives (nx := 6) rfl rfl rfl rfl ?_
        refine ev_retK1 f_X12_gives rfl rfl rfl ?_
        exact ev_ret f_X12_readings rfl rfl rfl ⟨_, _, _, rfl, hI, hX, ⟨_, rfl, (Int.le_trans (by decide : ((-1):Int) ≤ 0) l6), u6, (show (∀ D : s_D, t_ME 0 gi D → t_Cb D → (1 ≤ ar1.toInt → s_S3 g11 (s_rL D ar1) ∧ (gi5 69 29).toInt = ((s_rL D ar1).length : Int)) ∧ (ar1.toInt < 1 → (gi5 69 29).toInt = -1 ∧ ∀ L, s_S3 gi L → s_S3 g11 L)) from (by
                                                            intro D hm hb
                                                            have h1 := hlt
                                                            have hk0 := congrArg Int32.toInt c7_0
                                                            have g1 := j7_2 D hm hb
                                                            have g2 := j7_1
                                                            have ff12 : (g11 69 30).toInt = (gi5 69 29).toInt := congrArg Int32.toInt ((by rw [e11]; exact x_up2_off (Or.inr (by decide)) : g11 69 30 = g10 69 30).trans (by rw [e10]; exact x_up2_at _ _ _ _ : g10 69 30 = (gi5 69 29)))
                                                            refine ⟨fun _ => ⟨s_S3_of g1 (by omega) (fun k hk => ?_), ?_⟩, fun h => absurd h (by omega)⟩
                                                            · rw [show g11 81 = gi7 81 from (by rw [e11, x_up2_ne (by decide), e10, x_up2_ne (by decide)]), show g11 82 = gi7 82 from (by rw [e11, x_up2_ne (by decide), e10, x_up2_ne (by decide)]), show g11 83 = gi7 83 from (by rw [e11, x_up2_ne (by decide), e10, x_up2_ne (by decide)])]
                                                              exact g2 k (by omega)
                                                            · have g3 := g1.1
                                                              omega))⟩⟩
      · have r13 : y7_3.toInt < (gi5 69 29).toInt := Int32.lt_iff_toInt_lt.mp (t_nle h8)
        have u14 : y7_3.toInt ≤ 499 := t_ltu (t_nle h8) u6 rfl
        have l15 : 1 ≤ (gi5 69 29).toInt := t_ltl (t_nle h8) l7_3 rfl
        refine ev_loc f_X12_readings (nx := 28) rfl rfl rfl rfl ?_
        refine ev_getR f_X12_readings (nx := 31) rfl (hI.wf.s rfl) rfl rfl (hI.wf.r rfl) rfl rfl ?_
        refine ev_loc f_X12_readings (nx := 32) rfl rfl rfl rfl ?_
        refine ev_loc f_X12_readings (nx := 33) rfl rfl rfl rfl ?_
        refine ev_getR f_X12_readings (nx := 36) rfl (hI.wf.s rfl) rfl rfl (hI.wf.r rfl) rfl rfl ?_
        refine ev_loc f_X12_readings (nx := 37) rfl rfl rfl rfl ?_
        refine ev_ialdT f_X12_readings (nx := 38) rfl (hI.wf.s rfl) l7_3 (by decide) u14 (by decide) rfl (fun w16 e16 => ?_)
        refine ev_iastT f_X12_readings (nx := 39) rfl (hI.wf.s rfl) l7_3 (by decide) u14 (by decide) rfl (hI.astG (hI.wf.s rfl) (fun lo hi e => absurd e (t_nob (by decide +kernel) _)) (fun k hk e => by have := hk.2.1; omega)) (hX.upI (t_inA_ok rfl)) (fun g17 e17 hI hX => ?_)
        refine ev_loc f_X12_readings (nx := 40) rfl rfl rfl rfl ?_
        refine ev_getR f_X12_readings (nx := 43) rfl (hI.wf.s rfl) rfl rfl (hI.wf.r rfl) rfl rfl ?_
        refine ev_loc f_X12_readings (nx := 44) rfl rfl rfl rfl ?_
        refine ev_loc f_X12_readings (nx := 45) rfl rfl rfl rfl ?_
        refine ev_getR f_X12_readings (nx := 48) rfl (hI.wf.s rfl) rfl rfl (hI.wf.r rfl) rfl rfl ?_
        refine ev_loc f_X12_readings (nx := 49) rfl rfl rfl rfl ?_
        refine ev_ialdT f_X12_readings (nx := 50) rfl (hI.wf.s rfl) l7_3 (by decide) u14 (by decide) rfl (fun w18 e18 => ?_)
        refine ev_iastT f_X12_readings (nx := 51) rfl (hI.wf.s rfl) l7_3 (by decide) u14 (by decide) rfl (hI.astG (hI.wf.s rfl) (fun lo hi e => absurd e (t_nob (by decide +kernel) _)) (fun k hk e => by have := hk.2.1; omega)) (hX.upI (t_inA_ok rfl)) (fun g19 e19 hI hX => ?_)
        refine ev_loc f_X12_readings (nx := 52) rfl rfl rfl rfl ?_
        refine ev_getR f_X12_readings (nx := 55) rfl (hI.wf.s rfl) rfl rfl (hI.wf.r rfl) rfl rfl ?_
        refine ev_loc f_X12_readings (nx := 56) rfl rfl rfl rfl ?_
        refine ev_loc f_X12_readings (nx := 57) rfl rfl rfl rfl ?_
        refine ev_getR f_X12_readings (nx := 60) rfl (hI.wf.s rfl) rfl rfl (hI.wf.r rfl) rfl rfl ?_
        refine ev_loc f_X12_readings (nx := 61) rfl rfl rfl rfl ?_
        refine ev_ialdT f_X12_readings (nx := 62) rfl (hI.wf.s rfl) l7_3 (by decide) u14 (by decide) rfl (fun w20 e20 => ?_)
        refine ev_iastT f_X12_readings (nx := 63) rfl (hI.wf.s rfl) l7_3 (by decide) u14 (by decide) rfl (hI.astG (hI.wf.s rfl) (fun lo hi e => absurd e (t_nob (by decide +kernel) _)) (fun k hk e => by have := hk.2.1; omega)) (hX.upI (t_inA_ok rfl)) (fun g21 e21 hI hX => ?_)
        refine ev_incR f_X12_readings (nx := 66) (c := 1) (l := 1) (u := 500) rfl rfl (by decide) (by decide) l7_3 u14 rfl rfl (by decide) (by decide) rfl (fun z22 e22 l22 u22 => ?_)
        refine ev_jmp f_X12_readings (nx := 19) rfl rfl rfl ?_
        refine ev_sub (lo := [(3, .int z22), (0, .ref 69), (1, .long ar1)]) rfl (t_sc rfl (t_sc rfl (t_sc rfl t_sn))) ?_
        exact ih7 _ (by omega) g21 gl7 gr7 (z22) hI hX  (Int.le_trans (by decide : (0:Int) ≤ 1) l22) (Int.le_trans u22 (by decide : (500:Int) ≤ 899)) ((by rw [e21]; exact x_up2_off (Or.inl (by decide)) : g21 69 29 = g19 69 29).trans ((by rw [e19]; exact x_up2_off (Or.inl (by decide)) : g19 69 29 = g17 69 29).trans ((by rw [e17]; exact x_up2_off (Or.inl (by decide)) : g17 69 29 = gi7 69 29).trans c7_0))) (by have ff23 : (g21 69 29).toInt = (gi5 69 29).toInt := congrArg Int32.toInt ((by rw [e21]; exact x_up2_off (Or.inl (by decide)) : g21 69 29 = g19 69 29).trans ((by rw [e19]; exact x_up2_off (Or.inl (by decide)) : g19 69 29 = g17 69 29).trans ((by rw [e17]; exact x_up2_off (Or.inl (by decide)) : g17 69 29 = gi7 69 29).trans c7_0))); omega) (by
                                                            intro k hk
                                                            exact s_cp3 j7_1 e17 e16 e19 e18 e21 e20 (by omega) (by omega) k hk) (fun D hm hb => (j7_2 D hm hb).cg (by rw [e21, x_up2_off (Or.inl (by decide)), e19, x_up2_off (Or.inl (by decide)), e17, x_up2_off (Or.inl (by decide))]) (by rw [e21, x_up2_ne (by decide), e19, x_up2_ne (by decide), e17, x_up2_ne (by decide)]) (by rw [e21, x_up2_ne (by decide), e19, x_up2_ne (by decide), e17, x_up2_ne (by decide)]) (by rw [e21, x_up2_ne (by decide), e19, x_up2_ne (by decide), e17, x_up2_ne (by decide)])) rfl
    refine ev_sub (lo := [(3, .int 0), (0, .ref 69), (1, .long ar1)]) rfl (t_sc rfl (t_sc rfl (t_sc rfl t_sn))) ?_
    exact L7 _ gi5 gl5 gr5 (0) hI hX  (by decide : (0:Int) ≤ (0:Int32).toInt) (Int.le_trans (by decide : (0:Int32).toInt ≤ (0:Int)) (by decide : (0:Int) ≤ 899)) rfl (by omega) (by
                                                            intro k hk
                                                            have z0 : (0 : Int32).toInt = 0 := rfl
                                                            omega) q5.2.2 rfl
  · have u24 : z2.toInt ≤ (-1) := t_ltu (t_nle h3) (by decide : (0:Int32).toInt ≤ (0:Int)) rfl
    refine ev_loc f_X12_readings (nx := 7) rfl rfl rfl rfl ?_
    refine ev_ic f_X12_readings (nx := 8) (v := 1) rfl (by decide) rfl ?_
    refine ev_inV2 f_X12_readings (nx := 11) (lo2 := [(0, .ref 69), (1, .int 1)]) rfl rfl rfl rfl f_X12_refuse (hI.wf.s rfl) rfl rfl rfl rfl rfl ?_
    refine ev_loc f_X12_refuse (nx := 1) rfl rfl rfl rfl ?_
    refine ev_loc f_X12_refuse (nx := 2) rfl rfl rfl rfl ?_
    refine ev_putIT f_X12_refuse (nx := 5) rfl (hI.wf.s rfl) rfl rfl rfl (hI.put0 (hI.wf.s rfl) rfl rfl) (hX.upI rfl) (fun g25 e25 hI hX => ?_)
    refine ev_ic f_X12_refuse (nx := 6) (v := -1) rfl (by decide) rfl ?_
    refine ev_retK1 f_X12_refuse rfl rfl rfl ?_
    exact ev_ret f_X12_readings rfl rfl rfl ⟨_, _, _, rfl, hI, hX, ⟨_, rfl, (by decide : ((-1):Int) ≤ ((-1):Int32).toInt), (Int.le_trans (by decide : ((-1):Int32).toInt ≤ ((-1):Int)) (by decide : ((-1):Int) ≤ 500)), (show (∀ D : s_D, t_ME 0 gi D → t_Cb D → (1 ≤ ar1.toInt → s_S3 g25 (s_rL D ar1) ∧ ((-1) : Int) = ((s_rL D ar1).length : Int)) ∧ (ar1.toInt < 1 → ((-1) : Int) = -1 ∧ ∀ L, s_S3 gi L → s_S3 g25 L)) from (by
                                                            intro D hm hb
                                                            have h1 := (t_lt1q e2 h3)
                                                            exact ⟨fun h => absurd h (by omega), fun _ => ⟨rfl, fun L hL => hL.cg (by rw [e25, x_up2_off (Or.inr (by decide))]) (by rw [e25, x_up2_ne (by decide)]) (by rw [e25, x_up2_ne (by decide)]) (by rw [e25, x_up2_ne (by decide)])⟩⟩))⟩⟩
noncomputable def wl_d_reading : List (Nat × Nat) := [(0, 0)]
noncomputable def Q_d_reading (gi : Nat → Nat → Int32) (gl : Nat → Nat → Int64) (gr : Nat → Nat → Value) (ar1 : Int32) (ar2 : Int32) : Int32 → (Nat → Nat → Int32) → (Nat → Nat → Int64) → (Nat → Nat → Value) → Prop := fun (v : Int32) (gi2 : Nat → Nat → Int32) (gl2 : Nat → Nat → Int64) (gr2 : Nat → Nat → Value) => ∀ L : s_RL, s_S1 gi L → s_LO L → ((0 ≤ ar1.toInt ∧ ar1.toInt < (L.length : Int) ∧ 0 ≤ ar2.toInt ∧ ar2.toInt ≤ 2) → v.toInt = s_rd L ar1.toNatClampNeg ar2.toInt) ∧ (¬ (0 ≤ ar1.toInt ∧ ar1.toInt < (L.length : Int) ∧ 0 ≤ ar2.toInt ∧ ar2.toInt ≤ 2) → v.toInt = -1)
theorem c_d_reading {X : x_Ext} {d : Nat} {sh : List (Nat ⊕ (Nat × Nat))} {gi : Nat → Nat → Int32} {gl : Nat → Nat → Int64} {gr : Nat → Nat → Value} (hI : t_I sh gi gr) (ar1 : Int32) (ar2 : Int32) : x_Me X (d + 2) n_X11_reading [.ref 0, .int ar1, .int ar2] (sh, gi, gl, gr) (t_PI wl_d_reading sh gi gl gr (-2147483648) 2147483647 (Q_d_reading gi gl gr ar1 ar2)) := by
  have hX : t_X wl_d_reading sh gi gl gr gi gl gr := t_X.rf
  refine me_i f_X11_reading (hI.wf.s rfl) rfl rfl rfl ?_
  refine ev_loc f_X11_reading (nx := 1) rfl rfl rfl rfl ?_
  refine ev_if f_X11_reading (t1 := 9) (t2 := 4) rfl rfl rfl (fun h1 => ?_) (fun h1 => ?_)
  · have u2 : ar2.toInt ≤ (-1) := t_ltu h1 (by decide : (0:Int32).toInt ≤ (0:Int)) rfl
    refine ev_loc f_X11_reading (nx := 10) rfl rfl rfl rfl ?_
    refine ev_ic f_X11_reading (nx := 11) (v := 1) rfl (by decide) rfl ?_
    refine ev_inV2 f_X11_reading (nx := 14) (lo2 := [(0, .ref 0), (1, .int 1)]) rfl rfl rfl rfl f_X11_refuse (hI.wf.s rfl) rfl rfl rfl rfl rfl ?_
    refine ev_loc f_X11_refuse (nx := 1) rfl rfl rfl rfl ?_
    refine ev_loc f_X11_refuse (nx := 2) rfl rfl rfl rfl ?_
    refine ev_putIT f_X11_refuse (nx := 5) rfl (hI.wf.s rfl) rfl rfl rfl (hI.put0 (hI.wf.s rfl) rfl rfl) (hX.upI rfl) (fun g3 e3 hI hX => ?_)
    refine ev_ic f_X11_refuse (nx := 6) (v := -1) rfl (by decide) rfl ?_
    refine ev_retK1 f_X11_refuse rfl rfl rfl ?_
    exact ev_ret f_X11_reading rfl rfl rfl ⟨_, _, _, rfl, hI, hX, ⟨_, rfl, (Int.le_trans (by decide : ((-2147483648):Int) ≤ (-1)) (by decide : ((-1):Int) ≤ ((-1):Int32).toInt)), (Int.le_trans (by decide : ((-1):Int32).toInt ≤ ((-1):Int)) (by decide : ((-1):Int) ≤ 2147483647)), (show ∀ L : s_RL, s_S1 gi L → s_LO L → ((0 ≤ ar1.toInt ∧ ar1.toInt < (L.length : Int) ∧ 0 ≤ ar2.toInt ∧ ar2.toInt ≤ 2) → ((-1) : Int) = s_rd L ar1.toNatClampNeg ar2.toInt) ∧ (¬ (0 ≤ ar1.toInt ∧ ar1.toInt < (L.length : Int) ∧ 0 ≤ ar2.toInt ∧ ar2.toInt ≤ 2) → ((-1) : Int) = -1) from (by
                                                            intro L h hL
                                                            obtain ⟨hn, hl⟩ := h
                                                            have hk : (gi 0 14).toInt = (L.length : Int) := hn
                                                            exact ⟨fun h => absurd h (by omega), fun _ => rfl⟩))⟩⟩
  · have l4 : 0 ≤ ar2.toInt := t_lel (t_nlt h1) (by decide : (0:Int) ≤ (0:Int32).toInt)
    refine ev_loc f_X11_reading (nx := 5) rfl rfl rfl rfl ?_
    refine ev_ic f_X11_reading (nx := 6) (v := 2) rfl (by decide) rfl ?_
    refine ev_if f_X11_reading (t1 := 15) (t2 := 9) rfl rfl rfl (fun h5 => ?_) (fun h5 => ?_)
    · have u6 : ar2.toInt ≤ 2 := t_leu h5 (by decide : (2:Int32).toInt ≤ (2:Int))
      refine ev_loc f_X11_reading (nx := 16) rfl rfl rfl rfl ?_
      refine ev_if f_X11_reading (t1 := 27) (t2 := 19) rfl rfl rfl (fun h7 => ?_) (fun h7 => ?_)
      · have u8 : ar1.toInt ≤ (-1) := t_ltu h7 (by decide : (0:Int32).toInt ≤ (0:Int)) rfl
        refine ev_loc f_X11_reading (nx := 28) rfl rfl rfl rfl ?_
        refine ev_bp f_X11_reading (nx := 30) (v := 6) rfl (by decide) rfl ?_
        refine ev_inV2 f_X11_reading (nx := 33) (lo2 := [(0, .ref 0), (1, .int 6)]) rfl rfl rfl rfl f_X11_refuse (hI.wf.s rfl) rfl rfl rfl rfl rfl ?_
        refine ev_loc f_X11_refuse (nx := 1) rfl rfl rfl rfl ?_
        refine ev_loc f_X11_refuse (nx := 2) rfl rfl rfl rfl ?_
        refine ev_putIT f_X11_refuse (nx := 5) rfl (hI.wf.s rfl) rfl rfl rfl (hI.put0 (hI.wf.s rfl) rfl rfl) (hX.upI rfl) (fun g9 e9 hI hX => ?_)
        refine ev_ic f_X11_refuse (nx := 6) (v := -1) rfl (by decide) rfl ?_
        refine ev_retK1 f_X11_refuse rfl rfl rfl ?_
        exact ev_ret f_X11_reading rfl rfl rfl ⟨_, _, _, rfl, hI, hX, ⟨_, rfl, (Int.le_trans (by decide : ((-2147483648):Int) ≤ (-1)) (by decide : ((-1):Int) ≤ ((-1):Int32).toInt)), (Int.le_trans (by decide : ((-1):Int32).toInt ≤ ((-1):Int)) (by decide : ((-1):Int) ≤ 2147483647)), (show ∀ L : s_RL, s_S1 gi L → s_LO L → ((0 ≤ ar1.toInt ∧ ar1.toInt < (L.length : Int) ∧ 0 ≤ ar2.toInt ∧ ar2.toInt ≤ 2) → ((-1) : Int) = s_rd L ar1.toNatClampNeg ar2.toInt) ∧ (¬ (0 ≤ ar1.toInt ∧ ar1.toInt < (L.length : Int) ∧ 0 ≤ ar2.toInt ∧ ar2.toInt ≤ 2) → ((-1) : Int) = -1) from (by
                                                            intro L h hL
                                                            obtain ⟨hn, hl⟩ := h
                                                            have hk : (gi 0 14).toInt = (L.length : Int) := hn
                                                            exact ⟨fun h => absurd h (by omega), fun _ => rfl⟩))⟩⟩
      · have l10 : 0 ≤ ar1.toInt := t_lel (t_nlt h7) (by decide : (0:Int) ≤ (0:Int32).toInt)
        refine ev_loc f_X11_reading (nx := 20) rfl rfl rfl rfl ?_
        refine ev_loc f_X11_reading (nx := 21) rfl rfl rfl rfl ?_
        refine ev_getI f_X11_reading (nx := 24) rfl (hI.wf.s rfl) rfl rfl rfl ?_
        obtain ⟨l11, u11⟩ := hI.b (hI.wf.s (k := 0) rfl) (t_bdK rfl : t_bd 10 14 = some (0, 474))
        refine ev_if f_X11_reading (t1 := 34) (t2 := 27) rfl rfl rfl (fun h12 => ?_) (fun h12 => ?_)
        · have r13 : ar1.toInt < (gi 0 14).toInt := Int32.lt_iff_toInt_lt.mp h12
          have u14 : ar1.toInt ≤ 473 := t_ltu h12 u11 rfl
          have l15 : 1 ≤ (gi 0 14).toInt := t_ltl h12 l10 rfl
          refine ev_loc f_X11_reading (nx := 35) rfl rfl rfl rfl ?_
          refine ev_if f_X11_reading (t1 := 60) (t2 := 38) rfl rfl rfl (fun h16 => ?_) (fun h16 => ?_)
          · have u17 : ar2.toInt ≤ 0 := t_leu h16 (by decide : (0:Int32).toInt ≤ (0:Int))
            refine ev_loc f_X11_reading (nx := 61) rfl rfl rfl rfl ?_
            refine ev_loc f_X11_reading (nx := 62) rfl rfl rfl rfl ?_
            refine ev_getR f_X11_reading (nx := 65) rfl (hI.wf.s rfl) rfl rfl (hI.wf.r rfl) rfl rfl ?_
            refine ev_ic f_X11_reading (nx := 66) (v := 3) rfl (by decide) rfl ?_
            refine ev_loc f_X11_reading (nx := 67) rfl rfl rfl rfl ?_
            refine ev_mulL f_X11_reading (nx := 68) (c := 3) (l := 0) (u := 1419) rfl (by decide) (by decide) l10 u14 rfl rfl (by decide) (by decide) rfl (fun z18 e18 l18 u18 => ?_)
            refine ev_loc f_X11_reading (nx := 69) rfl rfl rfl rfl ?_
            refine ev_addR f_X11_reading (nx := 70) (l := 0) (u := 1419) rfl l18 u18 l4 u17 rfl rfl (by decide) (by decide) rfl (fun z19 e19 l19 u19 => ?_)
            refine ev_ialdT f_X11_reading (nx := 71) rfl (hI.wf.s rfl) l19 (by decide) u19 (by decide) rfl (fun w20 e20 => ?_)
            refine ev_inV2 f_X11_reading (nx := 74) (lo2 := [(0, .ref 0), (1, .int w20)]) rfl rfl rfl rfl f_X11_answer (hI.wf.s rfl) rfl rfl rfl rfl rfl ?_
            refine ev_loc f_X11_answer (nx := 1) rfl rfl rfl rfl ?_
            refine ev_ic f_X11_answer (nx := 2) (v := 0) rfl (by decide) rfl ?_
            refine ev_putIT f_X11_answer (nx := 5) rfl (hI.wf.s rfl) rfl rfl rfl (hI.put0 (hI.wf.s rfl) rfl rfl) (hX.upI rfl) (fun g21 e21 hI hX => ?_)
            refine ev_loc f_X11_answer (nx := 6) rfl rfl rfl rfl ?_
            refine ev_retK1 f_X11_answer rfl rfl rfl ?_
            exact ev_ret f_X11_reading rfl rfl rfl ⟨_, _, _, rfl, hI, hX, ⟨_, rfl, (t_lo w20), (t_hi w20), (show ∀ L : s_RL, s_S1 gi L → s_LO L → ((0 ≤ ar1.toInt ∧ ar1.toInt < (L.length : Int) ∧ 0 ≤ ar2.toInt ∧ ar2.toInt ≤ 2) → w20.toInt = s_rd L ar1.toNatClampNeg ar2.toInt) ∧ (¬ (0 ≤ ar1.toInt ∧ ar1.toInt < (L.length : Int) ∧ 0 ≤ ar2.toInt ∧ ar2.toInt ≤ 2) → w20.toInt = -1) from (by
                                                            intro L h hL
                                                            obtain ⟨hn, hl⟩ := h
                                                            have hk : (gi 0 14).toInt = (L.length : Int) := hn
                                                            refine ⟨fun _ => ?_, fun h => absurd (show _ from ⟨by omega, by omega, by omega, by omega⟩) h⟩
                                                            have c1 := t_clamp (i := ar1) (by omega)
                                                            obtain ⟨t, ht⟩ := s_rd_g (L := L) (k := ar1.toNatClampNeg) (by omega)
                                                            obtain ⟨v1, v2, v3⟩ := hl _ t ht
                                                            obtain ⟨d0, d1, d2⟩ := s_rd_0 ht
                                                            have ho := hL _ t ht
                                                            have c3 := t_clamp (i := z19) (by omega)
                                                            rw [e20, show z19.toNatClampNeg = 3 * ar1.toNatClampNeg by omega, show ar2.toInt = 0 by omega, d0]; exact v1))⟩⟩
          · have l22 : 1 ≤ ar2.toInt := t_ltl (t_nle h16) (by decide : (0:Int) ≤ (0:Int32).toInt) rfl
            refine ev_loc f_X11_reading (nx := 39) rfl rfl rfl rfl ?_
            refine ev_getR f_X11_reading (nx := 42) rfl (hI.wf.s rfl) rfl rfl (hI.wf.r rfl) rfl rfl ?_
            refine ev_ic f_X11_reading (nx := 43) (v := 3) rfl (by decide) rfl ?_
            refine ev_loc f_X11_reading (nx := 44) rfl rfl rfl rfl ?_
            refine ev_mulL f_X11_reading (nx := 45) (c := 3) (l := 0) (u := 1419) rfl (by decide) (by decide) l10 u14 rfl rfl (by decide) (by decide) rfl (fun z23 e23 l23 u23 => ?_)
            refine ev_ic f_X11_reading (nx := 46) (v := 1) rfl (by decide) rfl ?_
            refine ev_addC f_X11_reading (nx := 47) (c := 1) (l := 1) (u := 1420) rfl (by decide) l23 u23 rfl rfl (by decide) (by decide) rfl (fun z24 e24 l24 u24 => ?_)
            refine ev_ialdT f_X11_reading (nx := 48) rfl (hI.wf.s rfl) l24 (by decide) u24 (by decide) rfl (fun w25 e25 => ?_)
            refine ev_bp f_X11_reading (nx := 50) (v := 6) rfl (by decide) rfl ?_
            refine ev_if f_X11_reading (t1 := 53) (t2 := 60) rfl rfl rfl (fun h26 => ?_) (fun h26 => ?_)
            · have u27 : w25.toInt ≤ 6 := t_equ h26 (by decide : (6:Int32).toInt ≤ (6:Int))
              have l28 : 6 ≤ w25.toInt := t_eql h26 (by decide : (6:Int) ≤ (6:Int32).toInt)
              refine ev_loc f_X11_reading (nx := 54) rfl rfl rfl rfl ?_
              refine ev_bp f_X11_reading (nx := 56) (v := 6) rfl (by decide) rfl ?_
              refine ev_inV2 f_X11_reading (nx := 59) (lo2 := [(0, .ref 0), (1, .int 6)]) rfl rfl rfl rfl f_X11_refuse (hI.wf.s rfl) rfl rfl rfl rfl rfl ?_
              refine ev_loc f_X11_refuse (nx := 1) rfl rfl rfl rfl ?_
              refine ev_loc f_X11_refuse (nx := 2) rfl rfl rfl rfl ?_
              refine ev_putIT f_X11_refuse (nx := 5) rfl (hI.wf.s rfl) rfl rfl rfl (hI.put0 (hI.wf.s rfl) rfl rfl) (hX.upI rfl) (fun g29 e29 hI hX => ?_)
              refine ev_ic f_X11_refuse (nx := 6) (v := -1) rfl (by decide) rfl ?_
              refine ev_retK1 f_X11_refuse rfl rfl rfl ?_
              exact ev_ret f_X11_reading rfl rfl rfl ⟨_, _, _, rfl, hI, hX, ⟨_, rfl, (Int.le_trans (by decide : ((-2147483648):Int) ≤ (-1)) (by decide : ((-1):Int) ≤ ((-1):Int32).toInt)), (Int.le_trans (by decide : ((-1):Int32).toInt ≤ ((-1):Int)) (by decide : ((-1):Int) ≤ 2147483647)), (show ∀ L : s_RL, s_S1 gi L → s_LO L → ((0 ≤ ar1.toInt ∧ ar1.toInt < (L.length : Int) ∧ 0 ≤ ar2.toInt ∧ ar2.toInt ≤ 2) → ((-1) : Int) = s_rd L ar1.toNatClampNeg ar2.toInt) ∧ (¬ (0 ≤ ar1.toInt ∧ ar1.toInt < (L.length : Int) ∧ 0 ≤ ar2.toInt ∧ ar2.toInt ≤ 2) → ((-1) : Int) = -1) from (by
                                                            intro L h hL
                                                            obtain ⟨hn, hl⟩ := h
                                                            have hk : (gi 0 14).toInt = (L.length : Int) := hn
                                                            refine ⟨fun _ => ?_, fun h => absurd (show _ from ⟨by omega, by omega, by omega, by omega⟩) h⟩
                                                            have c1 := t_clamp (i := ar1) (by omega)
                                                            obtain ⟨t, ht⟩ := s_rd_g (L := L) (k := ar1.toNatClampNeg) (by omega)
                                                            obtain ⟨v1, v2, v3⟩ := hl _ t ht
                                                            obtain ⟨d0, d1, d2⟩ := s_rd_0 ht
                                                            have ho := hL _ t ht
                                                            have c2 := t_clamp (i := z24) (by omega)
                                                            have e47 : w25.toInt = s_a6 t.2.1 := by rw [e25, show z24.toNatClampNeg = 3 * ar1.toNatClampNeg + 1 by omega]; exact v2
                                                            have h6 : t.2.1 = -1 ∧ t.2.2 = -1 := s_6_y ho (by rw [← e47]; omega)
                                                            rcases (show ar2.toInt = 1 ∨ ar2.toInt = 2 by omega) with e | e
                                                            · rw [e, d1, h6.1]
                                                            · rw [e, d2, h6.2]))⟩⟩
            · have r30 : w25.toInt ≠ 6 := fun e => h26 (Int32.toInt_inj.mp (e.trans (by decide : (6:Int) = (6 : Int32).toInt)))
              refine ev_loc f_X11_reading (nx := 61) rfl rfl rfl rfl ?_
              refine ev_loc f_X11_reading (nx := 62) rfl rfl rfl rfl ?_
              refine ev_getR f_X11_reading (nx := 65) rfl (hI.wf.s rfl) rfl rfl (hI.wf.r rfl) rfl rfl ?_
              refine ev_ic f_X11_reading (nx := 66) (v := 3) rfl (by decide) rfl ?_
              refine ev_loc f_X11_reading (nx := 67) rfl rfl rfl rfl ?_
              refine ev_mulL f_X11_reading (nx := 68) (c := 3) (l := 0) (u := 1419) rfl (by decide) (by decide) l10 u14 rfl rfl (by decide) (by decide) rfl (fun z31 e31 l31 u31 => ?_)
              refine ev_loc f_X11_reading (nx := 69) rfl rfl rfl rfl ?_
              refine ev_addR f_X11_reading (nx := 70) (l := 1) (u := 1421) rfl l31 u31 l22 u6 rfl rfl (by decide) (by decide) rfl (fun z32 e32 l32 u32 => ?_)
              refine ev_ialdT f_X11_reading (nx := 71) rfl (hI.wf.s rfl) l32 (by decide) u32 (by decide) rfl (fun w33 e33 => ?_)
              refine ev_inV2 f_X11_reading (nx := 74) (lo2 := [(0, .ref 0), (1, .int w33)]) rfl rfl rfl rfl f_X11_answer (hI.wf.s rfl) rfl rfl rfl rfl rfl ?_
              refine ev_loc f_X11_answer (nx := 1) rfl rfl rfl rfl ?_
              refine ev_ic f_X11_answer (nx := 2) (v := 0) rfl (by decide) rfl ?_
              refine ev_putIT f_X11_answer (nx := 5) rfl (hI.wf.s rfl) rfl rfl rfl (hI.put0 (hI.wf.s rfl) rfl rfl) (hX.upI rfl) (fun g34 e34 hI hX => ?_)
              refine ev_loc f_X11_answer (nx := 6) rfl rfl rfl rfl ?_
              refine ev_retK1 f_X11_answer rfl rfl rfl ?_
              exact ev_ret f_X11_reading rfl rfl rfl ⟨_, _, _, rfl, hI, hX, ⟨_, rfl, (t_lo w33), (t_hi w33), (show ∀ L : s_RL, s_S1 gi L → s_LO L → ((0 ≤ ar1.toInt ∧ ar1.toInt < (L.length : Int) ∧ 0 ≤ ar2.toInt ∧ ar2.toInt ≤ 2) → w33.toInt = s_rd L ar1.toNatClampNeg ar2.toInt) ∧ (¬ (0 ≤ ar1.toInt ∧ ar1.toInt < (L.length : Int) ∧ 0 ≤ ar2.toInt ∧ ar2.toInt ≤ 2) → w33.toInt = -1) from (by
                                                            intro L h hL
                                                            obtain ⟨hn, hl⟩ := h
                                                            have hk : (gi 0 14).toInt = (L.length : Int) := hn
                                                            refine ⟨fun _ => ?_, fun h => absurd (show _ from ⟨by omega, by omega, by omega, by omega⟩) h⟩
                                                            have c1 := t_clamp (i := ar1) (by omega)
                                                            obtain ⟨t, ht⟩ := s_rd_g (L := L) (k := ar1.toNatClampNeg) (by omega)
                                                            obtain ⟨v1, v2, v3⟩ := hl _ t ht
                                                            obtain ⟨d0, d1, d2⟩ := s_rd_0 ht
                                                            have ho := hL _ t ht
                                                            have c3 := t_clamp (i := z32) (by omega)
                                                            have c2 := t_clamp (i := z24) (by omega)
                                                            have e47 : w25.toInt = s_a6 t.2.1 := by rw [e25, show z24.toNatClampNeg = 3 * ar1.toNatClampNeg + 1 by omega]; exact v2
                                                            obtain ⟨h6, h7⟩ := s_6_n ho (by rw [← e47]; omega)
                                                            rcases (show ar2.toInt = 1 ∨ ar2.toInt = 2 by omega) with e | e
                                                            · rw [e33, show z32.toNatClampNeg = 3 * ar1.toNatClampNeg + 1 by omega, e, d1, ← h6]; exact v2
                                                            · rw [e33, show z32.toNatClampNeg = 3 * ar1.toNatClampNeg + 2 by omega, e, d2, ← h7]; exact v3))⟩⟩
        · have r35 : (gi 0 14).toInt ≤ ar1.toInt := Int32.le_iff_toInt_le.mp (t_nlt h12)
          refine ev_loc f_X11_reading (nx := 28) rfl rfl rfl rfl ?_
          refine ev_bp f_X11_reading (nx := 30) (v := 6) rfl (by decide) rfl ?_
          refine ev_inV2 f_X11_reading (nx := 33) (lo2 := [(0, .ref 0), (1, .int 6)]) rfl rfl rfl rfl f_X11_refuse (hI.wf.s rfl) rfl rfl rfl rfl rfl ?_
          refine ev_loc f_X11_refuse (nx := 1) rfl rfl rfl rfl ?_
          refine ev_loc f_X11_refuse (nx := 2) rfl rfl rfl rfl ?_
          refine ev_putIT f_X11_refuse (nx := 5) rfl (hI.wf.s rfl) rfl rfl rfl (hI.put0 (hI.wf.s rfl) rfl rfl) (hX.upI rfl) (fun g36 e36 hI hX => ?_)
          refine ev_ic f_X11_refuse (nx := 6) (v := -1) rfl (by decide) rfl ?_
          refine ev_retK1 f_X11_refuse rfl rfl rfl ?_
          exact ev_ret f_X11_reading rfl rfl rfl ⟨_, _, _, rfl, hI, hX, ⟨_, rfl, (Int.le_trans (by decide : ((-2147483648):Int) ≤ (-1)) (by decide : ((-1):Int) ≤ ((-1):Int32).toInt)), (Int.le_trans (by decide : ((-1):Int32).toInt ≤ ((-1):Int)) (by decide : ((-1):Int) ≤ 2147483647)), (show ∀ L : s_RL, s_S1 gi L → s_LO L → ((0 ≤ ar1.toInt ∧ ar1.toInt < (L.length : Int) ∧ 0 ≤ ar2.toInt ∧ ar2.toInt ≤ 2) → ((-1) : Int) = s_rd L ar1.toNatClampNeg ar2.toInt) ∧ (¬ (0 ≤ ar1.toInt ∧ ar1.toInt < (L.length : Int) ∧ 0 ≤ ar2.toInt ∧ ar2.toInt ≤ 2) → ((-1) : Int) = -1) from (by
                                                            intro L h hL
                                                            obtain ⟨hn, hl⟩ := h
                                                            have hk : (gi 0 14).toInt = (L.length : Int) := hn
                                                            exact ⟨fun h => absurd h (by omega), fun _ => rfl⟩))⟩⟩
    · have l37 : 3 ≤ ar2.toInt := t_ltl (t_nle h5) (by decide : (2:Int) ≤ (2:Int32).toInt) rfl
      refine ev_loc f_X11_reading (nx := 10) rfl rfl rfl rfl ?_
      refine ev_ic f_X11_reading (nx := 11) (v := 1) rfl (by decide) rfl ?_
      refine ev_inV2 f_X11_reading (nx := 14) (lo2 := [(0, .ref 0), (1, .int 1)]) rfl rfl rfl rfl f_X11_refuse (hI.wf.s rfl) rfl rfl rfl rfl rfl ?_
      refine ev_loc f_X11_refuse (nx := 1) rfl rfl rfl rfl ?_
      refine ev_loc f_X11_refuse (nx := 2) rfl rfl rfl rfl ?_
      refine ev_putIT f_X11_refuse (nx := 5) rfl (hI.wf.s rfl) rfl rfl rfl (hI.put0 (hI.wf.s rfl) rfl rfl) (hX.upI rfl) (fun g38 e38 hI hX => ?_)
      refine ev_ic f_X11_refuse (nx := 6) (v := -1) rfl (by decide) rfl ?_
      refine ev_retK1 f_X11_refuse rfl rfl rfl ?_
      exact ev_ret f_X11_reading rfl rfl rfl ⟨_, _, _, rfl, hI, hX, ⟨_, rfl, (Int.le_trans (by decide : ((-2147483648):Int) ≤ (-1)) (by decide : ((-1):Int) ≤ ((-1):Int32).toInt)), (Int.le_trans (by decide : ((-1):Int32).toInt ≤ ((-1):Int)) (by decide : ((-1):Int) ≤ 2147483647)), (show ∀ L : s_RL, s_S1 gi L → s_LO L → ((0 ≤ ar1.toInt ∧ ar1.toInt < (L.length : Int) ∧ 0 ≤ ar2.toInt ∧ ar2.toInt ≤ 2) → ((-1) : Int) = s_rd L ar1.toNatClampNeg ar2.toInt) ∧ (¬ (0 ≤ ar1.toInt ∧ ar1.toInt < (L.length : Int) ∧ 0 ≤ ar2.toInt ∧ ar2.toInt ≤ 2) → ((-1) : Int) = -1) from (by
                                                            intro L h hL
                                                            obtain ⟨hn, hl⟩ := h
                                                            have hk : (gi 0 14).toInt = (L.length : Int) := hn
                                                            exact ⟨fun h => absurd h (by omega), fun _ => rfl⟩))⟩⟩
noncomputable def wl_e_reading : List (Nat × Nat) := [(69, 2)]
noncomputable def Q_e_reading (gi : Nat → Nat → Int32) (gl : Nat → Nat → Int64) (gr : Nat → Nat → Value) (ar1 : Int32) (ar2 : Int32) : Int32 → (Nat → Nat → Int32) → (Nat → Nat → Int64) → (Nat → Nat → Value) → Prop := fun (v : Int32) (gi2 : Nat → Nat → Int32) (gl2 : Nat → Nat → Int64) (gr2 : Nat → Nat → Value) => ∀ L : s_RL, s_S3 gi L → s_LO L → ((0 ≤ ar1.toInt ∧ ar1.toInt < (L.length : Int) ∧ 0 ≤ ar2.toInt ∧ ar2.toInt ≤ 2) → v.toInt = s_rd L ar1.toNatClampNeg ar2.toInt) ∧ (¬ (0 ≤ ar1.toInt ∧ ar1.toInt < (L.length : Int) ∧ 0 ≤ ar2.toInt ∧ ar2.toInt ≤ 2) → v.toInt = -1)
theorem c_e_reading {X : x_Ext} {d : Nat} {sh : List (Nat ⊕ (Nat × Nat))} {gi : Nat → Nat → Int32} {gl : Nat → Nat → Int64} {gr : Nat → Nat → Value} (hI : t_I sh gi gr) (ar1 : Int32) (ar2 : Int32) : x_Me X (d + 3) n_X12_reading [.ref 69, .int ar1, .int ar2] (sh, gi, gl, gr) (t_PI wl_e_reading sh gi gl gr (-2147483648) 2147483647 (Q_e_reading gi gl gr ar1 ar2)) := by
  have hX : t_X wl_e_reading sh gi gl gr gi gl gr := t_X.rf
  refine me_i f_X12_reading (hI.wf.s rfl) rfl rfl rfl ?_
  refine ev_loc f_X12_reading (nx := 1) rfl rfl rfl rfl ?_
  refine ev_if f_X12_reading (t1 := 9) (t2 := 4) rfl rfl rfl (fun h1 => ?_) (fun h1 => ?_)
  · have u2 : ar2.toInt ≤ (-1) := t_ltu h1 (by decide : (0:Int32).toInt ≤ (0:Int)) rfl
    refine ev_loc f_X12_reading (nx := 10) rfl rfl rfl rfl ?_
    refine ev_ic f_X12_reading (nx := 11) (v := 1) rfl (by decide) rfl ?_
    refine ev_inV2 f_X12_reading (nx := 14) (lo2 := [(0, .ref 69), (1, .int 1)]) rfl rfl rfl rfl f_X12_refuse (hI.wf.s rfl) rfl rfl rfl rfl rfl ?_
    refine ev_loc f_X12_refuse (nx := 1) rfl rfl rfl rfl ?_
    refine ev_loc f_X12_refuse (nx := 2) rfl rfl rfl rfl ?_
    refine ev_putIT f_X12_refuse (nx := 5) rfl (hI.wf.s rfl) rfl rfl rfl (hI.put0 (hI.wf.s rfl) rfl rfl) (hX.upI rfl) (fun g3 e3 hI hX => ?_)
    refine ev_ic f_X12_refuse (nx := 6) (v := -1) rfl (by decide) rfl ?_
    refine ev_retK1 f_X12_refuse rfl rfl rfl ?_
    exact ev_ret f_X12_reading rfl rfl rfl ⟨_, _, _, rfl, hI, hX, ⟨_, rfl, (Int.le_trans (by decide : ((-2147483648):Int) ≤ (-1)) (by decide : ((-1):Int) ≤ ((-1):Int32).toInt)), (Int.le_trans (by decide : ((-1):Int32).toInt ≤ ((-1):Int)) (by decide : ((-1):Int) ≤ 2147483647)), (show ∀ L : s_RL, s_S3 gi L → s_LO L → ((0 ≤ ar1.toInt ∧ ar1.toInt < (L.length : Int) ∧ 0 ≤ ar2.toInt ∧ ar2.toInt ≤ 2) → ((-1) : Int) = s_rd L ar1.toNatClampNeg ar2.toInt) ∧ (¬ (0 ≤ ar1.toInt ∧ ar1.toInt < (L.length : Int) ∧ 0 ≤ ar2.toInt ∧ ar2.toInt ≤ 2) → ((-1) : Int) = -1) from (by
                                                            intro L h hL
                                                            obtain ⟨hn, hl⟩ := h
                                                            have hk : (gi 69 30).toInt = (L.length : Int) := hn
                                                            exact ⟨fun h => absurd h (by omega), fun _ => rfl⟩))⟩⟩
  · have l4 : 0 ≤ ar2.toInt := t_lel (t_nlt h1) (by decide : (0:Int) ≤ (0:Int32).toInt)
    refine ev_loc f_X12_reading (nx := 5) rfl rfl rfl rfl ?_
    refine ev_ic f_X12_reading (nx := 6) (v := 2) rfl (by decide) rfl ?_
    refine ev_if f_X12_reading (t1 := 15) (t2 := 9) rfl rfl rfl (fun h5 => ?_) (fun h5 => ?_)
    · have u6 : ar2.toInt ≤ 2 := t_leu h5 (by decide : (2:Int32).toInt ≤ (2:Int))
      refine ev_loc f_X12_reading (nx := 16) rfl rfl rfl rfl ?_
      refine ev_if f_X12_reading (t1 := 27) (t2 := 19) rfl rfl rfl (fun h7 => ?_) (fun h7 => ?_)
      · have u8 : ar1.toInt ≤ (-1) := t_ltu h7 (by decide : (0:Int32).toInt ≤ (0:Int)) rfl
        refine ev_loc f_X12_reading (nx := 28) rfl rfl rfl rfl ?_
        refine ev_bp f_X12_reading (nx := 30) (v := 6) rfl (by decide) rfl ?_
        refine ev_inV2 f_X12_reading (nx := 33) (lo2 := [(0, .ref 69), (1, .int 6)]) rfl rfl rfl rfl f_X12_refuse (hI.wf.s rfl) rfl rfl rfl rfl rfl ?_
        refine ev_loc f_X12_refuse (nx := 1) rfl rfl rfl rfl ?_
        refine ev_loc f_X12_refuse (nx := 2) rfl rfl rfl rfl ?_
        refine ev_putIT f_X12_refuse (nx := 5) rfl (hI.wf.s rfl) rfl rfl rfl (hI.put0 (hI.wf.s rfl) rfl rfl) (hX.upI rfl) (fun g9 e9 hI hX => ?_)
        refine ev_ic f_X12_refuse (nx := 6) (v := -1) rfl (by decide) rfl ?_
        refine ev_retK1 f_X12_refuse rfl rfl rfl ?_
        exact ev_ret f_X12_reading rfl rfl rfl ⟨_, _, _, rfl, hI, hX, ⟨_, rfl, (Int.le_trans (by decide : ((-2147483648):Int) ≤ (-1)) (by decide : ((-1):Int) ≤ ((-1):Int32).toInt)), (Int.le_trans (by decide : ((-1):Int32).toInt ≤ ((-1):Int)) (by decide : ((-1):Int) ≤ 2147483647)), (show ∀ L : s_RL, s_S3 gi L → s_LO L → ((0 ≤ ar1.toInt ∧ ar1.toInt < (L.length : Int) ∧ 0 ≤ ar2.toInt ∧ ar2.toInt ≤ 2) → ((-1) : Int) = s_rd L ar1.toNatClampNeg ar2.toInt) ∧ (¬ (0 ≤ ar1.toInt ∧ ar1.toInt < (L.length : Int) ∧ 0 ≤ ar2.toInt ∧ ar2.toInt ≤ 2) → ((-1) : Int) = -1) from (by
                                                            intro L h hL
                                                            obtain ⟨hn, hl⟩ := h
                                                            have hk : (gi 69 30).toInt = (L.length : Int) := hn
                                                            exact ⟨fun h => absurd h (by omega), fun _ => rfl⟩))⟩⟩
      · have l10 : 0 ≤ ar1.toInt := t_lel (t_nlt h7) (by decide : (0:Int) ≤ (0:Int32).toInt)
        refine ev_loc f_X12_reading (nx := 20) rfl rfl rfl rfl ?_
        refine ev_loc f_X12_reading (nx := 21) rfl rfl rfl rfl ?_
        refine ev_getI f_X12_reading (nx := 24) rfl (hI.wf.s rfl) rfl rfl rfl ?_
        obtain ⟨l11, u11⟩ := hI.b (hI.wf.s (k := 69) rfl) (t_bdK rfl : t_bd 11 30 = some (0, 500))
        refine ev_if f_X12_reading (t1 := 34) (t2 := 27) rfl rfl rfl (fun h12 => ?_) (fun h12 => ?_)
        · have r13 : ar1.toInt < (gi 69 30).toInt := Int32.lt_iff_toInt_lt.mp h12
          have u14 : ar1.toInt ≤ 499 := t_ltu h12 u11 rfl
          have l15 : 1 ≤ (gi 69 30).toInt := t_ltl h12 l10 rfl
          refine ev_loc f_X12_reading (nx := 35) rfl rfl rfl rfl ?_
          refine ev_loc f_X12_reading (nx := 36) rfl rfl rfl rfl ?_
          refine ev_if f_X12_reading (t1 := 39) (t2 := 48) rfl rfl rfl (fun h16 => ?_) (fun h16 => ?_)
          · have u17 : ar2.toInt ≤ 0 := t_equ h16 (by decide : (0:Int32).toInt ≤ (0:Int))
            refine ev_loc f_X12_reading (nx := 40) rfl rfl rfl rfl ?_
            refine ev_getR f_X12_reading (nx := 43) rfl (hI.wf.s rfl) rfl rfl (hI.wf.r rfl) rfl rfl ?_
            refine ev_loc f_X12_reading (nx := 44) rfl rfl rfl rfl ?_
            refine ev_ialdT f_X12_reading (nx := 45) rfl (hI.wf.s rfl) l10 (by decide) u14 (by decide) rfl (fun w18 e18 => ?_)
            refine ev_jmp f_X12_reading (nx := 68) rfl rfl rfl ?_
            refine ev_inV2 f_X12_reading (nx := 71) (lo2 := [(0, .ref 69), (1, .int w18)]) rfl rfl rfl rfl f_X12_orNone (hI.wf.s rfl) rfl rfl rfl rfl rfl ?_
            refine ev_loc f_X12_orNone (nx := 1) rfl rfl rfl rfl ?_
            refine ev_ic f_X12_orNone (nx := 2) (v := -1) rfl (by decide) rfl ?_
            refine ev_if f_X12_orNone (t1 := 5) (t2 := 14) rfl rfl rfl (fun h19 => ?_) (fun h19 => ?_)
            · have u20 : w18.toInt ≤ (-1) := t_equ h19 (by decide : ((-1):Int32).toInt ≤ ((-1):Int))
              have l21 : (-1) ≤ w18.toInt := t_eql h19 (by decide : ((-1):Int) ≤ ((-1):Int32).toInt)
              refine ev_loc f_X12_orNone (nx := 6) rfl rfl rfl rfl ?_
              refine ev_bp f_X12_orNone (nx := 8) (v := 6) rfl (by decide) rfl ?_
              refine ev_inV2 f_X12_orNone (nx := 11) (lo2 := [(0, .ref 69), (1, .int 6)]) rfl rfl rfl rfl f_X12_refuse (hI.wf.s rfl) rfl rfl rfl rfl rfl ?_
              refine ev_loc f_X12_refuse (nx := 1) rfl rfl rfl rfl ?_
              refine ev_loc f_X12_refuse (nx := 2) rfl rfl rfl rfl ?_
              refine ev_putIT f_X12_refuse (nx := 5) rfl (hI.wf.s rfl) rfl rfl rfl (hI.put0 (hI.wf.s rfl) rfl rfl) (hX.upI rfl) (fun g22 e22 hI hX => ?_)
              refine ev_ic f_X12_refuse (nx := 6) (v := -1) rfl (by decide) rfl ?_
              refine ev_retK1 f_X12_refuse rfl rfl rfl ?_
              refine ev_jmp f_X12_orNone (nx := 19) rfl rfl rfl ?_
              refine ev_retK1 f_X12_orNone rfl rfl rfl ?_
              exact ev_ret f_X12_reading rfl rfl rfl ⟨_, _, _, rfl, hI, hX, ⟨_, rfl, (Int.le_trans (by decide : ((-2147483648):Int) ≤ (-1)) (by decide : ((-1):Int) ≤ ((-1):Int32).toInt)), (Int.le_trans (by decide : ((-1):Int32).toInt ≤ ((-1):Int)) (by decide : ((-1):Int) ≤ 2147483647)), (show ∀ L : s_RL, s_S3 gi L → s_LO L → ((0 ≤ ar1.toInt ∧ ar1.toInt < (L.length : Int) ∧ 0 ≤ ar2.toInt ∧ ar2.toInt ≤ 2) → ((-1) : Int) = s_rd L ar1.toNatClampNeg ar2.toInt) ∧ (¬ (0 ≤ ar1.toInt ∧ ar1.toInt < (L.length : Int) ∧ 0 ≤ ar2.toInt ∧ ar2.toInt ≤ 2) → ((-1) : Int) = -1) from (by
                                                            intro L h hL
                                                            obtain ⟨hn, hl⟩ := h
                                                            have hk : (gi 69 30).toInt = (L.length : Int) := hn
                                                            refine ⟨fun _ => ?_, fun h => absurd (show _ from ⟨by omega, by omega, by omega, by omega⟩) h⟩
                                                            have c1 := t_clamp (i := ar1) (by omega)
                                                            obtain ⟨t, ht⟩ := s_rd_g (L := L) (k := ar1.toNatClampNeg) (by omega)
                                                            obtain ⟨v1, v2, v3⟩ := hl _ t ht
                                                            obtain ⟨d0, d1, d2⟩ := s_rd_0 ht
                                                            have ho := hL _ t ht
                                                            have ew : w18.toInt = t.1 := by rw [e18]; exact v1
                                                            rw [show ar2.toInt = 0 by omega, d0, ← ew]
                                                            have k1 : (-1 : Int32).toInt = -1 := rfl
                                                            omega))⟩⟩
            · have r23 : w18.toInt ≠ (-1) := fun e => h19 (Int32.toInt_inj.mp (e.trans (by decide : ((-1):Int) = ((-1) : Int32).toInt)))
              refine ev_loc f_X12_orNone (nx := 15) rfl rfl rfl rfl ?_
              refine ev_loc f_X12_orNone (nx := 16) rfl rfl rfl rfl ?_
              refine ev_inV2 f_X12_orNone (nx := 19) (lo2 := [(0, .ref 69), (1, .int w18)]) rfl rfl rfl rfl f_X12_gives (hI.wf.s rfl) rfl rfl rfl rfl rfl ?_
              refine ev_loc f_X12_gives (nx := 1) rfl rfl rfl rfl ?_
              refine ev_ic f_X12_gives (nx := 2) (v := 0) rfl (by decide) rfl ?_
              refine ev_putIT f_X12_gives (nx := 5) rfl (hI.wf.s rfl) rfl rfl rfl (hI.put0 (hI.wf.s rfl) rfl rfl) (hX.upI rfl) (fun g24 e24 hI hX => ?_)
              refine ev_loc f_X12_gives (nx := 6) rfl rfl rfl rfl ?_
              refine ev_retK1 f_X12_gives rfl rfl rfl ?_
              refine ev_retK1 f_X12_orNone rfl rfl rfl ?_
              exact ev_ret f_X12_reading rfl rfl rfl ⟨_, _, _, rfl, hI, hX, ⟨_, rfl, (t_lo w18), (t_hi w18), (show ∀ L : s_RL, s_S3 gi L → s_LO L → ((0 ≤ ar1.toInt ∧ ar1.toInt < (L.length : Int) ∧ 0 ≤ ar2.toInt ∧ ar2.toInt ≤ 2) → w18.toInt = s_rd L ar1.toNatClampNeg ar2.toInt) ∧ (¬ (0 ≤ ar1.toInt ∧ ar1.toInt < (L.length : Int) ∧ 0 ≤ ar2.toInt ∧ ar2.toInt ≤ 2) → w18.toInt = -1) from (by
                                                            intro L h hL
                                                            obtain ⟨hn, hl⟩ := h
                                                            have hk : (gi 69 30).toInt = (L.length : Int) := hn
                                                            refine ⟨fun _ => ?_, fun h => absurd (show _ from ⟨by omega, by omega, by omega, by omega⟩) h⟩
                                                            have c1 := t_clamp (i := ar1) (by omega)
                                                            obtain ⟨t, ht⟩ := s_rd_g (L := L) (k := ar1.toNatClampNeg) (by omega)
                                                            obtain ⟨v1, v2, v3⟩ := hl _ t ht
                                                            obtain ⟨d0, d1, d2⟩ := s_rd_0 ht
                                                            have ho := hL _ t ht
                                                            have ew : w18.toInt = t.1 := by rw [e18]; exact v1
                                                            rw [show ar2.toInt = 0 by omega, d0, ← ew]))⟩⟩
          · have r25 : ar2.toInt ≠ 0 := fun e => h16 (Int32.toInt_inj.mp (e.trans (by decide : (0:Int) = (0 : Int32).toInt)))
            have l26 : 1 ≤ ar2.toInt := t_nel h16 l4 rfl rfl
            refine ev_loc f_X12_reading (nx := 49) rfl rfl rfl rfl ?_
            refine ev_ic f_X12_reading (nx := 50) (v := 1) rfl (by decide) rfl ?_
            refine ev_if f_X12_reading (t1 := 53) (t2 := 62) rfl rfl rfl (fun h27 => ?_) (fun h27 => ?_)
            · have u28 : ar2.toInt ≤ 1 := t_equ h27 (by decide : (1:Int32).toInt ≤ (1:Int))
              refine ev_loc f_X12_reading (nx := 54) rfl rfl rfl rfl ?_
              refine ev_getR f_X12_reading (nx := 57) rfl (hI.wf.s rfl) rfl rfl (hI.wf.r rfl) rfl rfl ?_
              refine ev_loc f_X12_reading (nx := 58) rfl rfl rfl rfl ?_
              refine ev_ialdT f_X12_reading (nx := 59) rfl (hI.wf.s rfl) l10 (by decide) u14 (by decide) rfl (fun w29 e29 => ?_)
              refine ev_jmp f_X12_reading (nx := 68) rfl rfl rfl ?_
              refine ev_inV2 f_X12_reading (nx := 71) (lo2 := [(0, .ref 69), (1, .int w29)]) rfl rfl rfl rfl f_X12_orNone (hI.wf.s rfl) rfl rfl rfl rfl rfl ?_
              refine ev_loc f_X12_orNone (nx := 1) rfl rfl rfl rfl ?_
              refine ev_ic f_X12_orNone (nx := 2) (v := -1) rfl (by decide) rfl ?_
              refine ev_if f_X12_orNone (t1 := 5) (t2 := 14) rfl rfl rfl (fun h30 => ?_) (fun h30 => ?_)
              · have u31 : w29.toInt ≤ (-1) := t_equ h30 (by decide : ((-1):Int32).toInt ≤ ((-1):Int))
                have l32 : (-1) ≤ w29.toInt := t_eql h30 (by decide : ((-1):Int) ≤ ((-1):Int32).toInt)
                refine ev_loc f_X12_orNone (nx := 6) rfl rfl rfl rfl ?_
                refine ev_bp f_X12_orNone (nx := 8) (v := 6) rfl (by decide) rfl ?_
                refine ev_inV2 f_X12_orNone (nx := 11) (lo2 := [(0, .ref 69), (1, .int 6)]) rfl rfl rfl rfl f_X12_refuse (hI.wf.s rfl) rfl rfl rfl rfl rfl ?_
                refine ev_loc f_X12_refuse (nx := 1) rfl rfl rfl rfl ?_
                refine ev_loc f_X12_refuse (nx := 2) rfl rfl rfl rfl ?_
                refine ev_putIT f_X12_refuse (nx := 5) rfl (hI.wf.s rfl) rfl rfl rfl (hI.put0 (hI.wf.s rfl) rfl rfl) (hX.upI rfl) (fun g33 e33 hI hX => ?_)
                refine ev_ic f_X12_refuse (nx := 6) (v := -1) rfl (by decide) rfl ?_
                refine ev_retK1 f_X12_refuse rfl rfl rfl ?_
                refine ev_jmp f_X12_orNone (nx := 19) rfl rfl rfl ?_
                refine ev_retK1 f_X12_orNone rfl rfl rfl ?_
                exact ev_ret f_X12_reading rfl rfl rfl ⟨_, _, _, rfl, hI, hX, ⟨_, rfl, (Int.le_trans (by decide : ((-2147483648):Int) ≤ (-1)) (by decide : ((-1):Int) ≤ ((-1):Int32).toInt)), (Int.le_trans (by decide : ((-1):Int32).toInt ≤ ((-1):Int)) (by decide : ((-1):Int) ≤ 2147483647)), (show ∀ L : s_RL, s_S3 gi L → s_LO L → ((0 ≤ ar1.toInt ∧ ar1.toInt < (L.length : Int) ∧ 0 ≤ ar2.toInt ∧ ar2.toInt ≤ 2) → ((-1) : Int) = s_rd L ar1.toNatClampNeg ar2.toInt) ∧ (¬ (0 ≤ ar1.toInt ∧ ar1.toInt < (L.length : Int) ∧ 0 ≤ ar2.toInt ∧ ar2.toInt ≤ 2) → ((-1) : Int) = -1) from (by
                                                            intro L h hL
                                                            obtain ⟨hn, hl⟩ := h
                                                            have hk : (gi 69 30).toInt = (L.length : Int) := hn
                                                            refine ⟨fun _ => ?_, fun h => absurd (show _ from ⟨by omega, by omega, by omega, by omega⟩) h⟩
                                                            have c1 := t_clamp (i := ar1) (by omega)
                                                            obtain ⟨t, ht⟩ := s_rd_g (L := L) (k := ar1.toNatClampNeg) (by omega)
                                                            obtain ⟨v1, v2, v3⟩ := hl _ t ht
                                                            obtain ⟨d0, d1, d2⟩ := s_rd_0 ht
                                                            have ho := hL _ t ht
                                                            have ew : w29.toInt = t.2.1 := by rw [e29]; exact v2
                                                            rw [show ar2.toInt = 1 by omega, d1, ← ew]
                                                            have k1 : (-1 : Int32).toInt = -1 := rfl
                                                            omega))⟩⟩
              · have r34 : w29.toInt ≠ (-1) := fun e => h30 (Int32.toInt_inj.mp (e.trans (by decide : ((-1):Int) = ((-1) : Int32).toInt)))
                refine ev_loc f_X12_orNone (nx := 15) rfl rfl rfl rfl ?_
                refine ev_loc f_X12_orNone (nx := 16) rfl rfl rfl rfl ?_
                refine ev_inV2 f_X12_orNone (nx := 19) (lo2 := [(0, .ref 69), (1, .int w29)]) rfl rfl rfl rfl f_X12_gives (hI.wf.s rfl) rfl rfl rfl rfl rfl ?_
                refine ev_loc f_X12_gives (nx := 1) rfl rfl rfl rfl ?_
                refine ev_ic f_X12_gives (nx := 2) (v := 0) rfl (by decide) rfl ?_
                refine ev_putIT f_X12_gives (nx := 5) rfl (hI.wf.s rfl) rfl rfl rfl (hI.put0 (hI.wf.s rfl) rfl rfl) (hX.upI rfl) (fun g35 e35 hI hX => ?_)
                refine ev_loc f_X12_gives (nx := 6) rfl rfl rfl rfl ?_
                refine ev_retK1 f_X12_gives rfl rfl rfl ?_
                refine ev_retK1 f_X12_orNone rfl rfl rfl ?_
                exact ev_ret f_X12_reading rfl rfl rfl ⟨_, _, _, rfl, hI, hX, ⟨_, rfl, (t_lo w29), (t_hi w29), (show ∀ L : s_RL, s_S3 gi L → s_LO L → ((0 ≤ ar1.toInt ∧ ar1.toInt < (L.length : Int) ∧ 0 ≤ ar2.toInt ∧ ar2.toInt ≤ 2) → w29.toInt = s_rd L ar1.toNatClampNeg ar2.toInt) ∧ (¬ (0 ≤ ar1.toInt ∧ ar1.toInt < (L.length : Int) ∧ 0 ≤ ar2.toInt ∧ ar2.toInt ≤ 2) → w29.toInt = -1) from (by
                                                            intro L h hL
                                                            obtain ⟨hn, hl⟩ := h
                                                            have hk : (gi 69 30).toInt = (L.length : Int) := hn
                                                            refine ⟨fun _ => ?_, fun h => absurd (show _ from ⟨by omega, by omega, by omega, by omega⟩) h⟩
                                                            have c1 := t_clamp (i := ar1) (by omega)
                                                            obtain ⟨t, ht⟩ := s_rd_g (L := L) (k := ar1.toNatClampNeg) (by omega)
                                                            obtain ⟨v1, v2, v3⟩ := hl _ t ht
                                                            obtain ⟨d0, d1, d2⟩ := s_rd_0 ht
                                                            have ho := hL _ t ht
                                                            have ew : w29.toInt = t.2.1 := by rw [e29]; exact v2
                                                            rw [show ar2.toInt = 1 by omega, d1, ← ew]))⟩⟩
            · have r36 : ar2.toInt ≠ 1 := fun e => h27 (Int32.toInt_inj.mp (e.trans (by decide : (1:Int) = (1 : Int32).toInt)))
              have l37 : 2 ≤ ar2.toInt := t_nel h27 l26 rfl rfl
              refine ev_loc f_X12_reading (nx := 63) rfl rfl rfl rfl ?_
              refine ev_getR f_X12_reading (nx := 66) rfl (hI.wf.s rfl) rfl rfl (hI.wf.r rfl) rfl rfl ?_
              refine ev_loc f_X12_reading (nx := 67) rfl rfl rfl rfl ?_
              refine ev_ialdT f_X12_reading (nx := 68) rfl (hI.wf.s rfl) l10 (by decide) u14 (by decide) rfl (fun w38 e38 => ?_)
              refine ev_inV2 f_X12_reading (nx := 71) (lo2 := [(0, .ref 69), (1, .int w38)]) rfl rfl rfl rfl f_X12_orNone (hI.wf.s rfl) rfl rfl rfl rfl rfl ?_
              refine ev_loc f_X12_orNone (nx := 1) rfl rfl rfl rfl ?_
              refine ev_ic f_X12_orNone (nx := 2) (v := -1) rfl (by decide) rfl ?_
              refine ev_if f_X12_orNone (t1 := 5) (t2 := 14) rfl rfl rfl (fun h39 => ?_) (fun h39 => ?_)
              · have u40 : w38.toInt ≤ (-1) := t_equ h39 (by decide : ((-1):Int32).toInt ≤ ((-1):Int))
                have l41 : (-1) ≤ w38.toInt := t_eql h39 (by decide : ((-1):Int) ≤ ((-1):Int32).toInt)
                refine ev_loc f_X12_orNone (nx := 6) rfl rfl rfl rfl ?_
                refine ev_bp f_X12_orNone (nx := 8) (v := 6) rfl (by decide) rfl ?_
                refine ev_inV2 f_X12_orNone (nx := 11) (lo2 := [(0, .ref 69), (1, .int 6)]) rfl rfl rfl rfl f_X12_refuse (hI.wf.s rfl) rfl rfl rfl rfl rfl ?_
                refine ev_loc f_X12_refuse (nx := 1) rfl rfl rfl rfl ?_
                refine ev_loc f_X12_refuse (nx := 2) rfl rfl rfl rfl ?_
                refine ev_putIT f_X12_refuse (nx := 5) rfl (hI.wf.s rfl) rfl rfl rfl (hI.put0 (hI.wf.s rfl) rfl rfl) (hX.upI rfl) (fun g42 e42 hI hX => ?_)
                refine ev_ic f_X12_refuse (nx := 6) (v := -1) rfl (by decide) rfl ?_
                refine ev_retK1 f_X12_refuse rfl rfl rfl ?_
                refine ev_jmp f_X12_orNone (nx := 19) rfl rfl rfl ?_
                refine ev_retK1 f_X12_orNone rfl rfl rfl ?_
                exact ev_ret f_X12_reading rfl rfl rfl ⟨_, _, _, rfl, hI, hX, ⟨_, rfl, (Int.le_trans (by decide : ((-2147483648):Int) ≤ (-1)) (by decide : ((-1):Int) ≤ ((-1):Int32).toInt)), (Int.le_trans (by decide : ((-1):Int32).toInt ≤ ((-1):Int)) (by decide : ((-1):Int) ≤ 2147483647)), (show ∀ L : s_RL, s_S3 gi L → s_LO L → ((0 ≤ ar1.toInt ∧ ar1.toInt < (L.length : Int) ∧ 0 ≤ ar2.toInt ∧ ar2.toInt ≤ 2) → ((-1) : Int) = s_rd L ar1.toNatClampNeg ar2.toInt) ∧ (¬ (0 ≤ ar1.toInt ∧ ar1.toInt < (L.length : Int) ∧ 0 ≤ ar2.toInt ∧ ar2.toInt ≤ 2) → ((-1) : Int) = -1) from (by
                                                            intro L h hL
                                                            obtain ⟨hn, hl⟩ := h
                                                            have hk : (gi 69 30).toInt = (L.length : Int) := hn
                                                            refine ⟨fun _ => ?_, fun h => absurd (show _ from ⟨by omega, by omega, by omega, by omega⟩) h⟩
                                                            have c1 := t_clamp (i := ar1) (by omega)
                                                            obtain ⟨t, ht⟩ := s_rd_g (L := L) (k := ar1.toNatClampNeg) (by omega)
                                                            obtain ⟨v1, v2, v3⟩ := hl _ t ht
                                                            obtain ⟨d0, d1, d2⟩ := s_rd_0 ht
                                                            have ho := hL _ t ht
                                                            have ew : w38.toInt = t.2.2 := by rw [e38]; exact v3
                                                            rw [show ar2.toInt = 2 by omega, d2, ← ew]
                                                            have k1 : (-1 : Int32).toInt = -1 := rfl
                                                            omega))⟩⟩
              · have r43 : w38.toInt ≠ (-1) := fun e => h39 (Int32.toInt_inj.mp (e.trans (by decide : ((-1):Int) = ((-1) : Int32).toInt)))
                refine ev_loc f_X12_orNone (nx := 15) rfl rfl rfl rfl ?_
                refine ev_loc f_X12_orNone (nx := 16) rfl rfl rfl rfl ?_
                refine ev_inV2 f_X12_orNone (nx := 19) (lo2 := [(0, .ref 69), (1, .int w38)]) rfl rfl rfl rfl f_X12_gives (hI.wf.s rfl) rfl rfl rfl rfl rfl ?_
                refine ev_loc f_X12_gives (nx := 1) rfl rfl rfl rfl ?_
                refine ev_ic f_X12_gives (nx := 2) (v := 0) rfl (by decide) rfl ?_
                refine ev_putIT f_X12_gives (nx := 5) rfl (hI.wf.s rfl) rfl rfl rfl (hI.put0 (hI.wf.s rfl) rfl rfl) (hX.upI rfl) (fun g44 e44 hI hX => ?_)
                refine ev_loc f_X12_gives (nx := 6) rfl rfl rfl rfl ?_
                refine ev_retK1 f_X12_gives rfl rfl rfl ?_
                refine ev_retK1 f_X12_orNone rfl rfl rfl ?_
                exact ev_ret f_X12_reading rfl rfl rfl ⟨_, _, _, rfl, hI, hX, ⟨_, rfl, (t_lo w38), (t_hi w38), (show ∀ L : s_RL, s_S3 gi L → s_LO L → ((0 ≤ ar1.toInt ∧ ar1.toInt < (L.length : Int) ∧ 0 ≤ ar2.toInt ∧ ar2.toInt ≤ 2) → w38.toInt = s_rd L ar1.toNatClampNeg ar2.toInt) ∧ (¬ (0 ≤ ar1.toInt ∧ ar1.toInt < (L.length : Int) ∧ 0 ≤ ar2.toInt ∧ ar2.toInt ≤ 2) → w38.toInt = -1) from (by
                                                            intro L h hL
                                                            obtain ⟨hn, hl⟩ := h
                                                            have hk : (gi 69 30).toInt = (L.length : Int) := hn
                                                            refine ⟨fun _ => ?_, fun h => absurd (show _ from ⟨by omega, by omega, by omega, by omega⟩) h⟩
                                                            have c1 := t_clamp (i := ar1) (by omega)
                                                            obtain ⟨t, ht⟩ := s_rd_g (L := L) (k := ar1.toNatClampNeg) (by omega)
                                                            obtain ⟨v1, v2, v3⟩ := hl _ t ht
                                                            obtain ⟨d0, d1, d2⟩ := s_rd_0 ht
                                                            have ho := hL _ t ht
                                                            have ew : w38.toInt = t.2.2 := by rw [e38]; exact v3
                                                            rw [show ar2.toInt = 2 by omega, d2, ← ew]))⟩⟩
        · have r45 : (gi 69 30).toInt ≤ ar1.toInt := Int32.le_iff_toInt_le.mp (t_nlt h12)
          refine ev_loc f_X12_reading (nx := 28) rfl rfl rfl rfl ?_
          refine ev_bp f_X12_reading (nx := 30) (v := 6) rfl (by decide) rfl ?_
          refine ev_inV2 f_X12_reading (nx := 33) (lo2 := [(0, .ref 69), (1, .int 6)]) rfl rfl rfl rfl f_X12_refuse (hI.wf.s rfl) rfl rfl rfl rfl rfl ?_
          refine ev_loc f_X12_refuse (nx := 1) rfl rfl rfl rfl ?_
          refine ev_loc f_X12_refuse (nx := 2) rfl rfl rfl rfl ?_
          refine ev_putIT f_X12_refuse (nx := 5) rfl (hI.wf.s rfl) rfl rfl rfl (hI.put0 (hI.wf.s rfl) rfl rfl) (hX.upI rfl) (fun g46 e46 hI hX => ?_)
          refine ev_ic f_X12_refuse (nx := 6) (v := -1) rfl (by decide) rfl ?_
          refine ev_retK1 f_X12_refuse rfl rfl rfl ?_
          exact ev_ret f_X12_reading rfl rfl rfl ⟨_, _, _, rfl, hI, hX, ⟨_, rfl, (Int.le_trans (by decide : ((-2147483648):Int) ≤ (-1)) (by decide : ((-1):Int) ≤ ((-1):Int32).toInt)), (Int.le_trans (by decide : ((-1):Int32).toInt ≤ ((-1):Int)) (by decide : ((-1):Int) ≤ 2147483647)), (show ∀ L : s_RL, s_S3 gi L → s_LO L → ((0 ≤ ar1.toInt ∧ ar1.toInt < (L.length : Int) ∧ 0 ≤ ar2.toInt ∧ ar2.toInt ≤ 2) → ((-1) : Int) = s_rd L ar1.toNatClampNeg ar2.toInt) ∧ (¬ (0 ≤ ar1.toInt ∧ ar1.toInt < (L.length : Int) ∧ 0 ≤ ar2.toInt ∧ ar2.toInt ≤ 2) → ((-1) : Int) = -1) from (by
                                                            intro L h hL
                                                            obtain ⟨hn, hl⟩ := h
                                                            have hk : (gi 69 30).toInt = (L.length : Int) := hn
                                                            exact ⟨fun h => absurd h (by omega), fun _ => rfl⟩))⟩⟩
    · have l47 : 3 ≤ ar2.toInt := t_ltl (t_nle h5) (by decide : (2:Int) ≤ (2:Int32).toInt) rfl
      refine ev_loc f_X12_reading (nx := 10) rfl rfl rfl rfl ?_
      refine ev_ic f_X12_reading (nx := 11) (v := 1) rfl (by decide) rfl ?_
      refine ev_inV2 f_X12_reading (nx := 14) (lo2 := [(0, .ref 69), (1, .int 1)]) rfl rfl rfl rfl f_X12_refuse (hI.wf.s rfl) rfl rfl rfl rfl rfl ?_
      refine ev_loc f_X12_refuse (nx := 1) rfl rfl rfl rfl ?_
      refine ev_loc f_X12_refuse (nx := 2) rfl rfl rfl rfl ?_
      refine ev_putIT f_X12_refuse (nx := 5) rfl (hI.wf.s rfl) rfl rfl rfl (hI.put0 (hI.wf.s rfl) rfl rfl) (hX.upI rfl) (fun g48 e48 hI hX => ?_)
      refine ev_ic f_X12_refuse (nx := 6) (v := -1) rfl (by decide) rfl ?_
      refine ev_retK1 f_X12_refuse rfl rfl rfl ?_
      exact ev_ret f_X12_reading rfl rfl rfl ⟨_, _, _, rfl, hI, hX, ⟨_, rfl, (Int.le_trans (by decide : ((-2147483648):Int) ≤ (-1)) (by decide : ((-1):Int) ≤ ((-1):Int32).toInt)), (Int.le_trans (by decide : ((-1):Int32).toInt ≤ ((-1):Int)) (by decide : ((-1):Int) ≤ 2147483647)), (show ∀ L : s_RL, s_S3 gi L → s_LO L → ((0 ≤ ar1.toInt ∧ ar1.toInt < (L.length : Int) ∧ 0 ≤ ar2.toInt ∧ ar2.toInt ≤ 2) → ((-1) : Int) = s_rd L ar1.toNatClampNeg ar2.toInt) ∧ (¬ (0 ≤ ar1.toInt ∧ ar1.toInt < (L.length : Int) ∧ 0 ≤ ar2.toInt ∧ ar2.toInt ≤ 2) → ((-1) : Int) = -1) from (by
                                                            intro L h hL
                                                            obtain ⟨hn, hl⟩ := h
                                                            have hk : (gi 69 30).toInt = (L.length : Int) := hn
                                                            exact ⟨fun h => absurd h (by omega), fun _ => rfl⟩))⟩⟩
/-! ===== the READINGS that were told last are kept alike; readings, reading: the answers are alike ===== -/
section RLO
variable {D : s_D} {x : Int64} {a b e p : Int} {L L2 : s_RL} {t : Int × Int × Int}
theorem s_LO_n : s_LO [] := fun k t h => absurd h (by intro h2; cases h2)
theorem s_LO_c (h : s_tO t) (hl : s_LO L) : s_LO (t :: L) := by
  intro k t' hk
  cases k with
  | zero => exact Option.some.inj hk ▸ h
  | succ k => exact hl k t' hk
theorem s_LO_a (h : s_LO L) (h2 : s_LO L2) : s_LO (L ++ L2) := by
  intro k t hk
  by_cases hl : k < L.length
  · rw [List.getElem?_append_left hl] at hk; exact h k t hk
  · rw [List.getElem?_append_right (by omega)] at hk; exact h2 _ t hk
theorem s_rE_O (ha : 0 ≤ a) (hb : 0 ≤ b) (hb5 : b ≤ 5) : ∀ (m : Nat) (e : Int), 0 ≤ e → s_LO (s_rE D x a b m e)
  | 0, _, _ => s_LO_n
  | m + 1, e, he => by
    have h1 := s_rE_O ha hb hb5 m (e + 1) (by omega)
    show s_LO (s_if (s_bw D a b e = x) _ _)
    by_cases h : s_bw D a b e = x
    · rw [s_ifT h]; exact s_LO_c ⟨ha, Or.inr ⟨hb, hb5, he⟩⟩ h1
    · rw [s_ifF h]; exact h1
theorem s_lb_n : 0 ≤ s_lb a b := by
  unfold s_lb
  by_cases h : b < a
  · rw [if_pos h]; decide
  · rw [if_neg h]; decide
theorem s_rB_O (ha : 0 ≤ a) : ∀ (m : Nat) (b : Int), 0 ≤ b → b + (m : Int) ≤ 6 → s_LO (s_rB D x a m b)
  | 0, _, _, _ => s_LO_n
  | m + 1, b, hb, h6 => s_LO_a (s_rE_O ha hb (by omega) _ _ s_lb_n) (s_rB_O ha m (b + 1) (by omega) (by omega))
theorem s_rA_O (h6 : ((D 0).toNat : Int) ≤ 6) : ∀ (m : Nat) (a : Int), 0 ≤ a → s_LO (s_rA D x m a)
  | 0, _, _ => s_LO_n
  | m + 1, a, ha => s_LO_a (s_rB_O ha _ 0 (by omega) (by omega)) (s_rA_O h6 m (a + 1) (by omega))
theorem s_rP_O : ∀ (m : Nat) (p : Int), 0 ≤ p → s_LO (s_rP D x m p)
  | 0, _, _ => s_LO_n
  | m + 1, p, hp => by
    have h1 := s_rP_O m (p + 1) (by omega)
    show s_LO (s_if (s_hd D p = x) _ _)
    by_cases h : s_hd D p = x
    · rw [s_ifT h]; exact s_LO_c ⟨hp, Or.inl ⟨rfl, rfl⟩⟩ h1
    · rw [s_ifF h]; exact h1
theorem s_rL_O (h6 : D 0 ≤ 6) : s_LO (s_rL D x) := s_LO_a (s_rP_O _ 0 (by decide)) (s_rA_O (by omega) _ 0 (by decide))
end RLO
noncomputable def t_RG (g : Nat → Nat → Int32) : Prop := ∃ L, s_S1 g L ∧ s_S3 g L ∧ s_LO L
noncomputable def t_LEr (c : Nat) (sh : List (Nat ⊕ (Nat × Nat))) (gi : Nat → Nat → Int32) (gl : Nat → Nat → Int64) (gr : Nat → Nat → Value) : Prop := t_LD c sh gi gl gr ∧ t_RG gi
noncomputable def t_rg1 (w : List (Nat × Nat)) : Bool := t_un w (0, 14) && t_nc w 21
noncomputable def t_rg3 (w : List (Nat × Nat)) : Bool := t_un w (69, 30) && (t_nc w 81 && (t_nc w 82 && t_nc w 83))
section RGS
variable {sh : List (Nat ⊕ (Nat × Nat))} {gi g1 g2 : Nat → Nat → Int32} {gl l1 l2 : Nat → Nat → Int64} {gr r1 r2 : Nat → Nat → Value} {w1 w2 : List (Nat × Nat)} {A A2 : Int32} {Y : Int64} {x1 x2 : Int32} {L : s_RL}
theorem s_S1.fr (h : s_S1 gi L) (f : t_F w1 gi gl gr g1 l1 r1) (hw : t_rg1 w1 = true) : s_S1 g1 L := by
  unfold t_rg1 at hw
  simp only [Bool.and_eq_true] at hw
  exact h.cg (f 0 14 (by decide) (t_un_ok hw.1)).1 (t_F_nc f hw.2 (by decide))
theorem s_S3.fr (h : s_S3 gi L) (f : t_F w1 gi gl gr g1 l1 r1) (hw : t_rg3 w1 = true) : s_S3 g1 L := by
  unfold t_rg3 at hw
  simp only [Bool.and_eq_true] at hw
  exact h.cg (f 69 30 (by decide) (t_un_ok hw.1)).1 (t_F_nc f hw.2.1 (by decide)) (t_F_nc f hw.2.2.1 (by decide)) (t_F_nc f hw.2.2.2 (by decide))
theorem t_RG_fr (hG : t_RG gi) (f1 : t_F w1 gi gl gr g1 l1 r1) (h : (t_rg1 w1 && t_rg3 w1) = true) : t_RG g1 := by
  obtain ⟨L, a, b, c⟩ := hG
  rw [Bool.and_eq_true] at h
  exact ⟨L, a.fr f1 h.1, b.fr f1 h.2, c⟩
theorem t_RG_same (hG : t_RG gi) (f1 : t_F w1 gi gl gr g1 l1 r1) (f2 : t_F w2 g1 l1 r1 g2 l2 r2) (h : ((t_rg1 w1 && t_rg3 w1) && (t_rg1 w2 && t_rg3 w2)) = true) : t_RG g2 := by
  rw [Bool.and_eq_true] at h
  exact t_RG_fr (t_RG_fr hG f1 h.1) f2 h.2
theorem t_RG_read (hG : t_RG gi) (hD : t_DR sh.length gi gl gr) (f1 : t_F w1 gi gl gr g1 l1 r1) (f2 : t_F w2 g1 l1 r1 g2 l2 r2) (h70 : t_nc w1 70 = true) (h3 : t_rg3 w1 = true) (h1 : t_rg1 w2 = true) (q1 : Q_d_readings gi gl gr Y x1 g1 l1 r1) (q2 : Q_e_readings g1 l1 r1 Y x2 g2 l2 r2) : t_RG g2 := by
  obtain ⟨u, hu, D, hb, hv, hl, hc, hm⟩ := hD.1
  have r70 : g1 70 = gi 70 := t_F_nc f1 h70 (by decide)
  have hm2 : t_ME 0 g1 D := by unfold t_ME; rw [r70]; exact hm
  have k1 := q1 u D hu hl hc hb hv.1
  have k2 := q2 D hm2 hb
  by_cases hy : 1 ≤ Y.toInt
  · exact ⟨_, (k1.1 hy).1.fr f2 h1, (k2.1 hy).1, s_rL_O hb.1.2⟩
  · obtain ⟨L, a, b, c⟩ := hG
    exact ⟨L, ((k1.2 (by omega)).2 L a).fr f2 h1, (k2.2 (by omega)).2 L (b.fr f1 h3), c⟩
theorem t_L_readings (hD : t_DR sh.length gi gl gr) (f1 : t_F w1 gi gl gr g1 l1 r1) (h70 : t_nc w1 70 = true) (q1 : Q_d_readings gi gl gr Y x1 g1 l1 r1) (q2 : Q_e_readings g1 l1 r1 Y x2 g2 l2 r2) : x1 = x2 := by
  obtain ⟨u, hu, D, hb, hv, hl, hc, hm⟩ := hD.1
  have r70 : g1 70 = gi 70 := t_F_nc f1 h70 (by decide)
  have hm2 : t_ME 0 g1 D := by unfold t_ME; rw [r70]; exact hm
  have k1 := q1 u D hu hl hc hb hv.1
  have k2 := q2 D hm2 hb
  apply Int32.toInt_inj.mp
  by_cases hy : 1 ≤ Y.toInt
  · rw [(k1.1 hy).2, (k2.1 hy).2]
  · rw [(k1.2 (by omega)).1, (k2.2 (by omega)).1]
theorem t_L_reading (hG : t_RG gi) (f1 : t_F w1 gi gl gr g1 l1 r1) (h3 : t_rg3 w1 = true) (q1 : Q_d_reading gi gl gr A A2 x1 g1 l1 r1) (q2 : Q_e_reading g1 l1 r1 A A2 x2 g2 l2 r2) : x1 = x2 := by
  obtain ⟨L, a, b, c⟩ := hG
  have k1 := q1 L a c
  have k2 := q2 L (b.fr f1 h3) c
  apply Int32.toInt_inj.mp
  by_cases hin : 0 ≤ A.toInt ∧ A.toInt < (L.length : Int) ∧ 0 ≤ A2.toInt ∧ A2.toInt ≤ 2
  · rw [k1.1 hin, k2.1 hin]
  · rw [k1.2 hin, k2.2 hin]
end RGS
theorem W1_Nr {sh : List (Nat ⊕ (Nat × Nat))} {gi : Nat → Nat → Int32} {gl : Nat → Nat → Int64} {gr : Nat → Nat → Value} (hR : x_R W1 (sh, gi, gl, gr)) : t_RG gi := by
  have h : gi 69 30 = x_cI w1_c69 30 := ((x_gc_R hR (c := w1_c69) rfl).2.2.2 _ (by decide)).1
  have h0 : gi 0 14 = x_cI w1_c0 14 := ((x_gc_R hR (c := w1_c0) rfl).2.2.2 _ (by decide)).1
  refine ⟨[], s_S1_nil ?_, ⟨?_, fun k t hk => absurd hk (by intro h2; cases h2)⟩, s_LO_n⟩
  · rw [h0]; decide +kernel
  · rw [h]; decide +kernel
/-! ===== a text refused ahead: nothing of the FAULT is touched; rules() answers alike ===== -/
theorem c_n_begins0 {X : x_Ext} {d : Nat} {sh : List (Nat ⊕ (Nat × Nat))} {gi : Nat → Nat → Int32} {gl : Nat → Nat → Int64} {gr : Nat → Nat → Value} (hI : t_I sh gi gr) (ar1 ar2 : Int32) (hn : ¬ (0 ≤ ar1.toInt ∧ ar1.toInt ≤ (gi 69 10).toInt ∧ ar1.toInt ≤ ar2.toInt)) : x_Me X (d + 3) n_X12_begins [.ref 69, .int ar1, .int ar2] (sh, gi, gl, gr) (t_PI [] sh gi gl gr 0 0 (fun _ _ _ _ => True)) := by
  have kf0 : (0 : Int32).toInt = 0 := (by decide)
  refine me_i f_X12_begins (hI.wf.s rfl) rfl rfl rfl ?_
  refine ev_loc f_X12_begins (nx := 1) rfl rfl rfl rfl ?_
  refine ev_if f_X12_begins (t1 := 17) (t2 := 4) rfl rfl rfl (fun h1 => ?_) (fun h1 => ?_)
  · refine ev_ic f_X12_begins (nx := 18) (v := 0) rfl (by decide) rfl ?_
    exact ev_ret f_X12_begins rfl rfl rfl ⟨_, _, _, rfl, hI, t_X.rf, ⟨_, rfl, by decide, by decide, trivial⟩⟩
  have h1 := Int32.le_iff_toInt_le.mp (t_nlt h1)
  refine ev_loc f_X12_begins (nx := 5) rfl rfl rfl rfl ?_
  refine ev_loc f_X12_begins (nx := 6) rfl rfl rfl rfl ?_
  refine ev_gvI f_X12_begins (nx := 9) (w := (gi 69 10)) rfl (hI.wf.s rfl) rfl rfl rfl rfl ?_
  refine ev_if f_X12_begins (t1 := 17) (t2 := 12) rfl rfl rfl (fun h2 => ?_) (fun h2 => ?_)
  · refine ev_ic f_X12_begins (nx := 18) (v := 0) rfl (by decide) rfl ?_
    exact ev_ret f_X12_begins rfl rfl rfl ⟨_, _, _, rfl, hI, t_X.rf, ⟨_, rfl, by decide, by decide, trivial⟩⟩
  have h2 := Int32.le_iff_toInt_le.mp (t_nlt h2)
  refine ev_loc f_X12_begins (nx := 13) rfl rfl rfl rfl ?_
  refine ev_loc f_X12_begins (nx := 14) rfl rfl rfl rfl ?_
  refine ev_if f_X12_begins (t1 := 19) (t2 := 17) rfl rfl rfl (fun h3 => ?_) (fun h3 => ?_)
  · exact absurd (show (0 ≤ ar1.toInt ∧ ar1.toInt ≤ (gi 69 10).toInt ∧ ar1.toInt ≤ ar2.toInt) from ⟨by omega, by omega, Int32.le_iff_toInt_le.mp h3⟩) hn
  · refine ev_ic f_X12_begins (nx := 18) (v := 0) rfl (by decide) rfl ?_
    exact ev_ret f_X12_begins rfl rfl rfl ⟨_, _, _, rfl, hI, t_X.rf, ⟨_, rfl, by decide, by decide, trivial⟩⟩
theorem c_n_riverF {X : x_Ext} {d : Nat} {sh : List (Nat ⊕ (Nat × Nat))} {gi : Nat → Nat → Int32} {gl : Nat → Nat → Int64} {gr : Nat → Nat → Value} (hI : t_I sh gi gr) (ar1 : Int32) : x_Me X (d + 10) n_X12_river [.ref 69, .int ar1] (sh, gi, gl, gr) (t_PI wl_n_river sh gi gl gr (-1) 6 (fun v g l r => Q_n_river gi gl gr ar1 v g l r ∧ (¬ (0 ≤ ar1.toInt ∧ ar1.toInt ≤ (gi 69 10).toInt) → g 69 16 = gi 69 16 ∧ g 69 17 = gi 69 17))) := by
  by_cases hin : (0 ≤ ar1.toInt ∧ ar1.toInt ≤ (gi 69 10).toInt)
  · refine (c_n_river hI ar1).mono ?_
    rintro v G1 ⟨g1, l1, r1, rfl, k1, k2, x, rfl, a, b, q⟩
    exact ⟨g1, l1, r1, rfl, k1, k2, x, rfl, a, b, q, fun hh => absurd hin hh⟩
  have hX : t_X wl_n_river sh gi gl gr gi gl gr := t_X.rf
  have hu := hI.b (hI.wf.s (k := 69) rfl) (t_bdK rfl : t_bd 11 10 = some (0, 900))
  have km : (900 : Int32).toInt = 900 := rfl
  have kf0 : (0 : Int32).toInt = 0 := (by decide)
  refine me_i f_X12_river (hI.wf.s rfl) rfl rfl rfl ?_
  refine ev_loc f_X12_river (nx := 1) rfl rfl rfl rfl ?_
  refine ev_loc f_X12_river (nx := 2) rfl rfl rfl rfl ?_
  refine ev_sp f_X12_river (nx := 5) (v := 900) rfl (by decide) rfl ?_
  refine ev_qI0 f_X12_river (nx := 8) (r := []) rfl rfl rfl rfl rfl rfl rfl (c_n_begins0 hI ar1 900 (fun h => hin (by omega))) rfl (fun w lw uw _ => ?_)
  refine ev_if f_X12_river (t1 := 11) (t2 := 17) rfl rfl rfl (fun h3 => ?_) (fun h3 => ?_)
  rotate_left
  · exact absurd (Int32.toInt_inj.mp (by omega)) h3
  refine ev_loc f_X12_river (nx := 12) rfl rfl rfl rfl ?_
  refine ev_ic f_X12_river (nx := 13) (v := 1) rfl (by decide) rfl ?_
  refine ev_inV2 f_X12_river (nx := 16) (lo2 := [(0, .ref 69), (1, .int 1)]) rfl rfl rfl rfl f_X12_refuse (hI.wf.s rfl) rfl rfl rfl rfl rfl ?_
  refine ev_loc f_X12_refuse (nx := 1) rfl rfl rfl rfl ?_
  refine ev_loc f_X12_refuse (nx := 2) rfl rfl rfl rfl ?_
  refine ev_putIT f_X12_refuse (nx := 5) rfl (hI.wf.s rfl) rfl rfl rfl (hI.put0 (hI.wf.s rfl) rfl rfl) (hX.upI rfl) (fun g4 e4 hI hX => ?_)
  refine ev_ic f_X12_refuse (nx := 6) (v := -1) rfl (by decide) rfl ?_
  refine ev_retK1 f_X12_refuse rfl rfl rfl ?_
  exact ev_ret f_X12_river rfl rfl rfl ⟨_, _, _, rfl, hI, hX, ⟨_, rfl, by decide, by decide, And.intro (And.intro (fun hh => absurd hh hin) (fun _ => And.intro rfl (fun j _ => by rw [e4, x_up2_ne (by decide)]))) (fun _ => ⟨by rw [e4]; exact x_up2_off (Or.inr (by decide)), by rw [e4]; exact x_up2_off (Or.inr (by decide))⟩)⟩⟩
theorem c_n_rulesF {X : x_Ext} {d : Nat} {sh : List (Nat ⊕ (Nat × Nat))} {gi : Nat → Nat → Int32} {gl : Nat → Nat → Int64} {gr : Nat → Nat → Value} (hI : t_I sh gi gr) (ar1 : Int32) : x_Me X (d + 9) n_X12_rules [.ref 69, .int ar1] (sh, gi, gl, gr) (t_PI wl_n_rules sh gi gl gr (-1) 12 (fun v g l r => Q_n_rules gi gl gr ar1 v g l r ∧ (¬ (0 ≤ ar1.toInt ∧ ar1.toInt ≤ (gi 69 10).toInt ∧ ar1.toInt ≤ 300) → g 69 16 = gi 69 16 ∧ g 69 17 = gi 69 17))) := by
  by_cases hin : (0 ≤ ar1.toInt ∧ ar1.toInt ≤ (gi 69 10).toInt ∧ ar1.toInt ≤ 300)
  · refine (c_n_rules hI ar1).mono ?_
    rintro v G1 ⟨g1, l1, r1, rfl, k1, k2, x, rfl, a, b, q⟩
    exact ⟨g1, l1, r1, rfl, k1, k2, x, rfl, a, b, q, fun hh => absurd hin hh⟩
  have hX : t_X wl_n_rules sh gi gl gr gi gl gr := t_X.rf
  have hu := hI.b (hI.wf.s (k := 69) rfl) (t_bdK rfl : t_bd 11 10 = some (0, 900))
  have km : (300 : Int32).toInt = 300 := rfl
  have kf0 : (0 : Int32).toInt = 0 := (by decide)
  refine me_i f_X12_rules (hI.wf.s rfl) rfl rfl rfl ?_
  refine ev_loc f_X12_rules (nx := 1) rfl rfl rfl rfl ?_
  refine ev_loc f_X12_rules (nx := 2) rfl rfl rfl rfl ?_
  refine ev_sp f_X12_rules (nx := 5) (v := 300) rfl (by decide) rfl ?_
  refine ev_qI0 f_X12_rules (nx := 8) (r := []) rfl rfl rfl rfl rfl rfl rfl (c_n_begins0 hI ar1 300 (fun h => hin (by omega))) rfl (fun w lw uw _ => ?_)
  refine ev_if f_X12_rules (t1 := 11) (t2 := 17) rfl rfl rfl (fun h3 => ?_) (fun h3 => ?_)
  rotate_left
  · exact absurd (Int32.toInt_inj.mp (by omega)) h3
  refine ev_loc f_X12_rules (nx := 12) rfl rfl rfl rfl ?_
  refine ev_ic f_X12_rules (nx := 13) (v := 1) rfl (by decide) rfl ?_
  refine ev_inV2 f_X12_rules (nx := 16) (lo2 := [(0, .ref 69), (1, .int 1)]) rfl rfl rfl rfl f_X12_refuse (hI.wf.s rfl) rfl rfl rfl rfl rfl ?_
  refine ev_loc f_X12_refuse (nx := 1) rfl rfl rfl rfl ?_
  refine ev_loc f_X12_refuse (nx := 2) rfl rfl rfl rfl ?_
  refine ev_putIT f_X12_refuse (nx := 5) rfl (hI.wf.s rfl) rfl rfl rfl (hI.put0 (hI.wf.s rfl) rfl rfl) (hX.upI rfl) (fun g4 e4 hI hX => ?_)
  refine ev_ic f_X12_refuse (nx := 6) (v := -1) rfl (by decide) rfl ?_
  refine ev_retK1 f_X12_refuse rfl rfl rfl ?_
  exact ev_ret f_X12_rules rfl rfl rfl ⟨_, _, _, rfl, hI, hX, ⟨_, rfl, by decide, by decide, And.intro (And.intro (fun hh => absurd hh hin) (fun _ => And.intro rfl (And.intro (by rw [e4, x_up2_ne (by decide)]) (by rw [e4, x_up2_ne (by decide)])))) (fun _ => ⟨by rw [e4]; exact x_up2_off (Or.inr (by decide)), by rw [e4]; exact x_up2_off (Or.inr (by decide))⟩)⟩⟩
theorem c_s_riverF {X : x_Ext} {d : Nat} {sh : List (Nat ⊕ (Nat × Nat))} {gi : Nat → Nat → Int32} {gl : Nat → Nat → Int64} {gr : Nat → Nat → Value} (hI : t_I sh gi gr) (hH : t_H sh) (ar1 : Int32) : x_Me X (d + 11) n_X11_river [.ref 0, .int ar1] (sh, gi, gl, gr) (fun v G1 => ∃ sh1 g l r x, G1 = (sh1, g, l, r) ∧ v = some (.int x) ∧ (((0 ≤ ar1.toInt ∧ ar1.toInt ≤ (gi 0 5).toInt) → ∀ n : Nat, (n : Int) = ar1.toInt → t_RES gi gl gr sh.length (gi 2) n x g l r) ∧ (¬ (0 ≤ ar1.toInt ∧ ar1.toInt ≤ (gi 0 5).toInt) → x.toInt = -1 ∧ (∀ K, K ≠ 0 → g K = gi K ∧ l K = gl K ∧ r K = gr K) ∧ r 0 6 = gr 0 6 ∧ r 0 7 = gr 0 7) ∧ ((0 ≤ ar1.toInt ∧ ar1.toInt ≤ (gi 0 5).toInt) → sh.length + 18 ≤ sh1.length)) ∧ (¬ (0 ≤ ar1.toInt ∧ ar1.toInt ≤ (gi 0 5).toInt) → g 0 8 = gi 0 8 ∧ g 0 9 = gi 0 9)) := by
  by_cases hin : (0 ≤ ar1.toInt ∧ ar1.toInt ≤ (gi 0 5).toInt)
  · refine (c_s_river hI hH ar1).mono ?_
    rintro v G1 ⟨sh1, g, l, r, x, e1, e2, h⟩
    exact ⟨sh1, g, l, r, x, e1, e2, h, fun hh => absurd hin hh⟩
  have kf0 : (0 : Int32).toInt = 0 := (by decide)
  refine me_i f_X11_river (hI.wf.s rfl) rfl rfl rfl ?_
  refine ev_loc f_X11_river (nx := 1) rfl rfl rfl rfl ?_
  refine ev_if f_X11_river (t1 := 12) (t2 := 4) rfl rfl rfl (fun h1 => ?_) (fun h1 => ?_)
  · refine x_Ev.mono (x_Ev.up (c_t_riverN (d := d) hI ar1) (by omega)) ?_
    rintro v G1 ⟨g1, l1, r1, rfl, k1, k2, x, rfl, -, -, k3⟩
    exact ⟨sh, g1, l1, r1, x, rfl, rfl, ⟨fun hi => absurd hi hin, fun _ => ⟨k3, fun K hK => t_row0 k2 rfl hK, (k2.1 0 6 rfl).2.2, (k2.1 0 7 rfl).2.2⟩, fun hi => absurd hi hin⟩, fun _ => ⟨(k2.1 0 8 rfl).1, (k2.1 0 9 rfl).1⟩⟩
  have h1 := Int32.le_iff_toInt_le.mp (t_nlt h1)
  refine ev_loc f_X11_river (nx := 5) rfl rfl rfl rfl ?_
  refine ev_loc f_X11_river (nx := 6) rfl rfl rfl rfl ?_
  refine ev_getI f_X11_river (nx := 9) rfl (hI.wf.s rfl) rfl rfl rfl ?_
  refine ev_if f_X11_river (t1 := 18) (t2 := 12) rfl rfl rfl (fun h2 => ?_) (fun h2 => ?_)
  · exact absurd (show (0 ≤ ar1.toInt ∧ ar1.toInt ≤ (gi 0 5).toInt) from ⟨by omega, Int32.le_iff_toInt_le.mp h2⟩) hin
  · refine x_Ev.mono (x_Ev.up (c_t_riverN (d := d) hI ar1) (by omega)) ?_
    rintro v G1 ⟨g1, l1, r1, rfl, k1, k2, x, rfl, -, -, k3⟩
    exact ⟨sh, g1, l1, r1, x, rfl, rfl, ⟨fun hi => absurd hi hin, fun _ => ⟨k3, fun K hK => t_row0 k2 rfl hK, (k2.1 0 6 rfl).2.2, (k2.1 0 7 rfl).2.2⟩, fun hi => absurd hi hin⟩, fun _ => ⟨(k2.1 0 8 rfl).1, (k2.1 0 9 rfl).1⟩⟩
theorem c_u_rulesF {X : x_Ext} {d : Nat} {sh : List (Nat ⊕ (Nat × Nat))} {gi : Nat → Nat → Int32} {gl : Nat → Nat → Int64} {gr : Nat → Nat → Value} (hI : t_I sh gi gr) (hH : t_H sh) (ar1 : Int32) : x_Me X (d + 70) n_X11_rules [.ref 0, .int ar1] (sh, gi, gl, gr) (fun v G1 => ∃ sh1 g l r x, G1 = (sh1, g, l, r) ∧ v = some (.int x) ∧ (((0 ≤ ar1.toInt ∧ ar1.toInt ≤ (gi 0 5).toInt ∧ ar1.toInt ≤ 300) → ∀ n : Nat, (n : Int) = ar1.toInt → t_RSR gi gl gr sh.length (gi 2) n x g l r) ∧ (¬ (0 ≤ ar1.toInt ∧ ar1.toInt ≤ (gi 0 5).toInt ∧ ar1.toInt ≤ 300) → x.toInt = -1 ∧ (∀ K, K ≠ 0 → g K = gi K ∧ l K = gl K ∧ r K = gr K) ∧ r 0 6 = gr 0 6 ∧ r 0 7 = gr 0 7)) ∧ (¬ (0 ≤ ar1.toInt ∧ ar1.toInt ≤ (gi 0 5).toInt ∧ ar1.toInt ≤ 300) → g 0 8 = gi 0 8 ∧ g 0 9 = gi 0 9)) := by
  by_cases hin : (0 ≤ ar1.toInt ∧ ar1.toInt ≤ (gi 0 5).toInt ∧ ar1.toInt ≤ 300)
  · refine (c_u_rules hI hH ar1).mono ?_
    rintro v G1 ⟨sh1, g, l, r, x, e1, e2, h⟩
    exact ⟨sh1, g, l, r, x, e1, e2, h, fun hh => absurd hin hh⟩
  have kf0 : (0 : Int32).toInt = 0 := (by decide)
  refine me_i f_X11_rules (hI.wf.s rfl) rfl rfl rfl ?_
  refine ev_loc f_X11_rules (nx := 1) rfl rfl rfl rfl ?_
  refine ev_if f_X11_rules (t1 := 19) (t2 := 4) rfl rfl rfl (fun h1 => ?_) (fun h1 => ?_)
  · refine x_Ev.mono (x_Ev.up (c_t_rulesN (d := d) hI ar1) (by omega)) ?_
    rintro v G1 ⟨g1, l1, r1, rfl, k1, k2, x, rfl, -, -, k3⟩
    exact ⟨sh, g1, l1, r1, x, rfl, rfl, ⟨fun hi => absurd hi hin, fun _ => ⟨k3, fun K hK => t_row0 k2 rfl hK, (k2.1 0 6 rfl).2.2, (k2.1 0 7 rfl).2.2⟩⟩, fun _ => ⟨(k2.1 0 8 rfl).1, (k2.1 0 9 rfl).1⟩⟩
  have h1 := Int32.le_iff_toInt_le.mp (t_nlt h1)
  refine ev_loc f_X11_rules (nx := 5) rfl rfl rfl rfl ?_
  refine ev_loc f_X11_rules (nx := 6) rfl rfl rfl rfl ?_
  refine ev_getI f_X11_rules (nx := 9) rfl (hI.wf.s rfl) rfl rfl rfl ?_
  refine ev_if f_X11_rules (t1 := 19) (t2 := 12) rfl rfl rfl (fun h2 => ?_) (fun h2 => ?_)
  · refine x_Ev.mono (x_Ev.up (c_t_rulesN (d := d) hI ar1) (by omega)) ?_
    rintro v G1 ⟨g1, l1, r1, rfl, k1, k2, x, rfl, -, -, k3⟩
    exact ⟨sh, g1, l1, r1, x, rfl, rfl, ⟨fun hi => absurd hi hin, fun _ => ⟨k3, fun K hK => t_row0 k2 rfl hK, (k2.1 0 6 rfl).2.2, (k2.1 0 7 rfl).2.2⟩⟩, fun _ => ⟨(k2.1 0 8 rfl).1, (k2.1 0 9 rfl).1⟩⟩
  have h2 := Int32.le_iff_toInt_le.mp (t_nlt h2)
  refine ev_loc f_X11_rules (nx := 13) rfl rfl rfl rfl ?_
  refine ev_sp f_X11_rules (nx := 16) (v := 300) rfl (by decide) rfl ?_
  refine ev_if f_X11_rules (t1 := 25) (t2 := 19) rfl rfl rfl (fun h3 => ?_) (fun h3 => ?_)
  · have h3 := Int32.le_iff_toInt_le.mp h3
    have k3 : (300 : Int32).toInt = 300 := rfl
    exact absurd (show (0 ≤ ar1.toInt ∧ ar1.toInt ≤ (gi 0 5).toInt ∧ ar1.toInt ≤ 300) from ⟨by omega, by omega, by omega⟩) hin
  · refine x_Ev.mono (x_Ev.up (c_t_rulesN (d := d) hI ar1) (by omega)) ?_
    rintro v G1 ⟨g1, l1, r1, rfl, k1, k2, x, rfl, -, -, k3⟩
    exact ⟨sh, g1, l1, r1, x, rfl, rfl, ⟨fun hi => absurd hi hin, fun _ => ⟨k3, fun K hK => t_row0 k2 rfl hK, (k2.1 0 6 rfl).2.2, (k2.1 0 7 rfl).2.2⟩⟩, fun _ => ⟨(k2.1 0 8 rfl).1, (k2.1 0 9 rfl).1⟩⟩
section LRU
variable {gi g1 g2 : Nat → Nat → Int32} {gl l1 l2 : Nat → Nat → Int64} {gr r1 r2 : Nat → Nat → Value} {w1 w2 : List (Nat × Nat)} {A x1 x2 : Int32} {N N2 : Nat}
theorem s_rls_ob {b : Nat → Int32} {n p : Nat} {k : Nat} {x : Int} (hx : x ≠ 0) (h : (((0 : Int), (0 : Int)), k) = ((s_qb b n p x).1, 0)) : False :=
  s_fk_ne (b := b) (n := n) (p := p) hx (congrArg (fun r : (Int × Int) × Nat => r.1.1) h).symm
/-- what both come to -/
theorem t_RU_two (hT : t_TP gi) (hR : t_R gi gr) (f1 : t_F w1 gi gl gr g1 l1 r1) (h75 : t_nc w1 75 = true) (h69 : t_in w1 69 10 = false) (hin : 0 ≤ A.toInt ∧ A.toInt ≤ (gi 0 5).toInt ∧ A.toInt ≤ 300) (q1 : (0 ≤ A.toInt ∧ A.toInt ≤ (gi 0 5).toInt ∧ A.toInt ≤ 300) → ∀ n : Nat, (n : Int) = A.toInt → t_RSR gi gl gr N (gi 2) n x1 g1 l1 r1) (q2 : Q_n_rules g1 l1 r1 A x2 g2 l2 r2) : (∃ k : Nat, (x1.toInt = (k : Int) ∧ x2.toInt = (k : Int)) ∧ ((g1 0 8).toInt = 0 ∧ (g1 0 9).toInt = -1) ∧ ((g2 69 16).toInt = 0 ∧ (g2 69 17).toInt = -1) ∧ (r1 0 7 = .ref (N + 2) ∧ (g1 (N + 2) 0).toInt = (k : Int)) ∧ ((g2 70 3).toInt = (k : Int) ∧ (g2 70 8).toInt = 1)) ∨ ((x1.toInt = -1 ∧ x2.toInt = -1) ∧ ((g1 0 8).toInt = (g2 69 16).toInt ∧ (g1 0 9).toInt = (g2 69 17).toInt) ∧ r1 0 7 = gr 0 7 ∧ (g2 70 3 = g1 70 3 ∧ g2 70 8 = g1 70 8)) := by
  have e0 : (gi 0 5).toInt = (gi 69 10).toInt := congrArg Int32.toInt (t_R_fed hR)
  have e1 : (g1 69 10).toInt = (gi 69 10).toInt := congrArg Int32.toInt (f1 69 10 (by decide) h69).1
  have r75 : g1 75 = gi 75 := t_F_nc f1 h75 (by decide)
  obtain ⟨n, hn⟩ : ∃ n : Nat, (n : Int) = A.toInt := ⟨A.toInt.toNat, by omega⟩
  have k1 := (q1 hin n hn).1
  have k2 := q2.1 (by omega) (gi 2) n hn (fun j hj => by rw [r75]; exact (hT j (by omega)).1.symm) (fun j hj => (hT j (by omega)).2)
  rcases k1 with ⟨k, a1, a2, a3, a4, a5, a6, a7⟩ | ⟨p, x, a0, a1, a2, a3, a4, a5, a6⟩
  · rcases k2 with ⟨k', b1, b2, b3, b4, b5, b6⟩ | ⟨p', x', b0, b1, -⟩
    · have hk : k = k' := congrArg (fun r : (Int × Int) × Nat => r.2) (a1.symm.trans b1)
      subst hk
      exact Or.inl ⟨k, ⟨a2, b2⟩, ⟨a3, a4⟩, ⟨b4, b5⟩, ⟨a6, a7⟩, b3, b6⟩
    · exact (s_rls_ob b0 (a1.symm.trans b1)).elim
  · rcases k2 with ⟨k', b1, -⟩ | ⟨p', x', b0, b1, b2, b3, b4, b5⟩
    · exact (s_rls_ob a0 (b1.symm.trans a1)).elim
    · have h := a1.symm.trans b1
      have h1 : s_fk (gi 2) n p x = s_fk (gi 2) n p' x' := congrArg (fun r : (Int × Int) × Nat => r.1.1) h
      have h2 : ((s_F (gi 2) n p : Nat) : Int) = ((s_F (gi 2) n p' : Nat) : Int) := congrArg (fun r : (Int × Int) × Nat => r.1.2) h
      exact Or.inr ⟨⟨a2, b2⟩, ⟨by rw [a3, b3, h1], by rw [a4, b4, h2]⟩, a6, b5⟩
theorem t_L_rules (hT : t_TP gi) (hR : t_R gi gr) (f1 : t_F w1 gi gl gr g1 l1 r1) (h75 : t_nc w1 75 = true) (h69 : t_in w1 69 10 = false) (q1 : ((0 ≤ A.toInt ∧ A.toInt ≤ (gi 0 5).toInt ∧ A.toInt ≤ 300) → ∀ n : Nat, (n : Int) = A.toInt → t_RSR gi gl gr N (gi 2) n x1 g1 l1 r1) ∧ (¬ (0 ≤ A.toInt ∧ A.toInt ≤ (gi 0 5).toInt ∧ A.toInt ≤ 300) → x1.toInt = -1 ∧ (∀ K, K ≠ 0 → g1 K = gi K ∧ l1 K = gl K ∧ r1 K = gr K) ∧ r1 0 6 = gr 0 6 ∧ r1 0 7 = gr 0 7)) (q2 : Q_n_rules g1 l1 r1 A x2 g2 l2 r2) : x1 = x2 := by
  have e0 : (gi 0 5).toInt = (gi 69 10).toInt := congrArg Int32.toInt (t_R_fed hR)
  have e1 : (g1 69 10).toInt = (gi 69 10).toInt := congrArg Int32.toInt (f1 69 10 (by decide) h69).1
  apply Int32.toInt_inj.mp
  by_cases hin : 0 ≤ A.toInt ∧ A.toInt ≤ (gi 0 5).toInt ∧ A.toInt ≤ 300
  · rcases t_RU_two hT hR f1 h75 h69 hin q1.1 q2 with ⟨k, h, -⟩ | ⟨h, -⟩
    · rw [h.1, h.2]
    · rw [h.1, h.2]
  · rw [(q1.2 hin).1, (q2.2 (by omega)).1]
end LRU
/-! ===== printed by riv.py: what told() tells ===== -/
noncomputable def wl_d_told : List (Nat × Nat) := [(0, 0)]
noncomputable def Q_d_told (gi : Nat → Nat → Int32) (gl : Nat → Nat → Int64) (gr : Nat → Nat → Value) (ar1 : Int32) : Int32 → (Nat → Nat → Int32) → (Nat → Nat → Int64) → (Nat → Nat → Value) → Prop := fun (v : Int32) (gi2 : Nat → Nat → Int32) (gl2 : Nat → Nat → Int64) (gr2 : Nat → Nat → Value) => ∀ (u : Nat) (D : s_D), gr 0 6 = .ref u → t_VL gr u → t_CV gi gl u D → t_Cb D → ((ar1.toInt = 0 ∨ ar1.toInt = 1 ∨ ar1.toInt = 2 ∨ ar1.toInt = 4 ∨ ar1.toInt = 5 ∨ ar1.toInt = 6 ∨ ar1.toInt = 7) → v.toInt = D ar1.toInt.toNat) ∧ (ar1.toInt = 3 → (gr 0 7 = .null → v.toInt = 0) ∧ ∀ u2 : Nat, gr 0 7 = .ref u2 → v.toInt = (gi u2 0).toInt) ∧ (¬ (0 ≤ ar1.toInt ∧ ar1.toInt ≤ 7) → v.toInt = -1)
theorem c_d_told {X : x_Ext} {d : Nat} {sh : List (Nat ⊕ (Nat × Nat))} {gi : Nat → Nat → Int32} {gl : Nat → Nat → Int64} {gr : Nat → Nat → Value} (hI : t_I sh gi gr) (ar1 : Int32) : x_Me X (d + 2) n_X11_told [.ref 0, .int ar1] (sh, gi, gl, gr) (t_PI wl_d_told sh gi gl gr (-2147483648) 2147483647 (Q_d_told gi gl gr ar1)) := by
  have hX : t_X wl_d_told sh gi gl gr gi gl gr := t_X.rf
  refine me_i f_X11_told (hI.wf.s rfl) rfl rfl rfl ?_
  refine ev_loc f_X11_told (nx := 1) rfl rfl rfl rfl ?_
  have h1 : ar1.toInt = 0 ∨ ar1.toInt = 1 ∨ ar1.toInt = 2 ∨ ar1.toInt = 3 ∨ ar1.toInt = 4 ∨ ar1.toInt = 5 ∨ ar1.toInt = 6 ∨ ar1.toInt = 7 ∨ (ar1.toInt ≠ 0 ∧ ar1.toInt ≠ 1 ∧ ar1.toInt ≠ 2 ∧ ar1.toInt ≠ 3 ∧ ar1.toInt ≠ 4 ∧ ar1.toInt ≠ 5 ∧ ar1.toInt ≠ 6 ∧ ar1.toInt ≠ 7) := by have := (t_lo ar1); have := (t_hi ar1); omega
  rcases h1 with h1 | h1 | h1 | h1 | h1 | h1 | h1 | h1 | h1
  · refine ev_swt f_X11_told (nx := 48) (c := 0) rfl h1 rfl ?_
    refine ev_loc f_X11_told (nx := 49) rfl rfl rfl rfl ?_
    refine ev_loc f_X11_told (nx := 50) rfl rfl rfl rfl ?_
    obtain ⟨a2, e2, p2⟩ := hI.2.2.2.1.1
    refine ev_getR f_X11_told (nx := 53) rfl (hI.wf.s rfl) rfl rfl e2 rfl rfl ?_
    refine ev_getI f_X11_told (nx := 56) rfl p2.1 rfl rfl rfl ?_
    obtain ⟨l3, u3⟩ := hI.b p2.1 (t_bdK rfl : t_bd 4 0 = some (0, 6))
    refine ev_inV2 f_X11_told (nx := 59) (lo2 := [(0, .ref 0), (1, .int (gi a2 0))]) rfl rfl rfl rfl f_X11_answer (hI.wf.s rfl) rfl rfl rfl rfl rfl ?_
    refine ev_loc f_X11_answer (nx := 1) rfl rfl rfl rfl ?_
    refine ev_ic f_X11_answer (nx := 2) (v := 0) rfl (by decide) rfl ?_
    refine ev_putIT f_X11_answer (nx := 5) rfl (hI.wf.s rfl) rfl rfl rfl (hI.put0 (hI.wf.s rfl) rfl rfl) (hX.upI rfl) (fun g4 e4 hI hX => ?_)
    refine ev_loc f_X11_answer (nx := 6) rfl rfl rfl rfl ?_
    refine ev_retK1 f_X11_answer rfl rfl rfl ?_
    exact ev_ret f_X11_told rfl rfl rfl ⟨_, _, _, rfl, hI, hX, ⟨_, rfl, (Int.le_trans (by decide : ((-2147483648):Int) ≤ 0) l3), (Int.le_trans u3 (by decide : (6:Int) ≤ 2147483647)), (show ∀ (u : Nat) (D : s_D), gr 0 6 = .ref u → t_VL gr u → t_CV gi gl u D → t_Cb D → ((ar1.toInt = 0 ∨ ar1.toInt = 1 ∨ ar1.toInt = 2 ∨ ar1.toInt = 4 ∨ ar1.toInt = 5 ∨ ar1.toInt = 6 ∨ ar1.toInt = 7) → (gi a2 0).toInt = D ar1.toInt.toNat) ∧ (ar1.toInt = 3 → (gr 0 7 = .null → (gi a2 0).toInt = 0) ∧ ∀ u2 : Nat, gr 0 7 = .ref u2 → (gi a2 0).toInt = (gi u2 0).toInt) ∧ (¬ (0 ≤ ar1.toInt ∧ ar1.toInt ≤ 7) → (gi a2 0).toInt = -1) from (by
                                                            intro u D hu hl hc hb
                                                            have ha : a2 = u := Value.ref.inj (e2.symm.trans hu)
                                                            subst ha
                                                            exact ⟨fun _ => by rw [show ar1.toInt.toNat = 0 by omega]; exact hc.1.1, fun h => absurd h (by omega), fun h => absurd (show _ from ⟨by omega, by omega⟩) h⟩))⟩⟩
  · refine ev_swt f_X11_told (nx := 60) (c := 1) rfl h1 rfl ?_
    refine ev_loc f_X11_told (nx := 61) rfl rfl rfl rfl ?_
    refine ev_loc f_X11_told (nx := 62) rfl rfl rfl rfl ?_
    obtain ⟨a5, e5, p5⟩ := hI.2.2.2.1.1
    refine ev_getR f_X11_told (nx := 65) rfl (hI.wf.s rfl) rfl rfl e5 rfl rfl ?_
    obtain ⟨a6, e6, p6⟩ := p5.2.2.2.2.1
    refine ev_getR f_X11_told (nx := 68) rfl p5.1 rfl rfl e6 rfl rfl ?_
    refine ev_getI f_X11_told (nx := 71) rfl p6.1 rfl rfl rfl ?_
    obtain ⟨l7, u7⟩ := hI.b p6.1 (t_bdK rfl : t_bd 3 0 = some (0, 6))
    refine ev_inV2 f_X11_told (nx := 74) (lo2 := [(0, .ref 0), (1, .int (gi a6 0))]) rfl rfl rfl rfl f_X11_answer (hI.wf.s rfl) rfl rfl rfl rfl rfl ?_
    refine ev_loc f_X11_answer (nx := 1) rfl rfl rfl rfl ?_
    refine ev_ic f_X11_answer (nx := 2) (v := 0) rfl (by decide) rfl ?_
    refine ev_putIT f_X11_answer (nx := 5) rfl (hI.wf.s rfl) rfl rfl rfl (hI.put0 (hI.wf.s rfl) rfl rfl) (hX.upI rfl) (fun g8 e8 hI hX => ?_)
    refine ev_loc f_X11_answer (nx := 6) rfl rfl rfl rfl ?_
    refine ev_retK1 f_X11_answer rfl rfl rfl ?_
    exact ev_ret f_X11_told rfl rfl rfl ⟨_, _, _, rfl, hI, hX, ⟨_, rfl, (Int.le_trans (by decide : ((-2147483648):Int) ≤ 0) l7), (Int.le_trans u7 (by decide : (6:Int) ≤ 2147483647)), (show ∀ (u : Nat) (D : s_D), gr 0 6 = .ref u → t_VL gr u → t_CV gi gl u D → t_Cb D → ((ar1.toInt = 0 ∨ ar1.toInt = 1 ∨ ar1.toInt = 2 ∨ ar1.toInt = 4 ∨ ar1.toInt = 5 ∨ ar1.toInt = 6 ∨ ar1.toInt = 7) → (gi a6 0).toInt = D ar1.toInt.toNat) ∧ (ar1.toInt = 3 → (gr 0 7 = .null → (gi a6 0).toInt = 0) ∧ ∀ u2 : Nat, gr 0 7 = .ref u2 → (gi a6 0).toInt = (gi u2 0).toInt) ∧ (¬ (0 ≤ ar1.toInt ∧ ar1.toInt ≤ 7) → (gi a6 0).toInt = -1) from (by
                                                            intro u D hu hl hc hb
                                                            have ha : a5 = u := Value.ref.inj (e5.symm.trans hu)
                                                            subst ha
                                                            have hb1 : (a5 + 3) = a6 := Value.ref.inj ((hl.1.2.2.2.1).symm.trans e6)
                                                            subst hb1
                                                            exact ⟨fun _ => by rw [show ar1.toInt.toNat = 1 by omega]; exact hc.2.2.1.1, fun h => absurd h (by omega), fun h => absurd (show _ from ⟨by omega, by omega⟩) h⟩))⟩⟩
  · refine ev_swt f_X11_told (nx := 75) (c := 2) rfl h1 rfl ?_
    refine ev_loc f_X11_told (nx := 76) rfl rfl rfl rfl ?_
    refine ev_loc f_X11_told (nx := 77) rfl rfl rfl rfl ?_
    obtain ⟨a9, e9, p9⟩ := hI.2.2.2.1.1
    refine ev_getR f_X11_told (nx := 80) rfl (hI.wf.s rfl) rfl rfl e9 rfl rfl ?_
    obtain ⟨a10, e10, p10⟩ := p9.2.2.2.2.2
    refine ev_getR f_X11_told (nx := 83) rfl p9.1 rfl rfl e10 rfl rfl ?_
    refine ev_getI f_X11_told (nx := 86) rfl p10.1 rfl rfl rfl ?_
    obtain ⟨l11, u11⟩ := hI.b p10.1 (t_bdK rfl : t_bd 3 0 = some (0, 6))
    refine ev_inV2 f_X11_told (nx := 89) (lo2 := [(0, .ref 0), (1, .int (gi a10 0))]) rfl rfl rfl rfl f_X11_answer (hI.wf.s rfl) rfl rfl rfl rfl rfl ?_
    refine ev_loc f_X11_answer (nx := 1) rfl rfl rfl rfl ?_
    refine ev_ic f_X11_answer (nx := 2) (v := 0) rfl (by decide) rfl ?_
    refine ev_putIT f_X11_answer (nx := 5) rfl (hI.wf.s rfl) rfl rfl rfl (hI.put0 (hI.wf.s rfl) rfl rfl) (hX.upI rfl) (fun g12 e12 hI hX => ?_)
    refine ev_loc f_X11_answer (nx := 6) rfl rfl rfl rfl ?_
    refine ev_retK1 f_X11_answer rfl rfl rfl ?_
    exact ev_ret f_X11_told rfl rfl rfl ⟨_, _, _, rfl, hI, hX, ⟨_, rfl, (Int.le_trans (by decide : ((-2147483648):Int) ≤ 0) l11), (Int.le_trans u11 (by decide : (6:Int) ≤ 2147483647)), (show ∀ (u : Nat) (D : s_D), gr 0 6 = .ref u → t_VL gr u → t_CV gi gl u D → t_Cb D → ((ar1.toInt = 0 ∨ ar1.toInt = 1 ∨ ar1.toInt = 2 ∨ ar1.toInt = 4 ∨ ar1.toInt = 5 ∨ ar1.toInt = 6 ∨ ar1.toInt = 7) → (gi a10 0).toInt = D ar1.toInt.toNat) ∧ (ar1.toInt = 3 → (gr 0 7 = .null → (gi a10 0).toInt = 0) ∧ ∀ u2 : Nat, gr 0 7 = .ref u2 → (gi a10 0).toInt = (gi u2 0).toInt) ∧ (¬ (0 ≤ ar1.toInt ∧ ar1.toInt ≤ 7) → (gi a10 0).toInt = -1) from (by
                                                            intro u D hu hl hc hb
                                                            have ha : a9 = u := Value.ref.inj (e9.symm.trans hu)
                                                            subst ha
                                                            have hb1 : (a9 + 10) = a10 := Value.ref.inj ((hl.1.2.2.2.2).symm.trans e10)
                                                            subst hb1
                                                            exact ⟨fun _ => by rw [show ar1.toInt.toNat = 2 by omega]; exact hc.2.2.2.1, fun h => absurd h (by omega), fun h => absurd (show _ from ⟨by omega, by omega⟩) h⟩))⟩⟩
  · refine ev_swt f_X11_told (nx := 90) (c := 3) rfl h1 rfl ?_
    refine ev_loc f_X11_told (nx := 91) rfl rfl rfl rfl ?_
    refine ev_loc f_X11_told (nx := 92) rfl rfl rfl rfl ?_
    rcases hI.2.2.2.1.2.1 with e13 | ⟨a13, e13, p13⟩
    · refine ev_getR f_X11_told (nx := 95) rfl (hI.wf.s rfl) rfl rfl e13 rfl rfl ?_
      refine ev_jmp f_X11_told (nx := 98) rfl rfl rfl ?_
      refine ev_ic f_X11_told (nx := 99) (v := 0) rfl (by decide) rfl ?_
      refine ev_jmp f_X11_told (nx := 109) rfl rfl rfl ?_
      refine ev_inV2 f_X11_told (nx := 112) (lo2 := [(0, .ref 0), (1, .int 0)]) rfl rfl rfl rfl f_X11_answer (hI.wf.s rfl) rfl rfl rfl rfl rfl ?_
      refine ev_loc f_X11_answer (nx := 1) rfl rfl rfl rfl ?_
      refine ev_ic f_X11_answer (nx := 2) (v := 0) rfl (by decide) rfl ?_
      refine ev_putIT f_X11_answer (nx := 5) rfl (hI.wf.s rfl) rfl rfl rfl (hI.put0 (hI.wf.s rfl) rfl rfl) (hX.upI rfl) (fun g14 e14 hI hX => ?_)
      refine ev_loc f_X11_answer (nx := 6) rfl rfl rfl rfl ?_
      refine ev_retK1 f_X11_answer rfl rfl rfl ?_
      exact ev_ret f_X11_told rfl rfl rfl ⟨_, _, _, rfl, hI, hX, ⟨_, rfl, (Int.le_trans (by decide : ((-2147483648):Int) ≤ 0) (by decide : (0:Int) ≤ (0:Int32).toInt)), (Int.le_trans (by decide : (0:Int32).toInt ≤ (0:Int)) (by decide : (0:Int) ≤ 2147483647)), (show ∀ (u : Nat) (D : s_D), gr 0 6 = .ref u → t_VL gr u → t_CV gi gl u D → t_Cb D → ((ar1.toInt = 0 ∨ ar1.toInt = 1 ∨ ar1.toInt = 2 ∨ ar1.toInt = 4 ∨ ar1.toInt = 5 ∨ ar1.toInt = 6 ∨ ar1.toInt = 7) → (0 : Int) = D ar1.toInt.toNat) ∧ (ar1.toInt = 3 → (gr 0 7 = .null → (0 : Int) = 0) ∧ ∀ u2 : Nat, gr 0 7 = .ref u2 → (0 : Int) = (gi u2 0).toInt) ∧ (¬ (0 ≤ ar1.toInt ∧ ar1.toInt ≤ 7) → (0 : Int) = -1) from (by
                                                            intro u D hu hl hc hb
                                                            exact ⟨fun h => absurd h (by omega), fun _ => ⟨fun _ => rfl, fun u2 h2 => absurd (e13.symm.trans h2) (by intro hh; cases hh)⟩, fun h => absurd (show _ from ⟨by omega, by omega⟩) h⟩))⟩⟩
    · refine ev_getR f_X11_told (nx := 95) rfl (hI.wf.s rfl) rfl rfl e13 rfl rfl ?_
      refine ev_jmp f_X11_told (nx := 102) rfl rfl rfl ?_
      refine ev_loc f_X11_told (nx := 103) rfl rfl rfl rfl ?_
      refine ev_getR f_X11_told (nx := 106) (v := .ref a13) rfl (hI.wf.s rfl) rfl rfl e13 rfl rfl ?_
      refine ev_getI f_X11_told (nx := 109) rfl p13.1 rfl rfl rfl ?_
      obtain ⟨l15, u15⟩ := hI.b p13.1 (t_bdK rfl : t_bd 6 0 = some (0, 12))
      refine ev_inV2 f_X11_told (nx := 112) (lo2 := [(0, .ref 0), (1, .int (gi a13 0))]) rfl rfl rfl rfl f_X11_answer (hI.wf.s rfl) rfl rfl rfl rfl rfl ?_
      refine ev_loc f_X11_answer (nx := 1) rfl rfl rfl rfl ?_
      refine ev_ic f_X11_answer (nx := 2) (v := 0) rfl (by decide) rfl ?_
      refine ev_putIT f_X11_answer (nx := 5) rfl (hI.wf.s rfl) rfl rfl rfl (hI.put0 (hI.wf.s rfl) rfl rfl) (hX.upI rfl) (fun g16 e16 hI hX => ?_)
      refine ev_loc f_X11_answer (nx := 6) rfl rfl rfl rfl ?_
      refine ev_retK1 f_X11_answer rfl rfl rfl ?_
      exact ev_ret f_X11_told rfl rfl rfl ⟨_, _, _, rfl, hI, hX, ⟨_, rfl, (Int.le_trans (by decide : ((-2147483648):Int) ≤ 0) l15), (Int.le_trans u15 (by decide : (12:Int) ≤ 2147483647)), (show ∀ (u : Nat) (D : s_D), gr 0 6 = .ref u → t_VL gr u → t_CV gi gl u D → t_Cb D → ((ar1.toInt = 0 ∨ ar1.toInt = 1 ∨ ar1.toInt = 2 ∨ ar1.toInt = 4 ∨ ar1.toInt = 5 ∨ ar1.toInt = 6 ∨ ar1.toInt = 7) → (gi a13 0).toInt = D ar1.toInt.toNat) ∧ (ar1.toInt = 3 → (gr 0 7 = .null → (gi a13 0).toInt = 0) ∧ ∀ u2 : Nat, gr 0 7 = .ref u2 → (gi a13 0).toInt = (gi u2 0).toInt) ∧ (¬ (0 ≤ ar1.toInt ∧ ar1.toInt ≤ 7) → (gi a13 0).toInt = -1) from (by
                                                            intro u D hu hl hc hb
                                                            exact ⟨fun h => absurd h (by omega), fun _ => ⟨fun h0 => absurd (e13.symm.trans h0) (by intro hh; cases hh), fun u2 h2 => by have he := Value.ref.inj (e13.symm.trans h2); rw [← he]⟩, fun h => absurd (show _ from ⟨by omega, by omega⟩) h⟩))⟩⟩
  · refine ev_swt f_X11_told (nx := 113) (c := 4) rfl h1 rfl ?_
    refine ev_loc f_X11_told (nx := 114) rfl rfl rfl rfl ?_
    refine ev_loc f_X11_told (nx := 115) rfl rfl rfl rfl ?_
    obtain ⟨a17, e17, p17⟩ := hI.2.2.2.1.1
    refine ev_getR f_X11_told (nx := 118) rfl (hI.wf.s rfl) rfl rfl e17 rfl rfl ?_
    refine ev_getI f_X11_told (nx := 121) rfl p17.1 rfl rfl rfl ?_
    refine ev_inV2 f_X11_told (nx := 124) (lo2 := [(0, .ref 0), (1, .int (gi a17 3))]) rfl rfl rfl rfl f_X11_answer (hI.wf.s rfl) rfl rfl rfl rfl rfl ?_
    refine ev_loc f_X11_answer (nx := 1) rfl rfl rfl rfl ?_
    refine ev_ic f_X11_answer (nx := 2) (v := 0) rfl (by decide) rfl ?_
    refine ev_putIT f_X11_answer (nx := 5) rfl (hI.wf.s rfl) rfl rfl rfl (hI.put0 (hI.wf.s rfl) rfl rfl) (hX.upI rfl) (fun g18 e18 hI hX => ?_)
    refine ev_loc f_X11_answer (nx := 6) rfl rfl rfl rfl ?_
    refine ev_retK1 f_X11_answer rfl rfl rfl ?_
    exact ev_ret f_X11_told rfl rfl rfl ⟨_, _, _, rfl, hI, hX, ⟨_, rfl, (t_lo (gi a17 3)), (t_hi (gi a17 3)), (show ∀ (u : Nat) (D : s_D), gr 0 6 = .ref u → t_VL gr u → t_CV gi gl u D → t_Cb D → ((ar1.toInt = 0 ∨ ar1.toInt = 1 ∨ ar1.toInt = 2 ∨ ar1.toInt = 4 ∨ ar1.toInt = 5 ∨ ar1.toInt = 6 ∨ ar1.toInt = 7) → (gi a17 3).toInt = D ar1.toInt.toNat) ∧ (ar1.toInt = 3 → (gr 0 7 = .null → (gi a17 3).toInt = 0) ∧ ∀ u2 : Nat, gr 0 7 = .ref u2 → (gi a17 3).toInt = (gi u2 0).toInt) ∧ (¬ (0 ≤ ar1.toInt ∧ ar1.toInt ≤ 7) → (gi a17 3).toInt = -1) from (by
                                                            intro u D hu hl hc hb
                                                            have ha : a17 = u := Value.ref.inj (e17.symm.trans hu)
                                                            subst ha
                                                            exact ⟨fun _ => by rw [show ar1.toInt.toNat = 4 by omega]; exact hc.2.1.1, fun h => absurd h (by omega), fun h => absurd (show _ from ⟨by omega, by omega⟩) h⟩))⟩⟩
  · refine ev_swt f_X11_told (nx := 125) (c := 5) rfl h1 rfl ?_
    refine ev_loc f_X11_told (nx := 126) rfl rfl rfl rfl ?_
    refine ev_loc f_X11_told (nx := 127) rfl rfl rfl rfl ?_
    obtain ⟨a19, e19, p19⟩ := hI.2.2.2.1.1
    refine ev_getR f_X11_told (nx := 130) rfl (hI.wf.s rfl) rfl rfl e19 rfl rfl ?_
    refine ev_getI f_X11_told (nx := 133) rfl p19.1 rfl rfl rfl ?_
    refine ev_inV2 f_X11_told (nx := 136) (lo2 := [(0, .ref 0), (1, .int (gi a19 4))]) rfl rfl rfl rfl f_X11_answer (hI.wf.s rfl) rfl rfl rfl rfl rfl ?_
    refine ev_loc f_X11_answer (nx := 1) rfl rfl rfl rfl ?_
    refine ev_ic f_X11_answer (nx := 2) (v := 0) rfl (by decide) rfl ?_
    refine ev_putIT f_X11_answer (nx := 5) rfl (hI.wf.s rfl) rfl rfl rfl (hI.put0 (hI.wf.s rfl) rfl rfl) (hX.upI rfl) (fun g20 e20 hI hX => ?_)
    refine ev_loc f_X11_answer (nx := 6) rfl rfl rfl rfl ?_
    refine ev_retK1 f_X11_answer rfl rfl rfl ?_
    exact ev_ret f_X11_told rfl rfl rfl ⟨_, _, _, rfl, hI, hX, ⟨_, rfl, (t_lo (gi a19 4)), (t_hi (gi a19 4)), (show ∀ (u : Nat) (D : s_D), gr 0 6 = .ref u → t_VL gr u → t_CV gi gl u D → t_Cb D → ((ar1.toInt = 0 ∨ ar1.toInt = 1 ∨ ar1.toInt = 2 ∨ ar1.toInt = 4 ∨ ar1.toInt = 5 ∨ ar1.toInt = 6 ∨ ar1.toInt = 7) → (gi a19 4).toInt = D ar1.toInt.toNat) ∧ (ar1.toInt = 3 → (gr 0 7 = .null → (gi a19 4).toInt = 0) ∧ ∀ u2 : Nat, gr 0 7 = .ref u2 → (gi a19 4).toInt = (gi u2 0).toInt) ∧ (¬ (0 ≤ ar1.toInt ∧ ar1.toInt ≤ 7) → (gi a19 4).toInt = -1) from (by
                                                            intro u D hu hl hc hb
                                                            have ha : a19 = u := Value.ref.inj (e19.symm.trans hu)
                                                            subst ha
                                                            exact ⟨fun _ => by rw [show ar1.toInt.toNat = 5 by omega]; exact hc.2.1.2.1, fun h => absurd h (by omega), fun h => absurd (show _ from ⟨by omega, by omega⟩) h⟩))⟩⟩
  · refine ev_swt f_X11_told (nx := 137) (c := 6) rfl h1 rfl ?_
    refine ev_loc f_X11_told (nx := 138) rfl rfl rfl rfl ?_
    refine ev_loc f_X11_told (nx := 139) rfl rfl rfl rfl ?_
    obtain ⟨a21, e21, p21⟩ := hI.2.2.2.1.1
    refine ev_getR f_X11_told (nx := 142) rfl (hI.wf.s rfl) rfl rfl e21 rfl rfl ?_
    refine ev_getI f_X11_told (nx := 145) rfl p21.1 rfl rfl rfl ?_
    refine ev_inV2 f_X11_told (nx := 148) (lo2 := [(0, .ref 0), (1, .int (gi a21 5))]) rfl rfl rfl rfl f_X11_answer (hI.wf.s rfl) rfl rfl rfl rfl rfl ?_
    refine ev_loc f_X11_answer (nx := 1) rfl rfl rfl rfl ?_
    refine ev_ic f_X11_answer (nx := 2) (v := 0) rfl (by decide) rfl ?_
    refine ev_putIT f_X11_answer (nx := 5) rfl (hI.wf.s rfl) rfl rfl rfl (hI.put0 (hI.wf.s rfl) rfl rfl) (hX.upI rfl) (fun g22 e22 hI hX => ?_)
    refine ev_loc f_X11_answer (nx := 6) rfl rfl rfl rfl ?_
    refine ev_retK1 f_X11_answer rfl rfl rfl ?_
    exact ev_ret f_X11_told rfl rfl rfl ⟨_, _, _, rfl, hI, hX, ⟨_, rfl, (t_lo (gi a21 5)), (t_hi (gi a21 5)), (show ∀ (u : Nat) (D : s_D), gr 0 6 = .ref u → t_VL gr u → t_CV gi gl u D → t_Cb D → ((ar1.toInt = 0 ∨ ar1.toInt = 1 ∨ ar1.toInt = 2 ∨ ar1.toInt = 4 ∨ ar1.toInt = 5 ∨ ar1.toInt = 6 ∨ ar1.toInt = 7) → (gi a21 5).toInt = D ar1.toInt.toNat) ∧ (ar1.toInt = 3 → (gr 0 7 = .null → (gi a21 5).toInt = 0) ∧ ∀ u2 : Nat, gr 0 7 = .ref u2 → (gi a21 5).toInt = (gi u2 0).toInt) ∧ (¬ (0 ≤ ar1.toInt ∧ ar1.toInt ≤ 7) → (gi a21 5).toInt = -1) from (by
                                                            intro u D hu hl hc hb
                                                            have ha : a21 = u := Value.ref.inj (e21.symm.trans hu)
                                                            subst ha
                                                            exact ⟨fun _ => by rw [show ar1.toInt.toNat = 6 by omega]; exact hc.2.1.2.2.1, fun h => absurd h (by omega), fun h => absurd (show _ from ⟨by omega, by omega⟩) h⟩))⟩⟩
  · refine ev_swt f_X11_told (nx := 149) (c := 7) rfl h1 rfl ?_
    refine ev_loc f_X11_told (nx := 150) rfl rfl rfl rfl ?_
    refine ev_loc f_X11_told (nx := 151) rfl rfl rfl rfl ?_
    obtain ⟨a23, e23, p23⟩ := hI.2.2.2.1.1
    refine ev_getR f_X11_told (nx := 154) rfl (hI.wf.s rfl) rfl rfl e23 rfl rfl ?_
    refine ev_getI f_X11_told (nx := 157) rfl p23.1 rfl rfl rfl ?_
    refine ev_inV2 f_X11_told (nx := 160) (lo2 := [(0, .ref 0), (1, .int (gi a23 6))]) rfl rfl rfl rfl f_X11_answer (hI.wf.s rfl) rfl rfl rfl rfl rfl ?_
    refine ev_loc f_X11_answer (nx := 1) rfl rfl rfl rfl ?_
    refine ev_ic f_X11_answer (nx := 2) (v := 0) rfl (by decide) rfl ?_
    refine ev_putIT f_X11_answer (nx := 5) rfl (hI.wf.s rfl) rfl rfl rfl (hI.put0 (hI.wf.s rfl) rfl rfl) (hX.upI rfl) (fun g24 e24 hI hX => ?_)
    refine ev_loc f_X11_answer (nx := 6) rfl rfl rfl rfl ?_
    refine ev_retK1 f_X11_answer rfl rfl rfl ?_
    exact ev_ret f_X11_told rfl rfl rfl ⟨_, _, _, rfl, hI, hX, ⟨_, rfl, (t_lo (gi a23 6)), (t_hi (gi a23 6)), (show ∀ (u : Nat) (D : s_D), gr 0 6 = .ref u → t_VL gr u → t_CV gi gl u D → t_Cb D → ((ar1.toInt = 0 ∨ ar1.toInt = 1 ∨ ar1.toInt = 2 ∨ ar1.toInt = 4 ∨ ar1.toInt = 5 ∨ ar1.toInt = 6 ∨ ar1.toInt = 7) → (gi a23 6).toInt = D ar1.toInt.toNat) ∧ (ar1.toInt = 3 → (gr 0 7 = .null → (gi a23 6).toInt = 0) ∧ ∀ u2 : Nat, gr 0 7 = .ref u2 → (gi a23 6).toInt = (gi u2 0).toInt) ∧ (¬ (0 ≤ ar1.toInt ∧ ar1.toInt ≤ 7) → (gi a23 6).toInt = -1) from (by
                                                            intro u D hu hl hc hb
                                                            have ha : a23 = u := Value.ref.inj (e23.symm.trans hu)
                                                            subst ha
                                                            exact ⟨fun _ => by rw [show ar1.toInt.toNat = 7 by omega]; exact hc.2.1.2.2.2, fun h => absurd h (by omega), fun h => absurd (show _ from ⟨by omega, by omega⟩) h⟩))⟩⟩
  · refine ev_swtd f_X11_told (nx := 161) rfl (by omega) (by decide) rfl ?_
    refine ev_loc f_X11_told (nx := 162) rfl rfl rfl rfl ?_
    refine ev_ic f_X11_told (nx := 163) (v := 1) rfl (by decide) rfl ?_
    refine ev_inV2 f_X11_told (nx := 166) (lo2 := [(0, .ref 0), (1, .int 1)]) rfl rfl rfl rfl f_X11_refuse (hI.wf.s rfl) rfl rfl rfl rfl rfl ?_
    refine ev_loc f_X11_refuse (nx := 1) rfl rfl rfl rfl ?_
    refine ev_loc f_X11_refuse (nx := 2) rfl rfl rfl rfl ?_
    refine ev_putIT f_X11_refuse (nx := 5) rfl (hI.wf.s rfl) rfl rfl rfl (hI.put0 (hI.wf.s rfl) rfl rfl) (hX.upI rfl) (fun g25 e25 hI hX => ?_)
    refine ev_ic f_X11_refuse (nx := 6) (v := -1) rfl (by decide) rfl ?_
    refine ev_retK1 f_X11_refuse rfl rfl rfl ?_
    exact ev_ret f_X11_told rfl rfl rfl ⟨_, _, _, rfl, hI, hX, ⟨_, rfl, (Int.le_trans (by decide : ((-2147483648):Int) ≤ (-1)) (by decide : ((-1):Int) ≤ ((-1):Int32).toInt)), (Int.le_trans (by decide : ((-1):Int32).toInt ≤ ((-1):Int)) (by decide : ((-1):Int) ≤ 2147483647)), (show ∀ (u : Nat) (D : s_D), gr 0 6 = .ref u → t_VL gr u → t_CV gi gl u D → t_Cb D → ((ar1.toInt = 0 ∨ ar1.toInt = 1 ∨ ar1.toInt = 2 ∨ ar1.toInt = 4 ∨ ar1.toInt = 5 ∨ ar1.toInt = 6 ∨ ar1.toInt = 7) → ((-1) : Int) = D ar1.toInt.toNat) ∧ (ar1.toInt = 3 → (gr 0 7 = .null → ((-1) : Int) = 0) ∧ ∀ u2 : Nat, gr 0 7 = .ref u2 → ((-1) : Int) = (gi u2 0).toInt) ∧ (¬ (0 ≤ ar1.toInt ∧ ar1.toInt ≤ 7) → ((-1) : Int) = -1) from (by
                                                            intro u D hu hl hc hb
                                                            exact ⟨fun h => absurd h (by omega), fun h => absurd h (by omega), fun _ => rfl⟩))⟩⟩
noncomputable def wl_e_told : List (Nat × Nat) := [(69, 2)]
noncomputable def Q_e_told (gi : Nat → Nat → Int32) (gl : Nat → Nat → Int64) (gr : Nat → Nat → Value) (ar1 : Int32) : Int32 → (Nat → Nat → Int32) → (Nat → Nat → Int64) → (Nat → Nat → Value) → Prop := fun (v : Int32) (gi2 : Nat → Nat → Int32) (gl2 : Nat → Nat → Int64) (gr2 : Nat → Nat → Value) => (0 ≤ ar1.toInt ∧ ar1.toInt ≤ 7 → v.toInt = (gi 70 ar1.toInt.toNat).toInt) ∧ (¬ (0 ≤ ar1.toInt ∧ ar1.toInt ≤ 7) → v.toInt = -1)
theorem c_e_told {X : x_Ext} {d : Nat} {sh : List (Nat ⊕ (Nat × Nat))} {gi : Nat → Nat → Int32} {gl : Nat → Nat → Int64} {gr : Nat → Nat → Value} (hI : t_I sh gi gr) (ar1 : Int32) : x_Me X (d + 2) n_X12_told [.ref 69, .int ar1] (sh, gi, gl, gr) (t_PI wl_e_told sh gi gl gr (-1) 200 (Q_e_told gi gl gr ar1)) := by
  have hX : t_X wl_e_told sh gi gl gr gi gl gr := t_X.rf
  refine me_i f_X12_told (hI.wf.s rfl) rfl rfl rfl ?_
  refine ev_loc f_X12_told (nx := 1) rfl rfl rfl rfl ?_
  refine ev_if f_X12_told (t1 := 10) (t2 := 4) rfl rfl rfl (fun h1 => ?_) (fun h1 => ?_)
  · have u2 : ar1.toInt ≤ (-1) := t_ltu h1 (by decide : (0:Int32).toInt ≤ (0:Int)) rfl
    refine ev_loc f_X12_told (nx := 11) rfl rfl rfl rfl ?_
    refine ev_ic f_X12_told (nx := 12) (v := 1) rfl (by decide) rfl ?_
    refine ev_inV2 f_X12_told (nx := 15) (lo2 := [(0, .ref 69), (1, .int 1)]) rfl rfl rfl rfl f_X12_refuse (hI.wf.s rfl) rfl rfl rfl rfl rfl ?_
    refine ev_loc f_X12_refuse (nx := 1) rfl rfl rfl rfl ?_
    refine ev_loc f_X12_refuse (nx := 2) rfl rfl rfl rfl ?_
    refine ev_putIT f_X12_refuse (nx := 5) rfl (hI.wf.s rfl) rfl rfl rfl (hI.put0 (hI.wf.s rfl) rfl rfl) (hX.upI rfl) (fun g3 e3 hI hX => ?_)
    refine ev_ic f_X12_refuse (nx := 6) (v := -1) rfl (by decide) rfl ?_
    refine ev_retK1 f_X12_refuse rfl rfl rfl ?_
    refine ev_jmp f_X12_told (nx := 28) rfl rfl rfl ?_
    exact ev_ret f_X12_told rfl rfl rfl ⟨_, _, _, rfl, hI, hX, ⟨_, rfl, (by decide : ((-1):Int) ≤ ((-1):Int32).toInt), (Int.le_trans (by decide : ((-1):Int32).toInt ≤ ((-1):Int)) (by decide : ((-1):Int) ≤ 200)), (show (0 ≤ ar1.toInt ∧ ar1.toInt ≤ 7 → ((-1) : Int) = (gi 70 ar1.toInt.toNat).toInt) ∧ (¬ (0 ≤ ar1.toInt ∧ ar1.toInt ≤ 7) → ((-1) : Int) = -1) from ⟨fun h => absurd h (by omega), fun _ => rfl⟩)⟩⟩
  · have l4 : 0 ≤ ar1.toInt := t_lel (t_nlt h1) (by decide : (0:Int) ≤ (0:Int32).toInt)
    refine ev_loc f_X12_told (nx := 5) rfl rfl rfl rfl ?_
    refine ev_bp f_X12_told (nx := 7) (v := 7) rfl (by decide) rfl ?_
    refine ev_if f_X12_told (t1 := 18) (t2 := 10) rfl rfl rfl (fun h5 => ?_) (fun h5 => ?_)
    · have u6 : ar1.toInt ≤ 7 := t_leu h5 (by decide : (7:Int32).toInt ≤ (7:Int))
      refine ev_loc f_X12_told (nx := 19) rfl rfl rfl rfl ?_
      refine ev_loc f_X12_told (nx := 20) rfl rfl rfl rfl ?_
      refine ev_getR f_X12_told (nx := 23) rfl (hI.wf.s rfl) rfl rfl (hI.wf.r rfl) rfl rfl ?_
      refine ev_loc f_X12_told (nx := 24) rfl rfl rfl rfl ?_
      refine ev_ialdT f_X12_told (nx := 25) rfl (hI.wf.s rfl) l4 (by decide) u6 (by decide) rfl (fun w7 e7 => ?_)
      obtain ⟨l7, u7⟩ := hI.abi e7 (by decide +kernel : t_abr 70 0 7 0 200 = true) l4 (by decide) u6 (by decide)
      refine ev_inV2 f_X12_told (nx := 28) (lo2 := [(0, .ref 69), (1, .int w7)]) rfl rfl rfl rfl f_X12_gives (hI.wf.s rfl) rfl rfl rfl rfl rfl ?_
      refine ev_loc f_X12_gives (nx := 1) rfl rfl rfl rfl ?_
      refine ev_ic f_X12_gives (nx := 2) (v := 0) rfl (by decide) rfl ?_
      refine ev_putIT f_X12_gives (nx := 5) rfl (hI.wf.s rfl) rfl rfl rfl (hI.put0 (hI.wf.s rfl) rfl rfl) (hX.upI rfl) (fun g8 e8 hI hX => ?_)
      refine ev_loc f_X12_gives (nx := 6) rfl rfl rfl rfl ?_
      refine ev_retK1 f_X12_gives rfl rfl rfl ?_
      exact ev_ret f_X12_told rfl rfl rfl ⟨_, _, _, rfl, hI, hX, ⟨_, rfl, (Int.le_trans (by decide : ((-1):Int) ≤ 0) l7), u7, (show (0 ≤ ar1.toInt ∧ ar1.toInt ≤ 7 → w7.toInt = (gi 70 ar1.toInt.toNat).toInt) ∧ (¬ (0 ≤ ar1.toInt ∧ ar1.toInt ≤ 7) → w7.toInt = -1) from ⟨fun _ => (by have kc := t_clamp (i := ar1) (by omega); rw [e7, show ar1.toNatClampNeg = ar1.toInt.toNat by omega]), fun h => absurd (show _ from ⟨by omega, by omega⟩) h⟩)⟩⟩
    · have l9 : 8 ≤ ar1.toInt := t_ltl (t_nle h5) (by decide : (7:Int) ≤ (7:Int32).toInt) rfl
      refine ev_loc f_X12_told (nx := 11) rfl rfl rfl rfl ?_
      refine ev_ic f_X12_told (nx := 12) (v := 1) rfl (by decide) rfl ?_
      refine ev_inV2 f_X12_told (nx := 15) (lo2 := [(0, .ref 69), (1, .int 1)]) rfl rfl rfl rfl f_X12_refuse (hI.wf.s rfl) rfl rfl rfl rfl rfl ?_
      refine ev_loc f_X12_refuse (nx := 1) rfl rfl rfl rfl ?_
      refine ev_loc f_X12_refuse (nx := 2) rfl rfl rfl rfl ?_
      refine ev_putIT f_X12_refuse (nx := 5) rfl (hI.wf.s rfl) rfl rfl rfl (hI.put0 (hI.wf.s rfl) rfl rfl) (hX.upI rfl) (fun g10 e10 hI hX => ?_)
      refine ev_ic f_X12_refuse (nx := 6) (v := -1) rfl (by decide) rfl ?_
      refine ev_retK1 f_X12_refuse rfl rfl rfl ?_
      refine ev_jmp f_X12_told (nx := 28) rfl rfl rfl ?_
      exact ev_ret f_X12_told rfl rfl rfl ⟨_, _, _, rfl, hI, hX, ⟨_, rfl, (by decide : ((-1):Int) ≤ ((-1):Int32).toInt), (Int.le_trans (by decide : ((-1):Int32).toInt ≤ ((-1):Int)) (by decide : ((-1):Int) ≤ 200)), (show (0 ≤ ar1.toInt ∧ ar1.toInt ≤ 7 → ((-1) : Int) = (gi 70 ar1.toInt.toNat).toInt) ∧ (¬ (0 ≤ ar1.toInt ∧ ar1.toInt ≤ 7) → ((-1) : Int) = -1) from ⟨fun h => absurd h (by omega), fun _ => rfl⟩)⟩⟩
/-! ===== how many RULES there are: the same on both sides ===== -/
noncomputable def s_d3 (D : s_D) : Prop := D 3 = 0 ∧ D 8 = 0
section TLD
variable {b : Nat → Int32} {n p : Nat} {D : s_D} {lo hi : Int} {r r2 : s_R} {c : Prop}
theorem s_d3_if (h : c → s_d3 r.2.2) (h2 : ¬ c → s_d3 r2.2.2) : s_d3 (s_if c r r2).2.2 := by
  by_cases hc : c
  · rw [s_ifT hc]; exact h hc
  · rw [s_ifF hc]; exact h2 hc
theorem s_d3_kw {i : Nat} {k : Nat → s_R} (h : s_d3 D) (hk : ∀ q, s_d3 (k q).2.2) : s_d3 (s_kw b n p i D k).2.2 := s_d3_if (fun _ => hk _) (fun _ => h)
theorem s_d3_num {k : Nat → s_R} (h : s_d3 D) (hk : ∀ q, s_d3 (k q).2.2) : s_d3 (s_num b n p lo hi D k).2.2 := s_d3_if (fun _ => s_d3_if (fun _ => hk _) (fun _ => h)) (fun _ => h)
theorem s_d3_name {k : Nat → s_R} (h : s_d3 D) (hk : ∀ q, s_d3 (k q).2.2) : s_d3 (s_name b n p D k).2.2 := s_d3_if (fun _ => s_d3_if (fun _ => h) (fun _ => hk _)) (fun _ => h)
theorem s_d3_set {i : Nat} {v : Int} (h : s_d3 D) (hi : i ≠ 3 ∧ i ≠ 8) : s_d3 (s_set D i v) := ⟨(if_neg (fun e => hi.1 e.symm)).trans h.1, (if_neg (fun e => hi.2 e.symm)).trans h.2⟩
theorem s_d3_P {nm bl : Int} (h : s_d3 D) : s_d3 (s_addP D nm bl) := by
  have e : ∀ j, j = 3 ∨ j = 8 → s_addP D nm bl j = D j := fun j hj => by
    unfold s_addP; rw [if_neg (by omega), if_neg (by omega), if_neg (by omega)]
  exact ⟨(e 3 (Or.inl rfl)).trans h.1, (e 8 (Or.inr rfl)).trans h.2⟩
theorem s_d3_S {nm po at_ ta co sa : Int} (h : s_d3 D) : s_d3 (s_addS D nm po at_ ta co sa) := by
  have e : ∀ j, j = 3 ∨ j = 8 → s_addS D nm po at_ ta co sa j = D j := fun j hj => by
    unfold s_addS; rw [if_neg (by omega), if_neg (by omega), if_neg (by omega), if_neg (by omega), if_neg (by omega), if_neg (by omega), if_neg (by omega)]
  exact ⟨(e 3 (Or.inl rfl)).trans h.1, (e 8 (Or.inr rfl)).trans h.2⟩
theorem s_d3_C {nm at_ ta co : Int} (h : s_d3 D) : s_d3 (s_addC D nm at_ ta co) := by
  have e : ∀ j, j = 3 ∨ j = 8 → s_addC D nm at_ ta co j = D j := fun j hj => by
    unfold s_addC; rw [if_neg (by omega), if_neg (by omega), if_neg (by omega), if_neg (by omega), if_neg (by omega)]
  exact ⟨(e 3 (Or.inl rfl)).trans h.1, (e 8 (Or.inr rfl)).trans h.2⟩
theorem s_d3_come {k : Nat → Int → Int → Int → s_R} (h : s_d3 D) (hk : ∀ (q : Nat) (a t w : Int), s_d3 (k q a t w).2.2) : s_d3 (s_come b n p D k).2.2 :=
  s_d3_kw h fun _ => s_d3_num h fun _ => s_d3_kw h fun _ => s_d3_num h fun _ => s_d3_kw h fun _ => s_d3_num h fun _ => hk _ _ _ _
theorem s_d3_port (h : s_d3 D) : s_d3 (s_port b n p D).2.2 := s_d3_if (fun _ => h) fun _ => s_d3_name h fun _ => s_d3_kw h fun _ => s_d3_if (fun _ => s_d3_if (fun _ => h) fun _ => s_d3_P h) fun _ => h
theorem s_d3_turns (h : s_d3 D) : s_d3 (s_turns b n p D).2.2 := s_d3_if (fun _ => s_d3_num h fun _ => s_d3_set (s_d3_set h ⟨by decide, by decide⟩) ⟨by decide, by decide⟩) fun _ => h
theorem s_d3_frost (h : s_d3 D) : s_d3 (s_frost b n p D).2.2 := s_d3_if (fun _ => s_d3_num h fun _ => s_d3_kw h fun _ => s_d3_num h fun _ => s_d3_set (s_d3_set (s_d3_set h ⟨by decide, by decide⟩) ⟨by decide, by decide⟩) ⟨by decide, by decide⟩) fun _ => h
theorem s_d3_echo (h : s_d3 D) : s_d3 (s_echo b n p D).2.2 := s_d3_if (fun _ => s_d3_num h fun _ => s_d3_set (s_d3_set h ⟨by decide, by decide⟩) ⟨by decide, by decide⟩) fun _ => h
theorem s_d3_ship (h : s_d3 D) : s_d3 (s_ship b n p D).2.2 := s_d3_if (fun _ => h) fun _ => s_d3_name h fun _ => s_d3_kw h fun _ => s_d3_if (fun _ => s_d3_if (fun _ => h) fun _ => s_d3_come h fun _ _ _ _ => s_d3_if (fun _ => s_d3_S h) fun _ => s_d3_S h) fun _ => h
theorem s_d3_cart (h : s_d3 D) : s_d3 (s_cart b n p D).2.2 := s_d3_if (fun _ => h) fun _ => s_d3_name h fun _ => s_d3_come h fun _ _ _ _ => s_d3_C h
theorem s_d3_part (h : s_d3 D) : s_d3 (s_part b n p D).2.2 := s_d3_if (fun _ => s_d3_port h) fun _ => s_d3_if (fun _ => s_d3_turns h) fun _ => s_d3_if (fun _ => s_d3_frost h) fun _ => s_d3_if (fun _ => s_d3_echo h) fun _ => s_d3_if (fun _ => s_d3_ship h) fun _ => s_d3_if (fun _ => s_d3_cart h) fun _ => h
theorem s_d3_semi (h : s_d3 r.2.2) : s_d3 (s_semi b n r).2.2 := s_d3_if (fun _ => s_d3_if (fun _ => h) fun _ => h) fun _ => h
theorem s_d3_rv : ∀ (m p : Nat) (D : s_D), s_d3 D → s_d3 (s_rv b n m p D).2.2
  | 0, _, _, h => h
  | m + 1, p, D, h => s_d3_if (fun _ => h) fun _ => s_d3_if (fun _ => s_d3_rv m _ _ (s_d3_semi (s_d3_part h))) fun _ => s_d3_semi (s_d3_part h)
end TLD
noncomputable def t_RN (n : Nat) (gi : Nat → Nat → Int32) (v : Value) (o : Nat) : Prop := (v = .null ∧ (gi 70 (o + 3)).toInt = 0 ∧ (gi 70 (o + 8)).toInt = 0) ∨ ∃ u : Nat, v = .ref u ∧ (102 ≤ u ∧ u < n) ∧ (gi u 0).toInt = (gi 70 (o + 3)).toInt ∧ (gi 70 (o + 8)).toInt = 1
noncomputable def t_RnN (n : Nat) (gi : Nat → Nat → Int32) (gr : Nat → Nat → Value) : Prop := t_RN n gi (gr 0 7) 0 ∧ ∀ k : Nat, (k : Int) < (gi 0 12).toInt → t_RN n gi (gr 20 k) (350 * (k + 1))
noncomputable def t_LEo (c : Nat) (sh : List (Nat ⊕ (Nat × Nat))) (gi : Nat → Nat → Int32) (gl : Nat → Nat → Int64) (gr : Nat → Nat → Value) : Prop := t_LD c sh gi gl gr ∧ t_RnN sh.length gi gr
theorem W1_No {sh : List (Nat ⊕ (Nat × Nat))} {gi : Nat → Nat → Int32} {gl : Nat → Nat → Int64} {gr : Nat → Nat → Value} (hR : x_R W1 (sh, gi, gl, gr)) : t_RnN sh.length gi gr := by
  have h7 : gr 0 7 = .null := ((x_gc_R hR (c := w1_c0) rfl).2.2.2 7 (by decide)).2.2.trans rfl
  have h3 : gi 70 3 = x_cI w1_c70 3 := ((x_gc_R hR (c := w1_c70) rfl).2.2.2 _ (by decide)).1
  have h8 : gi 70 8 = x_cI w1_c70 8 := ((x_gc_R hR (c := w1_c70) rfl).2.2.2 _ (by decide)).1
  have h12 : gi 0 12 = x_cI w1_c0 12 := ((x_gc_R hR (c := w1_c0) rfl).2.2.2 _ (by decide)).1
  refine ⟨Or.inl ⟨h7, ?_, ?_⟩, fun k hk => ?_⟩
  · show (gi 70 3).toInt = 0
    rw [h3]; decide +kernel
  · show (gi 70 8).toInt = 0
    rw [h8]; decide +kernel
  · rw [h12] at hk
    have h0 : (x_cI w1_c0 12).toInt = 0 := by decide +kernel
    omega
noncomputable def t_rsB (w1 w2 : List (Nat × Nat)) : Bool := t_ndB w1 && (t_ndB w2 && (t_un w1 (0, 7) && (t_un w2 (0, 7) && (t_un w1 (0, 12) && (t_un w2 (0, 12) && (t_nc w1 20 && (t_nc w2 20 && t_nc w1 70)))))))
section TLR
variable {sh sh1 : List (Nat ⊕ (Nat × Nat))} {gi g1 g2 : Nat → Nat → Int32} {gl l1 l2 : Nat → Nat → Int64} {gr r1 r2 : Nat → Nat → Value} {w1 w2 : List (Nat × Nat)} {A x1 x2 : Int32} {n n' o o' N N2 : Nat} {v : Value}
theorem t_RN.mv (h : t_RN n gi v o) (hn : n ≤ n') (e : ∀ K, 102 ≤ K → K < n → g1 K = gi K) (em : g1 70 (o' + 3) = gi 70 (o + 3)) (e8 : g1 70 (o' + 8) = gi 70 (o + 8)) : t_RN n' g1 v o' := by
  rcases h with ⟨a, b, b8⟩ | ⟨u, a, ⟨c1, c2⟩, b, b8⟩
  · exact Or.inl ⟨a, by rw [em]; exact b, by rw [e8]; exact b8⟩
  · exact Or.inr ⟨u, a, ⟨c1, by omega⟩, by rw [e u c1 c2, em]; exact b, by rw [e8]; exact b8⟩
theorem t_RR_gen (h : t_RnN n gi gr) (hn : n ≤ n') (e : ∀ K, 102 ≤ K → K < n → g2 K = gi K) (e7 : r2 0 7 = gr 0 7) (e12 : g2 0 12 = gi 0 12) (e20 : r2 20 = gr 20) (em : ∀ j, j < 1400 → (j % 350 = 3 ∨ j % 350 = 8) → g2 70 j = gi 70 j) (hm : (gi 0 12).toInt ≤ 3) : t_RnN n' g2 r2 := by
  refine ⟨by rw [e7]; exact h.1.mv hn e (em _ (by omega) (by omega)) (em _ (by omega) (by omega)), fun k hk => ?_⟩
  rw [e12] at hk
  rw [e20]
  exact (h.2 k hk).mv hn e (em _ (by omega) (by omega)) (em _ (by omega) (by omega))
theorem t_RR_same (h : t_RnN sh.length gi gr) (x1 : t_X w1 sh gi gl gr g1 l1 r1) (x2 : t_X w2 sh g1 l1 r1 g2 l2 r2) (hw : t_rsB w1 w2 = true) (em : ∀ j, j < 1400 → g2 70 j = g1 70 j) (hm : (gi 0 12).toInt ≤ 3) : t_RnN sh.length g2 r2 := by
  unfold t_rsB at hw
  simp only [Bool.and_eq_true] at hw
  obtain ⟨a1, a2, a3, a4, a5, a6, a7, a8, a9⟩ := hw
  have f1 := t_F_X x1
  have f2 := t_F_X x2
  refine t_RR_gen h (Nat.le_refl _) (fun K k1 _ => ?_) ?_ ?_ ?_ (fun j hj _ => ?_) hm
  · exact (t_nd_fr x2 a2 K (Or.inr k1)).1.trans (t_nd_fr x1 a1 K (Or.inr k1)).1
  · rw [(f2 0 7 (by decide) (t_un_ok a4)).2.2, (f1 0 7 (by decide) (t_un_ok a3)).2.2]
  · rw [(f2 0 12 (by decide) (t_un_ok a6)).1, (f1 0 12 (by decide) (t_un_ok a5)).1]
  · rw [t_F_nr f2 a8 (by decide), t_F_nr f1 a7 (by decide)]
  · rw [em j hj, t_F_nc f1 a9 (by decide)]
/-- the other side's call leaves the class's cells -/
theorem t_RR_m (x : t_X w2 sh1 g1 l1 r1 g2 l2 r2) (hw : (t_ndB w2 && (t_un w2 (0, 7) && (t_un w2 (0, 12) && t_nc w2 20))) = true) : (∀ K, 102 ≤ K → g2 K = g1 K) ∧ r2 0 7 = r1 0 7 ∧ g2 0 12 = g1 0 12 ∧ r2 20 = r1 20 := by
  simp only [Bool.and_eq_true] at hw
  have f := t_F_X x
  exact ⟨fun K hK => (t_nd_fr x hw.1 K (Or.inr hK)).1, (f 0 7 (by decide) (t_un_ok hw.2.1)).2.2, (f 0 12 (by decide) (t_un_ok hw.2.2.1)).1, t_F_nr f hw.2.2.2 (by decide)⟩
theorem t_RR_rules (h : t_RnN sh.length gi gr) (hT : t_TP gi) (hR : t_R gi gr) (hI2 : t_I sh1 g2 r2) (hle : sh.length ≤ sh1.length) (hm3 : (gi 0 12).toInt ≤ 3) (f1 : t_F w1 gi gl gr g1 l1 r1) (hw1 : (t_nc w1 75 && (t_nc w1 70 && (t_nc w1 20 && t_un w1 (0, 12)))) = true) (h69 : t_in w1 69 10 = false) (xm : t_X w2 sh1 g1 l1 r1 g2 l2 r2) (hw2 : (t_ndB w2 && (t_un w2 (0, 7) && (t_un w2 (0, 12) && t_nc w2 20))) = true) (em : ∀ j, 350 ≤ j → j < 1400 → g2 70 j = g1 70 j) (q1 : ((0 ≤ A.toInt ∧ A.toInt ≤ (gi 0 5).toInt ∧ A.toInt ≤ 300) → ∀ n : Nat, (n : Int) = A.toInt → t_RSR gi gl gr sh.length (gi 2) n x1 g1 l1 r1) ∧ (¬ (0 ≤ A.toInt ∧ A.toInt ≤ (gi 0 5).toInt ∧ A.toInt ≤ 300) → x1.toInt = -1 ∧ (∀ K, K ≠ 0 → g1 K = gi K ∧ l1 K = gl K ∧ r1 K = gr K) ∧ r1 0 6 = gr 0 6 ∧ r1 0 7 = gr 0 7)) (q2 : Q_n_rules g1 l1 r1 A x2 g2 l2 r2) : t_RnN sh1.length g2 r2 := by
  simp only [Bool.and_eq_true] at hw1
  obtain ⟨n75, n70, n20, n12⟩ := hw1
  have e0 : (gi 0 5).toInt = (gi 69 10).toInt := congrArg Int32.toInt (t_R_fed hR)
  have e1 : (g1 69 10).toInt = (gi 69 10).toInt := congrArg Int32.toInt (f1 69 10 (by decide) h69).1
  have r70 : g1 70 = gi 70 := t_F_nc f1 n70 (by decide)
  have r12 : g1 0 12 = gi 0 12 := (f1 0 12 (by decide) (t_un_ok n12)).1
  have r20 : r1 20 = gr 20 := t_F_nr f1 n20 (by decide)
  obtain ⟨m0, m7, m12, m20⟩ := t_RR_m xm hw2
  have same : r1 0 7 = gr 0 7 → (g2 70 3 = g1 70 3 ∧ g2 70 8 = g1 70 8) → (∀ K, 102 ≤ K → K < sh.length → g1 K = gi K) → t_RnN sh1.length g2 r2 := by
    intro s7 s3 sK
    refine t_RR_gen h hle (fun K k1 k2 => (m0 K k1).trans (sK K k1 k2)) (m7.trans s7) (m12.trans r12) (m20.trans r20) (fun j hj h3 => ?_) hm3
    by_cases hj3 : j < 350
    · rcases h3 with h3 | h3
      · rw [show j = 3 by omega, s3.1, r70]
      · rw [show j = 8 by omega, s3.2, r70]
    · rw [em j (by omega) hj, r70]
  by_cases hin : 0 ≤ A.toInt ∧ A.toInt ≤ (gi 0 5).toInt ∧ A.toInt ≤ 300
  · obtain ⟨n, hn⟩ : ∃ n : Nat, (n : Int) = A.toInt := ⟨A.toInt.toNat, by omega⟩
    have pl := (q1.1 hin n hn).2
    have pl2 : ∀ K, 102 ≤ K → K < sh.length → g1 K = gi K := fun K a b => (pl K (by omega) b).1
    rcases t_RU_two hT hR f1 n75 h69 hin q1.1 q2 with ⟨k, _, _, _, ⟨c1, c2⟩, c3, c8⟩ | ⟨_, _, s7, s3⟩
    · have hr7 : r2 0 7 = .ref (sh.length + 2) := m7.trans c1
      have hb : 102 ≤ sh.length + 2 ∧ sh.length + 2 < sh1.length := by
        rcases hI2.2.2.2.1.2.1 with hh | ⟨a, ha, hp⟩
        · exact absurd (hr7.symm.trans hh) (by intro h9; cases h9)
        · have hk : sh.length + 2 = a := Value.ref.inj (hr7.symm.trans ha)
          subst hk
          exact ⟨hp.2.1, t_lt hp.1⟩
      refine ⟨Or.inr ⟨sh.length + 2, hr7, hb, ?_, c8⟩, fun j hj => ?_⟩
      · rw [m0 _ hb.1, c2]; exact c3.symm
      · rw [m12, r12] at hj
        rw [m20, r20]
        exact (h.2 j hj).mv hle (fun K k1 k2 => (m0 K k1).trans (pl2 K k1 k2)) (by rw [em _ (by omega) (by omega), r70]) (by rw [em _ (by omega) (by omega), r70])
    · exact same s7 s3 pl2
  · have hh := q1.2 hin
    exact same hh.2.2.2 (q2.2 (by omega)).2 (fun K a _ => (hh.2.1 K (by omega)).1)
theorem t_RR_river (h : t_RnN sh.length gi gr) (hT : t_TP gi) (hR : t_R gi gr) (hle : sh.length ≤ sh1.length) (hm3 : (gi 0 12).toInt ≤ 3) (f1 : t_F w1 gi gl gr g1 l1 r1) (hw1 : (t_nc w1 75 && (t_nc w1 70 && (t_nc w1 20 && t_un w1 (0, 12)))) = true) (h69 : t_in w1 69 10 = false) (xm : t_X w2 sh1 g1 l1 r1 g2 l2 r2) (hw2 : (t_ndB w2 && (t_un w2 (0, 7) && (t_un w2 (0, 12) && t_nc w2 20))) = true) (em : ∀ j, 350 ≤ j → j < 1400 → g2 70 j = g1 70 j) (q1 : ((0 ≤ A.toInt ∧ A.toInt ≤ (gi 0 5).toInt) → ∀ n : Nat, (n : Int) = A.toInt → t_RES gi gl gr sh.length (gi 2) n x1 g1 l1 r1) ∧ (¬ (0 ≤ A.toInt ∧ A.toInt ≤ (gi 0 5).toInt) → x1.toInt = -1 ∧ (∀ K, K ≠ 0 → g1 K = gi K ∧ l1 K = gl K ∧ r1 K = gr K) ∧ r1 0 6 = gr 0 6 ∧ r1 0 7 = gr 0 7) ∧ (0 ≤ A.toInt ∧ A.toInt ≤ (gi 0 5).toInt → sh.length + 18 ≤ sh1.length)) (q2 : Q_n_river g1 l1 r1 A x2 g2 l2 r2) : t_RnN sh1.length g2 r2 := by
  simp only [Bool.and_eq_true] at hw1
  obtain ⟨n75, n70, n20, n12⟩ := hw1
  have e0 : (gi 0 5).toInt = (gi 69 10).toInt := congrArg Int32.toInt (t_R_fed hR)
  have e1 : (g1 69 10).toInt = (gi 69 10).toInt := congrArg Int32.toInt (f1 69 10 (by decide) h69).1
  have r75 : g1 75 = gi 75 := t_F_nc f1 n75 (by decide)
  have r70 : g1 70 = gi 70 := t_F_nc f1 n70 (by decide)
  have r12 : g1 0 12 = gi 0 12 := (f1 0 12 (by decide) (t_un_ok n12)).1
  have r20 : r1 20 = gr 20 := t_F_nr f1 n20 (by decide)
  obtain ⟨m0, m7, m12, m20⟩ := t_RR_m xm hw2
  have same : r1 0 7 = gr 0 7 → (g2 70 3 = g1 70 3 ∧ g2 70 8 = g1 70 8) → (∀ K, 102 ≤ K → K < sh.length → g1 K = gi K) → t_RnN sh1.length g2 r2 := by
    intro s7 s3 sK
    refine t_RR_gen h hle (fun K k1 k2 => (m0 K k1).trans (sK K k1 k2)) (m7.trans s7) (m12.trans r12) (m20.trans r20) (fun j hj h3 => ?_) hm3
    by_cases hj3 : j < 350
    · rcases h3 with h3 | h3
      · rw [show j = 3 by omega, s3.1, r70]
      · rw [show j = 8 by omega, s3.2, r70]
    · rw [em j (by omega) hj, r70]
  by_cases hin : 0 ≤ A.toInt ∧ A.toInt ≤ (gi 0 5).toInt
  · obtain ⟨n, hn⟩ : ∃ n : Nat, (n : Int) = A.toInt := ⟨A.toInt.toNat, by omega⟩
    obtain ⟨p1, pl⟩ := q1.1 hin n hn
    have pl2 : ∀ K, 102 ≤ K → K < sh.length → g1 K = gi K := fun K a b => (pl K (by omega) b).1
    have p2 := q2.1 (by omega) (gi 2) n hn (fun j hj => by rw [r75]; exact (hT j (by omega)).1.symm) (fun j hj => (hT j (by omega)).2)
    rcases p1 with ⟨q, D, a1, a2, a3, a4, a5, a6, a7, a8⟩ | ⟨p, x, D, a0, a1, a2, a3, a4, a5, a6⟩
    · rcases p2 with ⟨q', D', b1, b2, b3, b4, b5, b6⟩ | ⟨p', x', D', b0, b1, -⟩
      · have hd : s_d3 D' := Eq.mp (congrArg (fun r : s_R => s_d3 r.2.2) b1) (s_d3_rv _ _ _ ⟨rfl, rfl⟩)
        refine ⟨Or.inl ⟨m7.trans a6, b4.2.2.2.2.1.trans hd.1, b4.2.2.2.2.2.trans hd.2⟩, fun j hj => ?_⟩
        rw [m12, r12] at hj
        rw [m20, r20]
        exact (h.2 j hj).mv hle (fun K k1 k2 => (m0 K k1).trans (pl2 K k1 k2)) (by rw [em _ (by omega) (by omega), r70]) (by rw [em _ (by omega) (by omega), r70])
      · exact (s_ok_bad b0 (a1.symm.trans b1)).elim
    · rcases p2 with ⟨q', D', b1, -⟩ | ⟨p', x', D', b0, b1, b2, b3, b4, b5⟩
      · exact (s_ok_bad a0 (b1.symm.trans a1)).elim
      · exact same a6 ⟨b5 3 (by decide), b5 8 (by decide)⟩ pl2
  · have hh := q1.2.1 hin
    exact same hh.2.2.2 ⟨(q2.2 (by omega)).2 3 (by decide), (q2.2 (by omega)).2 8 (by decide)⟩ (fun K a _ => (hh.2.1 K (by omega)).1)
theorem t_RR_mark (hR : t_R gi gr) (hS : t_RnN sh.length gi gr) (hm0 : 0 ≤ (gi 0 12).toInt) (hm3 : (gi 0 12).toInt ≤ 3) (xh : t_X w1 sh gi gl gr g1 l1 r1) (hw1 : (t_ndB w1 && (t_un w1 (0, 7) && (t_nc w1 70 && t_un w1 (69, 75)))) = true) (xm : t_X w2 sh g1 l1 r1 g2 l2 r2) (hw2 : (t_ndB w2 && (t_un w2 (0, 7) && (t_un w2 (0, 12) && t_nc w2 20))) = true) (hc : ((gi 0 12).toInt = 3 → (g1 0 12).toInt = 3) ∧ ((gi 0 12).toInt ≠ 3 → (g1 0 12).toInt = (gi 0 12).toInt + 1)) (q1 : Q_d_mark gi gl gr x1 g1 l1 r1) (q2 : ((g1 69 75).toInt = 3 → g2 70 = g1 70) ∧ ((g1 69 75).toInt ≠ 3 → ∀ j, g2 70 j = t_cpy (g1 70) 0 ((g1 69 75).toInt.toNat + 1) 350 j)) : t_RnN sh.length g2 r2 := by
  simp only [Bool.and_eq_true] at hw1
  obtain ⟨n0, n7, n70, n75⟩ := hw1
  have f1 := t_F_X xh
  have r7 : r1 0 7 = gr 0 7 := (f1 0 7 (by decide) (t_un_ok n7)).2.2
  have r70 : g1 70 = gi 70 := t_F_nc f1 n70 (by decide)
  have r75 : (g1 69 75).toInt = (gi 0 12).toInt := by rw [(f1 69 75 (by decide) (t_un_ok n75)).1, ← t_R_mk hR]
  obtain ⟨m0, m7, m12, m20⟩ := t_RR_m xm hw2
  have fr : ∀ K, 102 ≤ K → K < sh.length → g2 K = gi K := fun K k1 _ => (m0 K k1).trans (t_nd_fr xh n0 K (Or.inr k1)).1
  obtain ⟨d1, d2⟩ := q1
  by_cases h3 : (gi 0 12).toInt = 3
  · have e70 : ∀ j, g2 70 j = gi 70 j := fun j => by rw [q2.1 (by omega), r70]
    refine ⟨by rw [m7, r7]; exact hS.1.mv (Nat.le_refl _) fr (e70 _) (e70 _), fun k hk => ?_⟩
    rw [m12] at hk
    have h4 := hS.2 k (by have := hc.1 h3; omega)
    rw [m20, (d2 h3).2]
    exact h4.mv (Nat.le_refl _) fr (e70 _) (e70 _)
  · have e70 : ∀ j, g2 70 j = t_cpy (gi 70) 0 ((gi 0 12).toInt.toNat + 1) 350 j := fun j => by rw [q2.2 (by omega), r70, r75]
    have ec := hc.2 h3
    have off : ∀ j, (j < 350 * ((gi 0 12).toInt.toNat + 1) ∨ 350 * ((gi 0 12).toInt.toNat + 1) + 350 ≤ j) → g2 70 j = gi 70 j := fun j hj => by
      rw [e70]; unfold t_cpy; rw [if_neg (by omega)]
    refine ⟨by rw [m7, r7]; exact hS.1.mv (Nat.le_refl _) fr (off _ (by omega)) (off _ (by omega)), fun k hk => ?_⟩
    rw [m12] at hk
    by_cases hkm : (k : Int) = (gi 0 12).toInt
    · rw [m20, (d1 h3).2, if_pos hkm]
      refine hS.1.mv (Nat.le_refl _) fr ?_ ?_
      · rw [e70]; unfold t_cpy
        rw [if_pos (by omega), show 350 * (k + 1) + 3 - 350 * ((gi 0 12).toInt.toNat + 1) + 350 * 0 = 0 + 3 by omega]
      · rw [e70]; unfold t_cpy
        rw [if_pos (by omega), show 350 * (k + 1) + 8 - 350 * ((gi 0 12).toInt.toNat + 1) + 350 * 0 = 0 + 8 by omega]
    · have h4 := hS.2 k (by omega)
      rw [m20, (d1 h3).2, if_neg hkm]
      exact h4.mv (Nat.le_refl _) fr (off _ (by omega)) (off _ (by omega))
theorem t_RR_back (hR : t_R gi gr) (hS : t_RnN sh.length gi gr) (hm0 : 0 ≤ (gi 0 12).toInt) (hm3 : (gi 0 12).toInt ≤ 3) (xh : t_X w1 sh gi gl gr g1 l1 r1) (hw1 : (t_ndB w1 && (t_nc w1 20 && (t_nc w1 70 && t_un w1 (69, 75)))) = true) (xm : t_X w2 sh g1 l1 r1 g2 l2 r2) (hw2 : (t_ndB w2 && (t_un w2 (0, 7) && (t_un w2 (0, 12) && t_nc w2 20))) = true) (hc : ((gi 0 12).toInt = 0 → (g1 0 12).toInt = 0) ∧ ((gi 0 12).toInt ≠ 0 → (g1 0 12).toInt = (gi 0 12).toInt - 1)) (q1 : Q_d_back gi gl gr x1 g1 l1 r1) (q2 : ((g1 69 75).toInt = 0 → g2 70 = g1 70) ∧ ((g1 69 75).toInt ≠ 0 → ∀ j, g2 70 j = t_cpy (g1 70) (g1 69 75).toInt.toNat 0 350 j)) : t_RnN sh.length g2 r2 := by
  simp only [Bool.and_eq_true] at hw1
  obtain ⟨n0, n20, n70, n75⟩ := hw1
  have f1 := t_F_X xh
  have r20 : r1 20 = gr 20 := t_F_nr f1 n20 (by decide)
  have r70 : g1 70 = gi 70 := t_F_nc f1 n70 (by decide)
  have r75 : (g1 69 75).toInt = (gi 0 12).toInt := by rw [(f1 69 75 (by decide) (t_un_ok n75)).1, ← t_R_mk hR]
  obtain ⟨m0, m7, m12, m20⟩ := t_RR_m xm hw2
  have fr : ∀ K, 102 ≤ K → K < sh.length → g2 K = gi K := fun K k1 _ => (m0 K k1).trans (t_nd_fr xh n0 K (Or.inr k1)).1
  obtain ⟨d1, d2⟩ := q1
  by_cases h3 : (gi 0 12).toInt = 0
  · have e70 : ∀ j, g2 70 j = gi 70 j := fun j => by rw [q2.1 (by omega), r70]
    refine ⟨by rw [m7, (d1 h3).2]; exact hS.1.mv (Nat.le_refl _) fr (e70 _) (e70 _), fun k hk => ?_⟩
    rw [m12] at hk
    have := hc.1 h3
    omega
  · have e70 : ∀ j, g2 70 j = t_cpy (gi 70) (gi 0 12).toInt.toNat 0 350 j := fun j => by rw [q2.2 (by omega), r70, r75]
    have ec := hc.2 h3
    have off : ∀ j, 350 ≤ j → g2 70 j = gi 70 j := fun j hj => by
      rw [e70]; unfold t_cpy; rw [if_neg (by omega)]
    refine ⟨?_, fun k hk => ?_⟩
    · rw [m7, (d2 h3).2]
      refine (hS.2 ((gi 0 12).toInt - 1).toNat (by omega)).mv (Nat.le_refl _) fr ?_ ?_
      · rw [e70]; unfold t_cpy
        rw [if_pos (by omega), show 0 + 3 - 350 * 0 + 350 * (gi 0 12).toInt.toNat = 350 * (((gi 0 12).toInt - 1).toNat + 1) + 3 by omega]
      · rw [e70]; unfold t_cpy
        rw [if_pos (by omega), show 0 + 8 - 350 * 0 + 350 * (gi 0 12).toInt.toNat = 350 * (((gi 0 12).toInt - 1).toNat + 1) + 8 by omega]
    · rw [m12] at hk
      have h4 := hS.2 k (by omega)
      rw [m20, r20]
      exact h4.mv (Nat.le_refl _) fr (off _ (by omega)) (off _ (by omega))
theorem t_L_told (hD : t_DR sh.length gi gl gr) (hS : t_RnN sh.length gi gr) (f1 : t_F w1 gi gl gr g1 l1 r1) (h70 : t_nc w1 70 = true) (q1 : Q_d_told gi gl gr A x1 g1 l1 r1) (q2 : Q_e_told g1 l1 r1 A x2 g2 l2 r2) : x1 = x2 := by
  obtain ⟨u, D, hu, hl, hc, hb, hm, -⟩ := t_D_0 hD f1 h70
  have k1 := q1 u D hu hl hc hb
  have r70 : g1 70 = gi 70 := t_F_nc f1 h70 (by decide)
  apply Int32.toInt_inj.mp
  by_cases hin : 0 ≤ A.toInt ∧ A.toInt ≤ 7
  · rw [q2.1 hin]
    by_cases h3 : A.toInt = 3
    · rw [h3]
      show x1.toInt = (g1 70 3).toInt
      rw [r70]
      rcases hS.1 with ⟨a, b, -⟩ | ⟨u2, a, -, b, -⟩
      · rw [(k1.2.1 h3).1 a]; exact b.symm
      · rw [(k1.2.1 h3).2 u2 a]; exact b
    · rw [k1.1 (by omega)]
      have hA : A.toInt.toNat = 0 ∨ A.toInt.toNat = 1 ∨ A.toInt.toNat = 2 ∨ A.toInt.toNat = 4 ∨ A.toInt.toNat = 5 ∨ A.toInt.toNat = 6 ∨ A.toInt.toNat = 7 := by omega
      rcases hA with h | h | h | h | h | h | h
      · rw [h]; exact hm.1.1.1.symm
      · rw [h]; exact hm.1.1.2.1.symm
      · rw [h]; exact hm.1.1.2.2.symm
      · rw [h]; exact hm.1.2.1.symm
      · rw [h]; exact hm.1.2.2.1.symm
      · rw [h]; exact hm.1.2.2.2.1.symm
      · rw [h]; exact hm.1.2.2.2.2.symm
  · rw [k1.2.2 hin, q2.2 hin]
end TLR
