/-! ===== the table of the least waits ===== -/
noncomputable def t_ix (m o s c : Nat) : Nat := ((2 * m + o) * 7 + s) * 7 + c
/-- where a state stands in the order of reckoning -/
noncomputable def t_ky (m o s c : Nat) : Nat := ((240 - m) * 2 + o) * 49 + (6 - s) * 7 + (6 - c)
noncomputable def t_S (g : Nat → Nat → Int32) : Nat := (g 69 44).toInt.toNat
noncomputable def t_C (g : Nat → Nat → Int32) : Nat := (g 69 45).toInt.toNat
noncomputable def t_si (g : Nat → Nat → Int32) (s : Nat) : Nat := (g 90 s).toInt.toNat
noncomputable def t_sa (g : Nat → Nat → Int32) (s : Nat) : Int := (g 89 (t_si g s)).toInt
noncomputable def t_st (g : Nat → Nat → Int32) (s : Nat) : Nat := (g 70 (54 + 5 * t_si g s)).toInt.toNat
noncomputable def t_so (g : Nat → Nat → Int32) (s : Nat) : Int := (g 70 (55 + 5 * t_si g s)).toInt
noncomputable def t_ss (g : Nat → Nat → Int32) (s : Nat) : Int := (g 70 (56 + 5 * t_si g s)).toInt
noncomputable def t_ci (g : Nat → Nat → Int32) (c : Nat) : Nat := (g 91 c).toInt.toNat
noncomputable def t_ca (g : Nat → Nat → Int32) (c : Nat) : Int := (g 89 (6 + t_ci g c)).toInt
noncomputable def t_ct (g : Nat → Nat → Int32) (c : Nat) : Nat := (g 70 (83 + 3 * t_ci g c)).toInt.toNat
noncomputable def t_cc (g : Nat → Nat → Int32) (c : Nat) : Int := (g 70 (84 + 3 * t_ci g c)).toInt
/-- the minutes of a turn begun in minute m -/
noncomputable def t_tt (g : Nat → Nat → Int32) (q : Int) (m : Nat) : Nat := (q + (if 0 < (g 70 5).toInt ∧ (g 70 6).toInt ≤ (m : Int) then (g 70 5).toInt else 0)).toNat
noncomputable def t_la (f : Nat → Int32) (S C m o s c : Nat) : Int := if s = S ∧ c = C then 0 else if 240 < m then 1000000000 else (f (t_ix m o s c)).toInt
noncomputable def t_mayS (g : Nat → Nat → Int32) (m o s : Nat) : Prop := o = 1 ∧ s < t_S g ∧ t_sa g s ≤ (m : Int) ∧ (t_ss g s = 0 ∨ t_sa g s = (m : Int))
noncomputable def t_mayC (g : Nat → Nat → Int32) (m o c : Nat) : Prop := o = 0 ∧ c < t_C g ∧ t_ca g c ≤ (m : Int)
noncomputable def t_bys (g : Nat → Nat → Int32) (f : Nat → Int32) (m s c : Nat) : Int := ((m : Int) - t_sa g s) * t_so g s + t_la f (t_S g) (t_C g) (m + t_st g s) 1 (s + 1) c
noncomputable def t_byc (g : Nat → Nat → Int32) (f : Nat → Int32) (m s c : Nat) : Int := ((m : Int) - t_ca g c) * t_cc g c + t_la f (t_S g) (t_C g) (m + t_ct g c) 0 s (c + 1)
/-- the least of what can be done in a state -/
noncomputable def t_bel (g : Nat → Nat → Int32) (f : Nat → Int32) (q : Int) (m o s c : Nat) (x : Int) : Prop :=
  ∃ b1 b2 : Int, (t_mayS g m o s → b1 = min (min (t_la f (t_S g) (t_C g) (m + 1) o s c) (t_la f (t_S g) (t_C g) (m + t_tt g q m) (1 - o) s c)) (t_bys g f m s c)) ∧ (¬ t_mayS g m o s → b1 = min (t_la f (t_S g) (t_C g) (m + 1) o s c) (t_la f (t_S g) (t_C g) (m + t_tt g q m) (1 - o) s c)) ∧
    (t_mayC g m o c → b2 = min b1 (t_byc g f m s c)) ∧ (¬ t_mayC g m o c → b2 = b1) ∧ x = min b2 1000000000
/-- all states ahead of k in the order are reckoned -/
noncomputable def t_pr (g : Nat → Nat → Int32) (f : Nat → Int32) (q : Int) (k : Nat) : Prop := ∀ m o s c : Nat, m ≤ 240 → o ≤ 1 → s ≤ t_S g → c ≤ t_C g → t_ky m o s c < k → t_bel g f q m o s c (f (t_ix m o s c)).toInt ∧ 0 ≤ (f (t_ix m o s c)).toInt ∧ (f (t_ix m o s c)).toInt ≤ 1000000000
section DP
variable {g : Nat → Nat → Int32} {f f' : Nat → Int32} {q : Int} {k : Nat}
theorem t_ix_inj {m o s c m' o' s' c' : Nat} (h : t_ix m o s c = t_ix m' o' s' c') (ho : o ≤ 1) (hs : s ≤ 6) (hc : c ≤ 6) (ho' : o' ≤ 1) (hs' : s' ≤ 6) (hc' : c' ≤ 6) : m = m' ∧ o = o' ∧ s = s' ∧ c = c' := by
  unfold t_ix at h; omega
/-- a value told of the states ahead -/
theorem t_la_b (h : t_pr g f q k) {m o s c : Nat} (ho : o ≤ 1) (hs : s ≤ t_S g) (hc : c ≤ t_C g) (hk : m ≤ 240 → t_ky m o s c < k) : 0 ≤ t_la f (t_S g) (t_C g) m o s c ∧ t_la f (t_S g) (t_C g) m o s c ≤ 1000000000 := by
  unfold t_la
  split
  · omega
  · split
    · omega
    · exact (h m o s c (by omega) ho hs hc (hk (by omega))).2
theorem t_la_e {S C m o s c : Nat} (h : m ≤ 240 → f' (t_ix m o s c) = f (t_ix m o s c)) : t_la f' S C m o s c = t_la f S C m o s c := by
  unfold t_la
  split
  · rfl
  · split
    · rfl
    · rw [h (by omega)]
theorem t_bel_e {m o s c : Nat} {x : Int} (ht : 1 ≤ t_tt g q m) (hm : m ≤ 240) (ho : o ≤ 1) (hs : s ≤ t_S g) (hc : c ≤ t_C g) (hS : t_S g ≤ 6) (hC : t_C g ≤ 6) (h : ∀ m' o' s' c' : Nat, m' ≤ 240 → o' ≤ 1 → s' ≤ t_S g → c' ≤ t_C g → t_ky m' o' s' c' < t_ky m o s c → f' (t_ix m' o' s' c') = f (t_ix m' o' s' c')) (H : t_bel g f q m o s c x) : t_bel g f' q m o s c x := by
  obtain ⟨b1, b2, h1, h2, h3, h4, h5⟩ := H
  have e1 : t_la f' (t_S g) (t_C g) (m + 1) o s c = t_la f (t_S g) (t_C g) (m + 1) o s c := t_la_e (fun q1 => h _ _ _ _ q1 ho hs hc (by unfold t_ky; omega))
  have e2 : t_la f' (t_S g) (t_C g) (m + t_tt g q m) (1 - o) s c = t_la f (t_S g) (t_C g) (m + t_tt g q m) (1 - o) s c := t_la_e (fun q1 => h _ _ _ _ q1 (by omega) hs hc (by unfold t_ky; omega))
  refine ⟨b1, b2, fun hm1 => ?_, fun hm1 => ?_, fun hm2 => ?_, h4, h5⟩
  · have h6 := hm1
    unfold t_mayS at h6
    have e3 : t_bys g f' m s c = t_bys g f m s c := by
      unfold t_bys
      rw [t_la_e (f' := f') (f := f) (m := m + t_st g s) (o := 1) (s := s + 1) (c := c) (fun q1 => h _ _ _ _ q1 (by omega) (by omega) hc (by unfold t_ky; omega))]
    rw [e1, e2, e3]; exact h1 hm1
  · rw [e1, e2]; exact h2 hm1
  · have h6 := hm2
    unfold t_mayC at h6
    have e3 : t_byc g f' m s c = t_byc g f m s c := by
      unfold t_byc
      rw [t_la_e (f' := f') (f := f) (m := m + t_ct g c) (o := 0) (s := s) (c := c + 1) (fun q1 => h _ _ _ _ q1 (by omega) hs (by omega) (by unfold t_ky; omega))]
    rw [e3]; exact h3 hm2
/-- one state more -/
theorem t_pr_s (ht : ∀ m, 1 ≤ t_tt g q m) (hS : t_S g ≤ 6) (hC : t_C g ≤ 6) {m o s c : Nat} {x : Int32} (hm : m ≤ 240) (ho : o ≤ 1) (hs : s ≤ t_S g) (hc : c ≤ t_C g) (h : t_pr g f q (t_ky m o s c)) (hx : t_bel g f q m o s c x.toInt) (h0 : 0 ≤ x.toInt) (h1 : x.toInt ≤ 1000000000) (hof : ∀ j, j ≠ t_ix m o s c → f' j = f j) (hat : f' (t_ix m o s c) = x) : t_pr g f' q (t_ky m o s c + 1) := by
  intro m' o' s' c' hm' ho' hs' hc' hk
  have hag : ∀ m'' o'' s'' c'' : Nat, m'' ≤ 240 → o'' ≤ 1 → s'' ≤ t_S g → c'' ≤ t_C g → t_ky m'' o'' s'' c'' < t_ky m o s c → f' (t_ix m'' o'' s'' c'') = f (t_ix m'' o'' s'' c'') := by
    intro m'' o'' s'' c'' a1 a2 a3 a4 a5
    refine hof _ (fun e => ?_)
    obtain ⟨rfl, rfl, rfl, rfl⟩ := t_ix_inj e a2 (by omega) (by omega) ho (by omega) (by omega)
    omega
  by_cases hlt : t_ky m' o' s' c' < t_ky m o s c
  · obtain ⟨g1, g2⟩ := h m' o' s' c' hm' ho' hs' hc' hlt
    have e : f' (t_ix m' o' s' c') = f (t_ix m' o' s' c') := hag _ _ _ _ hm' ho' hs' hc' hlt
    rw [e]
    exact ⟨t_bel_e (ht m') hm' ho' hs' hc' hS hC (fun a b d e' p1 p2 p3 p4 p5 => hag a b d e' p1 p2 p3 p4 (by omega)) g1, g2⟩
  · have heq : m' = m ∧ o' = o ∧ s' = s ∧ c' = c := by unfold t_ky at hk hlt; omega
    obtain ⟨rfl, rfl, rfl, rfl⟩ := heq
    rw [hat]
    exact ⟨t_bel_e (ht m') hm' ho' hs' hc' hS hC hag hx, h0, h1⟩
theorem t_pr_le {k' : Nat} (h : t_pr g f q k) (hk : ∀ m o s c : Nat, m ≤ 240 → o ≤ 1 → s ≤ t_S g → c ≤ t_C g → t_ky m o s c < k' → t_ky m o s c < k) : t_pr g f q k' := fun m o s c a1 a2 a3 a4 a5 => h m o s c a1 a2 a3 a4 (hk m o s c a1 a2 a3 a4 a5)
end DP
/-- what the table rests on -/
noncomputable def t_sp (p g : Nat → Nat → Int32) : Prop := g 69 44 = p 69 44 ∧ g 69 45 = p 69 45 ∧ g 69 48 = p 69 48 ∧ g 70 = p 70 ∧ g 89 = p 89 ∧ g 90 = p 90 ∧ g 91 = p 91
theorem t_sp.rf {p : Nat → Nat → Int32} : t_sp p p := ⟨rfl, rfl, rfl, rfl, rfl, rfl, rfl⟩
theorem t_sp.tr {p g g' : Nat → Nat → Int32} (h : t_sp p g) (h1 : g' 69 44 = g 69 44) (h2 : g' 69 45 = g 69 45) (h3 : g' 69 48 = g 69 48) (h4 : g' 70 = g 70) (h5 : g' 89 = g 89) (h6 : g' 90 = g 90) (h7 : g' 91 = g 91) : t_sp p g' := ⟨h1.trans h.1, h2.trans h.2.1, h3.trans h.2.2.1, h4.trans h.2.2.2.1, h5.trans h.2.2.2.2.1, h6.trans h.2.2.2.2.2.1, h7.trans h.2.2.2.2.2.2⟩
theorem t_si_eq {p g : Nat → Nat → Int32} (h : t_sp p g) {i w : Int32} (e : w = g 90 i.toNatClampNeg) (h0 : 0 ≤ i.toInt) : t_si p i.toInt.toNat = w.toInt.toNat := by
  have hc : i.toNatClampNeg = i.toInt.toNat := rfl
  unfold t_si; rw [e, hc, h.2.2.2.2.2.1]
theorem t_ci_eq {p g : Nat → Nat → Int32} (h : t_sp p g) {i w : Int32} (e : w = g 91 i.toNatClampNeg) (h0 : 0 ≤ i.toInt) : t_ci p i.toInt.toNat = w.toInt.toNat := by
  have hc : i.toNatClampNeg = i.toInt.toNat := rfl
  unfold t_ci; rw [e, hc, h.2.2.2.2.2.2]
theorem t_sa_eq {p g : Nat → Nat → Int32} (h : t_sp p g) {i w w2 : Int32} (e : w = g 90 i.toNatClampNeg) (h0 : 0 ≤ i.toInt) (e2 : w2 = g 89 w.toNatClampNeg) : t_sa p i.toInt.toNat = w2.toInt := by
  unfold t_sa; rw [t_si_eq h e h0, e2, h.2.2.2.2.1]; rfl
theorem t_ca_eq {p g : Nat → Nat → Int32} (h : t_sp p g) {i w j w2 : Int32} (e : w = g 91 i.toNatClampNeg) (h0 : 0 ≤ i.toInt) (e2 : w2 = g 89 j.toNatClampNeg) (hj : j.toInt = 6 + w.toInt) (hw : 0 ≤ w.toInt) : t_ca p i.toInt.toNat = w2.toInt := by
  have hc : j.toNatClampNeg = 6 + w.toInt.toNat := by show j.toInt.toNat = _; omega
  unfold t_ca; rw [t_ci_eq h e h0, e2, hc, h.2.2.2.2.1]
/-- a number of a ship, of a cart, by its place in the order -/
theorem t_of_eq {p g : Nat → Nat → Int32} (h : t_sp p g) {w j w2 : Int32} {a b n : Nat} (hn : n = w.toInt.toNat) (e2 : w2 = g 70 j.toNatClampNeg) (hj : j.toInt = (a : Int) + (b : Int) * w.toInt) (hw : 0 ≤ w.toInt) : (p 70 (a + b * n)).toInt = w2.toInt := by
  have hc : j.toNatClampNeg = a + b * n := by
    show j.toInt.toNat = _
    have e : w.toInt = ((w.toInt.toNat : Nat) : Int) := by omega
    rw [hj, hn, e]
    have : ((a : Int) + (b : Int) * ((w.toInt.toNat : Nat) : Int)) = ((a + b * w.toInt.toNat : Nat) : Int) := by simp
    rw [this]; rfl
  rw [e2, hc, h.2.2.2.1]
section TMM
variable {X : x_Ext} {d mi pc nx a b q len ml : Nat} {z : Int} {ins : Instr} {lo lo' : x_Lo} {st st' r : List Value} {G : x_G} {P : Option Value → x_G → Prop} {T : List (Nat × x_Row)} {rt : Option FieldType}
theorem ev_minE {x y : Int32} {lx ux ly uy l u : Int} (F : x_F mi T ml rt) (hr : x_lk T pc = some (ins, len, 1003, b, q, z)) (hc : x_cat ins = 4) (hd : 1 ≤ d) (h8 : Nat.ble (x_words r) 8 = true) (a1 : lx ≤ x.toInt) (a2 : x.toInt ≤ ux) (b1 : ly ≤ y.toInt) (b2 : y.toInt ≤ uy) (hl : min lx ly = l) (hu : min ux uy = u) (hn : pc + 3 = nx) (kk : ∀ w : Int32, w.toInt = min x.toInt y.toInt → l ≤ w.toInt → w.toInt ≤ u → x_Ev X d mi nx lo (.int w :: r) G P) : x_Ev X d mi pc lo (.int y :: .int x :: r) G P := by
  have hm : (x_mm 1003 x y).toInt = min x.toInt y.toInt := by
    unfold x_mm
    rw [if_neg (by decide)]
    by_cases h2 : y < x
    · rw [if_pos h2]; have := Int32.lt_iff_toInt_lt.mp h2; omega
    · rw [if_neg h2]; have := Int32.le_iff_toInt_le.mp (Int32.not_lt.mp h2); omega
  exact ev_mm F hr hc rfl hd (Nat.le_of_ble_eq_true h8) hn (kk _ hm (by omega) (by omega))
theorem ev_mulP {x y : Int32} {ux uy : Int} (F : x_F mi T ml rt) (hr : x_lk T pc = some (.imul, len, a, b, q, z)) (a1 : 0 ≤ x.toInt) (a2 : x.toInt ≤ ux) (b1 : 0 ≤ y.toInt) (b2 : y.toInt ≤ uy) (h4 : decide (ux * uy ≤ 2147483647) = true) (hn : pc + len = nx) (kk : ∀ w : Int32, w.toInt = x.toInt * y.toInt → 0 ≤ w.toInt → w.toInt ≤ ux * uy → x_Ev X d mi nx lo (.int w :: r) G P) : x_Ev X d mi pc lo (.int y :: .int x :: r) G P := by
  have h4 := of_decide_eq_true h4
  have g1 : 0 ≤ x.toInt * y.toInt := Int.mul_nonneg a1 b1
  have g2 : x.toInt * y.toInt ≤ ux * uy := Int.mul_le_mul a2 b2 b1 (Int.le_trans a1 a2)
  have e : (x * y).toInt = x.toInt * y.toInt := t_mult (by omega) (by omega)
  exact ev_alu F hr rfl rfl hn (kk _ e (by omega) (by omega))
end TMM
