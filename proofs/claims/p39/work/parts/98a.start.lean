/-! ===== the law's start: the world behind both constructors is typed ===== -/
noncomputable def w1_wf : Bool := (List.range 102).all (fun k => match x_gc W1 k, x_sh0[k]? with | some c, some s => x_eS c.1 s | _, _ => false) && x_fx.all (fun q => match x_gc W1 q.1.1 with | some c => x_eV (x_cR c q.1.2) (.ref q.2) && Nat.blt q.1.2 (2 ^ x_dp c.1) | none => false)
theorem w1_wf_t : w1_wf = true := by decide +kernel
theorem w1_ini_t : x_ini 4000 999 n_X11_init n_X12_init = true := by decide +kernel
/-- fields that are bounded, arrays that are bounded, classes that aren't there, the size -/
noncomputable def w1_fb : Bool := t_bdl.all (fun q => (List.range 102).all (fun k => match x_gc W1 k with
  | some c => (match c.1 with
    | .inl ci => !Nat.beq ci q.1.1 || (Nat.blt q.1.2 (2 ^ x_dp c.1) && (decide (q.2.1 ≤ (x_cI c q.1.2).toInt) && decide ((x_cI c q.1.2).toInt ≤ q.2.2)))
    | .inr _ => true)
  | none => false))
noncomputable def w1_ab1 (c : x_C) (j : Nat) : Option (Int × Int) → Bool
  | some b => Nat.blt j (2 ^ x_dp c.1) && (decide (b.1 ≤ (x_cI c j).toInt) && decide ((x_cI c j).toInt ≤ b.2))
  | none => true
noncomputable def w1_ab : Bool := t_abo.all (fun q => match x_gc W1 q.1 with
  | some c => (List.range (q.2.2.1 + 1 - q.2.1)).all (fun m => w1_ab1 c (q.2.1 + m) (t_ab q.1 (q.2.1 + m)))
  | none => false)
noncomputable def w1_a70 : Bool := match x_gc W1 70 with
  | some c => (List.range 350).all (fun m => match t_abf t_ab7 m with
    | some b => (List.range 5).all (fun r => w1_ab1 c (350 * r + m) (some b))
    | none => true)
  | none => false
noncomputable def w1_no : Bool := (List.range 102).all (fun k => match x_gc W1 k with
  | some c => (match c.1 with | .inl ci => !Nat.beq ci 6 && !Nat.beq ci 8 | .inr _ => true)
  | none => false)
theorem w1_fb_t : w1_fb = true := by decide +kernel
theorem w1_ab_t : w1_ab = true := by decide +kernel
theorem w1_a70_t : w1_a70 = true := by decide +kernel
theorem w1_no_t : w1_no = true := by decide +kernel
theorem w1_sz_t : Nat.ble (x_szN W1 102) 60000 = true := by decide +kernel
section XST
variable {sh : List (Nat ⊕ (Nat × Nat))} {gi : Nat → Nat → Int32} {gl : Nat → Nat → Int64} {gr : Nat → Nat → Value}
theorem W1_WF (hR : x_R W1 (sh, gi, gl, gr)) : x_WF sh gr := by
  have h := w1_wf_t
  unfold w1_wf at h
  rw [Bool.and_eq_true, List.all_eq_true, List.all_eq_true] at h
  refine ⟨fun k s hs => ?_, fun k j v hv => ?_⟩
  · have hk : k < 102 := (List.getElem?_eq_some_iff.mp hs).1
    have h1 := h.1 k (List.mem_range.mpr hk)
    rw [hs] at h1
    cases hc : x_gc W1 k with
    | none => rw [hc] at h1; cases h1
    | some c =>
      rw [hc] at h1
      have h2 : c.1 = s := x_eS_ok h1
      rw [← h2]; exact (x_gc_R hR hc).2.2.1
  · have h1 := h.2 _ (x_lookup_mem hv)
    dsimp only at h1
    cases hc : x_gc W1 k with
    | none => rw [hc] at h1; cases h1
    | some c =>
      rw [hc] at h1
      dsimp only at h1
      rw [Bool.and_eq_true] at h1
      have h2 := x_eV_ok h1.1
      rw [← h2]
      exact ((x_gc_R hR hc).2.2.2 j (Nat.le_of_ble_eq_true h1.2)).2.2
theorem W1_len (hR : x_R W1 (sh, gi, gl, gr)) : sh.length = 102 := hR.1
theorem W1_sz (hR : x_R W1 (sh, gi, gl, gr)) : (sh.map x_sz).sum ≤ 60000 := by
  have h3 := x_szN_ok hR 102 (by rw [hR.1]; exact Nat.le_refl _)
  have h4 : sh.take 102 = sh := List.take_of_length_le (by rw [W1_len hR]; exact Nat.le_refl _)
  have h3 : ((sh.take 102).map x_sz).sum = x_szN W1 102 := h3
  rw [h4] at h3
  rw [h3]; exact Nat.le_of_ble_eq_true w1_sz_t
theorem W1_cell (hR : x_R W1 (sh, gi, gl, gr)) {k ci : Nat} (hk : sh[k]? = some (.inl ci)) : k < 102 ∧ ∃ c, x_gc W1 k = some c ∧ c.1 = .inl ci := by
  have h1 := t_lt hk
  rw [W1_len hR] at h1
  refine ⟨h1, ?_⟩
  have h2 := List.all_eq_true.mp w1_no_t k (List.mem_range.mpr h1)
  cases hc : x_gc W1 k with
  | none => rw [hc] at h2; cases h2
  | some c =>
    have h3 := (x_gc_R hR hc).2.2.1
    have h3 : sh[k]? = some c.1 := h3
    rw [hk] at h3
    exact ⟨c, rfl, (Option.some.inj h3).symm⟩
theorem W1_I (hR : x_R W1 (sh, gi, gl, gr)) : t_I sh gi gr := by
  have hW := W1_WF hR
  have hno : ∀ {k ci : Nat}, sh[k]? = some (.inl ci) → ci ≠ 6 ∧ ci ≠ 8 := by
    intro k ci hk
    obtain ⟨h1, c, hc, he⟩ := W1_cell hR hk
    have h2 := List.all_eq_true.mp w1_no_t k (List.mem_range.mpr h1)
    rw [hc] at h2
    dsimp only at h2
    rw [he] at h2
    dsimp only at h2
    constructor
    · rintro rfl; cases h2
    · rintro rfl; cases h2
  have hrd : ∀ {k j : Nat} {c : x_C}, x_gc W1 k = some c → j < 2 ^ x_dp c.1 → gr k j = x_cR c j := fun hc hj => ((x_gc_R hR hc).2.2.2 _ hj).2.2
  have hRv3 : t_Rv sh gr 3 := ⟨hW.s rfl, ⟨4, hW.r rfl, hW.s rfl, Or.inl (by decide)⟩, ⟨5, hW.r rfl, hW.s rfl, Or.inl (by decide)⟩, ⟨12, hW.r rfl, hW.s rfl, Or.inl (by decide)⟩, ⟨6, hW.r rfl, t_Ln6 hW⟩, 13, hW.r rfl, t_Ln13 hW⟩
  refine ⟨hW, fun k ci j lo hi hk hb => ?_, fun k j lo hi hb => ?_, ⟨⟨3, ?_, hRv3⟩, Or.inl ?_, fun j hj => Or.inl ?_, fun j hj => Or.inl ?_, Or.inl ?_, fun k hk => absurd rfl (hno hk).2⟩, fun k n hk => absurd rfl (hno hk.1).1, fun k j hk => absurd rfl (hno hk.1).1⟩
  · obtain ⟨h1, c, hc, he⟩ := W1_cell hR hk
    have h2 := List.all_eq_true.mp w1_fb_t _ (x_lookup_mem hb)
    have h3 := List.all_eq_true.mp h2 k (List.mem_range.mpr h1)
    rw [hc] at h3
    dsimp only at h3
    rw [he] at h3
    dsimp only at h3
    rw [Nat.beq_refl] at h3
    simp only [Bool.not_true, Bool.false_or, Bool.and_eq_true, decide_eq_true_eq] at h3
    have hg : gi k j = x_cI c j := ((x_gc_R hR hc).2.2.2 j (Nat.le_of_ble_eq_true (by rw [← he] at h3; exact h3.1))).1
    rw [hg]
    exact h3.2
  · by_cases hk7 : k = 70
    · subst hk7
      have hb2 : cond (Nat.blt j 1750) (t_abf t_ab7 (j % 350)) none = some (lo, hi) := hb
      cases hj : Nat.blt j 1750 with
      | false => rw [hj] at hb2; cases hb2
      | true =>
        rw [hj] at hb2
        have hb3 : t_abf t_ab7 (j % 350) = some (lo, hi) := hb2
        have hj2 := Nat.blt_eq.mp hj
        have h2 := w1_a70_t
        unfold w1_a70 at h2
        cases hc : x_gc W1 70 with
        | none => rw [hc] at h2; cases h2
        | some c =>
          rw [hc] at h2
          dsimp only at h2
          have h3 := List.all_eq_true.mp h2 (j % 350) (List.mem_range.mpr (by omega))
          rw [hb3] at h3
          dsimp only at h3
          have h4 := List.all_eq_true.mp h3 (j / 350) (List.mem_range.mpr (by omega))
          rw [show 350 * (j / 350) + j % 350 = j by omega] at h4
          have h4 : (Nat.blt j (2 ^ x_dp c.1) && (decide (lo ≤ (x_cI c j).toInt) && decide ((x_cI c j).toInt ≤ hi))) = true := h4
          simp only [Bool.and_eq_true, decide_eq_true_eq] at h4
          have hg : gi 70 j = x_cI c j := ((x_gc_R hR hc).2.2.2 j (Nat.le_of_ble_eq_true h4.1)).1
          rw [hg]
          exact h4.2
    obtain ⟨q, hm, hq1, hq2, hq3⟩ := t_ab_mem3 hb
    have hm : q ∈ t_abo := by
      rcases List.mem_cons.mp hm with e | e
      · rw [e] at hq1; exact absurd hq1.symm hk7
      · exact e
    have h2 := List.all_eq_true.mp w1_ab_t q hm
    cases hc : x_gc W1 q.1 with
    | none => rw [hc] at h2; cases h2
    | some c =>
      rw [hc] at h2
      dsimp only at h2
      have h3 := List.all_eq_true.mp h2 (j - q.2.1) (List.mem_range.mpr (by omega))
      rw [show q.2.1 + (j - q.2.1) = j by omega, hq1, hb] at h3
      have h3 : (Nat.blt j (2 ^ x_dp c.1) && (decide (lo ≤ (x_cI c j).toInt) && decide ((x_cI c j).toInt ≤ hi))) = true := h3
      simp only [Bool.and_eq_true, decide_eq_true_eq] at h3
      have hg : gi q.1 j = x_cI c j := ((x_gc_R hR hc).2.2.2 j (Nat.le_of_ble_eq_true h3.1)).1
      rw [← hq1, hg]
      exact h3.2
  · exact hrd (c := w1_c0) rfl (by decide)
  · exact hrd (c := w1_c0) rfl (by decide)
  · exact (hrd (k := 19) (c := w1_c19) rfl (Nat.lt_of_lt_of_le hj (by decide))).trans (by have h9 : j = 0 ∨ j = 1 ∨ j = 2 := (by omega); rcases h9 with rfl | rfl | rfl <;> rfl)
  · exact (hrd (k := 20) (c := w1_c20) rfl (Nat.lt_of_lt_of_le hj (by decide))).trans (by have h9 : j = 0 ∨ j = 1 ∨ j = 2 := (by omega); rcases h9 with rfl | rfl | rfl <;> rfl)
  · exact hrd (c := w1_c28) rfl (by decide)
theorem W1_H (hR : x_R W1 (sh, gi, gl, gr)) : t_H sh := by
  intro k hk
  obtain ⟨h1, c, hc, he⟩ := W1_cell hR hk
  have h2 := List.all_eq_true.mp w1_no_t k (List.mem_range.mpr h1)
  rw [hc] at h2
  dsimp only at h2
  rw [he] at h2
  cases h2
end XST
/-! the law's own invariant -/
/-- the model's slots: RULES without a step below, a bridge that turns -/
noncomputable def t_J (gi : Nat → Nat → Int32) : Prop := ∀ s : Nat, (s : Int) ≤ (gi 69 75).toInt → t_rpn (gi 70) s ∧ 1 ≤ (gi 70 (350 * s + 4)).toInt
noncomputable def t_LW (c : Nat) (sh : List (Nat ⊕ (Nat × Nat))) (gi : Nat → Nat → Int32) (gr : Nat → Nat → Value) : Prop := t_I sh gi gr ∧ t_H sh ∧ t_J gi ∧ sh.length ≤ 102 + 30 * c ∧ (sh.map x_sz).sum ≤ 60000 + 2000 * c
section XLW
variable {sh : List (Nat ⊕ (Nat × Nat))} {gi g' : Nat → Nat → Int32} {gl : Nat → Nat → Int64} {gr : Nat → Nat → Value}
theorem W1_LW (hR : x_R W1 (sh, gi, gl, gr)) : t_LW 0 sh gi gr := by
  have hrd : ∀ {k j : Nat} {c : x_C}, x_gc W1 k = some c → j < 2 ^ x_dp c.1 → gi k j = x_cI c j := fun hc hj => ((x_gc_R hR hc).2.2.2 _ hj).1
  refine ⟨W1_I hR, W1_H hR, fun s hs => ?_, by rw [W1_len hR]; exact Nat.le_refl _, W1_sz hR⟩
  have h75 : gi 69 75 = 0 := hrd (c := w1_c69) rfl (by decide)
  have h0 : (0 : Int32).toInt = 0 := rfl
  rw [h75] at hs
  have hs : s = 0 := by omega
  subst hs
  refine ⟨fun r hr => ?_, ?_⟩
  · have h3 : gi 70 (350 * 0 + 3) = 0 := hrd (c := w1_c70) rfl (by decide)
    rw [h3] at hr; omega
  · have h4 : gi 70 (350 * 0 + 4) = 5 := hrd (c := w1_c70) rfl (by decide)
    rw [h4]; decide
/-- a slot copied whole keeps its RULES -/
theorem t_rpn_cp {f f' : Nat → Int32} {a b : Nat} (h : ∀ k : Nat, k < 350 → f' (350 * b + k) = f (350 * a + k)) (h3 : (f (350 * a + 3)).toInt ≤ 12) (hh : ∀ r : Nat, r < 12 → (f (350 * a + 101 + 3 * r)).toInt ≤ 210) (H : t_rpn f a) : t_rpn f' b := by
  intro r hr
  rw [h 3 (by omega)] at hr
  have hr12 : r < 12 := by omega
  refine t_good_ext (s := a) (s' := b) ?_ ?_ (fun j hj => ?_) (H r hr)
  · rw [show 350 * b + 100 + 3 * r = 350 * b + (100 + 3 * r) by omega, show 350 * a + 100 + 3 * r = 350 * a + (100 + 3 * r) by omega]; exact h _ (by omega)
  · rw [show 350 * b + 101 + 3 * r = 350 * b + (101 + 3 * r) by omega, show 350 * a + 101 + 3 * r = 350 * a + (101 + 3 * r) by omega]; exact h _ (by omega)
  · have h4 := hh r hr12
    unfold t_hg at hj
    rw [show 350 * b + 140 + j = 350 * b + (140 + j) by omega, show 350 * a + 140 + j = 350 * a + (140 + j) by omega]; exact h _ (by omega)
theorem t_sb (h : t_I sh gi gr) {s : Nat} (hs : s < 5) : (gi 70 (350 * s + 3)).toInt ≤ 12 ∧ ∀ r : Nat, r < 12 → (gi 70 (350 * s + 101 + 3 * r)).toInt ≤ 210 := by
  constructor
  · have h5 : t_ab 70 (350 * s + 3) = some (0, 12) := (t_slotp hs (by omega)).trans (by decide +kernel)
    exact (h.2.2.1 _ _ _ _ h5).2
  · intro r hr
    have h5 : t_ab 70 (350 * s + (101 + 3 * r)) = some (0, 210) := by
      rw [t_slotp hs (by omega)]
      have hr : r = 0 ∨ r = 1 ∨ r = 2 ∨ r = 3 ∨ r = 4 ∨ r = 5 ∨ r = 6 ∨ r = 7 ∨ r = 8 ∨ r = 9 ∨ r = 10 ∨ r = 11 := by omega
      rcases hr with rfl | rfl | rfl | rfl | rfl | rfl | rfl | rfl | rfl | rfl | rfl | rfl <;> decide +kernel
    rw [show 350 * s + 101 + 3 * r = 350 * s + (101 + 3 * r) by omega]
    exact (h.2.2.1 _ _ _ _ h5).2
theorem t_J_ext (hJ : t_J gi) (h1 : g' 69 75 = gi 69 75) (h2 : ∀ j, g' 70 j = gi 70 j) : t_J g' := by
  have h2 : g' 70 = gi 70 := funext h2
  unfold t_J; rw [h1, h2]; exact hJ
/-- slot by slot: each is one that was -/
theorem t_J_slots (hI : t_I sh gi gr) (hJ : t_J gi) (hm : (g' 69 75).toInt ≤ 3) (h : ∀ s : Nat, (s : Int) ≤ (g' 69 75).toInt → ∃ a : Nat, (a : Int) ≤ (gi 69 75).toInt ∧ a < 5 ∧ ∀ k : Nat, k < 350 → g' 70 (350 * s + k) = gi 70 (350 * a + k)) : t_J g' := by
  intro s hs
  obtain ⟨a, h1, h2, h3⟩ := h s hs
  have h4 := t_sb hI h2
  refine ⟨t_rpn_cp h3 h4.1 h4.2 (hJ a h1).1, ?_⟩
  rw [h3 4 (by omega)]; exact (hJ a h1).2
theorem t_J_mark {m : Nat} (hI : t_I sh gi gr) (hJ : t_J gi) (hm : (gi 69 75).toInt = (m : Int)) (hm3 : m < 3) (h1 : (g' 69 75).toInt = (m : Int) + 1) (h2 : ∀ j, g' 70 j = t_cpy (gi 70) 0 (m + 1) 350 j) : t_J g' := by
  refine t_J_slots hI hJ (by omega) (fun s hs => ?_)
  by_cases he : s = m + 1
  · subst he
    refine ⟨0, by omega, by omega, fun k hk => ?_⟩
    rw [h2]; unfold t_cpy
    rw [if_pos (by omega), show 350 * (m + 1) + k - 350 * (m + 1) + 350 * 0 = 350 * 0 + k by omega]
  · refine ⟨s, by omega, by omega, fun k hk => ?_⟩
    rw [h2]; unfold t_cpy
    rw [if_neg (by omega)]
theorem t_J_back {m : Nat} (hI : t_I sh gi gr) (hJ : t_J gi) (hm : (gi 69 75).toInt = (m : Int)) (hm0 : 0 < m) (hm3 : m ≤ 3) (h1 : (g' 69 75).toInt = (m : Int) - 1) (h2 : ∀ j, g' 70 j = t_cpy (gi 70) m 0 350 j) : t_J g' := by
  refine t_J_slots hI hJ (by omega) (fun s hs => ?_)
  by_cases he : s = 0
  · subst he
    refine ⟨m, by omega, by omega, fun k hk => ?_⟩
    rw [h2]; unfold t_cpy
    rw [if_pos (by omega), show 350 * 0 + k - 350 * 0 + 350 * m = 350 * m + k by omega]
  · refine ⟨s, by omega, by omega, fun k hk => ?_⟩
    rw [h2]; unfold t_cpy
    rw [if_neg (by omega)]
/-- slot 0 may be another: as it was, or good -/
theorem t_J_0 (hI : t_I sh gi gr) (hJ : t_J gi) (hm : g' 69 75 = gi 69 75) (hm3 : (gi 69 75).toInt ≤ 3) (h0 : (∀ j : Nat, j < 350 → g' 70 j = gi 70 j) ∨ (t_rpn (g' 70) 0 ∧ 1 ≤ (g' 70 4).toInt)) (hs : ∀ j : Nat, 350 ≤ j → j < 1400 → g' 70 j = gi 70 j) : t_J g' := by
  intro s hs'
  rw [hm] at hs'
  by_cases he : s = 0
  · subst he
    rcases h0 with h0 | h0
    · have h4 := t_sb hI (s := 0) (by omega)
      refine ⟨t_rpn_cp (a := 0) (b := 0) (fun k hk => h0 _ (by omega)) h4.1 h4.2 (hJ 0 (by omega)).1, ?_⟩
      rw [h0 _ (by omega)]; exact (hJ 0 (by omega)).2
    · exact h0
  · have h4 := t_sb hI (s := s) (by omega)
    refine ⟨t_rpn_cp (a := s) (b := s) (fun k hk => hs _ (by omega) (by omega)) h4.1 h4.2 (hJ s hs').1, ?_⟩
    rw [hs _ (by omega) (by omega)]; exact (hJ s hs').2
end XLW
