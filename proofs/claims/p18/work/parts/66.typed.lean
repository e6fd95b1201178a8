/-! ===== typed worlds: the tables ===== -/
noncomputable def t_bd (ci j : Nat) : Option (Int × Int) := t_bdl.lookup (ci, j)
noncomputable def t_bdT : Lean.RArray (Nat × Option ((Int × Int))) := (.branch 1420 (.branch 771 (.branch 266 (.branch 134 (.branch 6 (.leaf (3, some ((0, 30)))) (.leaf (6, some ((0, 4))))) (.branch 136 (.leaf (134, some ((0, 24)))) (.branch 261 (.leaf (136, some ((0, 24)))) (.leaf (261, some ((0, 301))))))) (.branch 512 (.branch 384 (.leaf (266, some ((0, 6)))) (.leaf (384, some ((0, 6))))) (.branch 644 (.leaf (512, some ((0, 6)))) (.branch 768 (.leaf (644, some ((0, 18)))) (.leaf (768, some ((0, 12)))))))) (.branch 1285 (.branch 1026 (.branch 1025 (.leaf (771, some ((0, 300)))) (.leaf (1025, some ((0, 900))))) (.branch 1028 (.leaf (1026, some ((0, 900)))) (.branch 1154 (.leaf (1028, some ((0, 900)))) (.leaf (1154, some (((-1), 60))))))) (.branch 1294 (.branch 1292 (.leaf (1285, some ((0, 900)))) (.leaf (1292, some ((0, 3))))) (.branch 1418 (.leaf (1294, some ((0, 474)))) (.branch 1419 (.leaf (1418, some ((0, 900)))) (.leaf (1419, some ((0, 900))))))))) (.branch 1448 (.branch 1432 (.branch 1422 (.branch 1421 (.leaf (1420, some ((0, 4)))) (.leaf (1421, some ((0, 900))))) (.branch 1430 (.leaf (1422, some ((0, 900)))) (.branch 1431 (.leaf (1430, some ((0, 60)))) (.leaf (1431, some ((0, 6))))))) (.branch 1437 (.branch 1433 (.leaf (1432, some ((0, 24)))) (.leaf (1433, some ((0, 210))))) (.branch 1438 (.leaf (1437, some ((0, 500)))) (.branch 1447 (.leaf (1438, some ((0, 500)))) (.leaf (1447, some ((0, 30)))))))) (.branch 1464 (.branch 1453 (.branch 1452 (.leaf (1448, some ((0, 4)))) (.leaf (1452, some ((0, 6))))) (.branch 1456 (.leaf (1453, some ((0, 6)))) (.branch 1463 (.leaf (1456, some ((0, 20)))) (.leaf (1463, some ((0, 100))))))) (.branch 1472 (.branch 1467 (.leaf (1464, some ((0, 100)))) (.leaf (1467, some ((0, 301))))) (.branch 1473 (.leaf (1472, some ((0, 6)))) (.branch 1483 (.leaf (1473, some ((0, 6)))) (.leaf (1483, some ((0, 3))))))))))
noncomputable abbrev t_bd1 (k j : Nat) : Option (Int × Int) := @Bool.rec (fun _ => Option (Int × Int)) none (x_bt t_bdT (128 * k + j)) (Nat.ble j 127)
theorem t_bdK {k j : Nat} {r : Int × Int} (h : t_bd1 k j = some r) : t_bd k j = some r := by
  unfold t_bd1 at h
  cases hb : Nat.ble j 127 with
  | false => rw [hb] at h; cases h
  | true =>
    rw [hb] at h
    have hj : j ≤ 127 := Nat.le_of_ble_eq_true hb
    have h1 := of_decide_eq_true (x_bt_ok (f := fun q => decide (t_bd (q.1 / 128) (q.1 % 128) = q.2)) (by decide +kernel) h)
    rw [show (128 * k + j) / 128 = k by omega, show (128 * k + j) % 128 = j by omega] at h1
    exact h1
/-- bounds of an array's elements, by cell and place -/
noncomputable def t_abf (l : List (Nat × Nat × (Int × Int))) (j : Nat) : Option (Int × Int) := List.rec (motive := fun _ => Option (Int × Int)) none (fun q _ ih => cond (Nat.ble q.1 j) (cond (Nat.ble j q.2.1) (some q.2.2) ih) ih) l
noncomputable def t_ab (k j : Nat) : Option (Int × Int) := cond (Nat.beq k 70) (cond (Nat.blt j 1750) (t_abf t_ab7 (j % 350)) none) ((t_abo.find? (fun q => q.1 == k && (decide (q.2.1 ≤ j) && decide (j ≤ q.2.2.1)))).map (fun q => q.2.2.2))
/-- references that no instruction behind the constructors writes -/
noncomputable def t_fin (ci j : Nat) : Bool := t_finl.any (fun q => q.1 == ci && q.2 == j)
theorem t_abl_ok : (t_abl.all (fun q => decide (q.1 < 102) && (match x_sh0[q.1]? with | some (.inr _) => true | _ => false))) = true := by decide +kernel
theorem t_ab_mem3 {k j : Nat} {b : Int × Int} (h : t_ab k j = some b) : ∃ q ∈ t_abl, q.1 = k ∧ q.2.1 ≤ j ∧ j ≤ q.2.2.1 := by
  unfold t_ab at h
  cases hk : Nat.beq k 70 with
  | true =>
    rw [hk] at h
    have h : cond (Nat.blt j 1750) (t_abf t_ab7 (j % 350)) none = some b := h
    have e := Nat.eq_of_beq_eq_true hk
    cases hj : Nat.blt j 1750 with
    | true => exact ⟨(70, 0, 1749, (0, 0)), List.mem_cons_self, e.symm, Nat.zero_le _, Nat.le_of_lt_succ (Nat.blt_eq.mp hj)⟩
    | false => rw [hj] at h; cases h
  | false =>
    rw [hk] at h
    have h : ((t_abo.find? (fun q => q.1 == k && (decide (q.2.1 ≤ j) && decide (j ≤ q.2.2.1)))).map (fun q => q.2.2.2)) = some b := h
    cases hf : t_abo.find? (fun q => q.1 == k && (decide (q.2.1 ≤ j) && decide (j ≤ q.2.2.1))) with
    | none => rw [hf] at h; cases h
    | some q =>
      have h1 := List.find?_some hf
      simp only [Bool.and_eq_true, beq_iff_eq, decide_eq_true_eq] at h1
      exact ⟨q, List.mem_cons_of_mem _ (List.mem_of_find?_eq_some hf), h1.1, h1.2.1, h1.2.2⟩
theorem t_ab_mem {k j : Nat} {b : Int × Int} (h : t_ab k j = some b) : ∃ q ∈ t_abl, q.1 = k := by
  obtain ⟨q, h1, h2, _⟩ := t_ab_mem3 h
  exact ⟨q, h1, h2⟩
theorem t_ab_arr {k j : Nat} {b : Int × Int} (h : t_ab k j = some b) : k < 102 ∧ ∃ q, x_sh0[k]? = some (.inr q) := by
  obtain ⟨q, hm, rfl⟩ := t_ab_mem h
  have h1 := List.all_eq_true.mp t_abl_ok q hm
  rw [Bool.and_eq_true, decide_eq_true_eq] at h1
  refine ⟨h1.1, ?_⟩
  have h2 := h1.2
  split at h2
  · next q' he => exact ⟨q', he⟩
  · cases h2
/-- not a cell of the model -/
noncomputable def t_out (a : Nat) : Prop := a < 69 ∨ 102 ≤ a
section TI
variable (sh : List (Nat ⊕ (Nat × Nat))) (gi : Nat → Nat → Int32) (gr : Nat → Nat → Value)
/-- the field is an array of this type and length, none of the model's -/
noncomputable def t_ar (k j t n : Nat) : Prop := ∃ a, gr k j = .ref a ∧ sh[a]? = some (.inr (t, n)) ∧ t_out a
noncomputable def t_Ln (k : Nat) : Prop := sh[k]? = some (.inl 3) ∧ t_ar sh gr k 1 0 6 ∧ t_ar sh gr k 2 0 6 ∧ t_ar sh gr k 3 0 6 ∧ t_ar sh gr k 4 0 6 ∧ t_ar sh gr k 5 3 6
noncomputable def t_Rv (k : Nat) : Prop := sh[k]? = some (.inl 4) ∧ t_ar sh gr k 1 1 6 ∧ t_ar sh gr k 2 1 6 ∧ t_ar sh gr k 8 0 6 ∧ (∃ a, gr k 7 = .ref a ∧ t_Ln sh gr a) ∧ (∃ a, gr k 9 = .ref a ∧ t_Ln sh gr a)
noncomputable def t_Ru (k : Nat) : Prop := sh[k]? = some (.inl 6) ∧ 102 ≤ k ∧ gr k 1 = .ref (k + 1) ∧ gr k 2 = .ref (k + 2) ∧ sh[k + 1]? = some (.inr (0, 12)) ∧ sh[k + 2]? = some (.inr (0, 12)) ∧ ∃ n, n ≤ 300 ∧ gr k 4 = .ref (k + 3) ∧ gr k 5 = .ref (k + 4) ∧ gr k 6 = .ref (k + 5) ∧ sh[k + 3]? = some (.inr (0, n)) ∧ sh[k + 4]? = some (.inr (0, n)) ∧ sh[k + 5]? = some (.inr (0, n))
noncomputable def t_RvN (v : Value) : Prop := v = .null ∨ ∃ k, v = .ref k ∧ t_Rv sh gr k
noncomputable def t_RuN (v : Value) : Prop := v = .null ∨ ∃ k, v = .ref k ∧ t_Ru sh gr k
noncomputable def t_KwN (v : Value) : Prop := v = .null ∨ ∃ i, v = .retAddr i ∧ i < 27
noncomputable def t_refs : Prop := (∃ k, gr 0 6 = .ref k ∧ t_Rv sh gr k) ∧ t_RuN sh gr (gr 0 7) ∧ (∀ j, j < 3 → t_RvN sh gr (gr 19 j)) ∧ (∀ j, j < 3 → t_RuN sh gr (gr 20 j)) ∧ t_RvN sh gr (gr 28 0) ∧ ∀ k, sh[k]? = some (.inl 8) → t_KwN (gr k 7)
noncomputable def t_stp : Prop := (∀ k n, t_Ru sh gr k → sh[k + 3]? = some (.inr (0, n)) → (gi k 3).toInt ≤ n) ∧ ∀ k j, t_Ru sh gr k → 0 ≤ (gi (k + 2) j).toInt
noncomputable def t_I : Prop := x_WF sh gr ∧
  (∀ k ci j lo hi, sh[k]? = some (.inl ci) → t_bd ci j = some (lo, hi) → lo ≤ (gi k j).toInt ∧ (gi k j).toInt ≤ hi) ∧
  (∀ k j lo hi, t_ab k j = some (lo, hi) → lo ≤ (gi k j).toInt ∧ (gi k j).toInt ≤ hi) ∧ t_refs sh gr ∧ t_stp sh gi gr
/-- the same references that stay -/
noncomputable def t_eqf (gr' : Nat → Nat → Value) : Prop := ∀ k ci j, sh[k]? = some (.inl ci) → t_fin ci j = true → gr' k j = gr k j
end TI
section TI2
variable {sh : List (Nat ⊕ (Nat × Nat))} {gi : Nat → Nat → Int32} {gl : Nat → Nat → Int64} {gr gr' : Nat → Nat → Value}
theorem t_ar.ext {k j t n ci : Nat} (h : t_ar sh gr k j t n) (hk : sh[k]? = some (.inl ci)) (hf : t_fin ci j = true) (he : t_eqf sh gr gr') : t_ar sh gr' k j t n := by
  obtain ⟨a, h1, h2⟩ := h
  exact ⟨a, by rw [he k ci j hk hf]; exact h1, h2⟩
theorem t_Ln.ext {k : Nat} (h : t_Ln sh gr k) (he : t_eqf sh gr gr') : t_Ln sh gr' k :=
  ⟨h.1, h.2.1.ext h.1 rfl he, h.2.2.1.ext h.1 rfl he, h.2.2.2.1.ext h.1 rfl he, h.2.2.2.2.1.ext h.1 rfl he, h.2.2.2.2.2.ext h.1 rfl he⟩
theorem t_Rv.ext {k : Nat} (h : t_Rv sh gr k) (he : t_eqf sh gr gr') : t_Rv sh gr' k := by
  obtain ⟨h0, h1, h2, h3, ⟨a, h4, h5⟩, b, h6, h7⟩ := h
  exact ⟨h0, h1.ext h0 rfl he, h2.ext h0 rfl he, h3.ext h0 rfl he, ⟨a, by rw [he k 4 7 h0 rfl]; exact h4, h5.ext he⟩, b, by rw [he k 4 9 h0 rfl]; exact h6, h7.ext he⟩
theorem t_Ru.ext {k : Nat} (h : t_Ru sh gr k) (he : t_eqf sh gr gr') : t_Ru sh gr' k := by
  obtain ⟨h0, h1, h2, h3, h4, h5, n, h6, h7, h8, h9, h10⟩ := h
  exact ⟨h0, h1, by rw [he k 6 1 h0 rfl]; exact h2, by rw [he k 6 2 h0 rfl]; exact h3, h4, h5, n, h6, by rw [he k 6 4 h0 rfl]; exact h7, by rw [he k 6 5 h0 rfl]; exact h8, by rw [he k 6 6 h0 rfl]; exact h9, h10⟩
theorem t_eqf.sy (h : t_eqf sh gr gr') : t_eqf sh gr' gr := fun k ci j hk hf => (h k ci j hk hf).symm
theorem t_stp.ext (h : t_stp sh gi gr) (he : t_eqf sh gr gr') : t_stp sh gi gr' := ⟨fun k n hk hn => h.1 k n (hk.ext he.sy) hn, fun k j hk => h.2 k j (hk.ext he.sy)⟩
/-- the arrays of Rules lie apart -/
theorem t_Ru.ne {k k' m : Nat} (h : t_Ru sh gr k) (h' : t_Ru sh gr k') (hm : m = 1 ∨ m = 3 ∨ m = 4 ∨ m = 5) : k + m ≠ k' + 2 := by
  intro e
  obtain ⟨h0, _, _, _, h4, h5, n, _, _, _, _, h6, h7, h8⟩ := h'
  have hk := h.1
  rcases hm with rfl | rfl | rfl | rfl
  · rw [show k = k' + 1 by omega, h4] at hk; cases hk
  · have e2 : k' = k + 1 := by omega
    rw [e2, h.2.2.2.2.1] at h0; cases h0
  · have e2 : k' = k + 2 := by omega
    rw [e2, h.2.2.2.2.2.1] at h0; cases h0
  · have e2 : k' = k + 3 := by omega
    obtain ⟨_, _, _, _, _, _, n', _, _, _, _, g6, _⟩ := h
    rw [e2, g6] at h0; cases h0
theorem t_RvN.ext {v : Value} (h : t_RvN sh gr v) (he : t_eqf sh gr gr') : t_RvN sh gr' v := h.imp id (fun ⟨k, h1, h2⟩ => ⟨k, h1, h2.ext he⟩)
theorem t_RuN.ext {v : Value} (h : t_RuN sh gr v) (he : t_eqf sh gr gr') : t_RuN sh gr' v := h.imp id (fun ⟨k, h1, h2⟩ => ⟨k, h1, h2.ext he⟩)
theorem t_I.wf (h : t_I sh gi gr) : x_WF sh gr := h.1
/-- a field's bounds -/
theorem t_I.b (h : t_I sh gi gr) {k ci j : Nat} {lo hi : Int} (hk : sh[k]? = some (.inl ci)) (hb : t_bd ci j = some (lo, hi)) : lo ≤ (gi k j).toInt ∧ (gi k j).toInt ≤ hi := h.2.1 k ci j lo hi hk hb
/-- bounds over a stretch of an array -/
noncomputable def t_abr (k i j : Nat) (lo hi : Int) : Bool := (List.range (j + 1 - i)).all (fun q => match t_ab k (i + q) with | some b => decide (lo ≤ b.1) && decide (b.2 ≤ hi) | none => false)
theorem t_I.ab (h : t_I sh gi gr) {k i j m : Nat} {lo hi : Int} (hb : t_abr k i j lo hi = true) (h1 : i ≤ m) (h2 : m ≤ j) : lo ≤ (gi k m).toInt ∧ (gi k m).toInt ≤ hi := by
  unfold t_abr at hb
  have h3 := List.all_eq_true.mp hb (m - i) (List.mem_range.mpr (by omega))
  rw [show i + (m - i) = m by omega] at h3
  cases hc : t_ab k m with
  | none => rw [hc] at h3; cases h3
  | some b =>
    rw [hc] at h3
    simp only [Bool.and_eq_true, decide_eq_true_eq] at h3
    obtain ⟨h4, h5⟩ := h.2.2.1 k m b.1 b.2 hc
    exact ⟨by omega, by omega⟩
theorem t_noarr {k ci j : Nat} (h : x_WF sh gr) (hk : sh[k]? = some (.inl ci)) : t_ab k j = none := by
  cases hc : t_ab k j with
  | none => rfl
  | some b =>
    obtain ⟨_, q, hq⟩ := t_ab_arr hc
    have h1 := h.s0 hq
    rw [hk] at h1; cases h1
/-- what is written fits -/
theorem t_I.putG (h : t_I sh gi gr) {k ci j : Nat} {x : Int32} (hk : sh[k]? = some (.inl ci)) (hb : ∀ lo hi, t_bd ci j = some (lo, hi) → lo ≤ x.toInt ∧ x.toInt ≤ hi) (hs : ci = 6 → j = 3 → ∀ n, sh[k + 3]? = some (.inr (0, n)) → x.toInt ≤ n) : t_I sh (x_up2 gi k j x) gr := by
  obtain ⟨h1, h2, h3, h4, h5⟩ := h
  refine ⟨h1, ?_, ?_, h4, ?_⟩
  · intro k' ci' j' lo hi hk' hb'
    by_cases hq : k' = k ∧ j' = j
    · obtain ⟨rfl, rfl⟩ := hq
      rw [hk] at hk'; cases hk'
      rw [x_up2_at]; exact hb lo hi hb'
    · rw [x_up2_off (by omega)]; exact h2 k' ci' j' lo hi hk' hb'
  · intro k' j' lo hi hb'
    have hne : k' ≠ k := by
      rintro rfl
      rw [t_noarr h1 hk] at hb'; cases hb'
    rw [x_up2_off (Or.inl hne)]; exact h3 k' j' lo hi hb'
  · refine ⟨fun k' n hk' hn => ?_, fun k' j' hk' => ?_⟩
    · by_cases hq : k' = k ∧ 3 = j
      · obtain ⟨rfl, rfl⟩ := hq
        have h6 := hk'.1
        rw [hk] at h6; cases h6
        rw [x_up2_at]; exact hs rfl rfl n hn
      · rw [x_up2_off (by omega)]; exact h5.1 k' n hk' hn
    · have hne : k' + 2 ≠ k := by
        rintro rfl
        have := hk'.2.2.2.2.2.1
        rw [hk] at this; cases this
      rw [x_up2_off (Or.inl hne)]; exact h5.2 k' j' hk'
theorem t_I.put0 (h : t_I sh gi gr) {k ci j : Nat} {x : Int32} (hk : sh[k]? = some (.inl ci)) (hb : t_bd ci j = none) (h6 : (ci == 6 && j == 3) = false) : t_I sh (x_up2 gi k j x) gr :=
  h.putG hk (fun lo hi q => by rw [hb] at q; cases q) (fun a b => by subst a; subst b; cases h6)
theorem t_I.putB (h : t_I sh gi gr) {k ci j : Nat} {x : Int32} {lo hi l u : Int} (hk : sh[k]? = some (.inl ci)) (hb : t_bd ci j = some (lo, hi)) (h6 : (ci == 6 && j == 3) = false) (a1 : l ≤ x.toInt) (b1 : decide (lo ≤ l) = true) (a2 : x.toInt ≤ u) (b2 : decide (u ≤ hi) = true) : t_I sh (x_up2 gi k j x) gr :=
  h.putG hk (fun lo' hi' q => by rw [hb] at q; cases q; have := of_decide_eq_true b1; have := of_decide_eq_true b2; exact ⟨by omega, by omega⟩) (fun a b => by subst a; subst b; cases h6)
theorem t_noobj {a k ci : Nat} {q : Nat × Nat} (ha : sh[a]? = some (.inr q)) (hk : sh[k]? = some (.inl ci)) : k ≠ a := by
  rintro rfl; rw [ha] at hk; cases hk
theorem t_I.astG (h : t_I sh gi gr) {a j : Nat} {q : Nat × Nat} {x : Int32} (ha : sh[a]? = some (.inr q)) (hb : ∀ lo hi, t_ab a j = some (lo, hi) → lo ≤ x.toInt ∧ x.toInt ≤ hi) (hd : ∀ k, t_Ru sh gr k → a = k + 2 → 0 ≤ x.toInt) : t_I sh (x_up2 gi a j x) gr := by
  obtain ⟨h1, h2, h3, h4, h5⟩ := h
  refine ⟨h1, ?_, ?_, h4, ?_⟩
  · intro k' ci' j' lo hi hk' hb'
    rw [x_up2_off (Or.inl (t_noobj ha hk'))]; exact h2 k' ci' j' lo hi hk' hb'
  · intro k' j' lo hi hb'
    by_cases hq : k' = a ∧ j' = j
    · obtain ⟨rfl, rfl⟩ := hq
      rw [x_up2_at]; exact hb lo hi hb'
    · rw [x_up2_off (by omega)]; exact h3 k' j' lo hi hb'
  · refine ⟨fun k' n hk' hn => ?_, fun k' j' hk' => ?_⟩
    · rw [x_up2_off (Or.inl (t_noobj ha hk'.1))]; exact h5.1 k' n hk' hn
    · by_cases hq : k' + 2 = a ∧ j' = j
      · obtain ⟨rfl, rfl⟩ := hq
        rw [x_up2_at]; exact hd k' hk' rfl
      · rw [x_up2_off (by omega)]; exact h5.2 k' j' hk'
/-- no bounded array of the class has this type and length -/
noncomputable def t_shb (q : Nat × Nat) : Bool := t_abl.all (fun b => !decide (b.1 < 69) || (match x_sh0[b.1]? with | some (.inr q') => !(q'.1 == q.1 && q'.2 == q.2) | _ => false))
noncomputable def t_abm : Bool := t_abl.all (fun b => decide (b.1 < 102))
theorem t_ab_out {a j : Nat} {q : Nat × Nat} (h : x_WF sh gr) (ha : sh[a]? = some (.inr q)) (ho : t_out a) (hs : t_shb q = true) : t_ab a j = none := by
  cases hc : t_ab a j with
  | none => rfl
  | some b =>
    exfalso
    obtain ⟨h1, q', hq'⟩ := t_ab_arr hc
    obtain ⟨e, hm, rfl⟩ := t_ab_mem hc
    have h2 := List.all_eq_true.mp hs e hm
    have h3 := h.s0 hq'
    rw [ha] at h3; cases h3
    rcases ho with ho | ho
    · rw [hq'] at h2
      simp [ho] at h2
    · omega
theorem t_I.astO (h : t_I sh gi gr) {a j : Nat} {q : Nat × Nat} {x : Int32} (ha : sh[a]? = some (.inr q)) (ho : t_out a) (hs : (t_shb q && !(q.1 == 0 && q.2 == 12)) = true) : t_I sh (x_up2 gi a j x) gr := by
  rw [Bool.and_eq_true] at hs
  exact h.astG ha (fun lo hi e => by rw [t_ab_out h.1 ha ho hs.1] at e; cases e) (fun k hk e => by
    subst e
    have := hk.2.2.2.2.2.1
    rw [ha] at this; cases this; cases hs.2)
theorem t_I.astD (h : t_I sh gi gr) {a j : Nat} {q : Nat × Nat} {x : Int32} (ha : sh[a]? = some (.inr q)) (ho : 102 ≤ a) (hd : ∀ k, t_Ru sh gr k → a = k + 2 → 0 ≤ x.toInt) : t_I sh (x_up2 gi a j x) gr :=
  h.astG ha (fun lo hi e => by have := (t_ab_arr e).1; omega) hd
/-- over a stretch of a cell's places, x fits -/
noncomputable def t_abw (k i j : Nat) (l u : Int) : Bool := (List.range (j + 1 - i)).all (fun q => match t_ab k (i + q) with | some b => decide (b.1 ≤ l) && decide (u ≤ b.2) | none => true)
theorem t_I.astL (h : t_I sh gi gr) {a i j m : Nat} {q : Nat × Nat} {x : Int32} {l u : Int} (ha : sh[a]? = some (.inr q)) (hw : t_abw a i j l u = true) (h1 : i ≤ m) (h2 : m ≤ j) (a1 : l ≤ x.toInt) (a2 : x.toInt ≤ u) (ho : decide (a < 102) = true) : t_I sh (x_up2 gi a m x) gr := by
  have ho := of_decide_eq_true ho
  refine h.astG ha (fun lo hi e => ?_) (fun k hk e => by have := hk.2.1; omega)
  have h3 := List.all_eq_true.mp hw (m - i) (List.mem_range.mpr (by omega))
  rw [show i + (m - i) = m by omega, e] at h3
  simp only [Bool.and_eq_true, decide_eq_true_eq] at h3
  exact ⟨by omega, by omega⟩
/-- a cell's code: itself, or for those that are made later 110 and the class, 130 and the elements' type -/
noncomputable def t_cs : Nat ⊕ (Nat × Nat) → Nat | .inl c => 110 + c | .inr q => 130 + q.1
noncomputable def t_cd (sh : List (Nat ⊕ (Nat × Nat))) (k : Nat) : Nat := if k < 102 then k else match sh[k]? with | some s => t_cs s | none => 102
/-- what may be written: cell (by its code) and place (9999: all) -/
noncomputable def t_cov (c j : Nat) : Bool := c == 9999 || (c == j || (Nat.ble 10000 c && (Nat.ble ((c - 10000) / 100000) j && Nat.ble j ((c - 10000) % 100000))))
noncomputable def t_in (wl : List (Nat × Nat)) (k j : Nat) : Bool := wl.any (fun q => q.1 == k && t_cov q.2 j)
noncomputable def t_X (wl : List (Nat × Nat)) (sh : List (Nat ⊕ (Nat × Nat))) (gi : Nat → Nat → Int32) (gl : Nat → Nat → Int64) (gr : Nat → Nat → Value) (gi' : Nat → Nat → Int32) (gl' : Nat → Nat → Int64) (gr' : Nat → Nat → Value) : Prop :=
  (∀ k j, t_in wl (t_cd sh k) j = false → gi' k j = gi k j ∧ gl' k j = gl k j ∧ gr' k j = gr k j) ∧ t_eqf sh gr gr'
noncomputable def t_sub (wc wl : List (Nat × Nat)) : Bool := wc.all (fun q => wl.any (fun r => r.1 == q.1 && (r.2 == 9999 || r.2 == q.2)))
theorem t_sub_ok {wc wl : List (Nat × Nat)} (h : t_sub wc wl = true) {k j : Nat} (hn : t_in wl k j = false) : t_in wc k j = false := by
  cases hc : t_in wc k j with
  | false => rfl
  | true =>
    exfalso
    obtain ⟨q, hq, hq2⟩ := List.any_eq_true.mp hc
    obtain ⟨r, hr, hr2⟩ := List.any_eq_true.mp (List.all_eq_true.mp h q hq)
    have : t_in wl k j = true := List.any_eq_true.mpr ⟨r, hr, by
      simp only [Bool.and_eq_true, Bool.or_eq_true, beq_iff_eq] at hq2 hr2 ⊢
      refine ⟨hr2.1.trans hq2.1, ?_⟩
      rcases hr2.2 with h | h
      · unfold t_cov; rw [h]; rfl
      · rw [h]; exact hq2.2⟩
    rw [hn] at this; cases this
theorem t_eqf.rf : t_eqf sh gr gr := fun _ _ _ _ _ => rfl
theorem t_eqf.tr {gr'' : Nat → Nat → Value} (h : t_eqf sh gr gr') (g : t_eqf sh gr' gr'') : t_eqf sh gr gr'' := fun k ci j hk hf => (g k ci j hk hf).trans (h k ci j hk hf)
variable {wl wc : List (Nat × Nat)} {gi' gi'' : Nat → Nat → Int32} {gl' gl'' : Nat → Nat → Int64} {gr'' : Nat → Nat → Value}
theorem t_X.rf : t_X wl sh gi gl gr gi gl gr := ⟨fun _ _ _ => ⟨rfl, rfl, rfl⟩, t_eqf.rf⟩
theorem t_X.tr (h : t_X wl sh gi gl gr gi' gl' gr') (g : t_X wc sh gi' gl' gr' gi'' gl'' gr'') (hs : t_sub wc wl = true) : t_X wl sh gi gl gr gi'' gl'' gr'' :=
  ⟨fun k j hn => by
    obtain ⟨a1, a2, a3⟩ := h.1 k j hn
    obtain ⟨b1, b2, b3⟩ := g.1 k j (t_sub_ok hs hn)
    exact ⟨b1.trans a1, b2.trans a2, b3.trans a3⟩, h.2.tr g.2⟩
theorem t_X.up {k j : Nat} (h : t_X wl sh gi gl gr gi' gl' gr') (hi : t_in wl (t_cd sh k) j = true) (hg : ∀ a b, (a ≠ k ∨ b ≠ j) → gi'' a b = gi' a b ∧ gl'' a b = gl' a b ∧ gr'' a b = gr' a b) (he : t_eqf sh gr' gr'') : t_X wl sh gi gl gr gi'' gl'' gr'' :=
  ⟨fun a b hn => by
    have hne : a ≠ k ∨ b ≠ j := by
      by_cases ha : a = k
      · by_cases hb : b = j
        · subst ha; subst hb; rw [hi] at hn; cases hn
        · exact Or.inr hb
      · exact Or.inl ha
    obtain ⟨a1, a2, a3⟩ := h.1 a b hn
    obtain ⟨b1, b2, b3⟩ := hg a b hne
    exact ⟨b1.trans a1, b2.trans a2, b3.trans a3⟩, h.2.tr he⟩
theorem t_X.upI {k j : Nat} {x : Int32} (h : t_X wl sh gi gl gr gi' gl' gr') (hi : t_in wl (t_cd sh k) j = true) : t_X wl sh gi gl gr (x_up2 gi' k j x) gl' gr' :=
  h.up hi (fun _ _ q => ⟨x_up2_off q, rfl, rfl⟩) t_eqf.rf
theorem t_X.upL {k j : Nat} {x : Int64} (h : t_X wl sh gi gl gr gi' gl' gr') (hi : t_in wl (t_cd sh k) j = true) : t_X wl sh gi gl gr gi' (x_up2 gl' k j x) gr' :=
  h.up hi (fun _ _ q => ⟨rfl, x_up2_off q, rfl⟩) t_eqf.rf
theorem t_eqf_up {k j ci : Nat} {v : Value} (hk : sh[k]? = some (.inl ci)) (hf : t_fin ci j = false) : t_eqf sh gr (x_up2 gr k j v) := fun k' ci' j' hk' hf' => by
  refine x_up2_off ?_
  by_cases ha : k' = k
  · right
    rintro rfl
    subst ha
    rw [hk] at hk'; cases hk'
    rw [hf] at hf'; cases hf'
  · exact Or.inl ha
theorem t_eqf_upA {k j : Nat} {q : Nat × Nat} {v : Value} (hk : sh[k]? = some (.inr q)) : t_eqf sh gr (x_up2 gr k j v) := fun k' ci' j' hk' _ => x_up2_off (Or.inl (t_noobj hk hk'))
theorem t_X.upR {k j : Nat} {v : Value} (h : t_X wl sh gi gl gr gi' gl' gr') (hi : t_in wl (t_cd sh k) j = true) (he : t_eqf sh gr' (x_up2 gr' k j v)) : t_X wl sh gi gl gr gi' gl' (x_up2 gr' k j v) :=
  h.up hi (fun _ _ q => ⟨rfl, rfl, x_up2_off q⟩) he
/-- a cell that is known by its shape alone: all cells of the class with that shape may be written -/
noncomputable def t_allc (wl : List (Nat × Nat)) (s : Nat ⊕ (Nat × Nat)) (j : Nat) : Bool := t_in wl (t_cs s) j && (List.range 69).all (fun q => (match x_sh0[q]? with | some s' => !x_eS s' s | none => true) || t_in wl q j)
noncomputable def t_nallc (wl : List (Nat × Nat)) (s : Nat ⊕ (Nat × Nat)) (j : Nat) : Bool := !t_in wl (t_cs s) j && (List.range 69).all (fun q => (match x_sh0[q]? with | some s' => !x_eS s' s | none => true) || !t_in wl q j)
theorem x_eS_rf (s : Nat ⊕ (Nat × Nat)) : x_eS s s = true := by
  cases s with
  | inl a => exact Nat.beq_refl a
  | inr q => show (Nat.beq q.1 q.1 && Nat.beq q.2 q.2) = true; rw [Nat.beq_refl, Nat.beq_refl]; rfl
theorem t_sh0_len : x_sh0.length = 102 := by decide +kernel
theorem t_cell {k : Nat} {s : Nat ⊕ (Nat × Nat)} (h : x_WF sh gr) (hk : sh[k]? = some s) (ho : k < 69) : x_sh0[k]? = some s := by
  have h2 : k < x_sh0.length := by rw [t_sh0_len]; omega
  have h3 : x_sh0[k]? = some (x_sh0[k]) := List.getElem?_eq_getElem h2
  have h4 := h.s0 h3
  rw [hk] at h4
  rw [h3]; exact h4.symm
theorem t_inO {k j : Nat} {s : Nat ⊕ (Nat × Nat)} (h : x_WF sh gr) (hk : sh[k]? = some s) (ho : t_out k) (ha : t_allc wl s j = true) : t_in wl (t_cd sh k) j = true := by
  unfold t_allc at ha
  rw [Bool.and_eq_true] at ha
  unfold t_cd
  rcases ho with ho | ho
  · rw [if_pos (by omega)]
    have h1 := List.all_eq_true.mp ha.2 k (List.mem_range.mpr ho)
    rw [t_cell h hk ho] at h1
    simpa [x_eS_rf] using h1
  · rw [if_neg (by omega), hk]; exact ha.1
theorem t_ninO {k j : Nat} {s : Nat ⊕ (Nat × Nat)} (h : x_WF sh gr) (hk : sh[k]? = some s) (ho : t_out k) (ha : t_nallc wl s j = true) : t_in wl (t_cd sh k) j = false := by
  unfold t_nallc at ha
  rw [Bool.and_eq_true] at ha
  unfold t_cd
  rcases ho with ho | ho
  · rw [if_pos (by omega)]
    have h1 := List.all_eq_true.mp ha.2 k (List.mem_range.mpr ho)
    rw [t_cell h hk ho] at h1
    simpa [x_eS_rf] using h1
  · rw [if_neg (by omega), hk]
    have := ha.1
    simpa using this
/-- a stretch of places: 10000 + 100000 * first + last -/
theorem t_inR {k p m : Nat} {i : Int32} {l u : Int} (h : wl.any (fun q => q.1 == k && q.2 == 10000 + 100000 * p + m) = true) (a1 : l ≤ i.toInt) (h1 : decide ((p : Int) ≤ l) = true) (a2 : i.toInt ≤ u) (h2 : decide (u ≤ (m : Int)) = true) (h3 : decide (m < 100000) = true) : t_in wl k i.toNatClampNeg = true := by
  obtain ⟨q, hq, hq2⟩ := List.any_eq_true.mp h
  have h1 := of_decide_eq_true h1
  have h2 := of_decide_eq_true h2
  have h3 := of_decide_eq_true h3
  refine List.any_eq_true.mpr ⟨q, hq, ?_⟩
  rw [Bool.and_eq_true] at hq2 ⊢
  refine ⟨hq2.1, ?_⟩
  have e : q.2 = 10000 + 100000 * p + m := by simpa using hq2.2
  have h4 : (i.toNatClampNeg : Int) = i.toInt := by show ((i.toInt.toNat : Nat) : Int) = _; omega
  unfold t_cov
  rw [e, show (10000 + 100000 * p + m - 10000) / 100000 = p by omega, show (10000 + 100000 * p + m - 10000) % 100000 = m by omega]
  have e1 : Nat.ble 10000 (10000 + 100000 * p + m) = true := Nat.ble_eq_true_of_le (by omega)
  have e2 : Nat.ble p i.toNatClampNeg = true := Nat.ble_eq_true_of_le (by omega)
  have e3 : Nat.ble i.toNatClampNeg m = true := Nat.ble_eq_true_of_le (by omega)
  rw [e1, e2, e3]
  simp
/-- ahead of all that may be written of a cell -/
theorem t_nR {k n j : Nat} (h : wl.all (fun q => !(q.1 == k) || (Nat.ble 10000 q.2 && Nat.ble n ((q.2 - 10000) / 100000))) = true) (hn : decide (n ≤ 9999) = true) (hj : j < n) : t_in wl k j = false := by
  have hn := of_decide_eq_true hn
  cases hc : t_in wl k j with
  | false => rfl
  | true =>
    exfalso
    obtain ⟨q, hq, hq2⟩ := List.any_eq_true.mp hc
    have h1 := List.all_eq_true.mp h q hq
    rw [Bool.and_eq_true] at hq2
    rw [hq2.1] at h1
    simp only [Bool.not_true, Bool.false_or, Bool.and_eq_true] at h1
    have h2 := Nat.le_of_ble_eq_true h1.1
    have h3 := Nat.le_of_ble_eq_true h1.2
    have h4 := hq2.2
    unfold t_cov at h4
    simp only [Bool.or_eq_true, Bool.and_eq_true, beq_iff_eq] at h4
    rcases h4 with h4 | h4 | h4
    · omega
    · omega
    · have := Nat.le_of_ble_eq_true h4.2.1; omega
/-- whole arrays -/
noncomputable def t_inA (wl : List (Nat × Nat)) (k : Nat) : Bool := wl.any (fun q => q.1 == k && q.2 == 9999)
theorem t_inA_ok {k j : Nat} (h : t_inA wl k = true) : t_in wl k j = true := by
  obtain ⟨q, hq, hq2⟩ := List.any_eq_true.mp h
  refine List.any_eq_true.mpr ⟨q, hq, ?_⟩
  rw [Bool.and_eq_true] at hq2 ⊢
  refine ⟨hq2.1, ?_⟩
  unfold t_cov; rw [hq2.2]; rfl
noncomputable def t_allA (wl : List (Nat × Nat)) (s : Nat ⊕ (Nat × Nat)) : Bool := t_inA wl (t_cs s) && (List.range 69).all (fun q => (match x_sh0[q]? with | some s' => !x_eS s' s | none => true) || t_inA wl q)
theorem t_allA_ok {s : Nat ⊕ (Nat × Nat)} {j : Nat} (h : t_allA wl s = true) : t_allc wl s j = true := by
  unfold t_allA at h
  rw [Bool.and_eq_true, List.all_eq_true] at h
  unfold t_allc
  rw [Bool.and_eq_true, List.all_eq_true]
  refine ⟨t_inA_ok h.1, fun q hq => ?_⟩
  have h1 := h.2 q hq
  rw [Bool.or_eq_true] at h1 ⊢
  exact h1.imp id t_inA_ok
theorem t_inOD {k j : Nat} {q : Nat × Nat} (hk : sh[k]? = some (.inr q)) (ho : 102 ≤ k) (ha : t_inA wl (130 + q.1) = true) : t_in wl (t_cd sh k) j = true := by
  unfold t_cd
  rw [if_neg (by omega), hk]
  exact t_inA_ok ha
theorem t_inOA {k j : Nat} {s : Nat ⊕ (Nat × Nat)} (h : x_WF sh gr) (hk : sh[k]? = some s) (ho : t_out k) (ha : t_allA wl s = true) : t_in wl (t_cd sh k) j = true := t_inO h hk ho (t_allA_ok ha)
theorem t_nob {k j : Nat} (h : (t_abl.all (fun q => !(q.1 == k))) = true) (b : Int × Int) : ¬ t_ab k j = some b := by
  intro e
  obtain ⟨q, hm, rfl⟩ := t_ab_mem e
  have := List.all_eq_true.mp h q hm
  simp at this
/-- a whole array of ints anew -/
theorem t_I.arr (h : t_I sh gi gr) {k : Nat} {q : Nat × Nat} {f : Nat → Int32} (ha : sh[k]? = some (.inr q)) (hb : ∀ j lo hi, t_ab k j = some (lo, hi) → lo ≤ (f j).toInt ∧ (f j).toInt ≤ hi) (ho : k < 102) : t_I sh (fun a => if a = k then f else gi a) gr := by
  obtain ⟨h1, h2, h3, h4, h5⟩ := h
  refine ⟨h1, ?_, ?_, h4, ?_, ?_⟩
  · intro k' ci' j' lo hi hk' hb'
    dsimp only; rw [if_neg (t_noobj ha hk')]; exact h2 k' ci' j' lo hi hk' hb'
  · intro k' j' lo hi hb'
    by_cases hq : k' = k
    · subst hq; dsimp only; rw [if_pos rfl]; exact hb j' lo hi hb'
    · dsimp only; rw [if_neg hq]; exact h3 k' j' lo hi hb'
  · intro k' n hk' hn
    dsimp only; rw [if_neg (t_noobj ha hk'.1)]; exact h5.1 k' n hk' hn
  · intro k' j' hk'
    have := hk'.2.1
    dsimp only; rw [if_neg (by omega)]; exact h5.2 k' j' hk'
theorem t_X.arrI {k : Nat} {f : Nat → Int32} (h : t_X wl sh gi gl gr gi' gl' gr') (hi : ∀ j, t_in wl (t_cd sh k) j = true) : t_X wl sh gi gl gr (fun a => if a = k then f else gi' a) gl' gr' :=
  ⟨fun a b hn => by
    have hne : a ≠ k := by rintro rfl; rw [hi b] at hn; cases hn
    dsimp only; rw [if_neg hne]; exact h.1 a b hn, h.2⟩
theorem t_X.arrL {k : Nat} {f : Nat → Int64} (h : t_X wl sh gi gl gr gi' gl' gr') (hi : ∀ j, t_in wl (t_cd sh k) j = true) : t_X wl sh gi gl gr gi' (fun a => if a = k then f else gl' a) gr' :=
  ⟨fun a b hn => by
    have hne : a ≠ k := by rintro rfl; rw [hi b] at hn; cases hn
    dsimp only; rw [if_neg hne]; exact h.1 a b hn, h.2⟩
end TI2
