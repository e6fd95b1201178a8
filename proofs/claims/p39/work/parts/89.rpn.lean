/-! ===== the pile of the RULES' reader ===== -/
noncomputable def t_op (w : Int) : Prop := w = 18 ∨ w = 19 ∨ w = 20 ∨ w = 40
noncomputable def t_bin (w : Int) : Bool := decide (w = 18) || decide (w = 19)
theorem t_bin_iff {w : Int} : t_bin w = true ↔ w = 18 ∨ w = 19 := by simp [t_bin]
noncomputable def t_cB (d : Nat → Int32) : Nat → Nat
  | 0 => 0
  | t + 1 => t_cB d t + (if t_bin (d t).toInt = true then 1 else 0)
theorem t_cB_le (d : Nat → Int32) : ∀ t, t_cB d t ≤ t
  | 0 => Nat.le_refl _
  | t + 1 => by
    have := t_cB_le d t
    unfold t_cB
    split <;> omega
theorem t_cB_ext {d d' : Nat → Int32} : ∀ {t : Nat}, (∀ j, j < t → d' j = d j) → t_cB d' t = t_cB d t
  | 0, _ => rfl
  | t + 1, h => by
    unfold t_cB
    rw [t_cB_ext (t := t) (fun j hj => h j (by omega)), h t (by omega)]
theorem t_cB_bin {d : Nat → Int32} {t : Nat} (h : (d t).toInt = 18 ∨ (d t).toInt = 19) : t_cB d (t + 1) = t_cB d t + 1 := by
  show t_cB d t + (if t_bin (d t).toInt = true then 1 else 0) = _
  rw [if_pos (t_bin_iff.mpr h)]
theorem t_cB_nb {d : Nat → Int32} {t : Nat} (h : ¬ ((d t).toInt = 18 ∨ (d t).toInt = 19)) : t_cB d (t + 1) = t_cB d t := by
  show t_cB d t + (if t_bin (d t).toInt = true then 1 else 0) = _
  rw [if_neg (fun e => h (t_bin_iff.mp e))]; omega
theorem t_run_add (f : Nat → Int32) : ∀ (m k h : Nat), t_run f (m + 1) k h = (t_run f m k h).bind (fun x => t_hs (f (k + m)).toInt x)
  | 0, k, h => by
    show (t_hs (f k).toInt h).bind (fun x => some x) = t_hs (f (k + 0)).toInt h
    rw [Nat.add_zero]
    cases t_hs (f k).toInt h <;> rfl
  | m + 1, k, h => by
    show (t_hs (f k).toInt h).bind (t_run f (m + 1) (k + 1)) = ((t_hs (f k).toInt h).bind (t_run f m (k + 1))).bind (fun x => t_hs (f (k + (m + 1))).toInt x)
    cases t_hs (f k).toInt h with
    | none => rfl
    | some x =>
      show t_run f (m + 1) (k + 1) x = (t_run f m (k + 1) x).bind _
      rw [t_run_add f m (k + 1) x, show k + 1 + m = k + (m + 1) by omega]
theorem t_run_s (f : Nat → Int32) (m k h : Nat) : t_run f (m + 1) k h = (t_hs (f k).toInt h).bind (t_run f m (k + 1)) := rfl
theorem t_run_0 (f : Nat → Int32) (k h : Nat) : t_run f 0 k h = some h := rfl
theorem t_run_ext0 {f f' : Nat → Int32} (m : Nat) : ∀ (k h : Nat), (∀ j, k ≤ j → j < k + m → f' j = f j) → t_run f' m k h = t_run f m k h := by
  induction m with
  | zero => intro k h _; rw [t_run_0, t_run_0]
  | succ m ih =>
    intro k h hh
    have e : f' k = f k := hh k (Nat.le_refl k) (Nat.lt_add_of_pos_right (Nat.succ_pos m))
    have hr : ∀ x, t_run f' m (k + 1) x = t_run f m (k + 1) x := fun x => ih (k + 1) x (fun j h1 h2 => hh j (Nat.le_of_succ_le h1) (by rw [Nat.add_comm m 1, ← Nat.add_assoc]; exact h2))
    rw [t_run_s, t_run_s, e, show t_run f' m (k + 1) = t_run f m (k + 1) from funext hr]
theorem t_run_ext {f f' : Nat → Int32} {m k h : Nat} (hh : ∀ j, k ≤ j → j < k + m → f' j = f j) : t_run f' m k h = t_run f m k h := t_run_ext0 m k h hh
/-- what was asked from lo to a leaves h truths -/
noncomputable def t_em (g : Nat → Int32) (lo a h : Nat) : Prop := lo ≤ a ∧ t_run (fun j => g (350 * 4 + 140 + j)) (a - lo) lo 0 = some h
theorem t_em_add {g g' : Nat → Int32} {lo a h h' : Nat} {w : Int32} (H : t_em g lo a h) (hof : ∀ j, j ≠ 1540 + a → g' j = g j) (hat : g' (1540 + a) = w) (hs : t_hs w.toInt h = some h') : t_em g' lo (a + 1) h' := by
  obtain ⟨h1, h2⟩ := H
  refine ⟨by omega, ?_⟩
  rw [show a + 1 - lo = (a - lo) + 1 by omega, t_run_add, t_run_ext (f := fun j => g (350 * 4 + 140 + j)) (fun j h3 h4 => hof _ (by omega)), h2]
  show t_hs (g' (350 * 4 + 140 + (lo + (a - lo)))).toInt h = some h'
  rw [show 350 * 4 + 140 + (lo + (a - lo)) = 1540 + a by omega, hat]
  exact hs
theorem t_em_ext {g g' : Nat → Int32} {lo a h : Nat} (H : t_em g lo a h) (e : ∀ j, lo ≤ j → j < a → g' (1540 + j) = g (1540 + j)) : t_em g' lo a h := by
  refine ⟨H.1, ?_⟩
  rw [t_run_ext (f := fun j => g (350 * 4 + 140 + j)) (fun j h3 h4 => ?_)]
  · exact H.2
  · show g' (350 * 4 + 140 + j) = g (350 * 4 + 140 + j)
    rw [show 350 * 4 + 140 + j = 1540 + j by omega]
    exact e j h3 (by have := H.1; omega)
noncomputable def t_lo4 (b : Nat → Int32) : Nat := (b (1500 + 3 * (b 1403).toInt.toNat)).toInt.toNat
/-- the pile as it stands: ahead of a truth (0), behind one (1), and no 'not' on top (2); b: the model's numbers when the RULE began -/
noncomputable def t_K (b : Nat → Int32) (g : Nat → Nat → Int32) (md : Nat) : Prop :=
  (∀ j : Nat, (j : Int) < (g 69 22).toInt → t_op (g 77 j).toInt) ∧
  (∀ j : Nat, (j : Int) + 1 < (g 69 22).toInt → (g 77 j).toInt = 20 → (g 77 (j + 1)).toInt = 20 ∨ (g 77 (j + 1)).toInt = 40) ∧
  (md = 2 → ∀ j : Nat, (j : Int) + 1 = (g 69 22).toInt → (g 77 j).toInt ≠ 20) ∧
  ((g 69 22).toInt = (t_cB (g 77) (g 69 22).toInt.toNat : Int) + (g 69 23).toInt ∧ 0 ≤ (g 69 22).toInt ∧ 0 ≤ (g 69 23).toInt ∧ (g 69 23).toInt ≤ 6 ∧ 0 ≤ (g 69 25).toInt ∧ (g 69 24).toInt ≤ 24 ∧ (t_cB (g 77) (g 69 22).toInt.toNat : Int) + (min md 1 : Nat) ≤ (g 69 24).toInt ∧
  (md = 0 → (g 69 25).toInt + (g 69 22).toInt ≤ 8 * (g 69 24).toInt + 1 + (g 69 23).toInt) ∧ (md ≠ 0 → (g 69 25).toInt + (g 69 22).toInt ≤ 8 * (g 69 24).toInt)) ∧
  (∀ j : Nat, j < 1540 + t_lo4 b → g 70 j = b j) ∧ t_em (g 70) (t_lo4 b) (g 69 25).toInt.toNat (t_cB (g 77) (g 69 22).toInt.toNat + min md 1)
theorem t_K_num {b : Nat → Int32} {g : Nat → Nat → Int32} {md : Nat} (K : t_K b g md) : 0 ≤ (g 69 22).toInt ∧ (g 69 22).toInt ≤ 30 ∧ 0 ≤ (g 69 25).toInt ∧ (g 69 25).toInt + (g 69 22).toInt ≤ 199 ∧ 0 ≤ (g 69 23).toInt ∧ (g 69 23).toInt ≤ 6 ∧ 0 ≤ (g 69 24).toInt := by
  obtain ⟨-, -, -, ⟨h1, h2, h3, h4, h5, h6, h7, h8, h9⟩, -, -⟩ := K
  rcases Nat.eq_zero_or_pos md with h | h
  · have := h8 h; omega
  · have := h9 (by omega); omega
theorem t_K_ext {b : Nat → Int32} {g g' : Nat → Nat → Int32} {md : Nat} (K : t_K b g md) (h22 : (g' 69 22).toInt = (g 69 22).toInt) (h23 : (g' 69 23).toInt = (g 69 23).toInt) (h24 : (g' 69 24).toInt = (g 69 24).toInt) (h25 : (g' 69 25).toInt = (g 69 25).toInt) (h77 : g' 77 = g 77) (h70 : g' 70 = g 70) : t_K b g' md := by
  unfold t_K at *
  rw [h22, h23, h24, h25, h77, h70]; exact K
section TK
variable {b : Nat → Int32} {g g' : Nat → Nat → Int32}
theorem t_K_not (K : t_K b g 1) (hp : 1 ≤ (g 69 22).toInt) (ht : (g 77 ((g 69 22).toInt.toNat - 1)).toInt = 20) (h22 : (g' 69 22).toInt = (g 69 22).toInt - 1) (h23 : (g' 69 23).toInt = (g 69 23).toInt - 1) (h24 : (g' 69 24).toInt = (g 69 24).toInt) (h25 : (g' 69 25).toInt = (g 69 25).toInt + 1) (h77 : g' 77 = g 77) (hof : ∀ j, j ≠ 1540 + (g 69 25).toInt.toNat → g' 70 j = g 70 j) (hat : g' 70 (1540 + (g 69 25).toInt.toNat) = g 77 ((g 69 22).toInt.toNat - 1)) : t_K b g' 1 := by
  obtain ⟨k1, k2, k3, ⟨n1, n2, n3, n4, n5, n6, n7, n8, n9⟩, k5, k6⟩ := K
  obtain ⟨t, et⟩ : ∃ t : Nat, (g 69 22).toInt = (t : Int) + 1 := ⟨(g 69 22).toInt.toNat - 1, by omega⟩
  have eT : (g 69 22).toInt.toNat = t + 1 := by omega
  have eT' : (g' 69 22).toInt.toNat = t := by omega
  rw [eT] at n1 n7 k6 ht hat
  rw [show t + 1 - 1 = t by omega] at ht hat
  have hc := t_cB_nb (d := g 77) (t := t) (by omega)
  have hle := t_cB_le (g 77) t
  rw [hc] at n1 n7 k6
  have n9' := n9 (by decide)
  refine ⟨fun j hj => by rw [h77]; exact k1 j (by omega), fun j hj => by rw [h77]; exact k2 j (by omega), fun e => absurd e (by decide), ⟨?_, by omega, by omega, by omega, by omega, by omega, ?_, fun e => absurd e (by decide), fun _ => by omega⟩, fun j hj => ?_, ?_⟩
  · rw [eT', h77]; omega
  · rw [eT', h77]; omega
  · rw [hof j (by have := k6.1; omega)]; exact k5 j hj
  · rw [eT', h77, show (g' 69 25).toInt.toNat = (g 69 25).toInt.toNat + 1 by omega]
    refine t_em_add k6 hof hat ?_
    unfold t_hs
    rw [if_pos ht, if_pos (by omega)]
theorem t_K_bin (K : t_K b g 2) (hp : 1 ≤ (g 69 22).toInt) (ht : (g 77 ((g 69 22).toInt.toNat - 1)).toInt = 18 ∨ (g 77 ((g 69 22).toInt.toNat - 1)).toInt = 19) (h22 : (g' 69 22).toInt = (g 69 22).toInt - 1) (h23 : (g' 69 23).toInt = (g 69 23).toInt) (h24 : (g' 69 24).toInt = (g 69 24).toInt) (h25 : (g' 69 25).toInt = (g 69 25).toInt + 1) (h77 : g' 77 = g 77) (hof : ∀ j, j ≠ 1540 + (g 69 25).toInt.toNat → g' 70 j = g 70 j) (hat : g' 70 (1540 + (g 69 25).toInt.toNat) = g 77 ((g 69 22).toInt.toNat - 1)) : t_K b g' 2 := by
  obtain ⟨k1, k2, k3, ⟨n1, n2, n3, n4, n5, n6, n7, n8, n9⟩, k5, k6⟩ := K
  obtain ⟨t, et⟩ : ∃ t : Nat, (g 69 22).toInt = (t : Int) + 1 := ⟨(g 69 22).toInt.toNat - 1, by omega⟩
  have eT : (g 69 22).toInt.toNat = t + 1 := by omega
  have eT' : (g' 69 22).toInt.toNat = t := by omega
  rw [eT] at n1 n7 k6 ht hat
  rw [show t + 1 - 1 = t by omega] at ht hat
  have hc := t_cB_bin (d := g 77) (t := t) ht
  have hle := t_cB_le (g 77) t
  rw [hc] at n1 n7 k6
  have n9' := n9 (by decide)
  refine ⟨fun j hj => by rw [h77]; exact k1 j (by omega), fun j hj => by rw [h77]; exact k2 j (by omega), fun _ j hj h20 => ?_, ⟨?_, by omega, by omega, by omega, by omega, by omega, ?_, fun e => absurd e (by decide), fun _ => by omega⟩, fun j hj => ?_, ?_⟩
  · rw [h77] at h20
    have := k2 j (by omega) h20
    rw [show j + 1 = t by omega] at this
    omega
  · rw [eT', h77]; omega
  · rw [eT', h77]; omega
  · rw [hof j (by have := k6.1; omega)]; exact k5 j hj
  · rw [eT', h77, show (g' 69 25).toInt.toNat = (g 69 25).toInt.toNat + 1 by omega]
    refine t_em_add k6 hof hat ?_
    unfold t_hs
    rw [if_neg (by omega), if_pos ht, if_pos (by omega)]
    congr 1
theorem t_K_12 (K : t_K b g 1) (h : ∀ j : Nat, (j : Int) + 1 = (g 69 22).toInt → (g 77 j).toInt ≠ 20) : t_K b g 2 := by
  obtain ⟨k1, k2, k3, ⟨n1, n2, n3, n4, n5, n6, n7, n8, n9⟩, k5, k6⟩ := K
  exact ⟨k1, k2, fun _ => h, ⟨n1, n2, n3, n4, n5, n6, n7, fun e => absurd e (by decide), fun _ => n9 (by decide)⟩, k5, k6⟩
theorem t_K_21 (K : t_K b g 2) : t_K b g 1 := by
  obtain ⟨k1, k2, k3, ⟨n1, n2, n3, n4, n5, n6, n7, n8, n9⟩, k5, k6⟩ := K
  exact ⟨k1, k2, fun e => absurd e (by decide), ⟨n1, n2, n3, n4, n5, n6, n7, fun e => absurd e (by decide), fun _ => n9 (by decide)⟩, k5, k6⟩
theorem t_K_par (K : t_K b g 2) (hp : 1 ≤ (g 69 22).toInt) (ht : (g 77 ((g 69 22).toInt.toNat - 1)).toInt = 40) (h22 : (g' 69 22).toInt = (g 69 22).toInt - 1) (h23 : (g' 69 23).toInt = (g 69 23).toInt - 1) (h24 : (g' 69 24).toInt = (g 69 24).toInt) (h25 : (g' 69 25).toInt = (g 69 25).toInt) (h77 : g' 77 = g 77) (h70 : g' 70 = g 70) : t_K b g' 1 := by
  obtain ⟨k1, k2, k3, ⟨n1, n2, n3, n4, n5, n6, n7, n8, n9⟩, k5, k6⟩ := K
  obtain ⟨t, et⟩ : ∃ t : Nat, (g 69 22).toInt = (t : Int) + 1 := ⟨(g 69 22).toInt.toNat - 1, by omega⟩
  have eT : (g 69 22).toInt.toNat = t + 1 := by omega
  have eT' : (g' 69 22).toInt.toNat = t := by omega
  rw [eT] at n1 n7 k6 ht
  rw [show t + 1 - 1 = t by omega] at ht
  have hc := t_cB_nb (d := g 77) (t := t) (by omega)
  have hle := t_cB_le (g 77) t
  rw [hc] at n1 n7 k6
  have n9' := n9 (by decide)
  refine ⟨fun j hj => by rw [h77]; exact k1 j (by omega), fun j hj => by rw [h77]; exact k2 j (by omega), fun e => absurd e (by decide), ⟨?_, by omega, by omega, by omega, by omega, by omega, ?_, fun e => absurd e (by decide), fun _ => by omega⟩, fun j hj => by rw [h70]; exact k5 j hj, ?_⟩
  · rw [eT', h77]; omega
  · rw [eT', h77]; omega
  · rw [eT', h77, h70, h25]; exact k6
theorem t_K_does {v : Int32} (K : t_K b g 0) (hw : (g 69 23).toInt ≤ 5) (hv : v.toInt = 20 ∨ v.toInt = 40) (h22 : (g' 69 22).toInt = (g 69 22).toInt + 1) (h23 : (g' 69 23).toInt = (g 69 23).toInt + 1) (h24 : (g' 69 24).toInt = (g 69 24).toInt) (h25 : (g' 69 25).toInt = (g 69 25).toInt) (h70 : g' 70 = g 70) (hof : ∀ j, j ≠ (g 69 22).toInt.toNat → g' 77 j = g 77 j) (hat : g' 77 (g 69 22).toInt.toNat = v) : t_K b g' 0 := by
  obtain ⟨k1, k2, k3, ⟨n1, n2, n3, n4, n5, n6, n7, n8, n9⟩, k5, k6⟩ := K
  have n8' := n8 rfl
  have eT : (g' 69 22).toInt.toNat = (g 69 22).toInt.toNat + 1 := by omega
  have hc : t_cB (g' 77) (g' 69 22).toInt.toNat = t_cB (g 77) (g 69 22).toInt.toNat := by
    rw [eT, t_cB_nb (by rw [hat]; omega)]
    exact t_cB_ext (fun j hj => hof j (by omega))
  refine ⟨fun j hj => ?_, fun j hj h20 => ?_, fun e => absurd e (by decide), ⟨by rw [hc]; omega, by omega, by omega, by omega, by omega, by omega, by rw [hc]; omega, fun _ => by omega, fun e => absurd rfl e⟩, fun j hj => by rw [h70]; exact k5 j hj, by rw [hc, h70, h25]; exact k6⟩
  · by_cases hj2 : j = (g 69 22).toInt.toNat
    · rw [hj2, hat]; unfold t_op; omega
    · rw [hof j hj2]; exact k1 j (by omega)
  · rw [hof j (by omega)] at h20
    by_cases hj2 : j + 1 = (g 69 22).toInt.toNat
    · rw [hj2, hat]; exact hv
    · rw [hof (j + 1) hj2]; exact k2 j (by omega) h20
theorem t_K_op {v : Int32} (K : t_K b g 2) (hv : v.toInt = 18 ∨ v.toInt = 19) (h22 : (g' 69 22).toInt = (g 69 22).toInt + 1) (h23 : (g' 69 23).toInt = (g 69 23).toInt) (h24 : (g' 69 24).toInt = (g 69 24).toInt) (h25 : (g' 69 25).toInt = (g 69 25).toInt) (h70 : g' 70 = g 70) (hof : ∀ j, j ≠ (g 69 22).toInt.toNat → g' 77 j = g 77 j) (hat : g' 77 (g 69 22).toInt.toNat = v) : t_K b g' 0 := by
  obtain ⟨k1, k2, k3, ⟨n1, n2, n3, n4, n5, n6, n7, n8, n9⟩, k5, k6⟩ := K
  have n9' := n9 (by decide)
  have eT : (g' 69 22).toInt.toNat = (g 69 22).toInt.toNat + 1 := by omega
  have hc : t_cB (g' 77) (g' 69 22).toInt.toNat = t_cB (g 77) (g 69 22).toInt.toNat + 1 := by
    rw [eT, t_cB_bin (by rw [hat]; exact hv)]
    rw [t_cB_ext (fun j hj => hof j (by omega))]
  refine ⟨fun j hj => ?_, fun j hj h20 => ?_, fun e => absurd e (by decide), ⟨by rw [hc]; omega, by omega, by omega, by omega, by omega, by omega, by rw [hc]; omega, fun _ => by omega, fun e => absurd rfl e⟩, fun j hj => by rw [h70]; exact k5 j hj, by rw [hc, h70, h25]; exact k6⟩
  · by_cases hj2 : j = (g 69 22).toInt.toNat
    · rw [hj2, hat]; unfold t_op; omega
    · rw [hof j hj2]; exact k1 j (by omega)
  · rw [hof j (by omega)] at h20
    by_cases hj2 : j + 1 = (g 69 22).toInt.toNat
    · exact absurd h20 (k3 rfl j (by omega))
    · rw [hof (j + 1) hj2]; exact k2 j (by omega) h20
theorem t_K_case {v : Int32} (K : t_K b g 0) (hcs : (g 69 24).toInt ≤ 23) (h1 : v.toInt ≠ 18) (h2 : v.toInt ≠ 19) (h3 : v.toInt ≠ 20) (h22 : (g' 69 22).toInt = (g 69 22).toInt) (h23 : (g' 69 23).toInt = (g 69 23).toInt) (h24 : (g' 69 24).toInt = (g 69 24).toInt + 1) (h25 : (g' 69 25).toInt = (g 69 25).toInt + 1) (h77 : g' 77 = g 77) (hof : ∀ j, j ≠ 1540 + (g 69 25).toInt.toNat → g' 70 j = g 70 j) (hat : g' 70 (1540 + (g 69 25).toInt.toNat) = v) : t_K b g' 1 := by
  obtain ⟨k1, k2, k3, ⟨n1, n2, n3, n4, n5, n6, n7, n8, n9⟩, k5, k6⟩ := K
  have n8' := n8 rfl
  refine ⟨fun j hj => by rw [h77]; exact k1 j (by omega), fun j hj => by rw [h77]; exact k2 j (by omega), fun e => absurd e (by decide), ⟨by rw [h22, h77]; omega, by omega, by omega, by omega, by omega, by omega, by rw [h22, h77]; omega, fun e => absurd e (by decide), fun _ => by omega⟩, fun j hj => ?_, ?_⟩
  · rw [hof j (by have := k6.1; omega)]; exact k5 j hj
  · rw [h22, h77, show (g' 69 25).toInt.toNat = (g 69 25).toInt.toNat + 1 by omega]
    refine t_em_add k6 hof hat ?_
    unfold t_hs
    rw [if_neg h3, if_neg (by omega), if_pos (by omega)]
    congr 1
theorem t_K_0 (h22 : (g' 69 22).toInt = 0) (h23 : (g' 69 23).toInt = 0) (h24 : 0 ≤ (g' 69 24).toInt ∧ (g' 69 24).toInt ≤ 24) (h25 : 0 ≤ (g' 69 25).toInt ∧ (g' 69 25).toInt ≤ 8 * (g' 69 24).toInt + 1) (h70 : g' 70 = b) (hlo : t_lo4 b = (g' 69 25).toInt.toNat) : t_K b g' 0 := by
  have e0 : (g' 69 22).toInt.toNat = 0 := by omega
  refine ⟨fun j hj => by omega, fun j hj => by omega, fun e => absurd e (by decide), ⟨?_, by omega, by omega, by omega, by omega, by omega, ?_, fun _ => by omega, fun e => absurd rfl e⟩, fun j _ => by rw [h70], ?_⟩
  · rw [e0]; show _ = ((0 : Nat) : Int) + _; omega
  · rw [e0]; show ((0 : Nat) : Int) + ((min 0 1 : Nat) : Int) ≤ _; omega
  · rw [e0]
    exact ⟨by omega, by rw [show (g' 69 25).toInt.toNat - t_lo4 b = 0 by omega]; rfl⟩
theorem t_K_end (K : t_K b g 2) (h : (g 69 22).toInt ≤ 0) : t_em (g 70) (t_lo4 b) (g 69 25).toInt.toNat 1 ∧ (∀ j : Nat, j < 1540 + t_lo4 b → g 70 j = b j) ∧ 0 ≤ (g 69 25).toInt ∧ (g 69 25).toInt ≤ 8 * (g 69 24).toInt := by
  obtain ⟨k1, k2, k3, ⟨n1, n2, n3, n4, n5, n6, n7, n8, n9⟩, k5, k6⟩ := K
  have n9' := n9 (by decide)
  have e0 : (g 69 22).toInt.toNat = 0 := by omega
  rw [e0] at k6
  exact ⟨k6, k5, n5, by omega⟩
end TK
theorem t_one {g gb gc gd : Nat → Nat → Int32} {i v : Int32} {p : Nat} (eqb : gb 70 = g 70) (e : gc = x_up2 gb 70 i.toNatClampNeg v) (eqa : gd 70 = gc 70) (hi : i.toNatClampNeg = p) : (∀ j, j ≠ p → gd 70 j = g 70 j) ∧ gd 70 p = v := by
  refine ⟨fun j hj => ?_, ?_⟩
  · rw [eqa, e, x_up2_off (Or.inr (by rw [hi]; exact hj)), eqb]
  · rw [eqa, e, hi]; exact x_up2_at _ _ _ _
theorem t_K_w {b : Nat → Int32} {g : Nat → Nat → Int32} {md : Nat} (K : t_K b g md) (hp : 1 ≤ (g 69 22).toInt) (ht : (g 77 ((g 69 22).toInt.toNat - 1)).toInt = 20 ∨ (g 77 ((g 69 22).toInt.toNat - 1)).toInt = 40) : 1 ≤ (g 69 23).toInt := by
  obtain ⟨k1, k2, k3, ⟨n1, n2, n3, n4, n5, n6, n7, n8, n9⟩, k5, k6⟩ := K
  obtain ⟨t, et⟩ : ∃ t : Nat, (g 69 22).toInt = (t : Int) + 1 := ⟨(g 69 22).toInt.toNat - 1, by omega⟩
  have eT : (g 69 22).toInt.toNat = t + 1 := by omega
  rw [eT] at n1 ht
  rw [show t + 1 - 1 = t by omega] at ht
  have hc := t_cB_nb (d := g 77) (t := t) (by omega)
  have hle := t_cB_le (g 77) t
  rw [hc] at n1
  omega
theorem t_K_top {b : Nat → Int32} {g : Nat → Nat → Int32} (K : t_K b g 2) (hp : 1 ≤ (g 69 22).toInt) (ht : (g 77 ((g 69 22).toInt.toNat - 1)).toInt ≠ 40) : (g 77 ((g 69 22).toInt.toNat - 1)).toInt = 18 ∨ (g 77 ((g 69 22).toInt.toNat - 1)).toInt = 19 := by
  have h1 := K.1 ((g 69 22).toInt.toNat - 1) (by omega)
  have h2 := K.2.2.1 rfl ((g 69 22).toInt.toNat - 1) (by omega)
  unfold t_op at h1
  omega
theorem t_onec {c : Nat} {g gb gc gd : Nat → Nat → Int32} {i v : Int32} {p : Nat} (eqb : gb c = g c) (e : gc = x_up2 gb c i.toNatClampNeg v) (eqa : gd c = gc c) (hi : i.toNatClampNeg = p) : (∀ j, j ≠ p → gd c j = g c j) ∧ gd c p = v := by
  refine ⟨fun j hj => ?_, ?_⟩
  · rw [eqa, e, x_up2_off (Or.inr (by rw [hi]; exact hj)), eqb]
  · rw [eqa, e, hi]; exact x_up2_at _ _ _ _
/-- a RULE is good in the slot that is read into -/
theorem t_good_ext {f f' : Nat → Int32} {s s' r : Nat} (h1 : f' (350 * s' + 100 + 3 * r) = f (350 * s + 100 + 3 * r)) (h2 : f' (350 * s' + 101 + 3 * r) = f (350 * s + 101 + 3 * r)) (h3 : ∀ j, j < t_hg f s r → f' (350 * s' + 140 + j) = f (350 * s + 140 + j)) (H : t_good f s r) : t_good f' s' r := by
  unfold t_good t_ok t_lw at *
  have e1 : t_hg f' s' r = t_hg f s r := by unfold t_hg; rw [h2]
  rw [e1, h1]
  by_cases hc : (f (350 * s + 100 + 3 * r)).toInt.toNat ≤ t_hg f s r
  · rw [t_run_ext (f := fun j => f (350 * s + 140 + j)) (fun j h4 h5 => h3 j (by omega))]
    exact H
  · rw [show t_hg f s r - (f (350 * s + 100 + 3 * r)).toInt.toNat = 0 by omega]
    rfl
/-- the RULES read so far are good, their asks ahead of a -/
noncomputable def t_R4 (g : Nat → Int32) (a : Int) : Prop := ∀ r : Nat, (r : Int) < (g 1403).toInt → t_good g 4 r ∧ (t_hg g 4 r : Int) ≤ a
theorem t_R4_add {g0 b g1 g' : Nat → Int32} {a0 a1 : Int} {n : Nat} (R : t_R4 g0 a0) (hn : (g0 1403).toInt = (n : Int)) (hn2 : n ≤ 11) (ha0 : 0 ≤ a0) (hb : ∀ j, j ≠ 1500 + 3 * n → b j = g0 j) (hba : (b (1500 + 3 * n)).toInt = a0) (hem : t_em g1 (t_lo4 b) a1.toNat 1) (hfr : ∀ j : Nat, j < 1540 + t_lo4 b → g1 j = b j) (ha1 : 0 ≤ a1) (hg1 : (g' (1501 + 3 * n)).toInt = a1) (hg3 : (g' 1403).toInt = (n : Int) + 1) (hg : ∀ j, j ≠ 1501 + 3 * n → j ≠ 1502 + 3 * n → j ≠ 1403 → g' j = g1 j) : t_R4 g' a1 := by
  have eb3 : b 1403 = g0 1403 := hb 1403 (by omega)
  have elo : t_lo4 b = a0.toNat := by
    unfold t_lo4
    rw [eb3, hn, show ((n : Nat) : Int).toNat = n by omega, hba]
  rw [elo] at hem hfr
  have hle := hem.1
  intro r hr
  rw [hg3] at hr
  by_cases hrn : r = n
  · subst hrn
    have e1 : g' (350 * 4 + 101 + 3 * r) = g' (1501 + 3 * r) := by rw [show 350 * 4 + 101 + 3 * r = 1501 + 3 * r by omega]
    have e0 : (g' (350 * 4 + 100 + 3 * r)).toInt = a0 := by
      rw [show 350 * 4 + 100 + 3 * r = 1500 + 3 * r by omega, hg _ (by omega) (by omega) (by omega), hfr _ (by omega), hba]
    have eh : t_hg g' 4 r = a1.toNat := by unfold t_hg; rw [e1, hg1]
    refine ⟨?_, by rw [eh]; omega⟩
    unfold t_good t_ok t_lw
    rw [eh, e0, t_run_ext (f := fun j => g1 (350 * 4 + 140 + j)) (fun j h4 h5 => hg _ (by omega) (by omega) (by omega)), hem.2]
    rfl
  · have hr' : (r : Int) < (g0 1403).toInt := by omega
    obtain ⟨h1, h2⟩ := R r hr'
    have ef : ∀ j, j < 1540 + a0.toNat → j ≠ 1500 + 3 * n → j ≠ 1501 + 3 * n → j ≠ 1502 + 3 * n → j ≠ 1403 → g' j = g0 j := fun j q1 q2 q3 q4 q5 => by rw [hg j q3 q4 q5, hfr j q1, hb j q2]
    have e2 : g' (350 * 4 + 101 + 3 * r) = g0 (350 * 4 + 101 + 3 * r) := ef _ (by omega) (by omega) (by omega) (by omega) (by omega)
    refine ⟨t_good_ext (s := 4) (s' := 4) (ef _ (by omega) (by omega) (by omega) (by omega) (by omega)) e2 (fun j hj => ef _ (by omega) (by omega) (by omega) (by omega) (by omega)) h1, ?_⟩
    have eh : t_hg g' 4 r = t_hg g0 4 r := by unfold t_hg; rw [e2]
    rw [eh]; omega
/-- a bracket in the pile -/
noncomputable def t_ex (g : Nat → Nat → Int32) : Prop := ∃ j : Nat, (j : Int) < (g 69 22).toInt ∧ (g 77 j).toInt = 40
noncomputable def t_n40 (g : Nat → Nat → Int32) : Prop := ∀ j : Nat, (j : Int) < (g 69 22).toInt → (g 77 j).toInt ≠ 40
