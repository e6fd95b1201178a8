/-! ===== printed by tables.py: bounds ===== -/
noncomputable def t_bdl : List ((Nat × Nat) × (Int × Int)) := [((0, 3), (0, 30)), ((0, 6), (0, 4)), ((1, 6), (0, 24)), ((1, 8), (0, 24)), ((2, 5), (0, 301)), ((2, 10), (0, 6)), ((3, 0), (0, 6)), ((4, 0), (0, 6)), ((5, 4), (0, 18)), ((6, 0), (0, 12)), ((6, 3), (0, 300)), ((8, 1), (0, 900)), ((8, 2), (0, 900)), ((8, 4), (0, 900)), ((9, 2), ((-1), 60)), ((10, 5), (0, 900)), ((10, 12), (0, 3)), ((10, 14), (0, 474)), ((11, 10), (0, 900)), ((11, 11), (0, 900)), ((11, 12), (0, 4)), ((11, 13), (0, 900)), ((11, 14), (0, 900)), ((11, 22), (0, 60)), ((11, 23), (0, 6)), ((11, 24), (0, 24)), ((11, 25), (0, 210)), ((11, 29), (0, 500)), ((11, 30), (0, 500)), ((11, 39), (0, 30)), ((11, 40), (0, 4)), ((11, 44), (0, 6)), ((11, 45), (0, 6)), ((11, 48), (0, 20)), ((11, 55), (0, 100)), ((11, 56), (0, 100)), ((11, 59), (0, 301)), ((11, 64), (0, 6)), ((11, 65), (0, 6)), ((11, 75), (0, 3))]
noncomputable def t_ab7 : List (Nat × Nat × (Int × Int)) := [(0, 0, (0, 6)), (1, 1, (0, 6)), (2, 2, (0, 6)), (3, 3, (0, 12)), (4, 4, (0, 20)), (5, 5, (0, 20)), (6, 6, (0, 200)), (7, 7, (0, 9)), (8, 8, (0, 1)), (10, 10, ((-900), 6)), (11, 16, ((-1), 255)), (17, 17, ((-900), 6)), (18, 23, ((-1), 255)), (24, 24, ((-900), 6)), (25, 30, ((-1), 255)), (31, 31, ((-900), 6)), (32, 37, ((-1), 255)), (38, 38, ((-900), 6)), (39, 44, ((-1), 255)), (45, 45, ((-900), 6)), (46, 51, ((-1), 255)), (52, 52, ((-1), 5)), (53, 53, (0, 120)), (54, 54, (0, 20)), (55, 55, (0, 99)), (56, 56, (0, 1)), (57, 57, ((-1), 5)), (58, 58, (0, 120)), (59, 59, (0, 20)), (60, 60, (0, 99)), (61, 61, (0, 1)), (62, 62, ((-1), 5)), (63, 63, (0, 120)), (64, 64, (0, 20)), (65, 65, (0, 99)), (66, 66, (0, 1)), (67, 67, ((-1), 5)), (68, 68, (0, 120)), (69, 69, (0, 20)), (70, 70, (0, 99)), (71, 71, (0, 1)), (72, 72, ((-1), 5)), (73, 73, (0, 120)), (74, 74, (0, 20)), (75, 75, (0, 99)), (76, 76, (0, 1)), (77, 77, ((-1), 5)), (78, 78, (0, 120)), (79, 79, (0, 20)), (80, 80, (0, 99)), (81, 81, (0, 1)), (82, 82, (0, 120)), (83, 83, (0, 20)), (84, 84, (0, 99)), (85, 85, (0, 120)), (86, 86, (0, 20)), (87, 87, (0, 99)), (88, 88, (0, 120)), (89, 89, (0, 20)), (90, 90, (0, 99)), (91, 91, (0, 120)), (92, 92, (0, 20)), (93, 93, (0, 99)), (94, 94, (0, 120)), (95, 95, (0, 20)), (96, 96, (0, 99)), (97, 97, (0, 120)), (98, 98, (0, 20)), (99, 99, (0, 99)), (100, 100, (0, 210)), (101, 101, (0, 210)), (102, 102, (0, 17)), (103, 103, (0, 210)), (104, 104, (0, 210)), (105, 105, (0, 17)), (106, 106, (0, 210)), (107, 107, (0, 210)), (108, 108, (0, 17)), (109, 109, (0, 210)), (110, 110, (0, 210)), (111, 111, (0, 17)), (112, 112, (0, 210)), (113, 113, (0, 210)), (114, 114, (0, 17)), (115, 115, (0, 210)), (116, 116, (0, 210)), (117, 117, (0, 17)), (118, 118, (0, 210)), (119, 119, (0, 210)), (120, 120, (0, 17)), (121, 121, (0, 210)), (122, 122, (0, 210)), (123, 123, (0, 17)), (124, 124, (0, 210)), (125, 125, (0, 210)), (126, 126, (0, 17)), (127, 127, (0, 210)), (128, 128, (0, 210)), (129, 129, (0, 17)), (130, 130, (0, 210)), (131, 131, (0, 210)), (132, 132, (0, 17)), (133, 133, (0, 210)), (134, 134, (0, 210)), (135, 135, (0, 17))]
noncomputable def t_abo : List (Nat × Nat × Nat × (Int × Int)) := [(26, 0, 3, (0, 29)), (27, 0, 3, (0, 29)), (72, 0, 3, (0, 3)), (73, 0, 3, ((-1), 60)), (93, 0, 99, (0, 2)), (95, 0, 99, ((-1), 5)), (88, 0, 4, ((-1), 30)), (90, 0, 5, (0, 5)), (91, 0, 5, (0, 5)), (99, 0, 5, (0, 1)), (100, 0, 59, (0, 1))]
/-- the arrays that are bounded, how far (70: slot by slot alike) -/
noncomputable def t_abl : List (Nat × Nat × Nat × (Int × Int)) := (70, 0, 1749, (0, 0)) :: t_abo
noncomputable def t_finl : List (Nat × Nat) := [(0, 0), (0, 1), (0, 2), (0, 4), (0, 5), (1, 2), (1, 3), (1, 7), (1, 9), (1, 10), (1, 11), (2, 0), (2, 1), (2, 2), (2, 3), (2, 16), (3, 1), (3, 2), (3, 3), (3, 4), (3, 5), (4, 1), (4, 2), (4, 7), (4, 8), (4, 9), (5, 0), (5, 1), (5, 2), (5, 3), (6, 1), (6, 2), (6, 4), (6, 5), (6, 6), (7, 0), (7, 1), (8, 0), (9, 0), (10, 3), (10, 4), (10, 10), (10, 11), (10, 13), (10, 15), (10, 16), (10, 17), (11, 0), (11, 1), (11, 5), (11, 6), (11, 7), (11, 8), (11, 9), (11, 21), (11, 26), (11, 27), (11, 28), (11, 31), (11, 32), (11, 33), (11, 34), (11, 35), (11, 36), (11, 37), (11, 38), (11, 41), (11, 42), (11, 43), (11, 47), (11, 49), (11, 50), (11, 51), (11, 52), (11, 53), (11, 54), (11, 71), (11, 72), (11, 73)]
/-! ===== typed worlds: the tables ===== -/
noncomputable def t_bd (ci j : Nat) : Option (Int × Int) := t_bdl.lookup (ci, j)
noncomputable def t_bdT : Lean.RArray (Nat × Option ((Int × Int))) := (.branch 1420 (.branch 771 (.branch 266 (.branch 134 (.branch 6 (.leaf (3, some ((0, 30)))) (.leaf (6, some ((0, 4))))) (.branch 136 (.leaf (134, some ((0, 24)))) (.branch 261 (.leaf (136, some ((0, 24)))) (.leaf (261, some ((0, 301))))))) (.branch 512 (.branch 384 (.leaf (266, some ((0, 6)))) (.leaf (384, some ((0, 6))))) (.branch 644 (.leaf (512, some ((0, 6)))) (.branch 768 (.leaf (644, some ((0, 18)))) (.leaf (768, some ((0, 12)))))))) (.branch 1285 (.branch 1026 (.branch 1025 (.leaf (771, some ((0, 300)))) (.leaf (1025, some ((0, 900))))) (.branch 1028 (.leaf (1026, some ((0, 900)))) (.branch 1154 (.leaf (1028, some ((0, 900)))) (.leaf (1154, some (((-1), 60))))))) (.branch 1294 (.branch 1292 (.leaf (1285, some ((0, 900)))) (.leaf (1292, some ((0, 3))))) (.branch 1418 (.leaf (1294, some ((0, 474)))) (.branch 1419 (.leaf (1418, some ((0, 900)))) (.leaf (1419, some ((0, 900))))))))) (.branch 1448 (.branch 1432 (.branch 1422 (.branch 1421 (.leaf (1420, some ((0, 4)))) (.leaf (1421, some ((0, 900))))) (.branch 1430 (.leaf (1422, some ((0, 900)))) (.branch 1431 (.leaf (1430, some ((0, 60)))) (.leaf (1431, some ((0, 6))))))) (.branch 1437 (.branch 1433 (.leaf (1432, some ((0, 24)))) (.leaf (1433, some ((0, 210))))) (.branch 1438 (.leaf (1437, some ((0, 500)))) (.branch 1447 (.leaf (1438, some ((0, 500)))) (.leaf (1447, some ((0, 30)))))))) (.branch 1464 (.branch 1453 (.branch 1452 (.leaf (1448, some ((0, 4)))) (.leaf (1452, some ((0, 6))))) (.branch 1456 (.leaf (1453, some ((0, 6)))) (.branch 1463 (.leaf (1456, some ((0, 20)))) (.leaf (1463, some ((0, 100))))))) (.branch 1472 (.branch 1467 (.leaf (1464, some ((0, 100)))) (.leaf (1467, some ((0, 301))))) (.branch 1473 (.leaf (1472, some ((0, 6)))) (.branch 1483 (.leaf (1473, some ((0, 6)))) (.leaf (1483, some ((0, 3))))))))))
noncomputable abbrev t_bd1 (k j : Nat) : Option (Int × Int) := @Bool.rec (fun _ => Option (Int × Int)) none (x_bt t_bdT (128 * k + j)) (Nat.ble j 127)
theorem t_bdK {k j : Nat} {r : Int × Int} (h : t_bd1 k j = some r) : t_bd k j = some r := by
  unfold t_bd1 at h
  cases hb : Nat.ble j 127 with
  | false => rw [hb] at h; cases h
  | true =>
    rw [hb] at h
    have hj : j ≤ 127 := Nat.le_of_ble_eq_true hb
    have h1 := of_decide_eq_true (x_bt_ok (f := fun q => decide (t_bd (q.1 / 128) (q.1 % 128) = q.2)) (by decide +kernel) h)
    rw [show (128 * k + j) / 128 = k by omega, show (128 * k + j) % 128 = j by omega] at h1
    exact h1
/-- bounds of an array's elements, by cell and place -/
noncomputable def t_abf (l : List (Nat × Nat × (Int × Int))) (j : Nat) : Option (Int × Int) := List.rec (motive := fun _ => Option (Int × Int)) none (fun q _ ih => cond (Nat.ble q.1 j) (cond (Nat.ble j q.2.1) (some q.2.2) ih) ih) l
noncomputable def t_ab (k j : Nat) : Option (Int × Int) := cond (Nat.beq k 70) (cond (Nat.blt j 1750) (t_abf t_ab7 (j % 350)) none) ((t_abo.find? (fun q => q.1 == k && (decide (q.2.1 ≤ j) && decide (j ≤ q.2.2.1)))).map (fun q => q.2.2.2))
/-- references that no instruction behind the constructors writes -/
noncomputable def t_fin (ci j : Nat) : Bool := t_finl.any (fun q => q.1 == ci && q.2 == j)
theorem t_abl_ok : (t_abl.all (fun q => decide (q.1 < 102) && (match x_sh0[q.1]? with | some (.inr _) => true | _ => false))) = true := by decide +kernel
theorem t_ab_mem3 {k j : Nat} {b : Int × Int} (h : t_ab k j = some b) : ∃ q ∈ t_abl, q.1 = k ∧ q.2.1 ≤ j ∧ j ≤ q.2.2.1 := by
  unfold t_ab at h
  cases hk : Nat.beq k 70 with
  | true =>
    rw [hk] at h
    have h : cond (Nat.blt j 1750) (t_abf t_ab7 (j % 350)) none = some b := h
    have e := Nat.eq_of_beq_eq_true hk
    cases hj : Nat.blt j 1750 with
    | true => exact ⟨(70, 0, 1749, (0, 0)), List.mem_cons_self, e.symm, Nat.zero_le _, Nat.le_of_lt_succ (Nat.blt_eq.mp hj)⟩
    | false => rw [hj] at h; cases h
  | false =>
    rw [hk] at h
    have h : ((t_abo.find? (fun q => q.1 == k && (decide (q.2.1 ≤ j) && decide (j ≤ q.2.2.1)))).map (fun q => q.2.2.2)) = some b := h
    cases hf : t_abo.find? (fun q => q.1 == k && (decide (q.2.1 ≤ j) && decide (j ≤ q.2.2.1))) with
    | none => rw [hf] at h; cases h
    | some q =>
      have h1 := List.find?_some hf
      simp only [Bool.and_eq_true, beq_iff_eq, decide_eq_true_eq] at h1
      exact ⟨q, List.mem_cons_of_mem _ (List.mem_of_find?_eq_some hf), h1.1, h1.2.1, h1.2.2⟩
theorem t_ab_mem {k j : Nat} {b : Int × Int} (h : t_ab k j = some b) : ∃ q ∈ t_abl, q.1 = k := by
  obtain ⟨q, h1, h2, _⟩ := t_ab_mem3 h
  exact ⟨q, h1, h2⟩
theorem t_ab_arr {k j : Nat} {b : Int × Int} (h : t_ab k j = some b) : k < 102 ∧ ∃ q, x_sh0[k]? = some (.inr q) := by
  obtain ⟨q, hm, rfl⟩ := t_ab_mem h
  have h1 := List.all_eq_true.mp t_abl_ok q hm
  rw [Bool.and_eq_true, decide_eq_true_eq] at h1
  refine ⟨h1.1, ?_⟩
  have h2 := h1.2
  split at h2
  · next q' he => exact ⟨q', he⟩
  · cases h2
/-- not a cell of the model -/
noncomputable def t_out (a : Nat) : Prop := a < 69 ∨ 102 ≤ a
section TI
variable (sh : List (Nat ⊕ (Nat × Nat))) (gi : Nat → Nat → Int32) (gr : Nat → Nat → Value)
/-- the field is an array of this type and length, none of the model's -/
noncomputable def t_ar (k j t n : Nat) : Prop := ∃ a, gr k j = .ref a ∧ sh[a]? = some (.inr (t, n)) ∧ t_out a
noncomputable def t_Ln (k : Nat) : Prop := sh[k]? = some (.inl 3) ∧ t_ar sh gr k 1 0 6 ∧ t_ar sh gr k 2 0 6 ∧ t_ar sh gr k 3 0 6 ∧ t_ar sh gr k 4 0 6 ∧ t_ar sh gr k 5 3 6
noncomputable def t_Rv (k : Nat) : Prop := sh[k]? = some (.inl 4) ∧ t_ar sh gr k 1 1 6 ∧ t_ar sh gr k 2 1 6 ∧ t_ar sh gr k 8 0 6 ∧ (∃ a, gr k 7 = .ref a ∧ t_Ln sh gr a) ∧ (∃ a, gr k 9 = .ref a ∧ t_Ln sh gr a)
noncomputable def t_Ru (k : Nat) : Prop := sh[k]? = some (.inl 6) ∧ 102 ≤ k ∧ gr k 1 = .ref (k + 1) ∧ gr k 2 = .ref (k + 2) ∧ sh[k + 1]? = some (.inr (0, 12)) ∧ sh[k + 2]? = some (.inr (0, 12)) ∧ ∃ n, n ≤ 300 ∧ gr k 4 = .ref (k + 3) ∧ gr k 5 = .ref (k + 4) ∧ gr k 6 = .ref (k + 5) ∧ sh[k + 3]? = some (.inr (0, n)) ∧ sh[k + 4]? = some (.inr (0, n)) ∧ sh[k + 5]? = some (.inr (0, n))
noncomputable def t_RvN (v : Value) : Prop := v = .null ∨ ∃ k, v = .ref k ∧ t_Rv sh gr k
noncomputable def t_RuN (v : Value) : Prop := v = .null ∨ ∃ k, v = .ref k ∧ t_Ru sh gr k
noncomputable def t_KwN (v : Value) : Prop := v = .null ∨ ∃ i, v = .retAddr i ∧ i < 27
noncomputable def t_refs : Prop := (∃ k, gr 0 6 = .ref k ∧ t_Rv sh gr k) ∧ t_RuN sh gr (gr 0 7) ∧ (∀ j, j < 3 → t_RvN sh gr (gr 19 j)) ∧ (∀ j, j < 3 → t_RuN sh gr (gr 20 j)) ∧ t_RvN sh gr (gr 28 0) ∧ ∀ k, sh[k]? = some (.inl 8) → t_KwN (gr k 7)
noncomputable def t_stp : Prop := (∀ k n, t_Ru sh gr k → sh[k + 3]? = some (.inr (0, n)) → (gi k 3).toInt ≤ n) ∧ ∀ k j, t_Ru sh gr k → 0 ≤ (gi (k + 2) j).toInt
noncomputable def t_I : Prop := x_WF sh gr ∧
  (∀ k ci j lo hi, sh[k]? = some (.inl ci) → t_bd ci j = some (lo, hi) → lo ≤ (gi k j).toInt ∧ (gi k j).toInt ≤ hi) ∧
  (∀ k j lo hi, t_ab k j = some (lo, hi) → lo ≤ (gi k j).toInt ∧ (gi k j).toInt ≤ hi) ∧ t_refs sh gr ∧ t_stp sh gi gr
/-- the same references that stay -/
noncomputable def t_eqf (gr' : Nat → Nat → Value) : Prop := ∀ k ci j, sh[k]? = some (.inl ci) → t_fin ci j = true → gr' k j = gr k j
end TI
section TI2
variable {sh : List (Nat ⊕ (Nat × Nat))} {gi : Nat → Nat → Int32} {gl : Nat → Nat → Int64} {gr gr' : Nat → Nat → Value}
theorem t_ar.ext {k j t n ci : Nat} (h : t_ar sh gr k j t n) (hk : sh[k]? = some (.inl ci)) (hf : t_fin ci j = true) (he : t_eqf sh gr gr') : t_ar sh gr' k j t n := by
  obtain ⟨a, h1, h2⟩ := h
  exact ⟨a, by rw [he k ci j hk hf]; exact h1, h2⟩
theorem t_Ln.ext {k : Nat} (h : t_Ln sh gr k) (he : t_eqf sh gr gr') : t_Ln sh gr' k :=
  ⟨h.1, h.2.1.ext h.1 rfl he, h.2.2.1.ext h.1 rfl he, h.2.2.2.1.ext h.1 rfl he, h.2.2.2.2.1.ext h.1 rfl he, h.2.2.2.2.2.ext h.1 rfl he⟩
theorem t_Rv.ext {k : Nat} (h : t_Rv sh gr k) (he : t_eqf sh gr gr') : t_Rv sh gr' k := by
  obtain ⟨h0, h1, h2, h3, ⟨a, h4, h5⟩, b, h6, h7⟩ := h
  exact ⟨h0, h1.ext h0 rfl he, h2.ext h0 rfl he, h3.ext h0 rfl he, ⟨a, by rw [he k 4 7 h0 rfl]; exact h4, h5.ext he⟩, b, by rw [he k 4 9 h0 rfl]; exact h6, h7.ext he⟩
theorem t_Ru.ext {k : Nat} (h : t_Ru sh gr k) (he : t_eqf sh gr gr') : t_Ru sh gr' k := by
  obtain ⟨h0, h1, h2, h3, h4, h5, n, h6, h7, h8, h9, h10⟩ := h
  exact ⟨h0, h1, by rw [he k 6 1 h0 rfl]; exact h2, by rw [he k 6 2 h0 rfl]; exact h3, h4, h5, n, h6, by rw [he k 6 4 h0 rfl]; exact h7, by rw [he k 6 5 h0 rfl]; exact h8, by rw [he k 6 6 h0 rfl]; exact h9, h10⟩
theorem t_eqf.sy (h : t_eqf sh gr gr') : t_eqf sh gr' gr := fun k ci j hk hf => (h k ci j hk hf).symm
theorem t_stp.ext (h : t_stp sh gi gr) (he : t_eqf sh gr gr') : t_stp sh gi gr' := ⟨fun k n hk hn => h.1 k n (hk.ext he.sy) hn, fun k j hk => h.2 k j (hk.ext he.sy)⟩
/-- the arrays of Rules lie apart -/
theorem t_Ru.ne {k k' m : Nat} (h : t_Ru sh gr k) (h' : t_Ru sh gr k') (hm : m = 1 ∨ m = 3 ∨ m = 4 ∨ m = 5) : k + m ≠ k' + 2 := by
  intro e
  obtain ⟨h0, _, _, _, h4, h5, n, _, _, _, _, h6, h7, h8⟩ := h'
  have hk := h.1
  rcases hm with rfl | rfl | rfl | rfl
  · rw [show k = k' + 1 by omega, h4] at hk; cases hk
  · have e2 : k' = k + 1 := by omega
    rw [e2, h.2.2.2.2.1] at h0; cases h0
  · have e2 : k' = k + 2 := by omega
    rw [e2, h.2.2.2.2.2.1] at h0; cases h0
  · have e2 : k' = k + 3 := by omega
    obtain ⟨_, _, _, _, _, _, n', _, _, _, _, g6, _⟩ := h
    rw [e2, g6] at h0; cases h0
theorem t_RvN.ext {v : Value} (h : t_RvN sh gr v) (he : t_eqf sh gr gr') : t_RvN sh gr' v := h.imp id (fun ⟨k, h1, h2⟩ => ⟨k, h1, h2.ext he⟩)
theorem t_RuN.ext {v : Value} (h : t_RuN sh gr v) (he : t_eqf sh gr gr') : t_RuN sh gr' v := h.imp id (fun ⟨k, h1, h2⟩ => ⟨k, h1, h2.ext he⟩)
theorem t_I.wf (h : t_I sh gi gr) : x_WF sh gr := h.1
/-- a field's bounds -/
theorem t_I.b (h : t_I sh gi gr) {k ci j : Nat} {lo hi : Int} (hk : sh[k]? = some (.inl ci)) (hb : t_bd ci j = some (lo, hi)) : lo ≤ (gi k j).toInt ∧ (gi k j).toInt ≤ hi := h.2.1 k ci j lo hi hk hb
/-- bounds over a stretch of an array -/
noncomputable def t_abr (k i j : Nat) (lo hi : Int) : Bool := (List.range (j + 1 - i)).all (fun q => match t_ab k (i + q) with | some b => decide (lo ≤ b.1) && decide (b.2 ≤ hi) | none => false)
theorem t_I.ab (h : t_I sh gi gr) {k i j m : Nat} {lo hi : Int} (hb : t_abr k i j lo hi = true) (h1 : i ≤ m) (h2 : m ≤ j) : lo ≤ (gi k m).toInt ∧ (gi k m).toInt ≤ hi := by
  unfold t_abr at hb
  have h3 := List.all_eq_true.mp hb (m - i) (List.mem_range.mpr (by omega))
  rw [show i + (m - i) = m by omega] at h3
  cases hc : t_ab k m with
  | none => rw [hc] at h3; cases h3
  | some b =>
    rw [hc] at h3
    simp only [Bool.and_eq_true, decide_eq_true_eq] at h3
    obtain ⟨h4, h5⟩ := h.2.2.1 k m b.1 b.2 hc
    exact ⟨by omega, by omega⟩
theorem t_noarr {k ci j : Nat} (h : x_WF sh gr) (hk : sh[k]? = some (.inl ci)) : t_ab k j = none := by
  cases hc : t_ab k j with
  | none => rfl
  | some b =>
    obtain ⟨_, q, hq⟩ := t_ab_arr hc
    have h1 := h.s0 hq
    rw [hk] at h1; cases h1
/-- what is written fits -/
theorem t_I.putG (h : t_I sh gi gr) {k ci j : Nat} {x : Int32} (hk : sh[k]? = some (.inl ci)) (hb : ∀ lo hi, t_bd ci j = some (lo, hi) → lo ≤ x.toInt ∧ x.toInt ≤ hi) (hs : ci = 6 → j = 3 → ∀ n, sh[k + 3]? = some (.inr (0, n)) → x.toInt ≤ n) : t_I sh (x_up2 gi k j x) gr := by
  obtain ⟨h1, h2, h3, h4, h5⟩ := h
  refine ⟨h1, ?_, ?_, h4, ?_⟩
  · intro k' ci' j' lo hi hk' hb'
    by_cases hq : k' = k ∧ j' = j
    · obtain ⟨rfl, rfl⟩ := hq
      rw [hk] at hk'; cases hk'
      rw [x_up2_at]; exact hb lo hi hb'
    · rw [x_up2_off (by omega)]; exact h2 k' ci' j' lo hi hk' hb'
  · intro k' j' lo hi hb'
    have hne : k' ≠ k := by
      rintro rfl
      rw [t_noarr h1 hk] at hb'; cases hb'
    rw [x_up2_off (Or.inl hne)]; exact h3 k' j' lo hi hb'
  · refine ⟨fun k' n hk' hn => ?_, fun k' j' hk' => ?_⟩
    · by_cases hq : k' = k ∧ 3 = j
      · obtain ⟨rfl, rfl⟩ := hq
        have h6 := hk'.1
        rw [hk] at h6; cases h6
        rw [x_up2_at]; exact hs rfl rfl n hn
      · rw [x_up2_off (by omega)]; exact h5.1 k' n hk' hn
    · have hne : k' + 2 ≠ k := by
        rintro rfl
        have := hk'.2.2.2.2.2.1
        rw [hk] at this; cases this
      rw [x_up2_off (Or.inl hne)]; exact h5.2 k' j' hk'
theorem t_I.put0 (h : t_I sh gi gr) {k ci j : Nat} {x : Int32} (hk : sh[k]? = some (.inl ci)) (hb : t_bd ci j = none) (h6 : (ci == 6 && j == 3) = false) : t_I sh (x_up2 gi k j x) gr :=
  h.putG hk (fun lo hi q => by rw [hb] at q; cases q) (fun a b => by subst a; subst b; cases h6)
theorem t_I.putB (h : t_I sh gi gr) {k ci j : Nat} {x : Int32} {lo hi l u : Int} (hk : sh[k]? = some (.inl ci)) (hb : t_bd ci j = some (lo, hi)) (h6 : (ci == 6 && j == 3) = false) (a1 : l ≤ x.toInt) (b1 : decide (lo ≤ l) = true) (a2 : x.toInt ≤ u) (b2 : decide (u ≤ hi) = true) : t_I sh (x_up2 gi k j x) gr :=
  h.putG hk (fun lo' hi' q => by rw [hb] at q; cases q; have := of_decide_eq_true b1; have := of_decide_eq_true b2; exact ⟨by omega, by omega⟩) (fun a b => by subst a; subst b; cases h6)
theorem t_noobj {a k ci : Nat} {q : Nat × Nat} (ha : sh[a]? = some (.inr q)) (hk : sh[k]? = some (.inl ci)) : k ≠ a := by
  rintro rfl; rw [ha] at hk; cases hk
theorem t_I.astG (h : t_I sh gi gr) {a j : Nat} {q : Nat × Nat} {x : Int32} (ha : sh[a]? = some (.inr q)) (hb : ∀ lo hi, t_ab a j = some (lo, hi) → lo ≤ x.toInt ∧ x.toInt ≤ hi) (hd : ∀ k, t_Ru sh gr k → a = k + 2 → 0 ≤ x.toInt) : t_I sh (x_up2 gi a j x) gr := by
  obtain ⟨h1, h2, h3, h4, h5⟩ := h
  refine ⟨h1, ?_, ?_, h4, ?_⟩
  · intro k' ci' j' lo hi hk' hb'
    rw [x_up2_off (Or.inl (t_noobj ha hk'))]; exact h2 k' ci' j' lo hi hk' hb'
  · intro k' j' lo hi hb'
    by_cases hq : k' = a ∧ j' = j
    · obtain ⟨rfl, rfl⟩ := hq
      rw [x_up2_at]; exact hb lo hi hb'
    · rw [x_up2_off (by omega)]; exact h3 k' j' lo hi hb'
  · refine ⟨fun k' n hk' hn => ?_, fun k' j' hk' => ?_⟩
    · rw [x_up2_off (Or.inl (t_noobj ha hk'.1))]; exact h5.1 k' n hk' hn
    · by_cases hq : k' + 2 = a ∧ j' = j
      · obtain ⟨rfl, rfl⟩ := hq
        rw [x_up2_at]; exact hd k' hk' rfl
      · rw [x_up2_off (by omega)]; exact h5.2 k' j' hk'
/-- no bounded array of the class has this type and length -/
noncomputable def t_shb (q : Nat × Nat) : Bool := t_abl.all (fun b => !decide (b.1 < 69) || (match x_sh0[b.1]? with | some (.inr q') => !(q'.1 == q.1 && q'.2 == q.2) | _ => false))
noncomputable def t_abm : Bool := t_abl.all (fun b => decide (b.1 < 102))
theorem t_ab_out {a j : Nat} {q : Nat × Nat} (h : x_WF sh gr) (ha : sh[a]? = some (.inr q)) (ho : t_out a) (hs : t_shb q = true) : t_ab a j = none := by
  cases hc : t_ab a j with
  | none => rfl
  | some b =>
    exfalso
    obtain ⟨h1, q', hq'⟩ := t_ab_arr hc
    obtain ⟨e, hm, rfl⟩ := t_ab_mem hc
    have h2 := List.all_eq_true.mp hs e hm
    have h3 := h.s0 hq'
    rw [ha] at h3; cases h3
    rcases ho with ho | ho
    · rw [hq'] at h2
      simp [ho] at h2
    · omega
theorem t_I.astO (h : t_I sh gi gr) {a j : Nat} {q : Nat × Nat} {x : Int32} (ha : sh[a]? = some (.inr q)) (ho : t_out a) (hs : (t_shb q && !(q.1 == 0 && q.2 == 12)) = true) : t_I sh (x_up2 gi a j x) gr := by
  rw [Bool.and_eq_true] at hs
  exact h.astG ha (fun lo hi e => by rw [t_ab_out h.1 ha ho hs.1] at e; cases e) (fun k hk e => by
    subst e
    have := hk.2.2.2.2.2.1
    rw [ha] at this; cases this; cases hs.2)
theorem t_I.astD (h : t_I sh gi gr) {a j : Nat} {q : Nat × Nat} {x : Int32} (ha : sh[a]? = some (.inr q)) (ho : 102 ≤ a) (hd : ∀ k, t_Ru sh gr k → a = k + 2 → 0 ≤ x.toInt) : t_I sh (x_up2 gi a j x) gr :=
  h.astG ha (fun lo hi e => by have := (t_ab_arr e).1; omega) hd
/-- over a stretch of a cell's places, x fits -/
noncomputable def t_abw (k i j : Nat) (l u : Int) : Bool := (List.range (j + 1 - i)).all (fun q => match t_ab k (i + q) with | some b => decide (b.1 ≤ l) && decide (u ≤ b.2) | none => true)
theorem t_I.astL (h : t_I sh gi gr) {a i j m : Nat} {q : Nat × Nat} {x : Int32} {l u : Int} (ha : sh[a]? = some (.inr q)) (hw : t_abw a i j l u = true) (h1 : i ≤ m) (h2 : m ≤ j) (a1 : l ≤ x.toInt) (a2 : x.toInt ≤ u) (ho : decide (a < 102) = true) : t_I sh (x_up2 gi a m x) gr := by
  have ho := of_decide_eq_true ho
  refine h.astG ha (fun lo hi e => ?_) (fun k hk e => by have := hk.2.1; omega)
  have h3 := List.all_eq_true.mp hw (m - i) (List.mem_range.mpr (by omega))
  rw [show i + (m - i) = m by omega, e] at h3
  simp only [Bool.and_eq_true, decide_eq_true_eq] at h3
  exact ⟨by omega, by omega⟩
/-- a cell's code: itself, or for those that are made later 110 and the class, 130 and the elements' type -/
noncomputable def t_cs : Nat ⊕ (Nat × Nat) → Nat | .inl c => 110 + c | .inr q => 130 + q.1
noncomputable def t_cd (sh : List (Nat ⊕ (Nat × Nat))) (k : Nat) : Nat := if k < 102 then k else match sh[k]? with | some s => t_cs s | none => 102
/-- what may be written: cell (by its code) and place (9999: all) -/
noncomputable def t_cov (c j : Nat) : Bool := c == 9999 || (c == j || (Nat.ble 10000 c && (Nat.ble ((c - 10000) / 100000) j && Nat.ble j ((c - 10000) % 100000))))
noncomputable def t_in (wl : List (Nat × Nat)) (k j : Nat) : Bool := wl.any (fun q => q.1 == k && t_cov q.2 j)
noncomputable def t_X (wl : List (Nat × Nat)) (sh : List (Nat ⊕ (Nat × Nat))) (gi : Nat → Nat → Int32) (gl : Nat → Nat → Int64) (gr : Nat → Nat → Value) (gi' : Nat → Nat → Int32) (gl' : Nat → Nat → Int64) (gr' : Nat → Nat → Value) : Prop :=
  (∀ k j, t_in wl (t_cd sh k) j = false → gi' k j = gi k j ∧ gl' k j = gl k j ∧ gr' k j = gr k j) ∧ t_eqf sh gr gr'
noncomputable def t_sub (wc wl : List (Nat × Nat)) : Bool := wc.all (fun q => wl.any (fun r => r.1 == q.1 && (r.2 == 9999 || r.2 == q.2)))
theorem t_sub_ok {wc wl : List (Nat × Nat)} (h : t_sub wc wl = true) {k j : Nat} (hn : t_in wl k j = false) : t_in wc k j = false := by
  cases hc : t_in wc k j with
  | false => rfl
  | true =>
    exfalso
    obtain ⟨q, hq, hq2⟩ := List.any_eq_true.mp hc
    obtain ⟨r, hr, hr2⟩ := List.any_eq_true.mp (List.all_eq_true.mp h q hq)
    have : t_in wl k j = true := List.any_eq_true.mpr ⟨r, hr, by
      simp only [Bool.and_eq_true, Bool.or_eq_true, beq_iff_eq] at hq2 hr2 ⊢
      refine ⟨hr2.1.trans hq2.1, ?_⟩
      rcases hr2.2 with h | h
      · unfold t_cov; rw [h]; rfl
      · rw [h]; exact hq2.2⟩
    rw [hn] at this; cases this
theorem t_eqf.rf : t_eqf sh gr gr := fun _ _ _ _ _ => rfl
theorem t_eqf.tr {gr'' : Nat → Nat → Value} (h : t_eqf sh gr gr') (g : t_eqf sh gr' gr'') : t_eqf sh gr gr'' := fun k ci j hk hf => (g k ci j hk hf).trans (h k ci j hk hf)
variable {wl wc : List (Nat × Nat)} {gi' gi'' : Nat → Nat → Int32} {gl' gl'' : Nat → Nat → Int64} {gr'' : Nat → Nat → Value}
theorem t_X.rf : t_X wl sh gi gl gr gi gl gr := ⟨fun _ _ _ => ⟨rfl, rfl, rfl⟩, t_eqf.rf⟩
theorem t_X.tr (h : t_X wl sh gi gl gr gi' gl' gr') (g : t_X wc sh gi' gl' gr' gi'' gl'' gr'') (hs : t_sub wc wl = true) : t_X wl sh gi gl gr gi'' gl'' gr'' :=
  ⟨fun k j hn => by
    obtain ⟨a1, a2, a3⟩ := h.1 k j hn
    obtain ⟨b1, b2, b3⟩ := g.1 k j (t_sub_ok hs hn)
    exact ⟨b1.trans a1, b2.trans a2, b3.trans a3⟩, h.2.tr g.2⟩
theorem t_X.up {k j : Nat} (h : t_X wl sh gi gl gr gi' gl' gr') (hi : t_in wl (t_cd sh k) j = true) (hg : ∀ a b, (a ≠ k ∨ b ≠ j) → gi'' a b = gi' a b ∧ gl'' a b = gl' a b ∧ gr'' a b = gr' a b) (he : t_eqf sh gr' gr'') : t_X wl sh gi gl gr gi'' gl'' gr'' :=
  ⟨fun a b hn => by
    have hne : a ≠ k ∨ b ≠ j := by
      by_cases ha : a = k
      · by_cases hb : b = j
        · subst ha; subst hb; rw [hi] at hn; cases hn
        · exact Or.inr hb
      · exact Or.inl ha
    obtain ⟨a1, a2, a3⟩ := h.1 a b hn
    obtain ⟨b1, b2, b3⟩ := hg a b hne
    exact ⟨b1.trans a1, b2.trans a2, b3.trans a3⟩, h.2.tr he⟩
theorem t_X.upI {k j : Nat} {x : Int32} (h : t_X wl sh gi gl gr gi' gl' gr') (hi : t_in wl (t_cd sh k) j = true) : t_X wl sh gi gl gr (x_up2 gi' k j x) gl' gr' :=
  h.up hi (fun _ _ q => ⟨x_up2_off q, rfl, rfl⟩) t_eqf.rf
theorem t_X.upL {k j : Nat} {x : Int64} (h : t_X wl sh gi gl gr gi' gl' gr') (hi : t_in wl (t_cd sh k) j = true) : t_X wl sh gi gl gr gi' (x_up2 gl' k j x) gr' :=
  h.up hi (fun _ _ q => ⟨rfl, x_up2_off q, rfl⟩) t_eqf.rf
theorem t_eqf_up {k j ci : Nat} {v : Value} (hk : sh[k]? = some (.inl ci)) (hf : t_fin ci j = false) : t_eqf sh gr (x_up2 gr k j v) := fun k' ci' j' hk' hf' => by
  refine x_up2_off ?_
  by_cases ha : k' = k
  · right
    rintro rfl
    subst ha
    rw [hk] at hk'; cases hk'
    rw [hf] at hf'; cases hf'
  · exact Or.inl ha
theorem t_eqf_upA {k j : Nat} {q : Nat × Nat} {v : Value} (hk : sh[k]? = some (.inr q)) : t_eqf sh gr (x_up2 gr k j v) := fun k' ci' j' hk' _ => x_up2_off (Or.inl (t_noobj hk hk'))
theorem t_X.upR {k j : Nat} {v : Value} (h : t_X wl sh gi gl gr gi' gl' gr') (hi : t_in wl (t_cd sh k) j = true) (he : t_eqf sh gr' (x_up2 gr' k j v)) : t_X wl sh gi gl gr gi' gl' (x_up2 gr' k j v) :=
  h.up hi (fun _ _ q => ⟨rfl, rfl, x_up2_off q⟩) he
/-- a cell that is known by its shape alone: all cells of the class with that shape may be written -/
noncomputable def t_allc (wl : List (Nat × Nat)) (s : Nat ⊕ (Nat × Nat)) (j : Nat) : Bool := t_in wl (t_cs s) j && (List.range 69).all (fun q => (match x_sh0[q]? with | some s' => !x_eS s' s | none => true) || t_in wl q j)
noncomputable def t_nallc (wl : List (Nat × Nat)) (s : Nat ⊕ (Nat × Nat)) (j : Nat) : Bool := !t_in wl (t_cs s) j && (List.range 69).all (fun q => (match x_sh0[q]? with | some s' => !x_eS s' s | none => true) || !t_in wl q j)
theorem x_eS_rf (s : Nat ⊕ (Nat × Nat)) : x_eS s s = true := by
  cases s with
  | inl a => exact Nat.beq_refl a
  | inr q => show (Nat.beq q.1 q.1 && Nat.beq q.2 q.2) = true; rw [Nat.beq_refl, Nat.beq_refl]; rfl
theorem t_sh0_len : x_sh0.length = 102 := by decide +kernel
theorem t_cell {k : Nat} {s : Nat ⊕ (Nat × Nat)} (h : x_WF sh gr) (hk : sh[k]? = some s) (ho : k < 69) : x_sh0[k]? = some s := by
  have h2 : k < x_sh0.length := by rw [t_sh0_len]; omega
  have h3 : x_sh0[k]? = some (x_sh0[k]) := List.getElem?_eq_getElem h2
  have h4 := h.s0 h3
  rw [hk] at h4
  rw [h3]; exact h4.symm
theorem t_inO {k j : Nat} {s : Nat ⊕ (Nat × Nat)} (h : x_WF sh gr) (hk : sh[k]? = some s) (ho : t_out k) (ha : t_allc wl s j = true) : t_in wl (t_cd sh k) j = true := by
  unfold t_allc at ha
  rw [Bool.and_eq_true] at ha
  unfold t_cd
  rcases ho with ho | ho
  · rw [if_pos (by omega)]
    have h1 := List.all_eq_true.mp ha.2 k (List.mem_range.mpr ho)
    rw [t_cell h hk ho] at h1
    simpa [x_eS_rf] using h1
  · rw [if_neg (by omega), hk]; exact ha.1
theorem t_ninO {k j : Nat} {s : Nat ⊕ (Nat × Nat)} (h : x_WF sh gr) (hk : sh[k]? = some s) (ho : t_out k) (ha : t_nallc wl s j = true) : t_in wl (t_cd sh k) j = false := by
  unfold t_nallc at ha
  rw [Bool.and_eq_true] at ha
  unfold t_cd
  rcases ho with ho | ho
  · rw [if_pos (by omega)]
    have h1 := List.all_eq_true.mp ha.2 k (List.mem_range.mpr ho)
    rw [t_cell h hk ho] at h1
    simpa [x_eS_rf] using h1
  · rw [if_neg (by omega), hk]
    have := ha.1
    simpa using this
/-- a stretch of places: 10000 + 100000 * first + last -/
theorem t_inR {k p m : Nat} {i : Int32} {l u : Int} (h : wl.any (fun q => q.1 == k && q.2 == 10000 + 100000 * p + m) = true) (a1 : l ≤ i.toInt) (h1 : decide ((p : Int) ≤ l) = true) (a2 : i.toInt ≤ u) (h2 : decide (u ≤ (m : Int)) = true) (h3 : decide (m < 100000) = true) : t_in wl k i.toNatClampNeg = true := by
  obtain ⟨q, hq, hq2⟩ := List.any_eq_true.mp h
  have h1 := of_decide_eq_true h1
  have h2 := of_decide_eq_true h2
  have h3 := of_decide_eq_true h3
  refine List.any_eq_true.mpr ⟨q, hq, ?_⟩
  rw [Bool.and_eq_true] at hq2 ⊢
  refine ⟨hq2.1, ?_⟩
  have e : q.2 = 10000 + 100000 * p + m := by simpa using hq2.2
  have h4 : (i.toNatClampNeg : Int) = i.toInt := by show ((i.toInt.toNat : Nat) : Int) = _; omega
  unfold t_cov
  rw [e, show (10000 + 100000 * p + m - 10000) / 100000 = p by omega, show (10000 + 100000 * p + m - 10000) % 100000 = m by omega]
  have e1 : Nat.ble 10000 (10000 + 100000 * p + m) = true := Nat.ble_eq_true_of_le (by omega)
  have e2 : Nat.ble p i.toNatClampNeg = true := Nat.ble_eq_true_of_le (by omega)
  have e3 : Nat.ble i.toNatClampNeg m = true := Nat.ble_eq_true_of_le (by omega)
  rw [e1, e2, e3]
  simp
/-- ahead of all that may be written of a cell -/
theorem t_nR {k n j : Nat} (h : wl.all (fun q => !(q.1 == k) || (Nat.ble 10000 q.2 && Nat.ble n ((q.2 - 10000) / 100000))) = true) (hn : decide (n ≤ 9999) = true) (hj : j < n) : t_in wl k j = false := by
  have hn := of_decide_eq_true hn
  cases hc : t_in wl k j with
  | false => rfl
  | true =>
    exfalso
    obtain ⟨q, hq, hq2⟩ := List.any_eq_true.mp hc
    have h1 := List.all_eq_true.mp h q hq
    rw [Bool.and_eq_true] at hq2
    rw [hq2.1] at h1
    simp only [Bool.not_true, Bool.false_or, Bool.and_eq_true] at h1
    have h2 := Nat.le_of_ble_eq_true h1.1
    have h3 := Nat.le_of_ble_eq_true h1.2
    have h4 := hq2.2
    unfold t_cov at h4
    simp only [Bool.or_eq_true, Bool.and_eq_true, beq_iff_eq] at h4
    rcases h4 with h4 | h4 | h4
    · omega
    · omega
    · have := Nat.le_of_ble_eq_true h4.2.1; omega
/-- whole arrays -/
noncomputable def t_inA (wl : List (Nat × Nat)) (k : Nat) : Bool := wl.any (fun q => q.1 == k && q.2 == 9999)
theorem t_inA_ok {k j : Nat} (h : t_inA wl k = true) : t_in wl k j = true := by
  obtain ⟨q, hq, hq2⟩ := List.any_eq_true.mp h
  refine List.any_eq_true.mpr ⟨q, hq, ?_⟩
  rw [Bool.and_eq_true] at hq2 ⊢
  refine ⟨hq2.1, ?_⟩
  unfold t_cov; rw [hq2.2]; rfl
noncomputable def t_allA (wl : List (Nat × Nat)) (s : Nat ⊕ (Nat × Nat)) : Bool := t_inA wl (t_cs s) && (List.range 69).all (fun q => (match x_sh0[q]? with | some s' => !x_eS s' s | none => true) || t_inA wl q)
theorem t_allA_ok {s : Nat ⊕ (Nat × Nat)} {j : Nat} (h : t_allA wl s = true) : t_allc wl s j = true := by
  unfold t_allA at h
  rw [Bool.and_eq_true, List.all_eq_true] at h
  unfold t_allc
  rw [Bool.and_eq_true, List.all_eq_true]
  refine ⟨t_inA_ok h.1, fun q hq => ?_⟩
  have h1 := h.2 q hq
  rw [Bool.or_eq_true] at h1 ⊢
  exact h1.imp id t_inA_ok
theorem t_inOD {k j : Nat} {q : Nat × Nat} (hk : sh[k]? = some (.inr q)) (ho : 102 ≤ k) (ha : t_inA wl (130 + q.1) = true) : t_in wl (t_cd sh k) j = true := by
  unfold t_cd
  rw [if_neg (by omega), hk]
  exact t_inA_ok ha
theorem t_inOA {k j : Nat} {s : Nat ⊕ (Nat × Nat)} (h : x_WF sh gr) (hk : sh[k]? = some s) (ho : t_out k) (ha : t_allA wl s = true) : t_in wl (t_cd sh k) j = true := t_inO h hk ho (t_allA_ok ha)
theorem t_nob {k j : Nat} (h : (t_abl.all (fun q => !(q.1 == k))) = true) (b : Int × Int) : ¬ t_ab k j = some b := by
  intro e
  obtain ⟨q, hm, rfl⟩ := t_ab_mem e
  have := List.all_eq_true.mp h q hm
  simp at this
/-- a whole array of ints anew -/
theorem t_I.arr (h : t_I sh gi gr) {k : Nat} {q : Nat × Nat} {f : Nat → Int32} (ha : sh[k]? = some (.inr q)) (hb : ∀ j lo hi, t_ab k j = some (lo, hi) → lo ≤ (f j).toInt ∧ (f j).toInt ≤ hi) (ho : k < 102) : t_I sh (fun a => if a = k then f else gi a) gr := by
  obtain ⟨h1, h2, h3, h4, h5⟩ := h
  refine ⟨h1, ?_, ?_, h4, ?_, ?_⟩
  · intro k' ci' j' lo hi hk' hb'
    dsimp only; rw [if_neg (t_noobj ha hk')]; exact h2 k' ci' j' lo hi hk' hb'
  · intro k' j' lo hi hb'
    by_cases hq : k' = k
    · subst hq; dsimp only; rw [if_pos rfl]; exact hb j' lo hi hb'
    · dsimp only; rw [if_neg hq]; exact h3 k' j' lo hi hb'
  · intro k' n hk' hn
    dsimp only; rw [if_neg (t_noobj ha hk'.1)]; exact h5.1 k' n hk' hn
  · intro k' j' hk'
    have := hk'.2.1
    dsimp only; rw [if_neg (by omega)]; exact h5.2 k' j' hk'
theorem t_X.arrI {k : Nat} {f : Nat → Int32} (h : t_X wl sh gi gl gr gi' gl' gr') (hi : ∀ j, t_in wl (t_cd sh k) j = true) : t_X wl sh gi gl gr (fun a => if a = k then f else gi' a) gl' gr' :=
  ⟨fun a b hn => by
    have hne : a ≠ k := by rintro rfl; rw [hi b] at hn; cases hn
    dsimp only; rw [if_neg hne]; exact h.1 a b hn, h.2⟩
theorem t_X.arrL {k : Nat} {f : Nat → Int64} (h : t_X wl sh gi gl gr gi' gl' gr') (hi : ∀ j, t_in wl (t_cd sh k) j = true) : t_X wl sh gi gl gr gi' (fun a => if a = k then f else gl' a) gr' :=
  ⟨fun a b hn => by
    have hne : a ≠ k := by rintro rfl; rw [hi b] at hn; cases hn
    dsimp only; rw [if_neg hne]; exact h.1 a b hn, h.2⟩
end TI2
/-! ===== rules over typed worlds ===== -/
noncomputable def t_Tk (sh : List (Nat ⊕ (Nat × Nat))) (gr : Nat → Nat → Value) (k : Nat) : Prop := sh[k]? = some (.inl 8) ∧ gr k 0 = .ref 2
noncomputable def t_RR (sh : List (Nat ⊕ (Nat × Nat))) (gr : Nat → Nat → Value) (k : Nat) : Prop := sh[k]? = some (.inl 5) ∧ (∃ a, gr k 0 = .ref a ∧ t_Tk sh gr a) ∧ (∃ a, gr k 1 = .ref a ∧ t_Rv sh gr a) ∧ t_ar sh gr k 2 1 6 ∧ t_ar sh gr k 3 1 18
noncomputable def t_RL (sh : List (Nat ⊕ (Nat × Nat))) (gr : Nat → Nat → Value) (k : Nat) : Prop := sh[k]? = some (.inl 7) ∧ (∃ a, gr k 0 = .ref a ∧ t_Tk sh gr a) ∧ ∃ a, gr k 1 = .ref a ∧ t_Ru sh gr a
/-- what a method's run ends in -/
noncomputable def t_P (wl : List (Nat × Nat)) (sh : List (Nat ⊕ (Nat × Nat))) (gi : Nat → Nat → Int32) (gl : Nat → Nat → Int64) (gr : Nat → Nat → Value) (R : Option Value → Prop) (v : Option Value) (G' : x_G) : Prop := ∃ gi' gl' gr', G' = (sh, gi', gl', gr') ∧ t_I sh gi' gr' ∧ t_X wl sh gi gl gr gi' gl' gr' ∧ R v
noncomputable def t_Rn (v : Option Value) : Prop := v = none
noncomputable def t_Ri (lo hi : Int) (v : Option Value) : Prop := ∃ x : Int32, v = some (.int x) ∧ lo ≤ x.toInt ∧ x.toInt ≤ hi
noncomputable def t_Rl (v : Option Value) : Prop := ∃ x : Int64, v = some (.long x)
theorem t_hi (x : Int32) : x.toInt ≤ 2147483647 := by have := Int32.toInt_lt x; omega
theorem t_ltu {x y : Int32} {u v : Int} (h : x < y) (hu : y.toInt ≤ u) (hv : u - 1 = v) : x.toInt ≤ v := by have := Int32.lt_iff_toInt_lt.mp h; omega
theorem t_ltl {x y : Int32} {u v : Int} (h : x < y) (hu : u ≤ x.toInt) (hv : u + 1 = v) : v ≤ y.toInt := by have := Int32.lt_iff_toInt_lt.mp h; omega
theorem t_leu {x y : Int32} {u : Int} (h : x ≤ y) (hu : y.toInt ≤ u) : x.toInt ≤ u := by have := Int32.le_iff_toInt_le.mp h; omega
theorem t_lel {x y : Int32} {u : Int} (h : x ≤ y) (hu : u ≤ x.toInt) : u ≤ y.toInt := by have := Int32.le_iff_toInt_le.mp h; omega
theorem t_nlt {x y : Int32} (h : ¬ x < y) : y ≤ x := Int32.not_lt.mp h
theorem t_nle {x y : Int32} (h : ¬ x ≤ y) : y < x := Int32.not_le.mp h
theorem t_eqi {x y : Int32} (h : x = y) : x.toInt = y.toInt := congrArg Int32.toInt h
theorem t_equ {x y : Int32} {u : Int} (h : x = y) (hu : y.toInt ≤ u) : x.toInt ≤ u := by rw [h]; exact hu
theorem t_eql {x y : Int32} {u : Int} (h : x = y) (hu : u ≤ y.toInt) : u ≤ x.toInt := by rw [h]; exact hu
/-- settled comparisons -/
theorem t_ltT {x y : Int32} {u l : Int} (hu : x.toInt ≤ u) (hl : l ≤ y.toInt) (h : decide (u < l) = true) : x < y := by have := of_decide_eq_true h; exact Int32.lt_iff_toInt_lt.mpr (by omega)
theorem t_leT {x y : Int32} {u l : Int} (hu : x.toInt ≤ u) (hl : l ≤ y.toInt) (h : decide (u ≤ l) = true) : x ≤ y := by have := of_decide_eq_true h; exact Int32.le_iff_toInt_le.mpr (by omega)
theorem t_neT {x y : Int32} {u l : Int} (hu : x.toInt ≤ u) (hl : l ≤ y.toInt) (h : decide (u < l) = true) : ¬ x = y := by have := of_decide_eq_true h; rintro rfl; omega
theorem t_neT' {x y : Int32} {u l : Int} (hu : y.toInt ≤ u) (hl : l ≤ x.toInt) (h : decide (u < l) = true) : ¬ x = y := by have := of_decide_eq_true h; rintro rfl; omega
theorem t_ltF {x y : Int32} {u l : Int} (hu : y.toInt ≤ u) (hl : l ≤ x.toInt) (h : decide (u ≤ l) = true) : ¬ x < y := Int32.not_lt.mpr (t_leT hu hl h)
theorem t_leF {x y : Int32} {u l : Int} (hu : y.toInt ≤ u) (hl : l ≤ x.toInt) (h : decide (u < l) = true) : ¬ x ≤ y := Int32.not_le.mpr (t_ltT hu hl h)
theorem t_eqT {x y : Int32} {c : Int} (h1 : x.toInt ≤ c) (h2 : c ≤ x.toInt) (h3 : y.toInt ≤ c) (h4 : c ≤ y.toInt) : x = y := Int32.toInt_inj.mp (by omega)
theorem t_clamp {i : Int32} (h : 0 ≤ i.toInt) : (i.toNatClampNeg : Int) = i.toInt := by show ((i.toInt.toNat : Nat) : Int) = _; omega
theorem t_noobj2 {sh : List (Nat ⊕ (Nat × Nat))} {k k' c c' : Nat} (h : sh[k]? = some (.inl c)) (h' : sh[k']? = some (.inl c')) (hn : (c == c') = false) : k ≠ k' := by
  rintro rfl; rw [h] at h'; cases h'; simp at hn
theorem t_outO {sh : List (Nat ⊕ (Nat × Nat))} {gr : Nat → Nat → Value} {k ci : Nat} (h : x_WF sh gr) (hk : sh[k]? = some (.inl ci)) (hc : decide (ci < 11) = true) : t_out k := by
  have hc := of_decide_eq_true hc
  by_cases h1 : k < 69
  · exact Or.inl h1
  by_cases h2 : 102 ≤ k
  · exact Or.inr h2
  exfalso
  have h3 : ((List.range 102).all (fun q => decide (q < 69) || (match x_sh0[q]? with | some (.inl c) => decide (c = 11) | some (.inr _) => true | none => false))) = true := by decide +kernel
  have h4 := List.all_eq_true.mp h3 k (List.mem_range.mpr (by omega))
  have h5 : k < x_sh0.length := by rw [t_sh0_len]; omega
  have h6 : x_sh0[k]? = some (x_sh0[k]) := List.getElem?_eq_getElem h5
  have h7 := h.s0 h6
  rw [hk] at h7
  have h8 : x_sh0[k]? = some (.inl ci) := by rw [h6]; exact h7.symm
  rw [h8] at h4
  simp [h1] at h4
  omega
/-- fewer locals do as well -/
noncomputable def t_lsub (lo lo' : x_Lo) : Prop := ∀ i v, x_get lo i = some v → x_get lo' i = some v
theorem t_sn {lo' : x_Lo} : t_lsub [] lo' := fun _ _ h => by cases h
theorem t_sc {i : Nat} {v : Value} {r lo' : x_Lo} (h : x_get lo' i = some v) (hr : t_lsub r lo') : t_lsub ((i, v) :: r) lo' := by
  intro j w hj
  unfold x_get at hj
  split at hj
  · next e => subst e; cases hj; exact h
  · exact hr j w hj
noncomputable def t_nd : x_Lo → Bool
  | [] => true
  | q :: r => r.all (fun p => !(p.1 == q.1)) && t_nd r
theorem t_nd_filter {p : Nat × Value → Bool} : ∀ {lo : x_Lo}, t_nd lo = true → t_nd (lo.filter p) = true
  | [], _ => rfl
  | q :: r, h => by
    unfold t_nd at h
    rw [Bool.and_eq_true, List.all_eq_true] at h
    rw [List.filter_cons]
    split
    · unfold t_nd
      rw [Bool.and_eq_true, List.all_eq_true]
      exact ⟨fun x hx => h.1 x (List.mem_filter.mp hx).1, t_nd_filter h.2⟩
    · exact t_nd_filter h.2
theorem t_nd_cons {lo : x_Lo} {p : Nat × Value → Bool} {i : Nat} {v : Value} (h : t_nd lo = true) (hp : ∀ w, p (i, w) = false) : t_nd ((i, v) :: lo.filter p) = true := by
  unfold t_nd
  rw [Bool.and_eq_true, List.all_eq_true]
  refine ⟨fun x hx => ?_, t_nd_filter h⟩
  obtain ⟨a, b⟩ := x
  have h2 := (List.mem_filter.mp hx).2
  by_cases ha : a = i
  · subst ha; rw [hp b] at h2; cases h2
  · simp [ha]
/-- the first of a key is kept if it passes -/
theorem x_get_filter_of {p : Nat × Value → Bool} : ∀ {lo : x_Lo} {i : Nat} {v : Value}, x_get lo i = some v → p (i, v) = true → x_get (lo.filter p) i = some v
  | (j, w) :: r, i, v, h, hp => by
    unfold x_get at h
    split at h
    · next e =>
      subst e; cases h
      rw [List.filter_cons, if_pos hp]
      unfold x_get; rw [if_pos rfl]
    · next e =>
      rw [List.filter_cons]
      split
      · unfold x_get; rw [if_neg e]; exact x_get_filter_of h hp
      · exact x_get_filter_of h hp
theorem x_get_mem' : ∀ {lo : x_Lo} {i : Nat} {v : Value}, t_nd lo = true → (i, v) ∈ lo → x_get lo i = some v
  | (j, w) :: r, i, v, hn, hm => by
    unfold t_nd at hn
    rw [Bool.and_eq_true, List.all_eq_true] at hn
    unfold x_get
    rcases List.mem_cons.mp hm with e | e
    · cases e; rw [if_pos rfl]
    · rw [if_neg ?_]
      · exact x_get_mem' hn.2 e
      · rintro rfl
        have := hn.1 _ e
        simp at this
theorem t_lsub_set {lo lo' : x_Lo} {i : Nat} {v : Value} {p : Nat × Value → Bool} (hn : t_nd lo = true) (hs : t_lsub lo lo') : t_lsub ((i, v) :: lo.filter p) ((i, v) :: lo'.filter p) := by
  intro j w h
  unfold x_get at h ⊢
  split at h
  · next e => rw [if_pos e]; exact h
  · next e =>
    rw [if_neg e]
    have hm := x_get_mem h
    obtain ⟨h1, h2⟩ := List.mem_filter.mp hm
    exact x_get_filter_of (hs _ _ (x_get_mem' hn h1)) h2
theorem x_loc_lsub {nL : Nat} {ins : Instr} {lo lo' lo2 : x_Lo} {st st2 : List Value} (hn : t_nd lo = true) (hs : t_lsub lo lo') (h : x_loc nL ins lo st = some (lo2, st2)) : ∃ lo2', x_loc nL ins lo' st = some (lo2', st2) ∧ t_nd lo2 = true ∧ t_lsub lo2 lo2' := by
  have hld : ∀ (t : Value → Bool) (i : Nat), x_ld t lo i st = some (lo2, st2) → ∃ lo2', x_ld t lo' i st = some (lo2', st2) ∧ t_nd lo2 = true ∧ t_lsub lo2 lo2' := by
    intro t i h
    obtain ⟨v, h1, h2, rfl, rfl⟩ := x_ld_spec h
    refine ⟨lo', ?_, hn, hs⟩
    unfold x_ld; rw [hs _ _ h1]; dsimp only; rw [if_pos h2]
  have hst : ∀ (t : Value → Bool) (i : Nat), x_st nL t lo i st = some (lo2, st2) → ∃ lo2', x_st nL t lo' i st = some (lo2', st2) ∧ t_nd lo2 = true ∧ t_lsub lo2 lo2' := by
    intro t i h
    unfold x_st at h
    split at h
    · next v r =>
      split at h
      · next hc =>
        cases h
        refine ⟨x_set1 lo' i _, by unfold x_st; dsimp only; rw [if_pos hc], t_nd_cons hn (fun w => by simp), t_lsub_set hn hs⟩
      · cases h
    · cases h
  have hst2 : ∀ (i : Nat), x_st2 nL lo i st = some (lo2, st2) → ∃ lo2', x_st2 nL lo' i st = some (lo2', st2) ∧ t_nd lo2 = true ∧ t_lsub lo2 lo2' := by
    intro i h
    unfold x_st2 at h
    split at h
    · next v r =>
      split at h
      · next hc =>
        cases h
        refine ⟨x_set2 lo' i _, by unfold x_st2; dsimp only; rw [if_pos hc], t_nd_cons hn (fun w => by simp), t_lsub_set hn hs⟩
      · cases h
    · cases h
  cases ins
  all_goals first
    | exact hld _ _ h
    | exact hst _ _ h
    | exact hst2 _ h
    | (cases h; done)
    | (unfold x_loc at h
       dsimp only at h
       split at h
       · next x hx =>
         split at h
         · next hc =>
           cases h
           exact ⟨x_set1 lo' _ _, by unfold x_loc; dsimp only; rw [hs _ _ hx]; dsimp only; rw [if_pos hc], t_nd_cons hn (fun w => by simp), t_lsub_set hn hs⟩
         · cases h
       · cases h)
theorem x_exec_lsub {X : x_Ext} : ∀ (n d mi pc : Nat) (lo lo' : x_Lo) (st : List Value) (G : x_G) (r : Option Value × x_G), t_nd lo = true → t_lsub lo lo' → x_exec X n d mi pc lo st G = some r → x_exec X n d mi pc lo' st G = some r := by
  intro n
  induction n with
  | zero => intro d mi pc lo lo' st G r _ _ h; cases h
  | succ n ih =>
    intro d mi pc lo lo' st G r hn hs h
    unfold x_exec at h
    unfold x_exec
    split at h
    · cases h
    · next ins len a b q z hrow =>
      (try rw [hrow]); (try dsimp only)
      split at h
      · next hc =>
        (try rw [hc]); (try dsimp only)
        split at h
        · next hh => (try rw [hh]); exact ih _ _ _ _ _ _ _ _ hn hs h
        · cases h
      · next hc =>
        (try rw [hc]); (try dsimp only)
        split at h
        · next hh =>
          obtain ⟨lo2', h1, h2, h3⟩ := x_loc_lsub hn hs hh
          rw [h1]; exact ih _ _ _ _ _ _ _ _ h2 h3 h
        · cases h
      · next hc =>
        (try rw [hc]); (try dsimp only)
        split at h
        · next hh => (try rw [hh]); exact ih _ _ _ _ _ _ _ _ hn hs h
        · cases h
      · next hc =>
        (try rw [hc]); (try dsimp only)
        split at h
        · next hh => (try rw [hh]); exact ih _ _ _ _ _ _ _ _ hn hs h
        · cases h
      · next hc =>
        (try rw [hc]); (try dsimp only)
        split at h
        · next ha =>
          (try rw [if_pos ha])
          split at h
          · split at h
            · next hd => (try rw [if_pos hd]); exact ih _ _ _ _ _ _ _ _ hn hs h
            · cases h
          · cases h
        · next ha =>
          (try rw [if_neg ha])
          split at h
          · next ha1 =>
            (try rw [if_pos ha1])
            split at h
            · split at h
              · next e1 e2 =>
                (try rw [e1, e2]); (try dsimp only)
                split at h
                · next hd => (try rw [if_pos hd]); exact ih _ _ _ _ _ _ _ _ hn hs h
                · cases h
              · cases h
            · cases h
          · next ha1 =>
            (try rw [if_neg ha1])
            split at h
            · next ha2 =>
              (try rw [if_pos ha2])
              split at h
              · split at h
                · next hd => (try rw [if_pos hd]); exact ih _ _ _ _ _ _ _ _ hn hs h
                · cases h
              · cases h
            · next ha2 =>
              (try rw [if_neg ha2])
              split at h
              · next hd =>
                (try rw [if_pos hd])
                split at h
                · next hh =>
                  (try rw [hh]); (try dsimp only)
                  exact ih _ _ _ _ _ _ _ _ hn hs h
                · cases h
              · cases h
      · next h0 h1 h2 h3 h4 =>
        first
          | exact h
          | (split at h
             · next hh => (try rw [hh]); exact h
             · cases h)
/-- to a place with fewer locals told -/
theorem ev_sub {X : x_Ext} {d mi pc : Nat} {lo lo' : x_Lo} {st : List Value} {G : x_G} {P : Option Value → x_G → Prop} (hn : t_nd lo = true) (hs : t_lsub lo lo') (h : x_Ev X d mi pc lo st G P) : x_Ev X d mi pc lo' st G P := by
  obtain ⟨n, v, G', h1, h2⟩ := h
  exact ⟨n, v, G', x_exec_lsub _ _ _ _ _ _ _ _ _ hn hs h1, h2⟩
/-! ===== rules over typed worlds: instructions ===== -/
theorem t_bm {x : Int} (h1 : -2147483648 ≤ x) (h2 : x ≤ 2147483647) : x.bmod (2 ^ 32) = x := by
  rw [Int.bmod_def]
  omega
theorem t_add {x y : Int32} (h1 : -2147483648 ≤ x.toInt + y.toInt) (h2 : x.toInt + y.toInt ≤ 2147483647) : (x + y).toInt = x.toInt + y.toInt := by
  rw [Int32.toInt_add, t_bm h1 h2]
theorem t_subt {x y : Int32} (h1 : -2147483648 ≤ x.toInt - y.toInt) (h2 : x.toInt - y.toInt ≤ 2147483647) : (x - y).toInt = x.toInt - y.toInt := by
  rw [Int32.toInt_sub, t_bm h1 h2]
theorem t_mult {x y : Int32} (h1 : -2147483648 ≤ x.toInt * y.toInt) (h2 : x.toInt * y.toInt ≤ 2147483647) : (x * y).toInt = x.toInt * y.toInt := by
  rw [Int32.toInt_mul, t_bm h1 h2]
section TR
variable {X : x_Ext} {d mi pc nx a b q len ml : Nat} {z : Int} {ins : Instr} {lo lo' : x_Lo} {st st' r : List Value} {G : x_G} {P : Option Value → x_G → Prop} {T : List (Nat × x_Row)} {rt : Option FieldType}
theorem ev_addR {x y : Int32} {lx ux ly uy l u : Int} (F : x_F mi T ml rt) (hr : x_lk T pc = some (.iadd, len, a, b, q, z)) (a1 : lx ≤ x.toInt) (a2 : x.toInt ≤ ux) (b1 : ly ≤ y.toInt) (b2 : y.toInt ≤ uy) (hl : lx + ly = l) (hu : ux + uy = u) (h3 : decide (-2147483648 ≤ l) = true) (h4 : decide (u ≤ 2147483647) = true) (hn : pc + len = nx) (kk : ∀ w : Int32, w.toInt = x.toInt + y.toInt → l ≤ w.toInt → w.toInt ≤ u → x_Ev X d mi nx lo (.int w :: r) G P) : x_Ev X d mi pc lo (.int y :: .int x :: r) G P := by
  have h3 := of_decide_eq_true h3
  have h4 := of_decide_eq_true h4
  have e : (x + y).toInt = x.toInt + y.toInt := t_add (by omega) (by omega)
  exact ev_alu F hr rfl rfl hn (kk _ e (by omega) (by omega))
theorem ev_subR {x y : Int32} {lx ux ly uy l u : Int} (F : x_F mi T ml rt) (hr : x_lk T pc = some (.isub, len, a, b, q, z)) (a1 : lx ≤ x.toInt) (a2 : x.toInt ≤ ux) (b1 : ly ≤ y.toInt) (b2 : y.toInt ≤ uy) (hl : lx - uy = l) (hu : ux - ly = u) (h3 : decide (-2147483648 ≤ l) = true) (h4 : decide (u ≤ 2147483647) = true) (hn : pc + len = nx) (kk : ∀ w : Int32, w.toInt = x.toInt - y.toInt → l ≤ w.toInt → w.toInt ≤ u → x_Ev X d mi nx lo (.int w :: r) G P) : x_Ev X d mi pc lo (.int y :: .int x :: r) G P := by
  have h3 := of_decide_eq_true h3
  have h4 := of_decide_eq_true h4
  have e : (x - y).toInt = x.toInt - y.toInt := t_subt (by omega) (by omega)
  exact ev_alu F hr rfl rfl hn (kk _ e (by omega) (by omega))
/-- times a number that is known -/
theorem ev_mulR {x y : Int32} {c lx ux l u : Int} (F : x_F mi T ml rt) (hr : x_lk T pc = some (.imul, len, a, b, q, z)) (hc : y.toInt = c) (h0 : decide (0 ≤ c) = true) (a1 : lx ≤ x.toInt) (a2 : x.toInt ≤ ux) (hl : lx * c = l) (hu : ux * c = u) (h3 : decide (-2147483648 ≤ l) = true) (h4 : decide (u ≤ 2147483647) = true) (hn : pc + len = nx) (kk : ∀ w : Int32, w.toInt = x.toInt * c → l ≤ w.toInt → w.toInt ≤ u → x_Ev X d mi nx lo (.int w :: r) G P) : x_Ev X d mi pc lo (.int y :: .int x :: r) G P := by
  have h0 := of_decide_eq_true h0
  have h3 := of_decide_eq_true h3
  have h4 := of_decide_eq_true h4
  have g1 : lx * c ≤ x.toInt * c := Int.mul_le_mul_of_nonneg_right a1 h0
  have g2 : x.toInt * c ≤ ux * c := Int.mul_le_mul_of_nonneg_right a2 h0
  have e : (x * y).toInt = x.toInt * c := by rw [← hc]; exact t_mult (by rw [hc]; omega) (by rw [hc]; omega)
  exact ev_alu F hr rfl rfl hn (kk _ e (by omega) (by omega))
theorem ev_mulL {x y : Int32} {c ly uy l u : Int} (F : x_F mi T ml rt) (hr : x_lk T pc = some (.imul, len, a, b, q, z)) (hc : x.toInt = c) (h0 : decide (0 ≤ c) = true) (a1 : ly ≤ y.toInt) (a2 : y.toInt ≤ uy) (hl : ly * c = l) (hu : uy * c = u) (h3 : decide (-2147483648 ≤ l) = true) (h4 : decide (u ≤ 2147483647) = true) (hn : pc + len = nx) (kk : ∀ w : Int32, w.toInt = y.toInt * c → l ≤ w.toInt → w.toInt ≤ u → x_Ev X d mi nx lo (.int w :: r) G P) : x_Ev X d mi pc lo (.int y :: .int x :: r) G P := by
  have h0 := of_decide_eq_true h0
  have h3 := of_decide_eq_true h3
  have h4 := of_decide_eq_true h4
  have g1 : ly * c ≤ y.toInt * c := Int.mul_le_mul_of_nonneg_right a1 h0
  have g2 : y.toInt * c ≤ uy * c := Int.mul_le_mul_of_nonneg_right a2 h0
  have e : (x * y).toInt = y.toInt * c := by rw [Int.mul_comm, ← hc]; exact t_mult (by rw [hc, Int.mul_comm]; omega) (by rw [hc, Int.mul_comm]; omega)
  exact ev_alu F hr rfl rfl hn (kk _ e (by omega) (by omega))
theorem t_andle (x m : Int32) (h : 0 ≤ m.toInt) : 0 ≤ (x &&& m).toInt ∧ (x &&& m).toInt ≤ m.toInt := by
  have e1 := x_toInt32 (x &&& m)
  have e2 := x_toInt32 m
  have hb : ∀ y : Int32, x_b32 y = (x_n32 y + 2147483648) % 4294967296 := fun _ => rfl
  have hl : ∀ y : Int32, x_n32 y < 4294967296 := fun y => y.toUInt32.toBitVec.isLt
  have h1 : x_n32 (x &&& m) ≤ x_n32 m := by
    show (x &&& m).toBitVec.toNat ≤ m.toBitVec.toNat
    rw [show (x &&& m).toBitVec = x.toBitVec &&& m.toBitVec from Int32.toBitVec_and x m, BitVec.toNat_and]
    exact Nat.and_le_right
  have h2 := hb (x &&& m)
  have h3 := hb m
  have h4 := hl (x &&& m)
  have h5 := hl m
  omega
theorem ev_andR {x y : Int32} {c : Int} (F : x_F mi T ml rt) (hr : x_lk T pc = some (.iand, len, a, b, q, z)) (hc : y.toInt = c) (h0 : decide (0 ≤ c) = true) (hn : pc + len = nx) (kk : ∀ w : Int32, 0 ≤ w.toInt → w.toInt ≤ c → x_Ev X d mi nx lo (.int w :: r) G P) : x_Ev X d mi pc lo (.int y :: .int x :: r) G P := by
  have h := t_andle x y (by rw [hc]; exact of_decide_eq_true h0)
  exact ev_alu F hr rfl rfl hn (kk _ h.1 (by rw [← hc]; exact h.2))
/-- any result -/
theorem ev_anyI {v : Int32} (F : x_F mi T ml rt) (hr : x_lk T pc = some (ins, len, a, b, q, z)) (hc : x_cat ins = 0) (hs : x_alu ins st = some (.int v :: r)) (hn : pc + len = nx) (kk : ∀ w : Int32, x_Ev X d mi nx lo (.int w :: r) G P) : x_Ev X d mi pc lo st G P := ev_alu F hr hc hs hn (kk _)
theorem ev_anyL {v : Int64} (F : x_F mi T ml rt) (hr : x_lk T pc = some (ins, len, a, b, q, z)) (hc : x_cat ins = 0) (hs : x_alu ins st = some (.long v :: r)) (hn : pc + len = nx) (kk : ∀ w : Int64, x_Ev X d mi nx lo (.long w :: r) G P) : x_Ev X d mi pc lo st G P := ev_alu F hr hc hs hn (kk _)
theorem ev_divN {x y : Int32} (F : x_F mi T ml rt) (hr : x_lk T pc = some (.idiv, len, a, b, q, z)) (hy : ¬ y = 0) (hn : pc + len = nx) (kk : ∀ w : Int32, w = x / y → x_Ev X d mi nx lo (.int w :: r) G P) : x_Ev X d mi pc lo (.int y :: .int x :: r) G P :=
  ev_alu F hr rfl (if_neg hy) hn (kk _ rfl)
theorem ev_remN {x y : Int32} (F : x_F mi T ml rt) (hr : x_lk T pc = some (.irem, len, a, b, q, z)) (hy : ¬ y = 0) (hn : pc + len = nx) (kk : ∀ w : Int32, w = x - x / y * y → x_Ev X d mi nx lo (.int w :: r) G P) : x_Ev X d mi pc lo (.int y :: .int x :: r) G P :=
  ev_alu F hr rfl (if_neg hy) hn (kk _ rfl)
theorem ev_ldivN {x y : Int64} (F : x_F mi T ml rt) (hr : x_lk T pc = some (.ldiv, len, a, b, q, z)) (hy : ¬ y = 0) (hn : pc + len = nx) (kk : ∀ w : Int64, w = x / y → x_Ev X d mi nx lo (.long w :: r) G P) : x_Ev X d mi pc lo (.long y :: .long x :: r) G P :=
  ev_alu F hr rfl (if_neg hy) hn (kk _ rfl)
theorem ev_lremN {x y : Int64} (F : x_F mi T ml rt) (hr : x_lk T pc = some (.lrem, len, a, b, q, z)) (hy : ¬ y = 0) (hn : pc + len = nx) (kk : ∀ w : Int64, w = x - x / y * y → x_Ev X d mi nx lo (.long w :: r) G P) : x_Ev X d mi pc lo (.long y :: .long x :: r) G P :=
  ev_alu F hr rfl (if_neg hy) hn (kk _ rfl)
theorem ev_shl1 {y : Int32} {ly uy : Int} (F : x_F mi T ml rt) (hr : x_lk T pc = some (.ishl, len, a, b, q, z)) (b1 : ly ≤ y.toInt) (b2 : y.toInt ≤ uy) (h0 : decide (0 ≤ ly) = true) (h6 : decide (uy ≤ 6) = true) (hn : pc + len = nx) (kk : ∀ w : Int32, 1 ≤ w.toInt → w.toInt ≤ 64 → x_Ev X d mi nx lo (.int w :: r) G P) : x_Ev X d mi pc lo (.int y :: .int 1 :: r) G P := by
  have h0 := of_decide_eq_true h0
  have h6 := of_decide_eq_true h6
  refine ev_alu F hr rfl rfl hn (kk _ ?_ ?_)
  all_goals
    have h : y.toInt = 0 ∨ y.toInt = 1 ∨ y.toInt = 2 ∨ y.toInt = 3 ∨ y.toInt = 4 ∨ y.toInt = 5 ∨ y.toInt = 6 := by omega
    rcases h with h | h | h | h | h | h | h
    · rw [show y = 0 from Int32.toInt_inj.mp h]; decide
    · rw [show y = 1 from Int32.toInt_inj.mp h]; decide
    · rw [show y = 2 from Int32.toInt_inj.mp h]; decide
    · rw [show y = 3 from Int32.toInt_inj.mp h]; decide
    · rw [show y = 4 from Int32.toInt_inj.mp h]; decide
    · rw [show y = 5 from Int32.toInt_inj.mp h]; decide
    · rw [show y = 6 from Int32.toInt_inj.mp h]; decide
theorem ev_mmR {x y : Int32} {lx ux ly uy l u : Int} (F : x_F mi T ml rt) (hr : x_lk T pc = some (ins, len, a, b, q, z)) (hc : x_cat ins = 4) (ha : (decide (a = 1002) || decide (a = 1003)) = true) (hd : 1 ≤ d) (h8 : Nat.ble (x_words r) 8 = true) (a1 : lx ≤ x.toInt) (a2 : x.toInt ≤ ux) (b1 : ly ≤ y.toInt) (b2 : y.toInt ≤ uy) (hl : (if a = 1002 then max lx ly else min lx ly) = l) (hu : (if a = 1002 then max ux uy else min ux uy) = u) (hn : pc + 3 = nx) (kk : ∀ w : Int32, l ≤ w.toInt → w.toInt ≤ u → x_Ev X d mi nx lo (.int w :: r) G P) : x_Ev X d mi pc lo (.int y :: .int x :: r) G P := by
  refine ev_mm F hr hc ha hd (Nat.le_of_ble_eq_true h8) hn (kk _ ?_ ?_)
  all_goals
    unfold x_mm
    by_cases h1 : a = 1002
    · rw [if_pos h1] at hl hu
      rw [if_pos h1]
      by_cases h2 : x < y
      · rw [if_pos h2]; have := Int32.lt_iff_toInt_lt.mp h2; omega
      · rw [if_neg h2]; have := Int32.le_iff_toInt_le.mp (Int32.not_lt.mp h2); omega
    · rw [if_neg h1] at hl hu
      rw [if_neg h1]
      by_cases h2 : y < x
      · rw [if_pos h2]; have := Int32.lt_iff_toInt_lt.mp h2; omega
      · rw [if_neg h2]; have := Int32.le_iff_toInt_le.mp (Int32.not_lt.mp h2); omega
variable {sh : List (Nat ⊕ (Nat × Nat))} {gi gi0 : Nat → Nat → Int32} {gl gl0 : Nat → Nat → Int64} {gr gr0 : Nat → Nat → Value} {k i0 n j : Nat} {i : Int32} {wl wc : List (Nat × Nat)}
theorem t_idx {i : Int32} {n : Nat} {l u : Int} (a1 : l ≤ i.toInt) (h1 : decide (0 ≤ l) = true) (a2 : i.toInt ≤ u) (h2 : decide (u < (n : Int)) = true) : ¬ i < 0 ∧ i.toNatClampNeg < n := by
  have h1 := of_decide_eq_true h1
  have h2 := of_decide_eq_true h2
  have h3 := t_clamp (i := i) (by omega)
  refine ⟨fun h => ?_, by omega⟩
  have := Int32.lt_iff_toInt_lt.mp h
  have h0 : (0 : Int32).toInt = 0 := rfl
  omega
theorem ev_incR {n0 : Int} {x : Int32} {jj : Nat} {c lx ux l u : Int} (F : x_F mi T ml rt) (hr : x_lk T pc = some (.iinc jj n0, len, a, b, q, z)) (hg : x_get lo jj = some (.int x)) (hc : (Int32.ofInt n0).toInt = c) (hj : decide (jj < ml) = true) (a1 : lx ≤ x.toInt) (a2 : x.toInt ≤ ux) (hl : lx + c = l) (hu : ux + c = u) (h3 : decide (-2147483648 ≤ l) = true) (h4 : decide (u ≤ 2147483647) = true) (hn : pc + len = nx) (kk : ∀ w : Int32, w.toInt = x.toInt + c → l ≤ w.toInt → w.toInt ≤ u → x_Ev X d mi nx (x_set1 lo jj (.int w)) r (sh, gi, gl, gr) P) : x_Ev X d mi pc lo r (sh, gi, gl, gr) P := by
  have h3 := of_decide_eq_true h3
  have h4 := of_decide_eq_true h4
  have e : (x + Int32.ofInt n0).toInt = x.toInt + c := by rw [← hc]; exact t_add (by omega) (by omega)
  exact ev_inc F hr hg rfl hj rfl hn (kk _ e (by omega) (by omega))
theorem ev_incN {n0 : Int} {x : Int32} {jj : Nat} (F : x_F mi T ml rt) (hr : x_lk T pc = some (.iinc jj n0, len, a, b, q, z)) (hg : x_get lo jj = some (.int x)) (hj : decide (jj < ml) = true) (hn : pc + len = nx) (kk : ∀ w : Int32, x_Ev X d mi nx (x_set1 lo jj (.int w)) r (sh, gi, gl, gr) P) : x_Ev X d mi pc lo r (sh, gi, gl, gr) P := ev_inc F hr hg rfl hj rfl hn (kk _)
/-- loads -/
theorem ev_ialdT {l u : Int} (F : x_F mi T ml rt) (hr : x_lk T pc = some (.iaload, len, a, b, q, z)) (hk : sh[k]? = some (.inr (0, n))) (a1 : l ≤ i.toInt) (h1 : decide (0 ≤ l) = true) (a2 : i.toInt ≤ u) (h2 : decide (u < (n : Int)) = true) (hn : pc + len = nx) (kk : ∀ w : Int32, w = gi k i.toNatClampNeg → x_Ev X d mi nx lo (.int w :: r) (sh, gi, gl, gr) P) : x_Ev X d mi pc lo (.int i :: .ref k :: r) (sh, gi, gl, gr) P :=
  ev_iald F hr hk (t_idx a1 h1 a2 h2).1 (t_idx a1 h1 a2 h2).2 hn (kk _ rfl)
theorem ev_laldT {l u : Int} (F : x_F mi T ml rt) (hr : x_lk T pc = some (.laload, len, a, b, q, z)) (hk : sh[k]? = some (.inr (1, n))) (a1 : l ≤ i.toInt) (h1 : decide (0 ≤ l) = true) (a2 : i.toInt ≤ u) (h2 : decide (u < (n : Int)) = true) (hn : pc + len = nx) (kk : ∀ w : Int64, w = gl k i.toNatClampNeg → x_Ev X d mi nx lo (.long w :: r) (sh, gi, gl, gr) P) : x_Ev X d mi pc lo (.int i :: .ref k :: r) (sh, gi, gl, gr) P :=
  ev_lald F hr hk (t_idx a1 h1 a2 h2).1 (t_idx a1 h1 a2 h2).2 hn (kk _ rfl)
theorem ev_baldT {t : Nat} {l u : Int} (F : x_F mi T ml rt) (hr : x_lk T pc = some (.baload, len, a, b, q, z)) (hk : sh[k]? = some (.inr (t, n))) (ht : (t == 2 || t == 3) = true) (a1 : l ≤ i.toInt) (h1 : decide (0 ≤ l) = true) (a2 : i.toInt ≤ u) (h2 : decide (u < (n : Int)) = true) (hn : pc + len = nx) (kk : ∀ w : Int32, w = gi k i.toNatClampNeg → x_Ev X d mi nx lo (.int w :: r) (sh, gi, gl, gr) P) : x_Ev X d mi pc lo (.int i :: .ref k :: r) (sh, gi, gl, gr) P :=
  ev_bald F hr hk ht (t_idx a1 h1 a2 h2).1 (t_idx a1 h1 a2 h2).2 hn (kk _ rfl)
theorem t_I.abi (h : t_I sh gi gr) {p m : Nat} {l u lo hi : Int} {w : Int32} (e : w = gi k i.toNatClampNeg) (hb : t_abr k p m lo hi = true) (a1 : l ≤ i.toInt) (h1 : decide ((p : Int) ≤ l) = true) (a2 : i.toInt ≤ u) (h2 : decide (u ≤ (m : Int)) = true) : lo ≤ w.toInt ∧ w.toInt ≤ hi := by
  have h1 := of_decide_eq_true h1
  have h2 := of_decide_eq_true h2
  have h3 := t_clamp (i := i) (by omega)
  rw [e]; exact h.ab hb (by omega) (by omega)
/-- stores: the world behind them has a name of its own -/
theorem ev_putIT {x : Int32} (F : x_F mi T ml rt) (hr : x_lk T pc = some (.putfield i0, len, a, b, q, z)) (hk : sh[k]? = some (.inl a)) (hb : decide (b < (x_fty a).length) = true) (ht : (x_fty a).getD b .int = .int) (hn : pc + len = nx) (hI : t_I sh (x_up2 gi k b x) gr) (hX : t_X wl sh gi0 gl0 gr0 (x_up2 gi k b x) gl gr) (kk : ∀ g2, g2 = x_up2 gi k b x → t_I sh g2 gr → t_X wl sh gi0 gl0 gr0 g2 gl gr → x_Ev X d mi nx lo r (sh, g2, gl, gr) P) : x_Ev X d mi pc lo (.int x :: .ref k :: r) (sh, gi, gl, gr) P :=
  ev_putI F hr hk hb ht hn (kk _ rfl hI hX)
theorem ev_putZT {x : Int32} (F : x_F mi T ml rt) (hr : x_lk T pc = some (.putfield i0, len, a, b, q, z)) (hk : sh[k]? = some (.inl a)) (hb : decide (b < (x_fty a).length) = true) (ht : (x_fty a).getD b .int = .boolean) (l0 : 0 ≤ x.toInt) (u1 : x.toInt ≤ 1) (hn : pc + len = nx) (hI : t_I sh (x_up2 gi k b x) gr) (hX : t_X wl sh gi0 gl0 gr0 (x_up2 gi k b x) gl gr) (kk : ∀ g2, g2 = x_up2 gi k b x → t_I sh g2 gr → t_X wl sh gi0 gl0 gr0 g2 gl gr → x_Ev X d mi nx lo r (sh, g2, gl, gr) P) : x_Ev X d mi pc lo (.int x :: .ref k :: r) (sh, gi, gl, gr) P :=
  ev_putZ F hr hk hb ht (by
    have h : x.toInt = 0 ∨ x.toInt = 1 := by omega
    exact h.imp (fun h => Int32.toInt_inj.mp h) (fun h => Int32.toInt_inj.mp h)) hn (kk _ rfl hI hX)
theorem ev_putLT {x : Int64} (F : x_F mi T ml rt) (hr : x_lk T pc = some (.putfield i0, len, a, b, q, z)) (hk : sh[k]? = some (.inl a)) (hb : decide (b < (x_fty a).length) = true) (ht : (x_fty a).getD b .int = .long) (hn : pc + len = nx) (hX : t_X wl sh gi0 gl0 gr0 gi (x_up2 gl k b x) gr) (kk : ∀ g2, g2 = x_up2 gl k b x → t_X wl sh gi0 gl0 gr0 gi g2 gr → x_Ev X d mi nx lo r (sh, gi, g2, gr) P) : x_Ev X d mi pc lo (.long x :: .ref k :: r) (sh, gi, gl, gr) P :=
  ev_putL F hr hk hb ht hn (kk _ rfl hX)
theorem ev_putRT {v : Value} (F : x_F mi T ml rt) (hr : x_lk T pc = some (.putfield i0, len, a, b, q, z)) (hk : sh[k]? = some (.inl a)) (hb : decide (b < (x_fty a).length) = true) (ht : x_tyR ((x_fty a).getD b .int) = true) (hv : x_isR v = true) (hn : pc + len = nx) (hI : t_I sh gi (x_up2 gr k b v)) (hX : t_X wl sh gi0 gl0 gr0 gi gl (x_up2 gr k b v)) (kk : ∀ g2, g2 = x_up2 gr k b v → t_I sh gi g2 → t_X wl sh gi0 gl0 gr0 gi gl g2 → x_Ev X d mi nx lo r (sh, gi, gl, g2) P) : x_Ev X d mi pc lo (v :: .ref k :: r) (sh, gi, gl, gr) P :=
  ev_putR F hr hk hb ht hv hn (kk _ rfl hI hX)
theorem ev_iastT {x : Int32} {l u : Int} (F : x_F mi T ml rt) (hr : x_lk T pc = some (.iastore, len, a, b, q, z)) (hk : sh[k]? = some (.inr (0, n))) (a1 : l ≤ i.toInt) (h1 : decide (0 ≤ l) = true) (a2 : i.toInt ≤ u) (h2 : decide (u < (n : Int)) = true) (hn : pc + len = nx) (hI : t_I sh (x_up2 gi k i.toNatClampNeg x) gr) (hX : t_X wl sh gi0 gl0 gr0 (x_up2 gi k i.toNatClampNeg x) gl gr) (kk : ∀ g2, g2 = x_up2 gi k i.toNatClampNeg x → t_I sh g2 gr → t_X wl sh gi0 gl0 gr0 g2 gl gr → x_Ev X d mi nx lo r (sh, g2, gl, gr) P) : x_Ev X d mi pc lo (.int x :: .int i :: .ref k :: r) (sh, gi, gl, gr) P :=
  ev_iast F hr hk (t_idx a1 h1 a2 h2).1 (t_idx a1 h1 a2 h2).2 hn (kk _ rfl hI hX)
theorem ev_lastT {x : Int64} {l u : Int} (F : x_F mi T ml rt) (hr : x_lk T pc = some (.lastore, len, a, b, q, z)) (hk : sh[k]? = some (.inr (1, n))) (a1 : l ≤ i.toInt) (h1 : decide (0 ≤ l) = true) (a2 : i.toInt ≤ u) (h2 : decide (u < (n : Int)) = true) (hn : pc + len = nx) (hX : t_X wl sh gi0 gl0 gr0 gi (x_up2 gl k i.toNatClampNeg x) gr) (kk : ∀ g2, g2 = x_up2 gl k i.toNatClampNeg x → t_X wl sh gi0 gl0 gr0 gi g2 gr → x_Ev X d mi nx lo r (sh, gi, g2, gr) P) : x_Ev X d mi pc lo (.long x :: .int i :: .ref k :: r) (sh, gi, gl, gr) P :=
  ev_last F hr hk (t_idx a1 h1 a2 h2).1 (t_idx a1 h1 a2 h2).2 hn (kk _ rfl hX)
theorem ev_bastT {x : Int32} {l u : Int} (F : x_F mi T ml rt) (hr : x_lk T pc = some (.bastore, len, a, b, q, z)) (hk : sh[k]? = some (.inr (2, n))) (a1 : l ≤ i.toInt) (h1 : decide (0 ≤ l) = true) (a2 : i.toInt ≤ u) (h2 : decide (u < (n : Int)) = true) (hn : pc + len = nx) (hI : ∀ x', t_I sh (x_up2 gi k i.toNatClampNeg x') gr) (hX : ∀ x', t_X wl sh gi0 gl0 gr0 (x_up2 gi k i.toNatClampNeg x') gl gr) (kk : ∀ g2 x', g2 = x_up2 gi k i.toNatClampNeg x' → t_I sh g2 gr → t_X wl sh gi0 gl0 gr0 g2 gl gr → x_Ev X d mi nx lo r (sh, g2, gl, gr) P) : x_Ev X d mi pc lo (.int x :: .int i :: .ref k :: r) (sh, gi, gl, gr) P :=
  ev_bast F hr hk (t_idx a1 h1 a2 h2).1 (t_idx a1 h1 a2 h2).2 hn (kk _ _ rfl (hI _) (hX _))
theorem t_and1 (x : Int32) : 0 ≤ (x &&& 1).toInt ∧ (x &&& 1).toInt ≤ 1 := t_andle x 1 (by decide)
theorem ev_zastT {x : Int32} {l u : Int} (F : x_F mi T ml rt) (hr : x_lk T pc = some (.bastore, len, a, b, q, z)) (hk : sh[k]? = some (.inr (3, n))) (a1 : l ≤ i.toInt) (h1 : decide (0 ≤ l) = true) (a2 : i.toInt ≤ u) (h2 : decide (u < (n : Int)) = true) (hn : pc + len = nx) (hI : ∀ x' : Int32, 0 ≤ x'.toInt → x'.toInt ≤ 1 → t_I sh (x_up2 gi k i.toNatClampNeg x') gr) (hX : ∀ x', t_X wl sh gi0 gl0 gr0 (x_up2 gi k i.toNatClampNeg x') gl gr) (kk : ∀ g2 x', g2 = x_up2 gi k i.toNatClampNeg x' → t_I sh g2 gr → t_X wl sh gi0 gl0 gr0 g2 gl gr → x_Ev X d mi nx lo r (sh, g2, gl, gr) P) : x_Ev X d mi pc lo (.int x :: .int i :: .ref k :: r) (sh, gi, gl, gr) P :=
  ev_zast F hr hk (t_idx a1 h1 a2 h2).1 (t_idx a1 h1 a2 h2).2 hn (kk _ _ rfl (hI _ (t_and1 x).1 (t_and1 x).2) (hX _))
/-- calls by contract -/
theorem ev_c0 {as : List Value} {wc : List (Nat × Nat)} (F : x_F mi T ml rt) (hr : x_lk T pc = some (ins, len, a, b, q, z)) (hc : x_cat ins = 4) (ha : Nat.blt a 1000 = true) (hb : Nat.ble b st.length = true) (has : (st.take b).reverse = as) (hrest : st.drop b = r) (h8 : Nat.ble (x_words r) 8 = true) (hM : x_Me X d a as (sh, gi, gl, gr) (t_P wc sh gi gl gr t_Rn)) (hn : pc + 3 = nx) (hX : t_X wl sh gi0 gl0 gr0 gi gl gr) (hs : t_sub wc wl = true) (kk : ∀ gi2 gl2 gr2, t_I sh gi2 gr2 → t_X wl sh gi0 gl0 gr0 gi2 gl2 gr2 → t_X wc sh gi gl gr gi2 gl2 gr2 → x_Ev X (d + 1) mi nx lo r (sh, gi2, gl2, gr2) P) : x_Ev X (d + 1) mi pc lo st (sh, gi, gl, gr) P := by
  subst has; subst hrest
  refine ev_call F hr hc (decide_eq_true (Nat.le_of_ble_eq_true ha)) (Nat.le_of_ble_eq_true hb) (Nat.le_of_ble_eq_true h8) hM hn ?_
  rintro _ _ ⟨gi2, gl2, gr2, rfl, h1, h2, rfl⟩
  exact kk _ _ _ h1 (hX.tr h2 hs) h2
theorem ev_cI {l u : Int} {as : List Value} {wc : List (Nat × Nat)} (F : x_F mi T ml rt) (hr : x_lk T pc = some (ins, len, a, b, q, z)) (hc : x_cat ins = 4) (ha : Nat.blt a 1000 = true) (hb : Nat.ble b st.length = true) (has : (st.take b).reverse = as) (hrest : st.drop b = r) (h8 : Nat.ble (x_words r) 8 = true) (hM : x_Me X d a as (sh, gi, gl, gr) (t_P wc sh gi gl gr (t_Ri l u))) (hn : pc + 3 = nx) (hX : t_X wl sh gi0 gl0 gr0 gi gl gr) (hs : t_sub wc wl = true) (kk : ∀ (w : Int32) gi2 gl2 gr2, l ≤ w.toInt → w.toInt ≤ u → t_I sh gi2 gr2 → t_X wl sh gi0 gl0 gr0 gi2 gl2 gr2 → t_X wc sh gi gl gr gi2 gl2 gr2 → x_Ev X (d + 1) mi nx lo (.int w :: r) (sh, gi2, gl2, gr2) P) : x_Ev X (d + 1) mi pc lo st (sh, gi, gl, gr) P := by
  subst has; subst hrest
  refine ev_call F hr hc (decide_eq_true (Nat.le_of_ble_eq_true ha)) (Nat.le_of_ble_eq_true hb) (Nat.le_of_ble_eq_true h8) hM hn ?_
  rintro _ _ ⟨gi2, gl2, gr2, rfl, h1, h2, w, rfl, h3, h4⟩
  exact kk _ _ _ _ h3 h4 h1 (hX.tr h2 hs) h2
theorem ev_cL {as : List Value} {wc : List (Nat × Nat)} (F : x_F mi T ml rt) (hr : x_lk T pc = some (ins, len, a, b, q, z)) (hc : x_cat ins = 4) (ha : Nat.blt a 1000 = true) (hb : Nat.ble b st.length = true) (has : (st.take b).reverse = as) (hrest : st.drop b = r) (h8 : Nat.ble (x_words r) 8 = true) (hM : x_Me X d a as (sh, gi, gl, gr) (t_P wc sh gi gl gr t_Rl)) (hn : pc + 3 = nx) (hX : t_X wl sh gi0 gl0 gr0 gi gl gr) (hs : t_sub wc wl = true) (kk : ∀ (w : Int64) gi2 gl2 gr2, t_I sh gi2 gr2 → t_X wl sh gi0 gl0 gr0 gi2 gl2 gr2 → t_X wc sh gi gl gr gi2 gl2 gr2 → x_Ev X (d + 1) mi nx lo (.long w :: r) (sh, gi2, gl2, gr2) P) : x_Ev X (d + 1) mi pc lo st (sh, gi, gl, gr) P := by
  subst has; subst hrest
  refine ev_call F hr hc (decide_eq_true (Nat.le_of_ble_eq_true ha)) (Nat.le_of_ble_eq_true hb) (Nat.le_of_ble_eq_true h8) hM hn ?_
  rintro _ _ ⟨gi2, gl2, gr2, rfl, h1, h2, w, rfl⟩
  exact kk _ _ _ _ h1 (hX.tr h2 hs) h2
/-- a boolean result -/
theorem ev_retZ {x : Int32} {P : Option Value → x_G → Prop} (F : x_F mi T ml (some .boolean)) (hr : x_lk T pc = some (.ireturn, len, a, b, q, z)) (l0 : 0 ≤ x.toInt) (u1 : x.toInt ≤ 1) (k : P (some (.int x)) G) : x_Ev X d mi pc lo [.int x] G P := by
  refine ev_ret F hr rfl ?_ k
  have h : x = 0 ∨ x = 1 := by
    have h : x.toInt = 0 ∨ x.toInt = 1 := by omega
    exact h.imp (fun h => Int32.toInt_inj.mp h) (fun h => Int32.toInt_inj.mp h)
  exact if_pos h
end TR
/-! ===== rules over typed worlds: branches, switches, odds and ends ===== -/
theorem t_ceq {i j : Int32} (h : i.toInt = j.toInt) : i.toNatClampNeg = j.toNatClampNeg := by rw [Int32.toInt_inj.mp h]
theorem t_irr (x : Int32) : ¬ x < x := by rw [Int32.lt_iff_toInt_lt]; omega
theorem t_lerf (x : Int32) : x ≤ x := by rw [Int32.le_iff_toInt_le]; omega
theorem t_nel {x y : Int32} {u v : Int} (h : ¬ x = y) (hx : u ≤ x.toInt) (hy : y.toInt = u) (hv : u + 1 = v) : v ≤ x.toInt := by
  have : x.toInt ≠ y.toInt := fun e => h (Int32.toInt_inj.mp e)
  omega
theorem t_neu {x y : Int32} {u v : Int} (h : ¬ x = y) (hx : x.toInt ≤ u) (hy : y.toInt = u) (hv : u - 1 = v) : x.toInt ≤ v := by
  have : x.toInt ≠ y.toInt := fun e => h (Int32.toInt_inj.mp e)
  omega
theorem t_cl1 {i : Int32} {l : Int} {p : Nat} (a1 : l ≤ i.toInt) (h : decide ((p : Int) ≤ l) = true) : p ≤ i.toNatClampNeg := by
  have h := of_decide_eq_true h
  have := t_clamp (i := i) (by omega)
  omega
theorem t_cl2 {i : Int32} {l u : Int} {m : Nat} (a1 : l ≤ i.toInt) (a2 : i.toInt ≤ u) (h0 : decide (0 ≤ l) = true) (h : decide (u ≤ (m : Int)) = true) : i.toNatClampNeg ≤ m := by
  have h := of_decide_eq_true h
  have h0 := of_decide_eq_true h0
  have := t_clamp (i := i) (by omega)
  omega
theorem t_rz {x : Int32} (l0 : 0 ≤ x.toInt) (u1 : x.toInt ≤ 1) : x_ret (some .boolean) .ireturn [.int x] = some (some (.int x)) := by
  have h : x = 0 ∨ x = 1 := by
    have h : x.toInt = 0 ∨ x.toInt = 1 := by omega
    exact h.imp (fun h => Int32.toInt_inj.mp h) (fun h => Int32.toInt_inj.mp h)
  exact if_pos h
theorem t_knw {v : Value} (h : t_KwN v) : x_known v = true := by
  rcases h with rfl | ⟨i, rfl, hi⟩
  · rfl
  · simp [x_known]; omega
theorem t_KwR {v : Value} (h : t_KwN v) : x_isR v = true := by
  rcases h with rfl | ⟨i, rfl, hi⟩
  · rfl
  · rfl
noncomputable def t_Ty (sh : List (Nat ⊕ (Nat × Nat))) (gr : Nat → Nat → Value) (k : Nat) : Prop := sh[k]? = some (.inl 9) ∧ (gr k 0 = .ref (k + 1) ∧ sh[k + 1]? = some (.inr (1, 60))) ∧ (k = 61 ∨ k = 63 ∨ k = 65 ∨ k = 67)
section TR3
variable {X : x_Ext} {d mi pc nx a b q len ml : Nat} {z : Int} {ins : Instr} {lo lo' : x_Lo} {st st' r : List Value} {G : x_G} {P : Option Value → x_G → Prop} {T : List (Nat × x_Row)} {rt : Option FieldType}
theorem ev_swt {x : Int32} {d0 l0 h0 c : Int} {offs : Array Int} (F : x_F mi T ml rt) (hr : x_lk T pc = some (.tableswitch d0 l0 h0 offs, len, a, b, q, z)) (hx : x.toInt = c) (hs : (if c < l0 ∨ h0 < c then (if 0 ≤ (pc : Int) + d0 then some ((pc : Int) + d0).toNat else none) else match offs.toList[(c - l0).toNat]? with | some o => if 0 ≤ (pc : Int) + o then some ((pc : Int) + o).toNat else none | none => none) = some nx) (kk : x_Ev X d mi nx lo r G P) : x_Ev X d mi pc lo (.int x :: r) G P := by
  refine ev_jmp F hr rfl ?_ kk
  subst hx
  show (if x.toInt < l0 ∨ h0 < x.toInt then (if 0 ≤ (pc : Int) + d0 then some (((pc : Int) + d0).toNat, r) else none) else match offs.toList[(x.toInt - l0).toNat]? with | some o => if 0 ≤ (pc : Int) + o then some (((pc : Int) + o).toNat, r) else none | none => none) = _
  split at hs
  · next h1 =>
    rw [if_pos h1]
    split at hs
    · next h2 => rw [if_pos h2]; cases hs; rfl
    · cases hs
  · next h1 =>
    rw [if_neg h1]
    split at hs
    · next o ho =>
      split at hs
      · next h2 => rw [if_pos h2]; cases hs; rfl
      · cases hs
    · cases hs
theorem ev_swtd {x : Int32} {d0 l0 h0 : Int} {offs : Array Int} (F : x_F mi T ml rt) (hr : x_lk T pc = some (.tableswitch d0 l0 h0 offs, len, a, b, q, z)) (h : x.toInt < l0 ∨ h0 < x.toInt) (hp : 0 ≤ (pc : Int) + d0) (hn : ((pc : Int) + d0).toNat = nx) (kk : x_Ev X d mi nx lo r G P) : x_Ev X d mi pc lo (.int x :: r) G P := ev_swd F hr h hp hn kk
theorem ev_swl {x : Int32} {d0 c : Int} {ps : Array (Int × Int)} (F : x_F mi T ml rt) (hr : x_lk T pc = some (.lookupswitch d0 ps, len, a, b, q, z)) (hx : x.toInt = c) (hs : (if (ps.toList.zip (ps.toList.drop 1)).all (fun (a, next) => a.1 < next.1) = true ∧ 0 ≤ (pc : Int) + Op.lookupswitch.offset ps.toList d0 c then some ((pc : Int) + Op.lookupswitch.offset ps.toList d0 c).toNat else none) = some nx) (kk : x_Ev X d mi nx lo r G P) : x_Ev X d mi pc lo (.int x :: r) G P := by
  refine ev_jmp F hr rfl ?_ kk
  subst hx
  show (if (ps.toList.zip (ps.toList.drop 1)).all (fun (a, next) => a.1 < next.1) = true ∧ 0 ≤ (pc : Int) + Op.lookupswitch.offset ps.toList d0 x.toInt then some (((pc : Int) + Op.lookupswitch.offset ps.toList d0 x.toInt).toNat, r) else none) = _
  split at hs
  · next h1 => rw [if_pos h1]; cases hs; rfl
  · cases hs
theorem ev_nul {v : Value} {t1 t2 : Nat} (F : x_F mi T ml rt) (hr : x_lk T pc = some (ins, len, a, b, q, z)) (hc : x_cat ins = 2) (hs : x_br a pc ins (v :: r) = if x_known v = true then some (if v = .null then t1 else t2, r) else none) (hv : x_known v = true) (k1 : v = .null → x_Ev X d mi t1 lo r G P) (k2 : ¬ v = .null → x_Ev X d mi t2 lo r G P) : x_Ev X d mi pc lo (v :: r) G P := by
  rw [if_pos hv] at hs
  exact ev_if F hr hc hs k1 k2
theorem ev_ack {v w : Value} {t1 t2 : Nat} (F : x_F mi T ml rt) (hr : x_lk T pc = some (ins, len, a, b, q, z)) (hc : x_cat ins = 2) (hs : x_br a pc ins (w :: v :: r) = if x_known v = true ∧ x_known w = true then some (if v = w then t1 else t2, r) else none) (hv : x_known v = true) (hw : x_known w = true) (k1 : v = w → x_Ev X d mi t1 lo r G P) (k2 : ¬ v = w → x_Ev X d mi t2 lo r G P) : x_Ev X d mi pc lo (w :: v :: r) G P := by
  rw [if_pos ⟨hv, hw⟩] at hs
  exact ev_if F hr hc hs k1 k2
theorem ev_ackT {v w : Value} {t1 t2 : Nat} (F : x_F mi T ml rt) (hr : x_lk T pc = some (ins, len, a, b, q, z)) (hc : x_cat ins = 2) (hs : x_br a pc ins (w :: v :: r) = if x_known v = true ∧ x_known w = true then some (if v = w then t1 else t2, r) else none) (hv : x_known v = true) (hw : x_known w = true) (h : v = w) (k1 : x_Ev X d mi t1 lo r G P) : x_Ev X d mi pc lo (w :: v :: r) G P := ev_ack F hr hc hs hv hw (fun _ => k1) (fun n => absurd h n)
theorem ev_ackF {v w : Value} {t1 t2 : Nat} (F : x_F mi T ml rt) (hr : x_lk T pc = some (ins, len, a, b, q, z)) (hc : x_cat ins = 2) (hs : x_br a pc ins (w :: v :: r) = if x_known v = true ∧ x_known w = true then some (if v = w then t1 else t2, r) else none) (hv : x_known v = true) (hw : x_known w = true) (h : ¬ v = w) (k2 : x_Ev X d mi t2 lo r G P) : x_Ev X d mi pc lo (w :: v :: r) G P := ev_ack F hr hc hs hv hw (fun n => absurd n h) (fun _ => k2)
end TR3
section TR4
variable {sh : List (Nat ⊕ (Nat × Nat))} {gr gr' : Nat → Nat → Value}
theorem t_Tk.ext {k : Nat} (h : t_Tk sh gr k) (he : t_eqf sh gr gr') : t_Tk sh gr' k := ⟨h.1, by rw [he k 8 0 h.1 rfl]; exact h.2⟩
theorem t_RR.ext {k : Nat} (h : t_RR sh gr k) (he : t_eqf sh gr gr') : t_RR sh gr' k := by
  obtain ⟨h0, ⟨a, h1, h2⟩, ⟨b, h3, h4⟩, h5, h6⟩ := h
  exact ⟨h0, ⟨a, by rw [he k 5 0 h0 rfl]; exact h1, h2.ext he⟩, ⟨b, by rw [he k 5 1 h0 rfl]; exact h3, h4.ext he⟩, h5.ext h0 rfl he, h6.ext h0 rfl he⟩
theorem t_RL.ext {k : Nat} (h : t_RL sh gr k) (he : t_eqf sh gr gr') : t_RL sh gr' k := by
  obtain ⟨h0, ⟨a, h1, h2⟩, b, h3, h4⟩ := h
  exact ⟨h0, ⟨a, by rw [he k 7 0 h0 rfl]; exact h1, h2.ext he⟩, b, by rw [he k 7 1 h0 rfl]; exact h3, h4.ext he⟩
theorem t_Ty.ext {k : Nat} (h : t_Ty sh gr k) (he : t_eqf sh gr gr') : t_Ty sh gr' k := ⟨h.1, ⟨by rw [he k 9 0 h.1 rfl]; exact h.2.1.1, h.2.1.2⟩, h.2.2⟩
theorem t_in4O {wl : List (Nat × Nat)} {k j : Nat} (h : k = 61 ∨ k = 63 ∨ k = 65 ∨ k = 67) (hw : (t_in wl 61 j && (t_in wl 63 j && (t_in wl 65 j && t_in wl 67 j))) = true) : t_in wl (t_cd sh k) j = true := by
  simp only [Bool.and_eq_true] at hw
  rw [show t_cd sh k = k from if_pos (by omega)]
  rcases h with rfl | rfl | rfl | rfl
  · exact hw.1
  · exact hw.2.1
  · exact hw.2.2.1
  · exact hw.2.2.2
theorem t_in4A {wl : List (Nat × Nat)} {k j : Nat} (h : k = 61 ∨ k = 63 ∨ k = 65 ∨ k = 67) (hw : (t_inA wl 62 && (t_inA wl 64 && (t_inA wl 66 && t_inA wl 68))) = true) : t_in wl (t_cd sh (k + 1)) j = true := by
  simp only [Bool.and_eq_true] at hw
  rw [show t_cd sh (k + 1) = k + 1 from if_pos (by omega)]
  rcases h with rfl | rfl | rfl | rfl
  · exact t_inA_ok hw.1
  · exact t_inA_ok hw.2.1
  · exact t_inA_ok hw.2.2.1
  · exact t_inA_ok hw.2.2.2
theorem t_tray {i : Int32} {l u : Int} (h : x_WF sh gr) (a1 : l ≤ i.toInt) (h1 : decide (0 ≤ l) = true) (a2 : i.toInt ≤ u) (h2 : decide (u < 4) = true) : ∃ k, gr 1 i.toNatClampNeg = .ref k ∧ t_Ty sh gr k := by
  have h1 := of_decide_eq_true h1
  have h2 := of_decide_eq_true h2
  have h3 := t_clamp (i := i) (by omega)
  have h4 : i.toNatClampNeg = 0 ∨ i.toNatClampNeg = 1 ∨ i.toNatClampNeg = 2 ∨ i.toNatClampNeg = 3 := by omega
  rcases h4 with e | e | e | e <;> rw [e]
  · exact ⟨61, h.r rfl, h.s rfl, ⟨h.r rfl, h.s rfl⟩, by decide⟩
  · exact ⟨63, h.r rfl, h.s rfl, ⟨h.r rfl, h.s rfl⟩, by decide⟩
  · exact ⟨65, h.r rfl, h.s rfl, ⟨h.r rfl, h.s rfl⟩, by decide⟩
  · exact ⟨67, h.r rfl, h.s rfl, ⟨h.r rfl, h.s rfl⟩, by decide⟩
theorem t_kwl {X : x_Ext} {d mi pc nx len ml q : Nat} {z : Int} {lo : x_Lo} {r : List Value} {G : x_G} {P : Option Value → x_G → Prop} {T : List (Nat × x_Row)} {rt : Option FieldType} {i0 : Nat} {k : Nat} (F : x_F mi T ml rt) (hr : x_lk T pc = some (.getfield i0, len, 200, 0, q, z)) (hk : k < 27) (hn : pc + len = nx) (kk : ∀ w : Int64, x_Ev X d mi nx lo (.long w :: r) G P) : x_Ev X d mi pc lo (.retAddr k :: r) G P := by
  refine ev_heap F hr rfl ?_ hn (kk (x_kwl.getD k 0))
  show (if (200 : Nat) = 200 then (match x_xf 0 k with | some v => some (v :: r, G) | none => none) else none) = _
  rw [if_pos rfl]
  have h : x_xf 0 k = some (.long (x_kwl.getD k 0)) := by show (if k < 27 then _ else none) = _; rw [if_pos hk]
  rw [h]
theorem t_kwa {X : x_Ext} {d mi pc nx a b len ml q : Nat} {z : Int} {lo : x_Lo} {r : List Value} {G : x_G} {P : Option Value → x_G → Prop} {T : List (Nat × x_Row)} {rt : Option FieldType} {i : Int32} {l u : Int} (F : x_F mi T ml rt) (hr : x_lk T pc = some (.aaload, len, a, b, q, z)) (a1 : l ≤ i.toInt) (h1 : decide (0 ≤ l) = true) (a2 : i.toInt ≤ u) (h2 : decide (u < 27) = true) (hn : pc + len = nx) (kk : ∀ k, k < 27 → x_Ev X d mi nx lo (.retAddr k :: r) G P) : x_Ev X d mi pc lo (.int i :: .retAddr 27 :: r) G P := by
  have h := t_idx (n := 27) a1 h1 a2 h2
  refine ev_heap F hr rfl ?_ hn (kk i.toNatClampNeg h.2)
  show (match x_ldX x_isObj X 27 i with | some v => some (v :: r, G) | none => none) = _
  have h3 : x_ldX x_isObj X 27 i = some (.retAddr i.toNatClampNeg) := by
    show (if x_isObj (.object "HornBridge$Keyword") = true ∧ ¬ (i < 0 ∨ 27 ≤ i.toNatClampNeg) then some (Value.retAddr i.toNatClampNeg) else none) = _
    rw [if_pos ⟨rfl, x_ix h.1 h.2⟩]
  rw [h3]
theorem t_cross {gi : Nat → Nat → Int32} (h : t_I sh gi gr) {k : Nat} (hk : t_Rv sh gr k) : t_I sh gi (x_up2 gr 28 0 (.ref k)) := by
  obtain ⟨h1, h2, h3, ⟨⟨k0, g1, g1'⟩, g2, g3, g4, g5, g6⟩, h5⟩ := h
  have he : t_eqf sh gr (x_up2 gr 28 0 (.ref k)) := t_eqf_up (h1.s rfl) rfl
  refine ⟨x_WF_up h1 rfl, h2, h3, ⟨⟨k0, g1, g1'.ext he⟩, g2.ext he, fun j hj => (g3 j hj).ext he, fun j hj => (g4 j hj).ext he, Or.inr ⟨k, x_up2_at _ _ _ _, hk.ext he⟩, fun k' hk' => ?_⟩, h5.ext he⟩
  have hne : k' ≠ 28 := by rintro rfl; rw [h1.s (k := 28) rfl] at hk'; cases hk'
  rw [x_up2_off (Or.inl hne)]; exact g6 k' hk'
theorem t_keyw {gi : Nat → Nat → Int32} (h : t_I sh gi gr) {k : Nat} {v : Value} (hk : sh[k]? = some (.inl 8)) (hv : t_KwN v) : t_I sh gi (x_up2 gr k 7 v) := by
  obtain ⟨h1, h2, h3, ⟨⟨k0, g1, g1'⟩, g2, g3, g4, g5, g6⟩, h5⟩ := h
  have he : t_eqf sh gr (x_up2 gr k 7 v) := t_eqf_up hk rfl
  have hne : ∀ {k' ci : Nat}, sh[k']? = some (.inl ci) → ci ≠ 8 → k' ≠ k := by
    rintro k' ci h9 h10 rfl
    rw [hk] at h9; cases h9; exact h10 rfl
  have hnea : ∀ {k' : Nat} {q : Nat × Nat}, sh[k']? = some (.inr q) → k' ≠ k := by
    rintro k' q h9 rfl
    rw [hk] at h9; cases h9
  have hf : x_fixed k 7 = none := by
    cases hx : x_fixed k 7 with
    | none => rfl
    | some v' =>
      exfalso
      have h9 : (x_fx.all (fun q => !(q.1.2 == 7) || (match x_sh0[q.1.1]? with | some s => !x_eS s (.inl 8) | none => false))) = true := by decide +kernel
      have h10 := List.all_eq_true.mp h9 _ (x_lookup_mem hx)
      cases hc : x_sh0[k]? with
      | none => simp [hc] at h10
      | some s =>
        have h11 := h1.s0 hc
        rw [hk] at h11; cases h11
        simp [hc, x_eS_rf] at h10
  refine ⟨x_WF_up h1 hf, h2, h3, ⟨⟨k0, ?_, g1'.ext he⟩, ?_, fun j hj => ?_, fun j hj => ?_, ?_, fun k' hk' => ?_⟩, h5.ext he⟩
  · rw [x_up2_off (Or.inl (hne (h1.s (k := 0) rfl) (by decide)))]; exact g1
  · rw [x_up2_off (Or.inl (hne (h1.s (k := 0) rfl) (by decide)))]; exact g2.ext he
  · rw [x_up2_off (Or.inl (hnea (h1.s (k := 19) rfl)))]; exact (g3 j hj).ext he
  · rw [x_up2_off (Or.inl (hnea (h1.s (k := 20) rfl)))]; exact (g4 j hj).ext he
  · rw [x_up2_off (Or.inl (hne (h1.s (k := 28) rfl) (by decide)))]; exact g5.ext he
  · by_cases hkk : k' = k
    · subst hkk; rw [x_up2_at]; exact hv
    · rw [x_up2_off (Or.inl hkk)]; exact g6 k' hk'
end TR4
theorem t_Ln6 {sh : List (Nat ⊕ (Nat × Nat))} {gr : Nat → Nat → Value} (h : x_WF sh gr) : t_Ln sh gr 6 := ⟨h.s rfl, ⟨7, h.r rfl, h.s rfl, Or.inl (by decide)⟩, ⟨8, h.r rfl, h.s rfl, Or.inl (by decide)⟩, ⟨9, h.r rfl, h.s rfl, Or.inl (by decide)⟩, ⟨10, h.r rfl, h.s rfl, Or.inl (by decide)⟩, ⟨11, h.r rfl, h.s rfl, Or.inl (by decide)⟩⟩
theorem t_Ln13 {sh : List (Nat ⊕ (Nat × Nat))} {gr : Nat → Nat → Value} (h : x_WF sh gr) : t_Ln sh gr 13 := ⟨h.s rfl, ⟨14, h.r rfl, h.s rfl, Or.inl (by decide)⟩, ⟨15, h.r rfl, h.s rfl, Or.inl (by decide)⟩, ⟨16, h.r rfl, h.s rfl, Or.inl (by decide)⟩, ⟨17, h.r rfl, h.s rfl, Or.inl (by decide)⟩, ⟨18, h.r rfl, h.s rfl, Or.inl (by decide)⟩⟩
theorem t_Ln29 {sh : List (Nat ⊕ (Nat × Nat))} {gr : Nat → Nat → Value} (h : x_WF sh gr) : t_Ln sh gr 29 := ⟨h.s rfl, ⟨30, h.r rfl, h.s rfl, Or.inl (by decide)⟩, ⟨31, h.r rfl, h.s rfl, Or.inl (by decide)⟩, ⟨32, h.r rfl, h.s rfl, Or.inl (by decide)⟩, ⟨33, h.r rfl, h.s rfl, Or.inl (by decide)⟩, ⟨34, h.r rfl, h.s rfl, Or.inl (by decide)⟩⟩
theorem t_Ln35 {sh : List (Nat ⊕ (Nat × Nat))} {gr : Nat → Nat → Value} (h : x_WF sh gr) : t_Ln sh gr 35 := ⟨h.s rfl, ⟨36, h.r rfl, h.s rfl, Or.inl (by decide)⟩, ⟨37, h.r rfl, h.s rfl, Or.inl (by decide)⟩, ⟨38, h.r rfl, h.s rfl, Or.inl (by decide)⟩, ⟨39, h.r rfl, h.s rfl, Or.inl (by decide)⟩, ⟨40, h.r rfl, h.s rfl, Or.inl (by decide)⟩⟩
theorem t_Ln46 {sh : List (Nat ⊕ (Nat × Nat))} {gr : Nat → Nat → Value} (h : x_WF sh gr) : t_Ln sh gr 46 := ⟨h.s rfl, ⟨47, h.r rfl, h.s rfl, Or.inl (by decide)⟩, ⟨48, h.r rfl, h.s rfl, Or.inl (by decide)⟩, ⟨49, h.r rfl, h.s rfl, Or.inl (by decide)⟩, ⟨50, h.r rfl, h.s rfl, Or.inl (by decide)⟩, ⟨51, h.r rfl, h.s rfl, Or.inl (by decide)⟩⟩
theorem t_Ln52 {sh : List (Nat ⊕ (Nat × Nat))} {gr : Nat → Nat → Value} (h : x_WF sh gr) : t_Ln sh gr 52 := ⟨h.s rfl, ⟨53, h.r rfl, h.s rfl, Or.inl (by decide)⟩, ⟨54, h.r rfl, h.s rfl, Or.inl (by decide)⟩, ⟨55, h.r rfl, h.s rfl, Or.inl (by decide)⟩, ⟨56, h.r rfl, h.s rfl, Or.inl (by decide)⟩, ⟨57, h.r rfl, h.s rfl, Or.inl (by decide)⟩⟩
theorem ev_cpyTI {X : x_Ext} {d mi pc nx b len ml q : Nat} {z : Int} {lo : x_Lo} {P : Option Value → x_G → Prop} {T : List (Nat × x_Row)} {rt : Option FieldType} {sh : List (Nat ⊕ (Nat × Nat))} {gi gi0 : Nat → Nat → Int32} {gl gl0 : Nat → Nat → Int64} {gr gr0 : Nat → Nat → Value} {wl : List (Nat × Nat)} {ins : Instr} {k0 k1 n0 n1 : Nat} {i1 i2 i3 : Int32} {u1 u2 u3 : Int} (F : x_F mi T ml rt) (hr : x_lk T pc = some (ins, len, 1001, b, q, z)) (hc : x_cat ins = 4) (h0 : sh[k0]? = some (.inr (0, n0))) (h1 : sh[k1]? = some (.inr (0, n1))) (hd : 1 ≤ d) (a1 : 0 ≤ i1.toInt) (b1 : i1.toInt ≤ u1) (a2 : 0 ≤ i2.toInt) (b2 : i2.toInt ≤ u2) (a3 : 0 ≤ i3.toInt) (b3 : i3.toInt ≤ u3) (c0 : decide (u1 + u3 ≤ (n0 : Int)) = true) (c1 : decide (u2 + u3 ≤ (n1 : Int)) = true) (hn : pc + 3 = nx) (hI : t_I sh (fun a => if a = k1 then va_cpy (gi k0) (gi k1) i1.toNatClampNeg i2.toNatClampNeg i3.toNatClampNeg else gi a) gr) (hX : t_X wl sh gi0 gl0 gr0 (fun a => if a = k1 then va_cpy (gi k0) (gi k1) i1.toNatClampNeg i2.toNatClampNeg i3.toNatClampNeg else gi a) gl gr) (kk : ∀ g2, t_I sh g2 gr → t_X wl sh gi0 gl0 gr0 g2 gl gr → x_Ev X d mi nx lo [] (sh, g2, gl, gr) P) : x_Ev X d mi pc lo [.int i3, .int i2, .ref k1, .int i1, .ref k0] (sh, gi, gl, gr) P := by
  have c0 := of_decide_eq_true c0
  have c1 := of_decide_eq_true c1
  have e1 := t_clamp a1
  have e2 := t_clamp a2
  have e3 := t_clamp a3
  have h0' : (0 : Int32).toInt = 0 := rfl
  obtain ⟨m, v, G', e4, e5⟩ := kk _ hI hX
  refine ⟨m + 1, v, G', ?_, e5⟩
  unfold x_exec; rw [x_Frow F hr]; dsimp only
  rw [hc]; (try dsimp only)
  rw [if_neg (by decide), if_pos rfl, h0, h1]; dsimp only
  rw [if_pos ⟨rfl, by decide, hd, by rw [Int32.lt_iff_toInt_lt]; omega, by rw [Int32.lt_iff_toInt_lt]; omega, by rw [Int32.lt_iff_toInt_lt]; omega, by omega, by omega⟩, hn]
  exact e4
theorem t_ab_le {k j m : Nat} {b : Int × Int} (hm : (t_abl.all (fun q => !(q.1 == k) || decide (q.2.2.1 ≤ m))) = true) (h : t_ab k j = some b) : j ≤ m := by
  obtain ⟨q, h1, h2, h3, h4⟩ := t_ab_mem3 h
  have h5 := List.all_eq_true.mp hm q h1
  simp [h2] at h5
  omega
theorem t_cp27 {sh : List (Nat ⊕ (Nat × Nat))} {gi : Nat → Nat → Int32} {gr : Nat → Nat → Value} (h : t_I sh gi gr) (n : Nat) : ∀ j lo hi, t_ab 27 j = some (lo, hi) → lo ≤ (va_cpy (gi 26) (gi 27) (0 : Int32).toNatClampNeg (0 : Int32).toNatClampNeg n j).toInt ∧ (va_cpy (gi 26) (gi 27) (0 : Int32).toNatClampNeg (0 : Int32).toNatClampNeg n j).toInt ≤ hi := by
  intro j lo hi e
  have hj : j ≤ 3 := t_ab_le (by decide +kernel) e
  have e26 : t_ab 26 j = some (lo, hi) := by
    have : j = 0 ∨ j = 1 ∨ j = 2 ∨ j = 3 := by omega
    rcases this with rfl | rfl | rfl | rfl <;> (rw [← e]; decide +kernel)
  unfold va_cpy
  have h0 : (0 : Int32).toNatClampNeg = 0 := rfl
  rw [h0]
  split
  · rw [show 0 + (j - 0) = j by omega]; exact h.2.2.1 26 j lo hi e26
  · exact h.2.2.1 27 j lo hi e
section TR5
variable {sh : List (Nat ⊕ (Nat × Nat))} {gi : Nat → Nat → Int32} {gr : Nat → Nat → Value}
theorem t_nokey (h1 : x_WF sh gr) {k ci : Nat} {j : Nat} {v : Value} (hk : sh[k]? = some (.inl ci)) (hc : (ci == 8) = false) (h : ∀ k, sh[k]? = some (.inl 8) → t_KwN (gr k 7)) : ∀ k', sh[k']? = some (.inl 8) → t_KwN (x_up2 gr k j v k' 7) := by
  intro k' hk'
  have hne : k' ≠ k := by
    rintro rfl
    rw [hk] at hk'; cases hk'; cases hc
  rw [x_up2_off (Or.inl hne)]; exact h k' hk'
theorem t_nokeyA {k : Nat} {q : Nat × Nat} {j : Nat} {v : Value} (hk : sh[k]? = some (.inr q)) (h : ∀ k, sh[k]? = some (.inl 8) → t_KwN (gr k 7)) : ∀ k', sh[k']? = some (.inl 8) → t_KwN (x_up2 gr k j v k' 7) := by
  intro k' hk'
  rw [x_up2_off (Or.inl (t_noobj hk hk'))]; exact h k' hk'
theorem t_putRiver (h : t_I sh gi gr) {k : Nat} (hv : t_Rv sh gr k) : t_I sh gi (x_up2 gr 0 6 (.ref k)) := by
  obtain ⟨h1, h2, h3, ⟨_, g2, g3, g4, g5, g6⟩, h5⟩ := h
  have he : t_eqf sh gr (x_up2 gr 0 6 (.ref k)) := t_eqf_up (h1.s rfl) rfl
  refine ⟨x_WF_up h1 rfl, h2, h3, ⟨⟨k, x_up2_at _ _ _ _, hv.ext he⟩, ?_, fun j hj => ?_, fun j hj => ?_, ?_, t_nokey h1 (h1.s rfl) rfl g6⟩, h5.ext he⟩
  · rw [x_up2_off (Or.inr (by decide))]; exact g2.ext he
  · rw [x_up2_off (Or.inl (by decide))]; exact (g3 j hj).ext he
  · rw [x_up2_off (Or.inl (by decide))]; exact (g4 j hj).ext he
  · rw [x_up2_off (Or.inl (by decide))]; exact g5.ext he
theorem t_putRules (h : t_I sh gi gr) {v : Value} (hv : t_RuN sh gr v) : t_I sh gi (x_up2 gr 0 7 v) := by
  obtain ⟨h1, h2, h3, ⟨⟨k, g1, g1'⟩, g2, g3, g4, g5, g6⟩, h5⟩ := h
  have he : t_eqf sh gr (x_up2 gr 0 7 v) := t_eqf_up (h1.s rfl) rfl
  refine ⟨x_WF_up h1 rfl, h2, h3, ⟨⟨k, ?_, g1'.ext he⟩, ?_, fun j hj => ?_, fun j hj => ?_, ?_, t_nokey h1 (h1.s rfl) rfl g6⟩, h5.ext he⟩
  · rw [x_up2_off (Or.inr (by decide))]; exact g1
  · rw [x_up2_at]; exact hv.ext he
  · rw [x_up2_off (Or.inl (by decide))]; exact (g3 j hj).ext he
  · rw [x_up2_off (Or.inl (by decide))]; exact (g4 j hj).ext he
  · rw [x_up2_off (Or.inl (by decide))]; exact g5.ext he
theorem t_mk19 (h : t_I sh gi gr) {m : Nat} {v : Value} (hv : t_RvN sh gr v) : t_I sh gi (x_up2 gr 19 m v) := by
  obtain ⟨h1, h2, h3, ⟨⟨k, g1, g1'⟩, g2, g3, g4, g5, g6⟩, h5⟩ := h
  have hs : sh[19]? = some (.inr (5, 3)) := h1.s rfl
  have he : t_eqf sh gr (x_up2 gr 19 m v) := t_eqf_upA hs
  have hf : x_fixed 19 m = none := by
    cases hx : x_fixed 19 m with
    | none => rfl
    | some v' =>
      exfalso
      have h9 : (x_fx.all (fun q => !(q.1.1 == 19))) = true := by decide +kernel
      have h10 := List.all_eq_true.mp h9 _ (x_lookup_mem hx)
      simp at h10
  refine ⟨x_WF_up h1 hf, h2, h3, ⟨⟨k, ?_, g1'.ext he⟩, ?_, fun j hj => ?_, fun j hj => ?_, ?_, t_nokeyA hs g6⟩, h5.ext he⟩
  · rw [x_up2_off (Or.inl (by decide))]; exact g1
  · rw [x_up2_off (Or.inl (by decide))]; exact g2.ext he
  · by_cases hjm : j = m
    · subst hjm; rw [x_up2_at]; exact hv.ext he
    · rw [x_up2_off (Or.inr hjm)]; exact (g3 j hj).ext he
  · rw [x_up2_off (Or.inl (by decide))]; exact (g4 j hj).ext he
  · rw [x_up2_off (Or.inl (by decide))]; exact g5.ext he
theorem t_mk20 (h : t_I sh gi gr) {m : Nat} {v : Value} (hv : t_RuN sh gr v) : t_I sh gi (x_up2 gr 20 m v) := by
  obtain ⟨h1, h2, h3, ⟨⟨k, g1, g1'⟩, g2, g3, g4, g5, g6⟩, h5⟩ := h
  have hs : sh[20]? = some (.inr (6, 3)) := h1.s rfl
  have he : t_eqf sh gr (x_up2 gr 20 m v) := t_eqf_upA hs
  have hf : x_fixed 20 m = none := by
    cases hx : x_fixed 20 m with
    | none => rfl
    | some v' =>
      exfalso
      have h9 : (x_fx.all (fun q => !(q.1.1 == 20))) = true := by decide +kernel
      have h10 := List.all_eq_true.mp h9 _ (x_lookup_mem hx)
      simp at h10
  refine ⟨x_WF_up h1 hf, h2, h3, ⟨⟨k, ?_, g1'.ext he⟩, ?_, fun j hj => ?_, fun j hj => ?_, ?_, t_nokeyA hs g6⟩, h5.ext he⟩
  · rw [x_up2_off (Or.inl (by decide))]; exact g1
  · rw [x_up2_off (Or.inl (by decide))]; exact g2.ext he
  · rw [x_up2_off (Or.inl (by decide))]; exact (g3 j hj).ext he
  · by_cases hjm : j = m
    · subst hjm; rw [x_up2_at]; exact hv.ext he
    · rw [x_up2_off (Or.inr hjm)]; exact (g4 j hj).ext he
  · rw [x_up2_off (Or.inl (by decide))]; exact g5.ext he
variable {X : x_Ext} {d mi pc nx a b q len ml : Nat} {z : Int} {lo : x_Lo} {r : List Value} {P : Option Value → x_G → Prop} {T : List (Nat × x_Row)} {rt : Option FieldType} {gi0 : Nat → Nat → Int32} {gl gl0 : Nat → Nat → Int64} {gr0 : Nat → Nat → Value} {k t n k2 : Nat} {i : Int32} {wl : List (Nat × Nat)}
theorem ev_aastT {l u : Int} (F : x_F mi T ml rt) (hr : x_lk T pc = some (.aastore, len, a, b, q, z)) (hk : sh[k]? = some (.inr (t, n))) (ht : (decide (4 ≤ t) && decide (t < 7)) = true) (hk2 : sh[k2]? = some (.inl (x_eci t))) (a1 : l ≤ i.toInt) (h1 : decide (0 ≤ l) = true) (a2 : i.toInt ≤ u) (h2 : decide (u < (n : Int)) = true) (hn : pc + len = nx) (hI : t_I sh gi (x_up2 gr k i.toNatClampNeg (.ref k2))) (hX : t_X wl sh gi0 gl0 gr0 gi gl (x_up2 gr k i.toNatClampNeg (.ref k2))) (kk : ∀ g2, g2 = x_up2 gr k i.toNatClampNeg (.ref k2) → t_I sh gi g2 → t_X wl sh gi0 gl0 gr0 gi gl g2 → x_Ev X d mi nx lo r (sh, gi, gl, g2) P) : x_Ev X d mi pc lo (.ref k2 :: .int i :: .ref k :: r) (sh, gi, gl, gr) P := by
  have hi := t_idx a1 h1 a2 h2
  refine ev_heap F hr rfl ?_ hn (kk _ rfl hI hX)
  simp only [Bool.and_eq_true, decide_eq_true_eq] at ht
  have e1 : x_aty (sh, gi, gl, gr) k = t := by simp only [x_aty, hk]
  have e2 : x_stA (sh, gi, gl, gr) k i t (.ref k2) = some (sh, gi, gl, x_up2 gr k i.toNatClampNeg (.ref k2)) := by
    simp only [x_stA, hk]
    rw [if_pos ⟨trivial, x_ix hi.1 hi.2⟩]
    obtain rfl | rfl | rfl : t = 4 ∨ t = 5 ∨ t = 6 := by omega
    all_goals rfl
  show (if 4 ≤ x_aty (sh, gi, gl, gr) k ∧ x_aty (sh, gi, gl, gr) k < 7 ∧ sh[k2]? = some (.inl (x_eci (x_aty (sh, gi, gl, gr) k))) then (match x_stA (sh, gi, gl, gr) k i (x_aty (sh, gi, gl, gr) k) (.ref k2) with | some G' => some (r, G') | none => none) else none) = _
  rw [e1, if_pos ⟨ht.1, ht.2, hk2⟩, e2]
theorem ev_aastN {l u : Int} (F : x_F mi T ml rt) (hr : x_lk T pc = some (.aastore, len, a, b, q, z)) (hk : sh[k]? = some (.inr (t, n))) (ht : (decide (4 ≤ t) && decide (t < 7)) = true) (a1 : l ≤ i.toInt) (h1 : decide (0 ≤ l) = true) (a2 : i.toInt ≤ u) (h2 : decide (u < (n : Int)) = true) (hn : pc + len = nx) (hI : t_I sh gi (x_up2 gr k i.toNatClampNeg .null)) (hX : t_X wl sh gi0 gl0 gr0 gi gl (x_up2 gr k i.toNatClampNeg .null)) (kk : ∀ g2, g2 = x_up2 gr k i.toNatClampNeg .null → t_I sh gi g2 → t_X wl sh gi0 gl0 gr0 gi gl g2 → x_Ev X d mi nx lo r (sh, gi, gl, g2) P) : x_Ev X d mi pc lo (.null :: .int i :: .ref k :: r) (sh, gi, gl, gr) P := by
  have hi := t_idx a1 h1 a2 h2
  refine ev_heap F hr rfl ?_ hn (kk _ rfl hI hX)
  simp only [Bool.and_eq_true, decide_eq_true_eq] at ht
  have e1 : x_aty (sh, gi, gl, gr) k = t := by simp only [x_aty, hk]
  have e2 : x_stA (sh, gi, gl, gr) k i t .null = some (sh, gi, gl, x_up2 gr k i.toNatClampNeg .null) := by
    simp only [x_stA, hk]
    rw [if_pos ⟨trivial, x_ix hi.1 hi.2⟩]
    obtain rfl | rfl | rfl : t = 4 ∨ t = 5 ∨ t = 6 := by omega
    all_goals rfl
  show (if 4 ≤ x_aty (sh, gi, gl, gr) k ∧ x_aty (sh, gi, gl, gr) k < 7 then (match x_stA (sh, gi, gl, gr) k i (x_aty (sh, gi, gl, gr) k) .null with | some G' => some (r, G') | none => none) else none) = _
  rw [e1, if_pos ht, e2]
end TR5
theorem t_lenb {n : Nat} (h : n ≤ 300) : 0 ≤ (Int32.ofNat n).toInt ∧ (Int32.ofNat n).toInt ≤ 300 := by
  have e : (nI n).toInt = (n : Int) := nI_toInt (by omega)
  have e : (Int32.ofNat n).toInt = (n : Int) := e
  omega
theorem t_lenlt {x : Int32} {n : Nat} (h : x < Int32.ofNat n) (hn : n ≤ 300) : x.toInt < (n : Int) := by
  have e : (nI n).toInt = (n : Int) := nI_toInt (by omega)
  have e : (Int32.ofNat n).toInt = (n : Int) := e
  have := Int32.lt_iff_toInt_lt.mp h
  omega
theorem t_stl {x y : Int32} {n : Nat} (h : x < y) (hs : y.toInt ≤ (n : Int)) : x.toInt < (n : Int) := by
  have := Int32.lt_iff_toInt_lt.mp h
  omega
theorem t_ixs {i : Int32} {n : Nat} (l : 0 ≤ i.toInt) (h : i.toInt < (n : Int)) : ¬ i < 0 ∧ i.toNatClampNeg < n := by
  have h3 := t_clamp l
  refine ⟨fun q => ?_, by omega⟩
  have := Int32.lt_iff_toInt_lt.mp q
  have h0 : (0 : Int32).toInt = 0 := rfl
  omega
section TR6
variable {X : x_Ext} {d mi pc nx a b q len ml : Nat} {z : Int} {lo : x_Lo} {r : List Value} {P : Option Value → x_G → Prop} {T : List (Nat × x_Row)} {rt : Option FieldType} {sh : List (Nat ⊕ (Nat × Nat))} {gi gi0 : Nat → Nat → Int32} {gl gl0 : Nat → Nat → Int64} {gr gr0 : Nat → Nat → Value} {k n : Nat} {i : Int32} {wl : List (Nat × Nat)}
theorem ev_ialdS (F : x_F mi T ml rt) (hr : x_lk T pc = some (.iaload, len, a, b, q, z)) (hk : sh[k]? = some (.inr (0, n))) (hi : ¬ i < 0 ∧ i.toNatClampNeg < n) (hn : pc + len = nx) (kk : ∀ w : Int32, w = gi k i.toNatClampNeg → x_Ev X d mi nx lo (.int w :: r) (sh, gi, gl, gr) P) : x_Ev X d mi pc lo (.int i :: .ref k :: r) (sh, gi, gl, gr) P :=
  ev_iald F hr hk hi.1 hi.2 hn (kk _ rfl)
theorem ev_iastS {x : Int32} (F : x_F mi T ml rt) (hr : x_lk T pc = some (.iastore, len, a, b, q, z)) (hk : sh[k]? = some (.inr (0, n))) (hi : ¬ i < 0 ∧ i.toNatClampNeg < n) (hn : pc + len = nx) (hI : t_I sh (x_up2 gi k i.toNatClampNeg x) gr) (hX : t_X wl sh gi0 gl0 gr0 (x_up2 gi k i.toNatClampNeg x) gl gr) (kk : ∀ g2, g2 = x_up2 gi k i.toNatClampNeg x → t_I sh g2 gr → t_X wl sh gi0 gl0 gr0 g2 gl gr → x_Ev X d mi nx lo r (sh, g2, gl, gr) P) : x_Ev X d mi pc lo (.int x :: .int i :: .ref k :: r) (sh, gi, gl, gr) P :=
  ev_iast F hr hk hi.1 hi.2 hn (kk _ rfl hI hX)
end TR6
section TR7
variable {X : x_Ext} {d mi pc nx a b q len ml : Nat} {z : Int} {lo : x_Lo} {r : List Value} {G : x_G} {P : Option Value → x_G → Prop} {T : List (Nat × x_Row)} {rt : Option FieldType}
theorem ev_addC {x y : Int32} {c lx ux l u : Int} (F : x_F mi T ml rt) (hr : x_lk T pc = some (.iadd, len, a, b, q, z)) (hc : y.toInt = c) (a1 : lx ≤ x.toInt) (a2 : x.toInt ≤ ux) (hl : lx + c = l) (hu : ux + c = u) (h3 : decide (-2147483648 ≤ l) = true) (h4 : decide (u ≤ 2147483647) = true) (hn : pc + len = nx) (kk : ∀ w : Int32, w.toInt = x.toInt + c → l ≤ w.toInt → w.toInt ≤ u → x_Ev X d mi nx lo (.int w :: r) G P) : x_Ev X d mi pc lo (.int y :: .int x :: r) G P := by
  subst hc
  exact ev_addR F hr a1 a2 (Int.le_refl _) (Int.le_refl _) hl hu h3 h4 hn kk
theorem ev_addK {x y : Int32} {c lx ux l u : Int} (F : x_F mi T ml rt) (hr : x_lk T pc = some (.iadd, len, a, b, q, z)) (hc : x.toInt = c) (a1 : lx ≤ y.toInt) (a2 : y.toInt ≤ ux) (hl : c + lx = l) (hu : c + ux = u) (h3 : decide (-2147483648 ≤ l) = true) (h4 : decide (u ≤ 2147483647) = true) (hn : pc + len = nx) (kk : ∀ w : Int32, w.toInt = c + y.toInt → l ≤ w.toInt → w.toInt ≤ u → x_Ev X d mi nx lo (.int w :: r) G P) : x_Ev X d mi pc lo (.int y :: .int x :: r) G P := by
  subst hc
  exact ev_addR F hr (Int.le_refl _) (Int.le_refl _) a1 a2 hl hu h3 h4 hn kk
theorem ev_subC {x y : Int32} {c lx ux l u : Int} (F : x_F mi T ml rt) (hr : x_lk T pc = some (.isub, len, a, b, q, z)) (hc : y.toInt = c) (a1 : lx ≤ x.toInt) (a2 : x.toInt ≤ ux) (hl : lx - c = l) (hu : ux - c = u) (h3 : decide (-2147483648 ≤ l) = true) (h4 : decide (u ≤ 2147483647) = true) (hn : pc + len = nx) (kk : ∀ w : Int32, w.toInt = x.toInt - c → l ≤ w.toInt → w.toInt ≤ u → x_Ev X d mi nx lo (.int w :: r) G P) : x_Ev X d mi pc lo (.int y :: .int x :: r) G P := by
  subst hc
  exact ev_subR F hr a1 a2 (Int.le_refl _) (Int.le_refl _) hl hu h3 h4 hn kk
theorem ev_subK {x y : Int32} {c lx ux l u : Int} (F : x_F mi T ml rt) (hr : x_lk T pc = some (.isub, len, a, b, q, z)) (hc : x.toInt = c) (a1 : lx ≤ y.toInt) (a2 : y.toInt ≤ ux) (hl : c - ux = l) (hu : c - lx = u) (h3 : decide (-2147483648 ≤ l) = true) (h4 : decide (u ≤ 2147483647) = true) (hn : pc + len = nx) (kk : ∀ w : Int32, w.toInt = c - y.toInt → l ≤ w.toInt → w.toInt ≤ u → x_Ev X d mi nx lo (.int w :: r) G P) : x_Ev X d mi pc lo (.int y :: .int x :: r) G P := by
  subst hc
  exact ev_subR F hr (Int.le_refl _) (Int.le_refl _) a1 a2 hl hu h3 h4 hn kk
end TR7
theorem x_exec_dm {X : x_Ext} : ∀ (n d d' mi pc : Nat) (lo : x_Lo) (st : List Value) (G : x_G) (r : Option Value × x_G), d ≤ d' → x_exec X n d mi pc lo st G = some r → x_exec X n d' mi pc lo st G = some r := by
  intro n
  induction n with
  | zero => intro d d' mi pc lo st G r _ h; cases h
  | succ n ih =>
    intro d d' mi pc lo st G r hdd h
    unfold x_exec at h
    unfold x_exec
    split at h
    · cases h
    · next ins len a b q z hrow =>
      (try rw [hrow]); (try dsimp only)
      split at h
      · next hc =>
        (try rw [hc]); (try dsimp only)
        split at h
        · next hh => (try rw [hh]); exact ih _ _ _ _ _ _ _ _ hdd h
        · cases h
      · next hc =>
        (try rw [hc]); (try dsimp only)
        split at h
        · next hh => (try rw [hh]); exact ih _ _ _ _ _ _ _ _ hdd h
        · cases h
      · next hc =>
        (try rw [hc]); (try dsimp only)
        split at h
        · next hh => (try rw [hh]); exact ih _ _ _ _ _ _ _ _ hdd h
        · cases h
      · next hc =>
        (try rw [hc]); (try dsimp only)
        split at h
        · next hh => (try rw [hh]); exact ih _ _ _ _ _ _ _ _ hdd h
        · cases h
      · next hc =>
        (try rw [hc]); (try dsimp only)
        split at h
        · next ha =>
          (try rw [if_pos ha])
          split at h
          · split at h
            · next hd => (try rw [if_pos (And.intro (Nat.le_trans hd.1 hdd) hd.2)]); exact ih _ _ _ _ _ _ _ _ hdd h
            · cases h
          · cases h
        · next ha =>
          (try rw [if_neg ha])
          split at h
          · next ha1 =>
            (try rw [if_pos ha1])
            split at h
            · split at h
              · next e1 e2 =>
                (try rw [e1, e2]); (try dsimp only)
                split at h
                · next hd => (try rw [if_pos (And.intro hd.1 (And.intro hd.2.1 (And.intro (Nat.le_trans hd.2.2.1 hdd) hd.2.2.2)))]); exact ih _ _ _ _ _ _ _ _ hdd h
                · cases h
              · cases h
            · cases h
          · next ha1 =>
            (try rw [if_neg ha1])
            split at h
            · next ha2 =>
              (try rw [if_pos ha2])
              split at h
              · split at h
                · next hd => (try rw [if_pos (And.intro (Nat.le_trans hd.1 hdd) hd.2)]); exact ih _ _ _ _ _ _ _ _ hdd h
                · cases h
              · cases h
            · next ha2 =>
              (try rw [if_neg ha2])
              split at h
              · next hd =>
                (try rw [if_pos (And.intro (Nat.le_trans hd.1 hdd) hd.2)])
                split at h
                · next hh =>
                  rw [ih _ _ _ _ _ _ _ _ (Nat.sub_le_sub_right hdd 1) hh]; (try dsimp only)
                  exact ih _ _ _ _ _ _ _ _ hdd h
                · cases h
              · cases h
      · next h0 h1 h2 h3 h4 =>
        first
          | exact h
          | (split at h
             · next hh => (try rw [hh]); exact h
             · cases h)
/-- a deeper room does as well -/
theorem x_Ev.up {X : x_Ext} {d d' mi pc : Nat} {lo : x_Lo} {st : List Value} {G : x_G} {P : Option Value → x_G → Prop} (h : x_Ev X d mi pc lo st G P) (hd : d ≤ d') : x_Ev X d' mi pc lo st G P := by
  obtain ⟨n, v, G', h1, h2⟩ := h
  exact ⟨n, v, G', x_exec_dm _ _ _ _ _ _ _ _ _ hd h1, h2⟩
theorem x_Me.up {X : x_Ext} {d d' mi : Nat} {as : List Value} {G : x_G} {P : Option Value → x_G → Prop} (h : x_Me X d mi as G P) (hd : d ≤ d') : x_Me X d' mi as G P := ⟨h.1, h.2.1, h.2.2.up hd⟩
theorem t_lo (x : Int32) : -2147483648 ≤ x.toInt := by have := Int32.le_toInt x; omega
theorem ev_swld {X : x_Ext} {d mi pc nx a b q len ml : Nat} {z : Int} {lo : x_Lo} {r : List Value} {G : x_G} {P : Option Value → x_G → Prop} {T : List (Nat × x_Row)} {rt : Option FieldType} {x : Int32} {d0 : Int} {ps : Array (Int × Int)} {ks : List Int} (F : x_F mi T ml rt) (hr : x_lk T pc = some (.lookupswitch d0 ps, len, a, b, q, z)) (hks : ps.toList.map (fun q => q.1) = ks) (hs : (ps.toList.zip (ps.toList.drop 1)).all (fun (a, next) => a.1 < next.1) = true) (hp : decide (0 ≤ (pc : Int) + d0) = true) (hn : ((pc : Int) + d0).toNat = nx) (h : ∀ k ∈ ks, k ≠ x.toInt) (kk : x_Ev X d mi nx lo r G P) : x_Ev X d mi pc lo (.int x :: r) G P := by
  have hf : ps.toList.find? (fun q => q.1 == x.toInt) = none := List.find?_eq_none.mpr (fun q hq => by
    have := h q.1 (by rw [← hks]; exact List.mem_map_of_mem hq)
    simpa using this)
  refine ev_jmp F hr rfl ?_ kk
  show (if (ps.toList.zip (ps.toList.drop 1)).all (fun (a, next) => a.1 < next.1) = true ∧ 0 ≤ (pc : Int) + Op.lookupswitch.offset ps.toList d0 x.toInt then some (((pc : Int) + Op.lookupswitch.offset ps.toList d0 x.toInt).toNat, r) else none) = _
  rw [Op.lookupswitch.offset_none hf, if_pos ⟨hs, of_decide_eq_true hp⟩, hn]
