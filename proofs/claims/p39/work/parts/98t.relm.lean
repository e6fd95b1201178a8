/-! ===== what class and model have in common ===== -/
noncomputable def t_prs : List ((Nat × Nat) × (Nat × Nat)) := [((0, 5), (69, 10)), ((0, 12), (69, 75)), ((61, 2), (73, 0)), ((61, 1), (72, 0)), ((63, 2), (73, 1)), ((63, 1), (72, 1)), ((65, 2), (73, 2)), ((65, 1), (72, 2)), ((67, 2), (73, 3)), ((67, 1), (72, 3))]
noncomputable def t_p8 : List ((Nat × Nat) × (Nat × Nat)) := [((61, 2), (73, 0)), ((61, 1), (72, 0)), ((63, 2), (73, 1)), ((63, 1), (72, 1)), ((65, 2), (73, 2)), ((65, 1), (72, 2)), ((67, 2), (73, 3)), ((67, 1), (72, 3))]
noncomputable def t_R (gi : Nat → Nat → Int32) (gr : Nat → Nat → Value) : Prop := (∀ q, q ∈ t_prs → gi q.1.1 q.1.2 = gi q.2.1 q.2.2) ∧ ∀ j : Nat, (j : Int) < (gi 0 12).toInt → gr 19 j ≠ .null
noncomputable def t_F (wl : List (Nat × Nat)) (gi : Nat → Nat → Int32) (gl : Nat → Nat → Int64) (gr : Nat → Nat → Value) (g' : Nat → Nat → Int32) (l' : Nat → Nat → Int64) (r' : Nat → Nat → Value) : Prop := ∀ k j, k < 102 → t_in wl k j = false → g' k j = gi k j ∧ l' k j = gl k j ∧ r' k j = gr k j
noncomputable def t_un (wl : List (Nat × Nat)) (q : Nat × Nat) : Bool := !t_in wl q.1 q.2
section TR9
variable {sh : List (Nat ⊕ (Nat × Nat))} {gi g1 g2 : Nat → Nat → Int32} {gl l1 l2 : Nat → Nat → Int64} {gr r1 r2 : Nat → Nat → Value} {wl w1 w2 : List (Nat × Nat)}
theorem t_F_X (h : t_X wl sh gi gl gr g1 l1 r1) : t_F wl gi gl gr g1 l1 r1 := fun k j hk hn => h.1 k j (by rw [t_cdlo hk]; exact hn)
theorem t_un_ok {q : Nat × Nat} (h : t_un wl q = true) : t_in wl q.1 q.2 = false := by
  unfold t_un at h
  cases hc : t_in wl q.1 q.2 with
  | false => rfl
  | true => rw [hc] at h; cases h
theorem t_R_mix (hR : t_R gi gr) (f1 : t_F w1 gi gl gr g1 l1 r1) (f2 : t_F w2 g1 l1 r1 g2 l2 r2) (ex : List ((Nat × Nat) × (Nat × Nat))) (hex : ∀ q, q ∈ ex → g2 q.1.1 q.1.2 = g2 q.2.1 q.2.2) (hw : t_prs.all (fun q => ex.any (fun x => decide (x = q)) || (t_un w1 q.1 && (t_un w1 q.2 && (t_un w2 q.1 && t_un w2 q.2)))) = true) (hn : ∀ j : Nat, (j : Int) < (g2 0 12).toInt → r2 19 j ≠ .null) : t_R g2 r2 := by
  refine ⟨fun q hq => ?_, hn⟩
  have h1 := List.all_eq_true.mp hw q hq
  have hk : (t_prs.all (fun q => decide (q.1.1 < 102) && decide (q.2.1 < 102))) = true := by decide +kernel
  have h2 := List.all_eq_true.mp hk q hq
  rw [Bool.and_eq_true, decide_eq_true_eq, decide_eq_true_eq] at h2
  rw [Bool.or_eq_true] at h1
  rcases h1 with h1 | h1
  · obtain ⟨x, hx, he⟩ := List.any_eq_true.mp h1
    have he := of_decide_eq_true he
    subst he
    exact hex x hx
  · rw [Bool.and_eq_true, Bool.and_eq_true, Bool.and_eq_true] at h1
    obtain ⟨a, b, c, d⟩ := h1
    rw [(f2 _ _ h2.1 (t_un_ok c)).1, (f2 _ _ h2.2 (t_un_ok d)).1, (f1 _ _ h2.1 (t_un_ok a)).1, (f1 _ _ h2.2 (t_un_ok b)).1]
    exact hR.1 q hq
theorem t_in19 (h : (wl.all (fun q => !(q.1 == 19))) = true) (j : Nat) : t_in wl 19 j = false := by
  cases hc : t_in wl 19 j with
  | false => rfl
  | true =>
    exfalso
    obtain ⟨q, hq, hq2⟩ := List.any_eq_true.mp hc
    have h1 := List.all_eq_true.mp h q hq
    rw [Bool.and_eq_true] at hq2
    rw [hq2.1] at h1; cases h1
theorem t_nul (hR : t_R gi gr) (f1 : t_F w1 gi gl gr g1 l1 r1) (f2 : t_F w2 g1 l1 r1 g2 l2 r2) (hw : (t_un w1 (0, 12) && (t_un w2 (0, 12) && (w1.all (fun q => !(q.1 == 19)) && w2.all (fun q => !(q.1 == 19))))) = true) : ∀ j : Nat, (j : Int) < (g2 0 12).toInt → r2 19 j ≠ .null := by
  rw [Bool.and_eq_true, Bool.and_eq_true, Bool.and_eq_true] at hw
  obtain ⟨a, b, c, d⟩ := hw
  intro j hj
  rw [(f2 0 12 (by decide) (t_un_ok b)).1, (f1 0 12 (by decide) (t_un_ok a)).1] at hj
  rw [(f2 19 j (by decide) (t_in19 d j)).2.2, (f1 19 j (by decide) (t_in19 c j)).2.2]
  exact hR.2 j hj
theorem t_nul2 (hN : ∀ j : Nat, (j : Int) < (g1 0 12).toInt → r1 19 j ≠ .null) (f2 : t_F w2 g1 l1 r1 g2 l2 r2) (hw : (t_un w2 (0, 12) && w2.all (fun q => !(q.1 == 19))) = true) : ∀ j : Nat, (j : Int) < (g2 0 12).toInt → r2 19 j ≠ .null := by
  rw [Bool.and_eq_true] at hw
  intro j hj
  rw [(f2 0 12 (by decide) (t_un_ok hw.1)).1] at hj
  rw [(f2 19 j (by decide) (t_in19 hw.2 j)).2.2]
  exact hN j hj
theorem t_p8_ok (h : ∀ t : Nat, t < 4 → g2 (61 + 2 * t) 2 = g2 73 t ∧ g2 (61 + 2 * t) 1 = g2 72 t) : ∀ q, q ∈ t_p8 → g2 q.1.1 q.1.2 = g2 q.2.1 q.2.2 := by
  intro q hq
  have h0 := h 0 (by decide)
  have h1 := h 1 (by decide)
  have h2 := h 2 (by decide)
  have h3 := h 3 (by decide)
  simp only [t_p8, List.mem_cons, List.not_mem_nil, or_false] at hq
  rcases hq with rfl | rfl | rfl | rfl | rfl | rfl | rfl | rfl
  · exact h0.1
  · exact h0.2
  · exact h1.1
  · exact h1.2
  · exact h2.1
  · exact h2.2
  · exact h3.1
  · exact h3.2
theorem t_R_t (hR : t_R gi gr) {t : Nat} (ht : t < 4) : gi (61 + 2 * t) 2 = gi 73 t ∧ gi (61 + 2 * t) 1 = gi 72 t := by
  have h : t = 0 ∨ t = 1 ∨ t = 2 ∨ t = 3 := by omega
  rcases h with rfl | rfl | rfl | rfl
  · exact ⟨hR.1 ((61, 2), (73, 0)) (by decide), hR.1 ((61, 1), (72, 0)) (by decide)⟩
  · exact ⟨hR.1 ((63, 2), (73, 1)) (by decide), hR.1 ((63, 1), (72, 1)) (by decide)⟩
  · exact ⟨hR.1 ((65, 2), (73, 2)) (by decide), hR.1 ((65, 1), (72, 2)) (by decide)⟩
  · exact ⟨hR.1 ((67, 2), (73, 3)) (by decide), hR.1 ((67, 1), (72, 3)) (by decide)⟩
theorem t_R_fed (hR : t_R gi gr) : gi 0 5 = gi 69 10 := hR.1 ((0, 5), (69, 10)) (by decide)
theorem t_R_mk (hR : t_R gi gr) : gi 0 12 = gi 69 75 := hR.1 ((0, 12), (69, 75)) (by decide)
theorem t_gr1 (h : x_WF sh gr) {i : Int32} (h0 : 0 ≤ i.toInt) (h3 : i.toInt ≤ 3) : gr 1 i.toNatClampNeg = .ref (61 + 2 * i.toNatClampNeg) ∧ i.toNatClampNeg < 4 := by
  have hc := t_clamp h0
  have h4 : i.toNatClampNeg = 0 ∨ i.toNatClampNeg = 1 ∨ i.toNatClampNeg = 2 ∨ i.toNatClampNeg = 3 := by omega
  rcases h4 with e | e | e | e <;> rw [e]
  · exact ⟨h.r rfl, by decide⟩
  · exact ⟨h.r rfl, by decide⟩
  · exact ⟨h.r rfl, by decide⟩
  · exact ⟨h.r rfl, by decide⟩
end TR9
noncomputable def w1_pr : Bool := t_prs.all (fun q => match x_gc W1 q.1.1, x_gc W1 q.2.1 with
  | some c, some d => Nat.blt q.1.2 (2 ^ x_dp c.1) && (Nat.blt q.2.2 (2 ^ x_dp d.1) && decide (x_cI c q.1.2 = x_cI d q.2.2))
  | _, _ => false)
theorem w1_pr_t : w1_pr = true := by decide +kernel
theorem W1_R {sh : List (Nat ⊕ (Nat × Nat))} {gi : Nat → Nat → Int32} {gl : Nat → Nat → Int64} {gr : Nat → Nat → Value} (hR : x_R W1 (sh, gi, gl, gr)) : t_R gi gr := by
  have hrd : ∀ {k j : Nat} {c : x_C}, x_gc W1 k = some c → j < 2 ^ x_dp c.1 → gi k j = x_cI c j := fun hc hj => ((x_gc_R hR hc).2.2.2 _ hj).1
  refine ⟨fun q hq => ?_, fun j hj => ?_⟩
  · have h1 := List.all_eq_true.mp w1_pr_t q hq
    cases hc : x_gc W1 q.1.1 with
    | none => rw [hc] at h1; cases h1
    | some c =>
      cases hd : x_gc W1 q.2.1 with
      | none => rw [hc, hd] at h1; cases h1
      | some d =>
        rw [hc, hd] at h1
        dsimp only at h1
        rw [Bool.and_eq_true, Bool.and_eq_true, decide_eq_true_eq] at h1
        rw [hrd hc (Nat.le_of_ble_eq_true h1.1), hrd hd (Nat.le_of_ble_eq_true h1.2.1)]
        exact h1.2.2
  · have h12 : gi 0 12 = 0 := hrd (c := w1_c0) rfl (by decide)
    have h0 : (0 : Int32).toInt = 0 := rfl
    rw [h12] at hj; omega
/-- TRAYS laid: which, how -/
noncomputable def t_OK (a2 a3 : Int32) : Prop := 0 ≤ a2.toInt ∧ a2.toInt ≤ 3 ∧ 0 ≤ a3.toInt ∧ a3.toInt ≤ 60
noncomputable def t_QT (cm cs : Nat → Nat × Nat) (gi : Nat → Nat → Int32) (a1 a2 a3 x : Int32) (g : Nat → Nat → Int32) : Prop := (0 ≤ x.toInt ∧ x.toInt ≤ 1) ∧ (x.toInt = 1 ↔ (0 ≤ a1.toInt ∧ a1.toInt ≤ 3 ∧ t_OK a2 a3)) ∧ ∀ t : Nat, t < 4 → (t_OK a2 a3 → a1.toInt = (t : Int) → (g (cm t).1 (cm t).2).toInt = a3.toInt ∧ (g (cs t).1 (cs t).2).toInt = a2.toInt) ∧ (¬ (t_OK a2 a3 ∧ a1.toInt = (t : Int)) → g (cm t).1 (cm t).2 = gi (cm t).1 (cm t).2 ∧ g (cs t).1 (cs t).2 = gi (cs t).1 (cs t).2)
noncomputable def t_rdH (gl : Nat → Nat → Int64) (t j : Nat) : Int64 := gl (62 + 2 * t) j
noncomputable def t_rdM (gl : Nat → Nat → Int64) (t j : Nat) : Int64 := gl 74 (60 * t + j)
noncomputable def t_QL (rd : (Nat → Nat → Int64) → Nat → Nat → Int64) (gl : Nat → Nat → Int64) (a1 a2 a3 : Int32) (l : Nat → Nat → Int64) : Prop := ∀ t : Nat, t < 4 → (t_OK a2 a3 → a1.toInt = (t : Int) → ∀ j : Nat, (j : Int) < a3.toInt → rd l t j = 0) ∧ (¬ (t_OK a2 a3 ∧ a1.toInt = (t : Int)) → ∀ j : Nat, j < 60 → rd l t j = rd gl t j)
noncomputable def t_cmH (t : Nat) : Nat × Nat := (61 + 2 * t, 2)
noncomputable def t_csH (t : Nat) : Nat × Nat := (61 + 2 * t, 1)
noncomputable def t_cmM (t : Nat) : Nat × Nat := (73, t)
noncomputable def t_csM (t : Nat) : Nat × Nat := (72, t)
theorem c_h_trayU {X : x_Ext} {d : Nat} {sh : List (Nat ⊕ (Nat × Nat))} {gi : Nat → Nat → Int32} {gl : Nat → Nat → Int64} {gr : Nat → Nat → Value} (hI : t_I sh gi gr) (a1 a2 a3 : Int32) : x_Me X (d + 2) n_X11_tray [.ref 0, .int a1, .int a2, .int a3] (sh, gi, gl, gr) (t_PI wl_h_tray sh gi gl gr 0 1 (fun x g l _ => t_QT t_cmH t_csH gi a1 a2 a3 x g ∧ t_QL t_rdH gl a1 a2 a3 l)) := by
  have h : a1.toInt ≤ -1 ∨ a1.toInt = 0 ∨ a1.toInt = 1 ∨ a1.toInt = 2 ∨ a1.toInt = 3 ∨ 4 ≤ a1.toInt := by omega
  rcases h with h | h | h | h | h | h
  · refine (c_h_tray_l hI a1 h a2 a3).mono ?_
    rintro v G' ⟨g1, g2, g3, rfl, k1, k2, x, rfl, k4, k5, q⟩
    unfold Q_h_tray_l at q
    refine ⟨g1, g2, g3, rfl, k1, t_X.rf.tr k2 rfl, x, rfl, by omega, by omega, ⟨⟨by omega, by omega⟩, by omega, fun t ht => ⟨fun _ ha => by omega, fun _ => ?_⟩⟩, fun t ht => ⟨fun _ ha => by omega, fun _ j hj => ?_⟩⟩
    rotate_left
    · have ht4 : t = 0 ∨ t = 1 ∨ t = 2 ∨ t = 3 := by omega
      rcases ht4 with rfl | rfl | rfl | rfl
      · exact (k2.1 62 j rfl).2.1
      · exact (k2.1 64 j rfl).2.1
      · exact (k2.1 66 j rfl).2.1
      · exact (k2.1 68 j rfl).2.1
    have ht4 : t = 0 ∨ t = 1 ∨ t = 2 ∨ t = 3 := by omega
    rcases ht4 with rfl | rfl | rfl | rfl
    · exact ⟨(k2.1 61 2 rfl).1, (k2.1 61 1 rfl).1⟩
    · exact ⟨(k2.1 63 2 rfl).1, (k2.1 63 1 rfl).1⟩
    · exact ⟨(k2.1 65 2 rfl).1, (k2.1 65 1 rfl).1⟩
    · exact ⟨(k2.1 67 2 rfl).1, (k2.1 67 1 rfl).1⟩
  · obtain rfl : a1 = 0 := Int32.toInt_inj.mp (h.trans (by decide))
    refine (c_h_tray_0 hI a2 a3).mono ?_
    rintro v G' ⟨g1, g2, g3, rfl, k1, k2, x, rfl, k4, k5, q⟩
    unfold Q_h_tray_0 at q
    obtain ⟨⟨q1, q2, q3, q4⟩, q5, q6⟩ := q
    refine ⟨g1, g2, g3, rfl, k1, t_X.rf.tr k2 rfl, x, rfl, k4, k5, ⟨q1, by unfold t_OK; omega, fun t ht => ?_⟩, fun t ht => ?_⟩
    rotate_left
    · have ht4 : t = 0 ∨ t = 1 ∨ t = 2 ∨ t = 3 := by omega
      rcases ht4 with rfl | rfl | rfl | rfl
      · exact ⟨fun hk _ j hj => q5 hk j (by have := hk.2.2.2; omega), fun hn j _ => q6 (fun hk => hn ⟨hk, h⟩) j⟩
      · exact ⟨fun _ ha => by omega, fun _ j _ => (k2.1 64 j rfl).2.1⟩
      · exact ⟨fun _ ha => by omega, fun _ j _ => (k2.1 66 j rfl).2.1⟩
      · exact ⟨fun _ ha => by omega, fun _ j _ => (k2.1 68 j rfl).2.1⟩
    have ht4 : t = 0 ∨ t = 1 ∨ t = 2 ∨ t = 3 := by omega
    rcases ht4 with rfl | rfl | rfl | rfl
    · exact ⟨fun hk _ => q3 hk, fun hn => by have hq := q4 (fun hk => hn ⟨hk, h⟩); exact ⟨Int32.toInt_inj.mp hq.1, Int32.toInt_inj.mp hq.2⟩⟩
    · exact ⟨fun _ ha => by omega, fun _ => ⟨(k2.1 63 2 rfl).1, (k2.1 63 1 rfl).1⟩⟩
    · exact ⟨fun _ ha => by omega, fun _ => ⟨(k2.1 65 2 rfl).1, (k2.1 65 1 rfl).1⟩⟩
    · exact ⟨fun _ ha => by omega, fun _ => ⟨(k2.1 67 2 rfl).1, (k2.1 67 1 rfl).1⟩⟩
  · obtain rfl : a1 = 1 := Int32.toInt_inj.mp (h.trans (by decide))
    refine (c_h_tray_1 hI a2 a3).mono ?_
    rintro v G' ⟨g1, g2, g3, rfl, k1, k2, x, rfl, k4, k5, q⟩
    unfold Q_h_tray_1 at q
    obtain ⟨⟨q1, q2, q3, q4⟩, q5, q6⟩ := q
    refine ⟨g1, g2, g3, rfl, k1, t_X.rf.tr k2 rfl, x, rfl, k4, k5, ⟨q1, by unfold t_OK; omega, fun t ht => ?_⟩, fun t ht => ?_⟩
    rotate_left
    · have ht4 : t = 0 ∨ t = 1 ∨ t = 2 ∨ t = 3 := by omega
      rcases ht4 with rfl | rfl | rfl | rfl
      · exact ⟨fun _ ha => by omega, fun _ j _ => (k2.1 62 j rfl).2.1⟩
      · exact ⟨fun hk _ j hj => q5 hk j (by have := hk.2.2.2; omega), fun hn j _ => q6 (fun hk => hn ⟨hk, h⟩) j⟩
      · exact ⟨fun _ ha => by omega, fun _ j _ => (k2.1 66 j rfl).2.1⟩
      · exact ⟨fun _ ha => by omega, fun _ j _ => (k2.1 68 j rfl).2.1⟩
    have ht4 : t = 0 ∨ t = 1 ∨ t = 2 ∨ t = 3 := by omega
    rcases ht4 with rfl | rfl | rfl | rfl
    · exact ⟨fun _ ha => by omega, fun _ => ⟨(k2.1 61 2 rfl).1, (k2.1 61 1 rfl).1⟩⟩
    · exact ⟨fun hk _ => q3 hk, fun hn => by have hq := q4 (fun hk => hn ⟨hk, h⟩); exact ⟨Int32.toInt_inj.mp hq.1, Int32.toInt_inj.mp hq.2⟩⟩
    · exact ⟨fun _ ha => by omega, fun _ => ⟨(k2.1 65 2 rfl).1, (k2.1 65 1 rfl).1⟩⟩
    · exact ⟨fun _ ha => by omega, fun _ => ⟨(k2.1 67 2 rfl).1, (k2.1 67 1 rfl).1⟩⟩
  · obtain rfl : a1 = 2 := Int32.toInt_inj.mp (h.trans (by decide))
    refine (c_h_tray_2 hI a2 a3).mono ?_
    rintro v G' ⟨g1, g2, g3, rfl, k1, k2, x, rfl, k4, k5, q⟩
    unfold Q_h_tray_2 at q
    obtain ⟨⟨q1, q2, q3, q4⟩, q5, q6⟩ := q
    refine ⟨g1, g2, g3, rfl, k1, t_X.rf.tr k2 rfl, x, rfl, k4, k5, ⟨q1, by unfold t_OK; omega, fun t ht => ?_⟩, fun t ht => ?_⟩
    rotate_left
    · have ht4 : t = 0 ∨ t = 1 ∨ t = 2 ∨ t = 3 := by omega
      rcases ht4 with rfl | rfl | rfl | rfl
      · exact ⟨fun _ ha => by omega, fun _ j _ => (k2.1 62 j rfl).2.1⟩
      · exact ⟨fun _ ha => by omega, fun _ j _ => (k2.1 64 j rfl).2.1⟩
      · exact ⟨fun hk _ j hj => q5 hk j (by have := hk.2.2.2; omega), fun hn j _ => q6 (fun hk => hn ⟨hk, h⟩) j⟩
      · exact ⟨fun _ ha => by omega, fun _ j _ => (k2.1 68 j rfl).2.1⟩
    have ht4 : t = 0 ∨ t = 1 ∨ t = 2 ∨ t = 3 := by omega
    rcases ht4 with rfl | rfl | rfl | rfl
    · exact ⟨fun _ ha => by omega, fun _ => ⟨(k2.1 61 2 rfl).1, (k2.1 61 1 rfl).1⟩⟩
    · exact ⟨fun _ ha => by omega, fun _ => ⟨(k2.1 63 2 rfl).1, (k2.1 63 1 rfl).1⟩⟩
    · exact ⟨fun hk _ => q3 hk, fun hn => by have hq := q4 (fun hk => hn ⟨hk, h⟩); exact ⟨Int32.toInt_inj.mp hq.1, Int32.toInt_inj.mp hq.2⟩⟩
    · exact ⟨fun _ ha => by omega, fun _ => ⟨(k2.1 67 2 rfl).1, (k2.1 67 1 rfl).1⟩⟩
  · obtain rfl : a1 = 3 := Int32.toInt_inj.mp (h.trans (by decide))
    refine (c_h_tray_3 hI a2 a3).mono ?_
    rintro v G' ⟨g1, g2, g3, rfl, k1, k2, x, rfl, k4, k5, q⟩
    unfold Q_h_tray_3 at q
    obtain ⟨⟨q1, q2, q3, q4⟩, q5, q6⟩ := q
    refine ⟨g1, g2, g3, rfl, k1, t_X.rf.tr k2 rfl, x, rfl, k4, k5, ⟨q1, by unfold t_OK; omega, fun t ht => ?_⟩, fun t ht => ?_⟩
    rotate_left
    · have ht4 : t = 0 ∨ t = 1 ∨ t = 2 ∨ t = 3 := by omega
      rcases ht4 with rfl | rfl | rfl | rfl
      · exact ⟨fun _ ha => by omega, fun _ j _ => (k2.1 62 j rfl).2.1⟩
      · exact ⟨fun _ ha => by omega, fun _ j _ => (k2.1 64 j rfl).2.1⟩
      · exact ⟨fun _ ha => by omega, fun _ j _ => (k2.1 66 j rfl).2.1⟩
      · exact ⟨fun hk _ j hj => q5 hk j (by have := hk.2.2.2; omega), fun hn j _ => q6 (fun hk => hn ⟨hk, h⟩) j⟩
    have ht4 : t = 0 ∨ t = 1 ∨ t = 2 ∨ t = 3 := by omega
    rcases ht4 with rfl | rfl | rfl | rfl
    · exact ⟨fun _ ha => by omega, fun _ => ⟨(k2.1 61 2 rfl).1, (k2.1 61 1 rfl).1⟩⟩
    · exact ⟨fun _ ha => by omega, fun _ => ⟨(k2.1 63 2 rfl).1, (k2.1 63 1 rfl).1⟩⟩
    · exact ⟨fun _ ha => by omega, fun _ => ⟨(k2.1 65 2 rfl).1, (k2.1 65 1 rfl).1⟩⟩
    · exact ⟨fun hk _ => q3 hk, fun hn => by have hq := q4 (fun hk => hn ⟨hk, h⟩); exact ⟨Int32.toInt_inj.mp hq.1, Int32.toInt_inj.mp hq.2⟩⟩
  · refine (c_h_tray_h hI a1 h a2 a3).mono ?_
    rintro v G' ⟨g1, g2, g3, rfl, k1, k2, x, rfl, k4, k5, q⟩
    unfold Q_h_tray_h at q
    refine ⟨g1, g2, g3, rfl, k1, t_X.rf.tr k2 rfl, x, rfl, by omega, by omega, ⟨⟨by omega, by omega⟩, by omega, fun t ht => ⟨fun _ ha => by omega, fun _ => ?_⟩⟩, fun t ht => ⟨fun _ ha => by omega, fun _ j hj => ?_⟩⟩
    rotate_left
    · have ht4 : t = 0 ∨ t = 1 ∨ t = 2 ∨ t = 3 := by omega
      rcases ht4 with rfl | rfl | rfl | rfl
      · exact (k2.1 62 j rfl).2.1
      · exact (k2.1 64 j rfl).2.1
      · exact (k2.1 66 j rfl).2.1
      · exact (k2.1 68 j rfl).2.1
    have ht4 : t = 0 ∨ t = 1 ∨ t = 2 ∨ t = 3 := by omega
    rcases ht4 with rfl | rfl | rfl | rfl
    · exact ⟨(k2.1 61 2 rfl).1, (k2.1 61 1 rfl).1⟩
    · exact ⟨(k2.1 63 2 rfl).1, (k2.1 63 1 rfl).1⟩
    · exact ⟨(k2.1 65 2 rfl).1, (k2.1 65 1 rfl).1⟩
    · exact ⟨(k2.1 67 2 rfl).1, (k2.1 67 1 rfl).1⟩
theorem c_m_trayU {X : x_Ext} {d : Nat} {sh : List (Nat ⊕ (Nat × Nat))} {gi : Nat → Nat → Int32} {gl : Nat → Nat → Int64} {gr : Nat → Nat → Value} (hI : t_I sh gi gr) (a1 a2 a3 : Int32) : x_Me X (d + 2) n_X12_tray [.ref 69, .int a1, .int a2, .int a3] (sh, gi, gl, gr) (t_PI wl_m_tray sh gi gl gr 0 1 (fun x g l _ => t_QT t_cmM t_csM gi a1 a2 a3 x g ∧ t_QL t_rdM gl a1 a2 a3 l)) := by
  have h : a1.toInt ≤ -1 ∨ a1.toInt = 0 ∨ a1.toInt = 1 ∨ a1.toInt = 2 ∨ a1.toInt = 3 ∨ 4 ≤ a1.toInt := by omega
  rcases h with h | h | h | h | h | h
  · refine (c_m_tray_l hI a1 h a2 a3).mono ?_
    rintro v G' ⟨g1, g2, g3, rfl, k1, k2, x, rfl, k4, k5, q⟩
    unfold Q_m_tray_l at q
    refine ⟨g1, g2, g3, rfl, k1, t_X.rf.tr k2 rfl, x, rfl, by omega, by omega, ⟨⟨by omega, by omega⟩, by omega, fun t ht => ⟨fun _ ha => by omega, fun _ => ?_⟩⟩, fun t ht => ⟨fun _ ha => by omega, fun _ j hj => ?_⟩⟩
    rotate_left
    · exact (k2.1 74 (60 * t + j) rfl).2.1
    have ht4 : t = 0 ∨ t = 1 ∨ t = 2 ∨ t = 3 := by omega
    rcases ht4 with rfl | rfl | rfl | rfl
    · exact ⟨(k2.1 73 0 rfl).1, (k2.1 72 0 rfl).1⟩
    · exact ⟨(k2.1 73 1 rfl).1, (k2.1 72 1 rfl).1⟩
    · exact ⟨(k2.1 73 2 rfl).1, (k2.1 72 2 rfl).1⟩
    · exact ⟨(k2.1 73 3 rfl).1, (k2.1 72 3 rfl).1⟩
  · obtain rfl : a1 = 0 := Int32.toInt_inj.mp (h.trans (by decide))
    refine (c_m_tray_0 hI a2 a3).mono ?_
    rintro v G' ⟨g1, g2, g3, rfl, k1, k2, x, rfl, k4, k5, q⟩
    unfold Q_m_tray_0 at q
    obtain ⟨⟨q1, q2, q3, q4⟩, q5, q6, q7⟩ := q
    refine ⟨g1, g2, g3, rfl, k1, t_X.rf.tr k2 rfl, x, rfl, k4, k5, ⟨q1, by unfold t_OK; omega, fun t ht => ?_⟩, fun t ht => ?_⟩
    rotate_left
    · have ht4 : t = 0 ∨ t = 1 ∨ t = 2 ∨ t = 3 := by omega
      rcases ht4 with rfl | rfl | rfl | rfl
      · exact ⟨fun hk _ j hj => q5 hk j hj, fun hn j _ => q6 (fun hk => hn ⟨hk, h⟩) _⟩
      · exact ⟨fun _ ha => by omega, fun _ j hj => q7 _ (by omega)⟩
      · exact ⟨fun _ ha => by omega, fun _ j hj => q7 _ (by omega)⟩
      · exact ⟨fun _ ha => by omega, fun _ j hj => q7 _ (by omega)⟩
    have ht4 : t = 0 ∨ t = 1 ∨ t = 2 ∨ t = 3 := by omega
    rcases ht4 with rfl | rfl | rfl | rfl
    · exact ⟨fun hk _ => q3 hk, fun hn => by have hq := q4 (fun hk => hn ⟨hk, h⟩); exact ⟨Int32.toInt_inj.mp hq.1, Int32.toInt_inj.mp hq.2⟩⟩
    · exact ⟨fun _ ha => by omega, fun _ => ⟨(k2.1 73 1 rfl).1, (k2.1 72 1 rfl).1⟩⟩
    · exact ⟨fun _ ha => by omega, fun _ => ⟨(k2.1 73 2 rfl).1, (k2.1 72 2 rfl).1⟩⟩
    · exact ⟨fun _ ha => by omega, fun _ => ⟨(k2.1 73 3 rfl).1, (k2.1 72 3 rfl).1⟩⟩
  · obtain rfl : a1 = 1 := Int32.toInt_inj.mp (h.trans (by decide))
    refine (c_m_tray_1 hI a2 a3).mono ?_
    rintro v G' ⟨g1, g2, g3, rfl, k1, k2, x, rfl, k4, k5, q⟩
    unfold Q_m_tray_1 at q
    obtain ⟨⟨q1, q2, q3, q4⟩, q5, q6, q7⟩ := q
    refine ⟨g1, g2, g3, rfl, k1, t_X.rf.tr k2 rfl, x, rfl, k4, k5, ⟨q1, by unfold t_OK; omega, fun t ht => ?_⟩, fun t ht => ?_⟩
    rotate_left
    · have ht4 : t = 0 ∨ t = 1 ∨ t = 2 ∨ t = 3 := by omega
      rcases ht4 with rfl | rfl | rfl | rfl
      · exact ⟨fun _ ha => by omega, fun _ j hj => q7 _ (by omega)⟩
      · exact ⟨fun hk _ j hj => q5 hk j hj, fun hn j _ => q6 (fun hk => hn ⟨hk, h⟩) _⟩
      · exact ⟨fun _ ha => by omega, fun _ j hj => q7 _ (by omega)⟩
      · exact ⟨fun _ ha => by omega, fun _ j hj => q7 _ (by omega)⟩
    have ht4 : t = 0 ∨ t = 1 ∨ t = 2 ∨ t = 3 := by omega
    rcases ht4 with rfl | rfl | rfl | rfl
    · exact ⟨fun _ ha => by omega, fun _ => ⟨(k2.1 73 0 rfl).1, (k2.1 72 0 rfl).1⟩⟩
    · exact ⟨fun hk _ => q3 hk, fun hn => by have hq := q4 (fun hk => hn ⟨hk, h⟩); exact ⟨Int32.toInt_inj.mp hq.1, Int32.toInt_inj.mp hq.2⟩⟩
    · exact ⟨fun _ ha => by omega, fun _ => ⟨(k2.1 73 2 rfl).1, (k2.1 72 2 rfl).1⟩⟩
    · exact ⟨fun _ ha => by omega, fun _ => ⟨(k2.1 73 3 rfl).1, (k2.1 72 3 rfl).1⟩⟩
  · obtain rfl : a1 = 2 := Int32.toInt_inj.mp (h.trans (by decide))
    refine (c_m_tray_2 hI a2 a3).mono ?_
    rintro v G' ⟨g1, g2, g3, rfl, k1, k2, x, rfl, k4, k5, q⟩
    unfold Q_m_tray_2 at q
    obtain ⟨⟨q1, q2, q3, q4⟩, q5, q6, q7⟩ := q
    refine ⟨g1, g2, g3, rfl, k1, t_X.rf.tr k2 rfl, x, rfl, k4, k5, ⟨q1, by unfold t_OK; omega, fun t ht => ?_⟩, fun t ht => ?_⟩
    rotate_left
    · have ht4 : t = 0 ∨ t = 1 ∨ t = 2 ∨ t = 3 := by omega
      rcases ht4 with rfl | rfl | rfl | rfl
      · exact ⟨fun _ ha => by omega, fun _ j hj => q7 _ (by omega)⟩
      · exact ⟨fun _ ha => by omega, fun _ j hj => q7 _ (by omega)⟩
      · exact ⟨fun hk _ j hj => q5 hk j hj, fun hn j _ => q6 (fun hk => hn ⟨hk, h⟩) _⟩
      · exact ⟨fun _ ha => by omega, fun _ j hj => q7 _ (by omega)⟩
    have ht4 : t = 0 ∨ t = 1 ∨ t = 2 ∨ t = 3 := by omega
    rcases ht4 with rfl | rfl | rfl | rfl
    · exact ⟨fun _ ha => by omega, fun _ => ⟨(k2.1 73 0 rfl).1, (k2.1 72 0 rfl).1⟩⟩
    · exact ⟨fun _ ha => by omega, fun _ => ⟨(k2.1 73 1 rfl).1, (k2.1 72 1 rfl).1⟩⟩
    · exact ⟨fun hk _ => q3 hk, fun hn => by have hq := q4 (fun hk => hn ⟨hk, h⟩); exact ⟨Int32.toInt_inj.mp hq.1, Int32.toInt_inj.mp hq.2⟩⟩
    · exact ⟨fun _ ha => by omega, fun _ => ⟨(k2.1 73 3 rfl).1, (k2.1 72 3 rfl).1⟩⟩
  · obtain rfl : a1 = 3 := Int32.toInt_inj.mp (h.trans (by decide))
    refine (c_m_tray_3 hI a2 a3).mono ?_
    rintro v G' ⟨g1, g2, g3, rfl, k1, k2, x, rfl, k4, k5, q⟩
    unfold Q_m_tray_3 at q
    obtain ⟨⟨q1, q2, q3, q4⟩, q5, q6, q7⟩ := q
    refine ⟨g1, g2, g3, rfl, k1, t_X.rf.tr k2 rfl, x, rfl, k4, k5, ⟨q1, by unfold t_OK; omega, fun t ht => ?_⟩, fun t ht => ?_⟩
    rotate_left
    · have ht4 : t = 0 ∨ t = 1 ∨ t = 2 ∨ t = 3 := by omega
      rcases ht4 with rfl | rfl | rfl | rfl
      · exact ⟨fun _ ha => by omega, fun _ j hj => q7 _ (by omega)⟩
      · exact ⟨fun _ ha => by omega, fun _ j hj => q7 _ (by omega)⟩
      · exact ⟨fun _ ha => by omega, fun _ j hj => q7 _ (by omega)⟩
      · exact ⟨fun hk _ j hj => q5 hk j hj, fun hn j _ => q6 (fun hk => hn ⟨hk, h⟩) _⟩
    have ht4 : t = 0 ∨ t = 1 ∨ t = 2 ∨ t = 3 := by omega
    rcases ht4 with rfl | rfl | rfl | rfl
    · exact ⟨fun _ ha => by omega, fun _ => ⟨(k2.1 73 0 rfl).1, (k2.1 72 0 rfl).1⟩⟩
    · exact ⟨fun _ ha => by omega, fun _ => ⟨(k2.1 73 1 rfl).1, (k2.1 72 1 rfl).1⟩⟩
    · exact ⟨fun _ ha => by omega, fun _ => ⟨(k2.1 73 2 rfl).1, (k2.1 72 2 rfl).1⟩⟩
    · exact ⟨fun hk _ => q3 hk, fun hn => by have hq := q4 (fun hk => hn ⟨hk, h⟩); exact ⟨Int32.toInt_inj.mp hq.1, Int32.toInt_inj.mp hq.2⟩⟩
  · refine (c_m_tray_h hI a1 h a2 a3).mono ?_
    rintro v G' ⟨g1, g2, g3, rfl, k1, k2, x, rfl, k4, k5, q⟩
    unfold Q_m_tray_h at q
    refine ⟨g1, g2, g3, rfl, k1, t_X.rf.tr k2 rfl, x, rfl, by omega, by omega, ⟨⟨by omega, by omega⟩, by omega, fun t ht => ⟨fun _ ha => by omega, fun _ => ?_⟩⟩, fun t ht => ⟨fun _ ha => by omega, fun _ j hj => ?_⟩⟩
    rotate_left
    · exact (k2.1 74 (60 * t + j) rfl).2.1
    have ht4 : t = 0 ∨ t = 1 ∨ t = 2 ∨ t = 3 := by omega
    rcases ht4 with rfl | rfl | rfl | rfl
    · exact ⟨(k2.1 73 0 rfl).1, (k2.1 72 0 rfl).1⟩
    · exact ⟨(k2.1 73 1 rfl).1, (k2.1 72 1 rfl).1⟩
    · exact ⟨(k2.1 73 2 rfl).1, (k2.1 72 2 rfl).1⟩
    · exact ⟨(k2.1 73 3 rfl).1, (k2.1 72 3 rfl).1⟩
section TW9
variable {X : x_Ext} {d : Nat} {sh : List (Nat ⊕ (Nat × Nat))} {gi : Nat → Nat → Int32} {gl : Nat → Nat → Int64} {gr : Nat → Nat → Value}
/-- what a write does -/
noncomputable def t_QW (rd : (Nat → Nat → Int64) → Nat → Nat → Int64) (a1 a2 : Int32) (a3 : Int64) (M S : Int) (gl : Nat → Nat → Int64) (x : Int32) (l : Nat → Nat → Int64) : Prop := (x.toInt = 1 ↔ (0 ≤ a1.toInt ∧ a1.toInt ≤ 3 ∧ 0 ≤ a2.toInt ∧ a2.toInt < M)) ∧ ∀ t : Nat, t < 4 → ∀ j : Nat, j < 60 → rd l t j = if a1.toInt = (t : Int) ∧ 0 ≤ a2.toInt ∧ a2.toInt < M ∧ (j : Int) = a2.toInt then t_cut S a3 else rd gl t j
theorem t_gr0 (h : x_WF sh gr) {t : Nat} (ht : t < 4) : gr (61 + 2 * t) 0 = .ref (62 + 2 * t) := by
  have h4 : t = 0 ∨ t = 1 ∨ t = 2 ∨ t = 3 := by omega
  rcases h4 with rfl | rfl | rfl | rfl
  · exact h.r rfl
  · exact h.r rfl
  · exact h.r rfl
  · exact h.r rfl
theorem c_h_writeU (hI : t_I sh gi gr) (a1 a2 : Int32) (a3 : Int64) : x_Me X (d + 3) n_X11_write [.ref 0, .int a1, .int a2, .long a3] (sh, gi, gl, gr) (t_PI wl_h_write2 sh gi gl gr 0 1 (fun x _ l _ => t_QW t_rdH a1 a2 a3 (gi (61 + 2 * a1.toNatClampNeg) 2).toInt (gi (61 + 2 * a1.toNatClampNeg) 1).toInt gl x l)) := by
  by_cases hcl : a1.toInt ≤ -1
  · refine (c_h_write_l hI a1 hcl a2 a3).mono ?_
    rintro v G' ⟨g1, g2, g3, rfl, k1, k2, x, rfl, k4, k5, q⟩
    unfold Q_h_write_l at q
    refine ⟨g1, g2, g3, rfl, k1, t_X.rf.tr k2 rfl, x, rfl, by omega, by omega, by omega, fun t ht j hj => ?_⟩
    rw [if_neg (by omega)]
    have ht4 : t = 0 ∨ t = 1 ∨ t = 2 ∨ t = 3 := by omega
    rcases ht4 with rfl | rfl | rfl | rfl
    · exact (k2.1 62 j rfl).2.1
    · exact (k2.1 64 j rfl).2.1
    · exact (k2.1 66 j rfl).2.1
    · exact (k2.1 68 j rfl).2.1
  by_cases hch : 4 ≤ a1.toInt
  · refine (c_h_write_h hI a1 hch a2 a3).mono ?_
    rintro v G' ⟨g1, g2, g3, rfl, k1, k2, x, rfl, k4, k5, q⟩
    unfold Q_h_write_h at q
    refine ⟨g1, g2, g3, rfl, k1, t_X.rf.tr k2 rfl, x, rfl, by omega, by omega, by omega, fun t ht j hj => ?_⟩
    rw [if_neg (by omega)]
    have ht4 : t = 0 ∨ t = 1 ∨ t = 2 ∨ t = 3 := by omega
    rcases ht4 with rfl | rfl | rfl | rfl
    · exact (k2.1 62 j rfl).2.1
    · exact (k2.1 64 j rfl).2.1
    · exact (k2.1 66 j rfl).2.1
    · exact (k2.1 68 j rfl).2.1
  refine (c_h_write2 hI a1 a2 a3).mono ?_
  rintro v G' ⟨g1, g2, g3, rfl, k1, k2, x, rfl, k4, k5, q⟩
  have hcl := t_clamp (i := a1) (by omega)
  have hg := t_gr1 hI.wf (i := a1) (by omega) (by omega)
  have hg0 : gr (61 + 2 * a1.toNatClampNeg) 0 = .ref (62 + 2 * a1.toNatClampNeg) := t_gr0 hI.wf hg.2
  obtain ⟨hq1, hq2, hq3⟩ := q.2 _ _ hg.1 hg0 ⟨by omega, by omega⟩
  refine ⟨g1, g2, g3, rfl, k1, k2, x, rfl, k4, k5, by omega, fun t ht j hj => ?_⟩
  show g2 (62 + 2 * t) j = _
  by_cases he : t = a1.toNatClampNeg
  · subst he
    rw [hq3 j]
    by_cases hw : (0 ≤ a2.toInt ∧ a2.toInt < (gi (61 + 2 * a1.toNatClampNeg) 2).toInt) ∧ (j : Int) = a2.toInt
    · rw [if_pos hw, if_pos ⟨by omega, hw.1.1, hw.1.2, hw.2⟩]
    · rw [if_neg hw, if_neg (fun hh => hw ⟨⟨hh.2.1, hh.2.2.1⟩, hh.2.2.2⟩)]; rfl
  · rw [hq2 _ _ (by omega), if_neg (fun hh => he (by omega))]; rfl
theorem c_m_writeU (hI : t_I sh gi gr) (a1 a2 : Int32) (a3 : Int64) : x_Me X (d + 3) n_X12_write [.ref 69, .int a1, .int a2, .long a3] (sh, gi, gl, gr) (t_PI wl_m_write2 sh gi gl gr 0 1 (fun x _ l _ => t_QW t_rdM a1 a2 a3 (gi 73 a1.toNatClampNeg).toInt (gi 72 a1.toNatClampNeg).toInt gl x l)) := by
  by_cases hcl : a1.toInt ≤ -1
  · refine (c_m_write_l hI a1 hcl a2 a3).mono ?_
    rintro v G' ⟨g1, g2, g3, rfl, k1, k2, x, rfl, k4, k5, q⟩
    unfold Q_m_write_l at q
    refine ⟨g1, g2, g3, rfl, k1, t_X.rf.tr k2 rfl, x, rfl, by omega, by omega, by omega, fun t ht j hj => ?_⟩
    rw [if_neg (by omega)]
    exact (k2.1 74 (60 * t + j) rfl).2.1
  by_cases hch : 4 ≤ a1.toInt
  · refine (c_m_write_h hI a1 hch a2 a3).mono ?_
    rintro v G' ⟨g1, g2, g3, rfl, k1, k2, x, rfl, k4, k5, q⟩
    unfold Q_m_write_h at q
    refine ⟨g1, g2, g3, rfl, k1, t_X.rf.tr k2 rfl, x, rfl, by omega, by omega, by omega, fun t ht j hj => ?_⟩
    rw [if_neg (by omega)]
    exact (k2.1 74 (60 * t + j) rfl).2.1
  refine (c_m_write2 hI a1 a2 a3).mono ?_
  rintro v G' ⟨g1, g2, g3, rfl, k1, k2, x, rfl, k4, k5, q⟩
  have hcl := t_clamp (i := a1) (by omega)
  obtain ⟨hq1, hq3⟩ := q.2 ⟨by omega, by omega⟩
  have hb := hI.ab (k := 73) (i := 0) (j := 3) (lo := -1) (hi := 60) (m := a1.toNatClampNeg) (by decide +kernel) (Nat.zero_le _) (by omega)
  refine ⟨g1, g2, g3, rfl, k1, k2, x, rfl, k4, k5, by omega, fun t ht j hj => ?_⟩
  show g2 74 (60 * t + j) = _
  rw [hq3 (60 * t + j)]
  by_cases hw : a1.toInt = (t : Int) ∧ 0 ≤ a2.toInt ∧ a2.toInt < (gi 73 a1.toNatClampNeg).toInt ∧ (j : Int) = a2.toInt
  · rw [if_pos hw, if_pos ⟨⟨hw.2.1, hw.2.2.1⟩, by omega⟩]
  · rw [if_neg hw, if_neg (fun hh => hw ⟨by omega, hh.1.1, hh.1.2, by omega⟩)]; rfl
/-- all that pour asks -/
noncomputable def t_QP (a1 a2 a3 a4 a5 : Int32) (m1 m3 s1 s3 : Int) : Prop := (0 ≤ a1.toInt ∧ a1.toInt ≤ 3) ∧ (0 ≤ a3.toInt ∧ a3.toInt ≤ 3) ∧ (0 ≤ a2.toInt ∧ 0 ≤ a4.toInt ∧ 0 ≤ a5.toInt ∧ m1 ≠ -1 ∧ m3 ≠ -1 ∧ s1 = s3 ∧ a2.toInt + a5.toInt ≤ m1 ∧ a4.toInt + a5.toInt ≤ m3)
noncomputable def t_QPL (rd : (Nat → Nat → Int64) → Nat → Nat → Int64) (a1 a2 a3 a4 a5 : Int32) (m1 m3 s1 s3 : Int) (gl : Nat → Nat → Int64) (x : Int32) (l : Nat → Nat → Int64) : Prop := (x.toInt = 1 ↔ t_QP a1 a2 a3 a4 a5 m1 m3 s1 s3) ∧ ∀ t : Nat, t < 4 → ∀ j : Nat, j < 60 → (t_QP a1 a2 a3 a4 a5 m1 m3 s1 s3 ∧ a3.toInt = (t : Int) ∧ a4.toInt ≤ (j : Int) ∧ (j : Int) < a4.toInt + a5.toInt → rd l t j = rd gl a1.toNatClampNeg ((j : Int) - a4.toInt + a2.toInt).toNat) ∧ (¬ (t_QP a1 a2 a3 a4 a5 m1 m3 s1 s3 ∧ a3.toInt = (t : Int) ∧ a4.toInt ≤ (j : Int) ∧ (j : Int) < a4.toInt + a5.toInt) → rd l t j = rd gl t j)
theorem c_h_pourU (hI : t_I sh gi gr) (a1 a2 a3 a4 a5 : Int32) : x_Me X (d + 2) n_X11_pour [.ref 0, .int a1, .int a2, .int a3, .int a4, .int a5] (sh, gi, gl, gr) (t_PI wl_h_pour2 sh gi gl gr 0 1 (fun x _ l _ => t_QPL t_rdH a1 a2 a3 a4 a5 (gi (61 + 2 * a1.toNatClampNeg) 2).toInt (gi (61 + 2 * a3.toNatClampNeg) 2).toInt (gi (61 + 2 * a1.toNatClampNeg) 1).toInt (gi (61 + 2 * a3.toNatClampNeg) 1).toInt gl x l)) := by
  by_cases hcfl : a1.toInt ≤ -1
  · refine (c_h_pour_fl hI a1 hcfl a2 a3 a4 a5).mono ?_
    rintro v G' ⟨g1, g2, g3, rfl, k1, k2, x, rfl, k4, k5, q⟩
    unfold Q_h_pour_fl at q
    refine ⟨g1, g2, g3, rfl, k1, t_X.rf.tr k2 rfl, x, rfl, by omega, by omega, by unfold t_QP; omega, fun t ht j hj => ⟨fun hh => by unfold t_QP at hh; omega, fun _ => ?_⟩⟩
    have ht4 : t = 0 ∨ t = 1 ∨ t = 2 ∨ t = 3 := by omega
    rcases ht4 with rfl | rfl | rfl | rfl
    · exact (k2.1 62 j rfl).2.1
    · exact (k2.1 64 j rfl).2.1
    · exact (k2.1 66 j rfl).2.1
    · exact (k2.1 68 j rfl).2.1
  by_cases hcfh : 4 ≤ a1.toInt
  · refine (c_h_pour_fh hI a1 hcfh a2 a3 a4 a5).mono ?_
    rintro v G' ⟨g1, g2, g3, rfl, k1, k2, x, rfl, k4, k5, q⟩
    unfold Q_h_pour_fh at q
    refine ⟨g1, g2, g3, rfl, k1, t_X.rf.tr k2 rfl, x, rfl, by omega, by omega, by unfold t_QP; omega, fun t ht j hj => ⟨fun hh => by unfold t_QP at hh; omega, fun _ => ?_⟩⟩
    have ht4 : t = 0 ∨ t = 1 ∨ t = 2 ∨ t = 3 := by omega
    rcases ht4 with rfl | rfl | rfl | rfl
    · exact (k2.1 62 j rfl).2.1
    · exact (k2.1 64 j rfl).2.1
    · exact (k2.1 66 j rfl).2.1
    · exact (k2.1 68 j rfl).2.1
  by_cases hctl : a3.toInt ≤ -1
  · refine (c_h_pour_tl hI a1 a2 a3 hctl a4 a5).mono ?_
    rintro v G' ⟨g1, g2, g3, rfl, k1, k2, x, rfl, k4, k5, q⟩
    unfold Q_h_pour_tl at q
    refine ⟨g1, g2, g3, rfl, k1, t_X.rf.tr k2 rfl, x, rfl, by omega, by omega, by unfold t_QP; omega, fun t ht j hj => ⟨fun hh => by unfold t_QP at hh; omega, fun _ => ?_⟩⟩
    have ht4 : t = 0 ∨ t = 1 ∨ t = 2 ∨ t = 3 := by omega
    rcases ht4 with rfl | rfl | rfl | rfl
    · exact (k2.1 62 j rfl).2.1
    · exact (k2.1 64 j rfl).2.1
    · exact (k2.1 66 j rfl).2.1
    · exact (k2.1 68 j rfl).2.1
  by_cases hcth : 4 ≤ a3.toInt
  · refine (c_h_pour_th hI a1 a2 a3 hcth a4 a5).mono ?_
    rintro v G' ⟨g1, g2, g3, rfl, k1, k2, x, rfl, k4, k5, q⟩
    unfold Q_h_pour_th at q
    refine ⟨g1, g2, g3, rfl, k1, t_X.rf.tr k2 rfl, x, rfl, by omega, by omega, by unfold t_QP; omega, fun t ht j hj => ⟨fun hh => by unfold t_QP at hh; omega, fun _ => ?_⟩⟩
    have ht4 : t = 0 ∨ t = 1 ∨ t = 2 ∨ t = 3 := by omega
    rcases ht4 with rfl | rfl | rfl | rfl
    · exact (k2.1 62 j rfl).2.1
    · exact (k2.1 64 j rfl).2.1
    · exact (k2.1 66 j rfl).2.1
    · exact (k2.1 68 j rfl).2.1
  refine (c_h_pour2 hI a1 a2 a3 a4 a5).mono ?_
  rintro v G' ⟨g1, g2, g3, rfl, k1, k2, x, rfl, k4, k5, q⟩
  have hn1 := t_clamp (i := a1) (by omega)
  have hn3 := t_clamp (i := a3) (by omega)
  have hg1 := t_gr1 hI.wf (i := a1) (by omega) (by omega)
  have hg3 := t_gr1 hI.wf (i := a3) (by omega) (by omega)
  obtain ⟨hq1, hq2, hq3, hq4⟩ := q.2 _ _ _ _ hg1.1 hg3.1 (t_gr0 hI.wf hg1.2) (t_gr0 hI.wf hg3.2) ⟨by omega, by omega⟩ ⟨by omega, by omega⟩
  refine ⟨g1, g2, g3, rfl, k1, k2, x, rfl, k4, k5, by unfold t_QP; omega, fun t ht j hj => ⟨fun hh => ?_, fun hh => ?_⟩⟩
  · obtain ⟨⟨-, -, hQ⟩, h2, h3, h4⟩ := hh
    have c2 := t_clamp hQ.1
    have c4 := t_clamp hQ.2.1
    have c5 := t_clamp hQ.2.2.1
    obtain rfl : t = a3.toNatClampNeg := by omega
    show g2 (62 + 2 * a3.toNatClampNeg) j = gl (62 + 2 * a1.toNatClampNeg) _
    rw [congrFun (hq3 hQ) j]; unfold va_cpy
    rw [if_pos ⟨by omega, by omega⟩]
    congr 1
    omega
  · by_cases he : t = a3.toNatClampNeg
    · subst he
      show g2 (62 + 2 * a3.toNatClampNeg) j = gl (62 + 2 * a3.toNatClampNeg) j
      by_cases hQ : (0 ≤ a2.toInt ∧ 0 ≤ a4.toInt ∧ 0 ≤ a5.toInt ∧ (gi (61 + 2 * a1.toNatClampNeg) 2).toInt ≠ -1 ∧ (gi (61 + 2 * a3.toNatClampNeg) 2).toInt ≠ -1 ∧ (gi (61 + 2 * a1.toNatClampNeg) 1).toInt = (gi (61 + 2 * a3.toNatClampNeg) 1).toInt ∧ a2.toInt + a5.toInt ≤ (gi (61 + 2 * a1.toNatClampNeg) 2).toInt ∧ a4.toInt + a5.toInt ≤ (gi (61 + 2 * a3.toNatClampNeg) 2).toInt)
      · have c2 := t_clamp hQ.1
        have c4 := t_clamp hQ.2.1
        have c5 := t_clamp hQ.2.2.1
        rw [congrFun (hq3 hQ) j]; unfold va_cpy
        rw [if_neg (fun h9 => hh ⟨⟨⟨by omega, by omega⟩, ⟨by omega, by omega⟩, hQ⟩, by omega, by omega, by omega⟩)]
      · rw [hq4 hQ]
    · exact hq2 _ _ (by omega)
theorem c_m_pourU (hI : t_I sh gi gr) (a1 a2 a3 a4 a5 : Int32) : x_Me X (d + 2) n_X12_pour [.ref 69, .int a1, .int a2, .int a3, .int a4, .int a5] (sh, gi, gl, gr) (t_PI wl_m_pour2 sh gi gl gr 0 1 (fun x _ l _ => t_QPL t_rdM a1 a2 a3 a4 a5 (gi 73 a1.toNatClampNeg).toInt (gi 73 a3.toNatClampNeg).toInt (gi 72 a1.toNatClampNeg).toInt (gi 72 a3.toNatClampNeg).toInt gl x l)) := by
  by_cases hcfl : a1.toInt ≤ -1
  · refine (c_m_pour_fl hI a1 hcfl a2 a3 a4 a5).mono ?_
    rintro v G' ⟨g1, g2, g3, rfl, k1, k2, x, rfl, k4, k5, q⟩
    unfold Q_m_pour_fl at q
    refine ⟨g1, g2, g3, rfl, k1, t_X.rf.tr k2 rfl, x, rfl, by omega, by omega, by unfold t_QP; omega, fun t ht j hj => ⟨fun hh => by unfold t_QP at hh; omega, fun _ => ?_⟩⟩
    exact (k2.1 74 (60 * t + j) rfl).2.1
  by_cases hcfh : 4 ≤ a1.toInt
  · refine (c_m_pour_fh hI a1 hcfh a2 a3 a4 a5).mono ?_
    rintro v G' ⟨g1, g2, g3, rfl, k1, k2, x, rfl, k4, k5, q⟩
    unfold Q_m_pour_fh at q
    refine ⟨g1, g2, g3, rfl, k1, t_X.rf.tr k2 rfl, x, rfl, by omega, by omega, by unfold t_QP; omega, fun t ht j hj => ⟨fun hh => by unfold t_QP at hh; omega, fun _ => ?_⟩⟩
    exact (k2.1 74 (60 * t + j) rfl).2.1
  by_cases hctl : a3.toInt ≤ -1
  · refine (c_m_pour_tl hI a1 a2 a3 hctl a4 a5).mono ?_
    rintro v G' ⟨g1, g2, g3, rfl, k1, k2, x, rfl, k4, k5, q⟩
    unfold Q_m_pour_tl at q
    refine ⟨g1, g2, g3, rfl, k1, t_X.rf.tr k2 rfl, x, rfl, by omega, by omega, by unfold t_QP; omega, fun t ht j hj => ⟨fun hh => by unfold t_QP at hh; omega, fun _ => ?_⟩⟩
    exact (k2.1 74 (60 * t + j) rfl).2.1
  by_cases hcth : 4 ≤ a3.toInt
  · refine (c_m_pour_th hI a1 a2 a3 hcth a4 a5).mono ?_
    rintro v G' ⟨g1, g2, g3, rfl, k1, k2, x, rfl, k4, k5, q⟩
    unfold Q_m_pour_th at q
    refine ⟨g1, g2, g3, rfl, k1, t_X.rf.tr k2 rfl, x, rfl, by omega, by omega, by unfold t_QP; omega, fun t ht j hj => ⟨fun hh => by unfold t_QP at hh; omega, fun _ => ?_⟩⟩
    exact (k2.1 74 (60 * t + j) rfl).2.1
  refine (c_m_pour2 hI a1 a2 a3 a4 a5).mono ?_
  rintro v G' ⟨g1, g2, g3, rfl, k1, k2, x, rfl, k4, k5, q⟩
  have hn1 := t_clamp (i := a1) (by omega)
  have hn3 := t_clamp (i := a3) (by omega)
  obtain ⟨hq1, hq3, hq4⟩ := q.2 ⟨by omega, by omega⟩ ⟨by omega, by omega⟩
  have hb1 := hI.ab (k := 73) (i := 0) (j := 3) (lo := -1) (hi := 60) (m := a1.toNatClampNeg) (by decide +kernel) (Nat.zero_le _) (by omega)
  have hb3 := hI.ab (k := 73) (i := 0) (j := 3) (lo := -1) (hi := 60) (m := a3.toNatClampNeg) (by decide +kernel) (Nat.zero_le _) (by omega)
  refine ⟨g1, g2, g3, rfl, k1, k2, x, rfl, k4, k5, by unfold t_QP; omega, fun t ht j hj => ⟨fun hh => ?_, fun hh => ?_⟩⟩
  · obtain ⟨⟨-, -, hQ⟩, h2, h3, h4⟩ := hh
    show g2 74 (60 * t + j) = gl 74 (60 * a1.toNatClampNeg + _)
    rw [hq3 hQ (60 * t + j)]
    have hc : (a2.toInt < a4.toInt ∧ 60 * a3.toInt + a4.toInt + a5.toInt - a5.toInt ≤ ((60 * t + j : Nat) : Int) ∧ ((60 * t + j : Nat) : Int) < 60 * a3.toInt + a4.toInt + a5.toInt) ∨ (¬ a2.toInt < a4.toInt ∧ 60 * a3.toInt + a4.toInt ≤ ((60 * t + j : Nat) : Int) ∧ ((60 * t + j : Nat) : Int) < 60 * a3.toInt + a4.toInt + a5.toInt) := by
      by_cases hd : a2.toInt < a4.toInt
      · exact Or.inl ⟨hd, by omega, by omega⟩
      · exact Or.inr ⟨hd, by omega, by omega⟩
    rw [t_pcp_t hc]
    congr 1
    omega
  · show g2 74 (60 * t + j) = gl 74 (60 * t + j)
    by_cases hQ : (0 ≤ a2.toInt ∧ 0 ≤ a4.toInt ∧ 0 ≤ a5.toInt ∧ (gi 73 a1.toNatClampNeg).toInt ≠ -1 ∧ (gi 73 a3.toNatClampNeg).toInt ≠ -1 ∧ (gi 72 a1.toNatClampNeg).toInt = (gi 72 a3.toNatClampNeg).toInt ∧ a2.toInt + a5.toInt ≤ (gi 73 a1.toNatClampNeg).toInt ∧ a4.toInt + a5.toInt ≤ (gi 73 a3.toNatClampNeg).toInt)
    · rw [hq3 hQ (60 * t + j)]
      have hno : ¬ (a3.toInt = (t : Int) ∧ a4.toInt ≤ (j : Int) ∧ (j : Int) < a4.toInt + a5.toInt) := fun h9 => hh ⟨⟨⟨by omega, by omega⟩, ⟨by omega, by omega⟩, hQ⟩, h9⟩
      exact t_pcp_f (fun _ => by omega) (fun _ => by omega)
    · exact hq4 hQ _
/-- what a read tells -/
noncomputable def t_QR (rd : (Nat → Nat → Int64) → Nat → Nat → Int64) (a1 a2 : Int32) (M : Int) (gl : Nat → Nat → Int64) (x : Int64) : Prop := ((0 ≤ a1.toInt ∧ a1.toInt ≤ 3 ∧ 0 ≤ a2.toInt ∧ a2.toInt < M) → x = rd gl a1.toNatClampNeg a2.toNatClampNeg) ∧ (¬ (0 ≤ a1.toInt ∧ a1.toInt ≤ 3 ∧ 0 ≤ a2.toInt ∧ a2.toInt < M) → x = -1)
theorem c_h_readU (hI : t_I sh gi gr) (a1 a2 : Int32) : x_Me X (d + 3) n_X11_read [.ref 0, .int a1, .int a2] (sh, gi, gl, gr) (t_PL wl_h_read2 sh gi gl gr (fun x _ _ _ => t_QR t_rdH a1 a2 (gi (61 + 2 * a1.toNatClampNeg) 2).toInt gl x)) := by
  refine (c_h_read2 hI a1 a2).mono ?_
  rintro v G' ⟨g1, g2, g3, rfl, k1, k2, x, rfl, q⟩
  refine ⟨g1, g2, g3, rfl, k1, k2, x, rfl, ?_⟩
  by_cases hi : 0 ≤ a1.toInt ∧ a1.toInt ≤ 3
  · have hg := t_gr1 hI.wf hi.1 hi.2
    have hq := q.2 _ _ hg.1 (t_gr0 hI.wf hg.2) hi
    exact ⟨fun hh => hq.1 ⟨hh.2.2.1, hh.2.2.2⟩, fun hh => hq.2 (fun h9 => hh ⟨hi.1, hi.2, h9.1, h9.2⟩)⟩
  · exact ⟨fun hh => absurd ⟨hh.1, hh.2.1⟩ hi, fun _ => q.1 hi⟩
theorem c_m_readU (hI : t_I sh gi gr) (a1 a2 : Int32) : x_Me X (d + 3) n_X12_read [.ref 69, .int a1, .int a2] (sh, gi, gl, gr) (t_PL wl_m_read2 sh gi gl gr (fun x _ _ _ => t_QR t_rdM a1 a2 (gi 73 a1.toNatClampNeg).toInt gl x)) := by
  refine (c_m_read2 hI a1 a2).mono ?_
  rintro v G' ⟨g1, g2, g3, rfl, k1, k2, x, rfl, q⟩
  refine ⟨g1, g2, g3, rfl, k1, k2, x, rfl, ?_⟩
  by_cases hi : 0 ≤ a1.toInt ∧ a1.toInt ≤ 3
  · have hq := q.2 hi
    exact ⟨fun hh => hq.1 ⟨hh.2.2.1, hh.2.2.2⟩, fun hh => hq.2 (fun h9 => hh ⟨hi.1, hi.2, h9.1, h9.2⟩)⟩
  · exact ⟨fun hh => absurd ⟨hh.1, hh.2.1⟩ hi, fun _ => q.1 hi⟩
end TW9
/-! the law's calls, with what both sides have in common -/
theorem t_inK {wl : List (Nat × Nat)} {k : Nat} (h : (wl.all (fun q => !(q.1 == k))) = true) (j : Nat) : t_in wl k j = false := by
  cases hc : t_in wl k j with
  | false => rfl
  | true =>
    exfalso
    obtain ⟨q, hq, hq2⟩ := List.any_eq_true.mp hc
    have h1 := List.all_eq_true.mp h q hq
    rw [Bool.and_eq_true] at hq2
    rw [hq2.1] at h1; cases h1
theorem t_bit {x y : Int32} (h1 : 0 ≤ x.toInt) (h2 : x.toInt ≤ 1) (h3 : 0 ≤ y.toInt) (h4 : y.toInt ≤ 1) (h : x.toInt = 1 ↔ y.toInt = 1) : x = y := Int32.toInt_inj.mp (by omega)
section TL9
variable {sh : List (Nat ⊕ (Nat × Nat))} {gi g1 g2 : Nat → Nat → Int32} {gl l1 l2 : Nat → Nat → Int64} {gr r1 r2 : Nat → Nat → Value} {w1 w2 : List (Nat × Nat)} {a1 a2 a3 a4 a5 x1 x2 : Int32}
/-- the TRAYS' numbers -/
noncomputable def t_R7 (gi : Nat → Nat → Int32) (gl : Nat → Nat → Int64) : Prop := ∀ t : Nat, t < 4 → ∀ j : Nat, (j : Int) < (gi (61 + 2 * t) 2).toInt → t_rdH gl t j = t_rdM gl t j
theorem t_m60 (hI : t_I sh gi gr) {t : Nat} (ht : t < 4) : (gi (61 + 2 * t) 2).toInt ≤ 60 := by
  have h4 : t = 0 ∨ t = 1 ∨ t = 2 ∨ t = 3 := by omega
  rcases h4 with rfl | rfl | rfl | rfl
  · exact (hI.b (hI.wf.s (k := 61) rfl) (t_bdK rfl : t_bd 9 2 = some (-1, 60))).2
  · exact (hI.b (hI.wf.s (k := 63) rfl) (t_bdK rfl : t_bd 9 2 = some (-1, 60))).2
  · exact (hI.b (hI.wf.s (k := 65) rfl) (t_bdK rfl : t_bd 9 2 = some (-1, 60))).2
  · exact (hI.b (hI.wf.s (k := 67) rfl) (t_bdK rfl : t_bd 9 2 = some (-1, 60))).2
noncomputable def t_w7 (w : List (Nat × Nat)) : Bool := w.all (fun q => !(q.1 == 62)) && (w.all (fun q => !(q.1 == 64)) && (w.all (fun q => !(q.1 == 66)) && w.all (fun q => !(q.1 == 68))))
noncomputable def t_w2 (w : List (Nat × Nat)) : Bool := t_un w (61, 2) && (t_un w (63, 2) && (t_un w (65, 2) && t_un w (67, 2)))
theorem t_w7_ok (h : t_w7 w1 = true) (f1 : t_F w1 gi gl gr g1 l1 r1) {t : Nat} (ht : t < 4) (j : Nat) : l1 (62 + 2 * t) j = gl (62 + 2 * t) j := by
  unfold t_w7 at h
  rw [Bool.and_eq_true, Bool.and_eq_true, Bool.and_eq_true] at h
  have h4 : t = 0 ∨ t = 1 ∨ t = 2 ∨ t = 3 := by omega
  rcases h4 with rfl | rfl | rfl | rfl
  · exact (f1 62 j (by decide) (t_inK h.1 j)).2.1
  · exact (f1 64 j (by decide) (t_inK h.2.1 j)).2.1
  · exact (f1 66 j (by decide) (t_inK h.2.2.1 j)).2.1
  · exact (f1 68 j (by decide) (t_inK h.2.2.2 j)).2.1
theorem t_w2_ok (h : t_w2 w1 = true) (f1 : t_F w1 gi gl gr g1 l1 r1) {t : Nat} (ht : t < 4) : g1 (61 + 2 * t) 2 = gi (61 + 2 * t) 2 := by
  unfold t_w2 at h
  rw [Bool.and_eq_true, Bool.and_eq_true, Bool.and_eq_true] at h
  have h4 : t = 0 ∨ t = 1 ∨ t = 2 ∨ t = 3 := by omega
  rcases h4 with rfl | rfl | rfl | rfl
  · exact (f1 61 2 (by decide) (t_un_ok (q := (61, 2)) h.1)).1
  · exact (f1 63 2 (by decide) (t_un_ok (q := (63, 2)) h.2.1)).1
  · exact (f1 65 2 (by decide) (t_un_ok (q := (65, 2)) h.2.2.1)).1
  · exact (f1 67 2 (by decide) (t_un_ok (q := (67, 2)) h.2.2.2)).1
theorem t_L_g7 (h7 : t_R7 gi gl) (f1 : t_F w1 gi gl gr g1 l1 r1) (f2 : t_F w2 g1 l1 r1 g2 l2 r2) (h : (t_w7 w1 && (t_w7 w2 && (t_w2 w1 && (t_w2 w2 && (w1.all (fun q => !(q.1 == 74)) && w2.all (fun q => !(q.1 == 74))))))) = true) : t_R7 g2 l2 := by
  rw [Bool.and_eq_true, Bool.and_eq_true, Bool.and_eq_true, Bool.and_eq_true, Bool.and_eq_true] at h
  obtain ⟨a, b, c, d, e, f⟩ := h
  intro t ht j hj
  rw [t_w2_ok d f2 ht, t_w2_ok c f1 ht] at hj
  show l2 (62 + 2 * t) j = l2 74 (60 * t + j)
  rw [t_w7_ok b f2 ht, t_w7_ok a f1 ht, (f2 74 _ (by decide) (t_inK f _)).2.1, (f1 74 _ (by decide) (t_inK e _)).2.1]
  exact h7 t ht j hj
theorem t_L_tray (hR : t_R gi gr) (h7 : t_R7 gi gl) (hI : t_I sh gi gr) (f1 : t_F wl_h_tray gi gl gr g1 l1 r1) (f2 : t_F wl_m_tray g1 l1 r1 g2 l2 r2) (q1 : t_QT t_cmH t_csH gi a1 a2 a3 x1 g1 ∧ t_QL t_rdH gl a1 a2 a3 l1) (q2 : t_QT t_cmM t_csM g1 a1 a2 a3 x2 g2 ∧ t_QL t_rdM l1 a1 a2 a3 l2) : x1 = x2 ∧ t_R g2 r2 ∧ t_R7 g2 l2 := by
  obtain ⟨q1, p1⟩ := q1
  obtain ⟨q2, p2⟩ := q2
  have hf : ∀ t : Nat, t < 4 → g2 (61 + 2 * t) 2 = g1 (61 + 2 * t) 2 ∧ g2 (61 + 2 * t) 1 = g1 (61 + 2 * t) 1 ∧ g1 73 t = gi 73 t ∧ g1 72 t = gi 72 t := by
    intro t ht
    have ht4 : t = 0 ∨ t = 1 ∨ t = 2 ∨ t = 3 := by omega
    rcases ht4 with rfl | rfl | rfl | rfl
    · exact ⟨(f2 61 2 (by decide) rfl).1, (f2 61 1 (by decide) rfl).1, (f1 73 0 (by decide) rfl).1, (f1 72 0 (by decide) rfl).1⟩
    · exact ⟨(f2 63 2 (by decide) rfl).1, (f2 63 1 (by decide) rfl).1, (f1 73 1 (by decide) rfl).1, (f1 72 1 (by decide) rfl).1⟩
    · exact ⟨(f2 65 2 (by decide) rfl).1, (f2 65 1 (by decide) rfl).1, (f1 73 2 (by decide) rfl).1, (f1 72 2 (by decide) rfl).1⟩
    · exact ⟨(f2 67 2 (by decide) rfl).1, (f2 67 1 (by decide) rfl).1, (f1 73 3 (by decide) rfl).1, (f1 72 3 (by decide) rfl).1⟩
  refine ⟨t_bit q1.1.1 q1.1.2 q2.1.1 q2.1.2 (q1.2.1.trans q2.2.1.symm), ?_, fun t ht j hj => ?_⟩
  · refine t_R_mix hR f1 f2 t_p8 (t_p8_ok (fun t ht => ?_)) (by decide +kernel) (t_nul hR f1 f2 (by decide +kernel))
    obtain ⟨h1, h2, h3, h4⟩ := hf t ht
    have e := t_R_t hR ht
    rw [h1, h2]
    by_cases hk : t_OK a2 a3 ∧ a1.toInt = (t : Int)
    · have p1 := (q1.2.2 t ht).1 hk.1 hk.2
      have p2 := (q2.2.2 t ht).1 hk.1 hk.2
      exact ⟨Int32.toInt_inj.mp (p1.1.trans p2.1.symm), Int32.toInt_inj.mp (p1.2.trans p2.2.symm)⟩
    · have p1 := (q1.2.2 t ht).2 hk
      have p2 := (q2.2.2 t ht).2 hk
      exact ⟨p1.1.trans (e.1.trans (h3.symm.trans p2.1.symm)), p1.2.trans (e.2.trans (h4.symm.trans p2.2.symm))⟩
  · obtain ⟨h1, h2, h3, h4⟩ := hf t ht
    have e1 : l2 (62 + 2 * t) j = l1 (62 + 2 * t) j := t_w7_ok (by decide +kernel) f2 ht j
    have e2 : ∀ m, l1 74 m = gl 74 m := fun m => (f1 74 m (by decide) rfl).2.1
    rw [h1] at hj
    show l2 (62 + 2 * t) j = l2 74 (60 * t + j)
    by_cases hk : t_OK a2 a3 ∧ a1.toInt = (t : Int)
    · have m1 := ((q1.2.2 t ht).1 hk.1 hk.2).1
      have m1 : (g1 (61 + 2 * t) 2).toInt = a3.toInt := m1
      have z1 : l1 (62 + 2 * t) j = 0 := (p1 t ht).1 hk.1 hk.2 j (by omega)
      have z2 : l2 74 (60 * t + j) = 0 := (p2 t ht).1 hk.1 hk.2 j (by omega)
      rw [e1, z1, z2]
    · have m1 := ((q1.2.2 t ht).2 hk).1
      have m1 : g1 (61 + 2 * t) 2 = gi (61 + 2 * t) 2 := m1
      rw [m1] at hj
      have h60 := t_m60 hI ht
      have z1 : l1 (62 + 2 * t) j = gl (62 + 2 * t) j := (p1 t ht).2 hk j (by omega)
      have z2 : l2 74 (60 * t + j) = l1 74 (60 * t + j) := (p2 t ht).2 hk j (by omega)
      rw [e1, z1, z2, e2]
      exact h7 t ht j hj
theorem t_L_m73 (hR : t_R gi gr) (f1 : t_F w1 gi gl gr g1 l1 r1) (hw : (w1.all (fun q => !(q.1 == 73)) && w1.all (fun q => !(q.1 == 72))) = true) {i : Int32} (h0 : 0 ≤ i.toInt) (h3 : i.toInt ≤ 3) : gi (61 + 2 * i.toNatClampNeg) 2 = g1 73 i.toNatClampNeg ∧ gi (61 + 2 * i.toNatClampNeg) 1 = g1 72 i.toNatClampNeg := by
  rw [Bool.and_eq_true] at hw
  have hc := t_clamp h0
  have e := t_R_t hR (t := i.toNatClampNeg) (by omega)
  exact ⟨e.1.trans (f1 73 _ (by decide) (t_inK hw.1 _)).1.symm, e.2.trans (f1 72 _ (by decide) (t_inK hw.2 _)).1.symm⟩
theorem t_L_write {a3 : Int64} (hR : t_R gi gr) (h7 : t_R7 gi gl) (hI : t_I sh gi gr) (f1 : t_F wl_h_write2 gi gl gr g1 l1 r1) (f2 : t_F wl_m_write2 g1 l1 r1 g2 l2 r2) (b1 : 0 ≤ x1.toInt) (c1 : x1.toInt ≤ 1) (b2 : 0 ≤ x2.toInt) (c2 : x2.toInt ≤ 1) (q1 : t_QW t_rdH a1 a2 a3 (gi (61 + 2 * a1.toNatClampNeg) 2).toInt (gi (61 + 2 * a1.toNatClampNeg) 1).toInt gl x1 l1) (q2 : t_QW t_rdM a1 a2 a3 (g1 73 a1.toNatClampNeg).toInt (g1 72 a1.toNatClampNeg).toInt l1 x2 l2) : x1 = x2 ∧ t_R g2 r2 ∧ t_R7 g2 l2 := by
  have hcl : ∀ t : Nat, a1.toInt = (t : Int) → a1.toNatClampNeg = t := fun t h => by show a1.toInt.toNat = t; omega
  refine ⟨t_bit b1 c1 b2 c2 ?_, t_R_mix hR f1 f2 [] (fun q hq => by cases hq) (by decide +kernel) (t_nul hR f1 f2 (by decide +kernel)), fun t ht j hj => ?_⟩
  · rw [q1.1, q2.1]
    by_cases h : 0 ≤ a1.toInt ∧ a1.toInt ≤ 3
    · rw [(t_L_m73 hR f1 (by decide +kernel) h.1 h.2).1]
    · constructor <;> intro h1 <;> exact absurd ⟨h1.1, h1.2.1⟩ h
  · rw [t_w2_ok (by decide +kernel) f2 ht, t_w2_ok (by decide +kernel) f1 ht] at hj
    have h60 := t_m60 hI ht
    have e1 : t_rdH l2 t j = t_rdH l1 t j := t_w7_ok (by decide +kernel) f2 ht j
    have e2 : t_rdM l1 t j = t_rdM gl t j := (f1 74 _ (by decide) rfl).2.1
    rw [e1, q1.2 t ht j (by omega), q2.2 t ht j (by omega), e2]
    by_cases ha : a1.toInt = (t : Int)
    · have e := t_L_m73 hR f1 (by decide +kernel) (i := a1) (by omega) (by omega)
      rw [e.1, e.2, h7 t ht j hj]
    · rw [if_neg (fun h => ha h.1), if_neg (fun h => ha h.1)]
      exact h7 t ht j hj
theorem t_L_pour (hR : t_R gi gr) (h7 : t_R7 gi gl) (hI : t_I sh gi gr) (f1 : t_F wl_h_pour2 gi gl gr g1 l1 r1) (f2 : t_F wl_m_pour2 g1 l1 r1 g2 l2 r2) (b1 : 0 ≤ x1.toInt) (c1 : x1.toInt ≤ 1) (b2 : 0 ≤ x2.toInt) (c2 : x2.toInt ≤ 1) (q1 : t_QPL t_rdH a1 a2 a3 a4 a5 (gi (61 + 2 * a1.toNatClampNeg) 2).toInt (gi (61 + 2 * a3.toNatClampNeg) 2).toInt (gi (61 + 2 * a1.toNatClampNeg) 1).toInt (gi (61 + 2 * a3.toNatClampNeg) 1).toInt gl x1 l1) (q2 : t_QPL t_rdM a1 a2 a3 a4 a5 (g1 73 a1.toNatClampNeg).toInt (g1 73 a3.toNatClampNeg).toInt (g1 72 a1.toNatClampNeg).toInt (g1 72 a3.toNatClampNeg).toInt l1 x2 l2) : x1 = x2 ∧ t_R g2 r2 ∧ t_R7 g2 l2 := by
  have heq : t_QP a1 a2 a3 a4 a5 (gi (61 + 2 * a1.toNatClampNeg) 2).toInt (gi (61 + 2 * a3.toNatClampNeg) 2).toInt (gi (61 + 2 * a1.toNatClampNeg) 1).toInt (gi (61 + 2 * a3.toNatClampNeg) 1).toInt ↔ t_QP a1 a2 a3 a4 a5 (g1 73 a1.toNatClampNeg).toInt (g1 73 a3.toNatClampNeg).toInt (g1 72 a1.toNatClampNeg).toInt (g1 72 a3.toNatClampNeg).toInt := by
    by_cases h : (0 ≤ a1.toInt ∧ a1.toInt ≤ 3) ∧ 0 ≤ a3.toInt ∧ a3.toInt ≤ 3
    · have e1 := t_L_m73 hR f1 (by decide +kernel) h.1.1 h.1.2
      have e3 := t_L_m73 hR f1 (by decide +kernel) h.2.1 h.2.2
      rw [e1.1, e1.2, e3.1, e3.2]
    · constructor <;> intro h1 <;> exact absurd ⟨h1.1, h1.2.1⟩ h
  refine ⟨t_bit b1 c1 b2 c2 (q1.1.trans (heq.trans q2.1.symm)), t_R_mix hR f1 f2 [] (fun q hq => by cases hq) (by decide +kernel) (t_nul hR f1 f2 (by decide +kernel)), fun t ht j hj => ?_⟩
  rw [t_w2_ok (by decide +kernel) f2 ht, t_w2_ok (by decide +kernel) f1 ht] at hj
  have h60 := t_m60 hI ht
  have e1 : t_rdH l2 t j = t_rdH l1 t j := t_w7_ok (by decide +kernel) f2 ht j
  have e2 : ∀ t j, t_rdM l1 t j = t_rdM gl t j := fun t j => (f1 74 _ (by decide) rfl).2.1
  rw [e1]
  have k1 := q1.2 t ht j (by omega)
  have k2 := q2.2 t ht j (by omega)
  by_cases hc : t_QP a1 a2 a3 a4 a5 (gi (61 + 2 * a1.toNatClampNeg) 2).toInt (gi (61 + 2 * a3.toNatClampNeg) 2).toInt (gi (61 + 2 * a1.toNatClampNeg) 1).toInt (gi (61 + 2 * a3.toNatClampNeg) 1).toInt ∧ a3.toInt = (t : Int) ∧ a4.toInt ≤ (j : Int) ∧ (j : Int) < a4.toInt + a5.toInt
  · rw [k1.1 hc, k2.1 ⟨heq.mp hc.1, hc.2⟩, e2]
    obtain ⟨⟨hr1, hr3, hh⟩, -, h8, h9⟩ := hc
    have hn1 := t_clamp hr1.1
    exact h7 _ (by omega) _ (by omega)
  · rw [k1.2 hc, k2.2 (fun h => hc ⟨heq.mpr h.1, h.2⟩), e2]
    exact h7 t ht j hj
theorem t_L_read {x1 x2 : Int64} (hR : t_R gi gr) (h7 : t_R7 gi gl) (f1 : t_F wl_h_read2 gi gl gr g1 l1 r1) (f2 : t_F wl_m_read2 g1 l1 r1 g2 l2 r2) (q1 : t_QR t_rdH a1 a2 (gi (61 + 2 * a1.toNatClampNeg) 2).toInt gl x1) (q2 : t_QR t_rdM a1 a2 (g1 73 a1.toNatClampNeg).toInt l1 x2) : x1 = x2 ∧ t_R g2 r2 ∧ t_R7 g2 l2 := by
  refine ⟨?_, t_R_mix hR f1 f2 [] (fun q hq => by cases hq) (by decide +kernel) (t_nul hR f1 f2 (by decide +kernel)), t_L_g7 h7 f1 f2 (by decide +kernel)⟩
  by_cases h : 0 ≤ a1.toInt ∧ a1.toInt ≤ 3
  · have e := (t_L_m73 hR f1 (by decide +kernel) h.1 h.2).1
    have hn1 := t_clamp h.1
    by_cases hh : 0 ≤ a2.toInt ∧ a2.toInt < (gi (61 + 2 * a1.toNatClampNeg) 2).toInt
    · have hn2 := t_clamp hh.1
      rw [q1.1 ⟨h.1, h.2, hh.1, hh.2⟩, q2.1 ⟨h.1, h.2, hh.1, by rw [← e]; exact hh.2⟩]
      have e2 : t_rdM l1 a1.toNatClampNeg a2.toNatClampNeg = t_rdM gl a1.toNatClampNeg a2.toNatClampNeg := (f1 74 _ (by decide) rfl).2.1
      rw [e2]
      exact h7 _ (by omega) _ (by omega)
    · rw [q1.2 (fun h9 => hh ⟨h9.2.2.1, h9.2.2.2⟩), q2.2 (fun h9 => hh ⟨h9.2.2.1, by rw [e]; exact h9.2.2.2⟩)]
  · rw [q1.2 (fun h9 => h ⟨h9.1, h9.2.1⟩), q2.2 (fun h9 => h ⟨h9.1, h9.2.1⟩)]
theorem t_L_ex1 {p q : Nat × Nat} (h : g2 p.1 p.2 = g2 q.1 q.2) : ∀ x, x ∈ [(p, q)] → g2 x.1.1 x.1.2 = g2 x.2.1 x.2.2 := fun x hx => by
  rw [List.mem_singleton] at hx; subst hx; exact h
theorem t_L_feed (hR : t_R gi gr) (f1 : t_F wl_h_feed2 gi gl gr g1 l1 r1) (f2 : t_F wl_m_feed g1 l1 r1 g2 l2 r2) (q1 : ((gi 0 5).toInt + 20 ≤ 900 → x1.toInt = (gi 0 5).toInt + 20 ∧ (g1 0 5).toInt = (gi 0 5).toInt + 20) ∧ (900 < (gi 0 5).toInt + 20 → x1.toInt = -1 ∧ (g1 0 5).toInt = (gi 0 5).toInt)) (q2 : ((g1 69 10).toInt + 20 ≤ 900 → x2.toInt = (g1 69 10).toInt + 20 ∧ (g2 69 10).toInt = (g1 69 10).toInt + 20) ∧ (900 < (g1 69 10).toInt + 20 → x2.toInt = -1 ∧ (g2 69 10).toInt = (g1 69 10).toInt)) : x1 = x2 ∧ t_R g2 r2 := by
  have e0 := congrArg Int32.toInt (t_R_fed hR)
  have e1 := congrArg Int32.toInt (f1 69 10 (by decide) rfl).1
  have e2 := congrArg Int32.toInt (f2 0 5 (by decide) rfl).1
  refine ⟨Int32.toInt_inj.mp (by omega), t_R_mix hR f1 f2 [((0, 5), (69, 10))] (t_L_ex1 (p := (0, 5)) (q := (69, 10)) (Int32.toInt_inj.mp (by show (g2 0 5).toInt = (g2 69 10).toInt; omega))) (by decide +kernel) (t_nul hR f1 f2 (by decide +kernel))⟩
theorem t_L_text (hR : t_R gi gr) (f1 : t_F w1 gi gl gr g1 l1 r1) (f2 : t_F w2 g1 l1 r1 g2 l2 r2) {C1 C2 : Prop} (h69 : t_in w1 69 10 = false) (h05 : t_in w2 0 5 = false) (hC : (g1 69 10).toInt = (gi 0 5).toInt → (C1 ↔ C2)) (q1 : (C1 → (g1 0 5).toInt = 0) ∧ (¬ C1 → g1 0 5 = gi 0 5)) (q2 : (C2 → (g2 69 10).toInt = 0) ∧ (¬ C2 → (g2 69 10).toInt = (g1 69 10).toInt)) (hw : (t_prs.all (fun q => [((0, 5), (69, 10))].any (fun x => decide (x = q)) || (t_un w1 q.1 && (t_un w1 q.2 && (t_un w2 q.1 && t_un w2 q.2))))) = true) (hn : (t_un w1 (0, 12) && (t_un w2 (0, 12) && (w1.all (fun q => !(q.1 == 19)) && w2.all (fun q => !(q.1 == 19))))) = true) : t_R g2 r2 := by
  have e0 := congrArg Int32.toInt (t_R_fed hR)
  have e1 := congrArg Int32.toInt (f1 69 10 (by decide) h69).1
  have e2 := congrArg Int32.toInt (f2 0 5 (by decide) h05).1
  have hc := hC (by omega)
  refine t_R_mix hR f1 f2 [((0, 5), (69, 10))] (t_L_ex1 (p := (0, 5)) (q := (69, 10)) (Int32.toInt_inj.mp ?_)) hw (t_nul hR f1 f2 hn)
  show (g2 0 5).toInt = (g2 69 10).toInt
  by_cases h : C1
  · have p1 := q1.1 h
    have p2 := q2.1 (hc.mp h)
    omega
  · have p1 := congrArg Int32.toInt (q1.2 h)
    have p2 := q2.2 (fun h2 => h (hc.mpr h2))
    omega
theorem t_L_mark {w1 w2 : List (Nat × Nat)} (hR : t_R gi gr) (f1 : t_F w1 gi gl gr g1 l1 r1) (f2 : t_F w2 g1 l1 r1 g2 l2 r2) (h75 : t_in w1 69 75 = false) (h12 : t_in w2 0 12 = false) (hx : (g1 69 75).toInt = (gi 0 12).toInt → x1.toInt = x2.toInt ∧ (g1 0 12).toInt = (g2 69 75).toInt) (hN : ∀ j : Nat, (j : Int) < (g1 0 12).toInt → r1 19 j ≠ .null) (hw : (t_prs.all (fun q => [((0, 12), (69, 75))].any (fun x => decide (x = q)) || (t_un w1 q.1 && (t_un w1 q.2 && (t_un w2 q.1 && t_un w2 q.2))))) = true) (hn : (t_un w2 (0, 12) && w2.all (fun q => !(q.1 == 19))) = true) : x1 = x2 ∧ t_R g2 r2 := by
  have e0 := congrArg Int32.toInt (t_R_mk hR)
  have e1 := congrArg Int32.toInt (f1 69 75 (by decide) h75).1
  have e2 := congrArg Int32.toInt (f2 0 12 (by decide) h12).1
  obtain ⟨h1, h2⟩ := hx (by omega)
  exact ⟨Int32.toInt_inj.mp h1, t_R_mix hR f1 f2 [((0, 12), (69, 75))] (t_L_ex1 (p := (0, 12)) (q := (69, 75)) (Int32.toInt_inj.mp (by show (g2 0 12).toInt = (g2 69 75).toInt; omega))) hw (t_nul2 hN f2 hn)⟩
theorem t_L_gen (hR : t_R gi gr) (f1 : t_F w1 gi gl gr g1 l1 r1) (f2 : t_F w2 g1 l1 r1 g2 l2 r2) (hw : (t_prs.all (fun q => [].any (fun x => decide (x = q)) || (t_un w1 q.1 && (t_un w1 q.2 && (t_un w2 q.1 && t_un w2 q.2))))) = true) (hn : (t_un w1 (0, 12) && (t_un w2 (0, 12) && (w1.all (fun q => !(q.1 == 19)) && w2.all (fun q => !(q.1 == 19))))) = true) : t_R g2 r2 := t_R_mix hR f1 f2 [] (fun q hq => by cases hq) hw (t_nul hR f1 f2 hn)
end TL9
theorem t_cmp0 (x : Int64) : lg_cmp x x = 0 := by
  have h1 : 0 ≤ lg_cmp x x := (lg_cmp_ge x x).mpr (Int64.le_refl x)
  have h2 : lg_cmp x x ≤ 0 := (lg_cmp_le x x).mpr (Int64.le_refl x)
  exact Int32.le_antisymm h2 h1
theorem W1_R7 {sh : List (Nat ⊕ (Nat × Nat))} {gi : Nat → Nat → Int32} {gl : Nat → Nat → Int64} {gr : Nat → Nat → Value} (hR : x_R W1 (sh, gi, gl, gr)) : t_R7 gi gl := by
  have hrd : ∀ {k j : Nat} {c : x_C}, x_gc W1 k = some c → j < 2 ^ x_dp c.1 → gi k j = x_cI c j := fun hc hj => ((x_gc_R hR hc).2.2.2 _ hj).1
  have h1 : (-1 : Int32).toInt = -1 := by decide
  intro t ht j hj
  exfalso
  have h4 : t = 0 ∨ t = 1 ∨ t = 2 ∨ t = 3 := by omega
  rcases h4 with rfl | rfl | rfl | rfl
  · have h : gi (61 + 2 * 0) 2 = -1 := hrd (c := w1_c61) rfl (by decide)
    rw [h] at hj; omega
  · have h : gi (61 + 2 * 1) 2 = -1 := hrd (c := w1_c63) rfl (by decide)
    rw [h] at hj; omega
  · have h : gi (61 + 2 * 2) 2 = -1 := hrd (c := w1_c65) rfl (by decide)
    rw [h] at hj; omega
  · have h : gi (61 + 2 * 3) 2 = -1 := hrd (c := w1_c67) rfl (by decide)
    rw [h] at hj; omega
noncomputable def t_LR (c : Nat) (sh : List (Nat ⊕ (Nat × Nat))) (gi : Nat → Nat → Int32) (gl : Nat → Nat → Int64) (gr : Nat → Nat → Value) : Prop := t_LW c sh gi gr ∧ t_R gi gr ∧ t_R7 gi gl
