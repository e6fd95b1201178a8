/-! ===== what a RIVER holds, on both sides, through the law's loop ===== -/
noncomputable def t_ME (o : Nat) (gi : Nat → Nat → Int32) (D : s_D) : Prop := (((gi 70 o).toInt = D 0 ∧ (gi 70 (o + 1)).toInt = D 1 ∧ (gi 70 (o + 2)).toInt = D 2) ∧ (gi 70 (o + 4)).toInt = D 4 ∧ (gi 70 (o + 5)).toInt = D 5 ∧ (gi 70 (o + 6)).toInt = D 6 ∧ (gi 70 (o + 7)).toInt = D 7) ∧ (∀ i : Nat, (i : Int) < D 0 → t_prt (fun t => gi 70 (o + 10 + 7 * i + t)) (D (10 + i))) ∧ (∀ j : Nat, 52 ≤ j → (j : Int) < 52 + 5 * D 1 → (gi 70 (o + j)).toInt = D j) ∧ ∀ j : Nat, 82 ≤ j → (j : Int) < 82 + 3 * D 2 → (gi 70 (o + j)).toInt = D j
noncomputable def t_CV (gi : Nat → Nat → Int32) (gl : Nat → Nat → Int64) (v : Nat) (D : s_D) : Prop := ((gi v 0).toInt = D 0 ∧ ∀ i : Nat, (i : Int) < D 0 → (gl (v + 1) i).toInt = D (10 + i) ∧ gl (v + 2) i = s_snd (gl (v + 1) i)) ∧ ((gi v 3).toInt = D 4 ∧ (gi v 4).toInt = D 5 ∧ (gi v 5).toInt = D 6 ∧ (gi v 6).toInt = D 7) ∧ ((gi (v + 3) 0).toInt = D 1 ∧ ∀ s : Nat, (s : Int) < D 1 → (gi (v + 9) s).toInt = D (52 + 5 * s) ∧ (gi (v + 3 + 2) s).toInt = D (53 + 5 * s) ∧ (gi (v + 3 + 3) s).toInt = D (54 + 5 * s) ∧ (gi (v + 3 + 4) s).toInt = D (55 + 5 * s) ∧ (gi (v + 3 + 5) s).toInt = D (56 + 5 * s)) ∧ (gi (v + 10) 0).toInt = D 2 ∧ ∀ c : Nat, (c : Int) < D 2 → (gi (v + 10 + 2) c).toInt = D (82 + 3 * c) ∧ (gi (v + 10 + 3) c).toInt = D (83 + 3 * c) ∧ (gi (v + 10 + 4) c).toInt = D (84 + 3 * c)
/-- the class's RIVER at v, of n cells, and the other side's slot at o hold the same -/
noncomputable def t_DS (n : Nat) (gi : Nat → Nat → Int32) (gl : Nat → Nat → Int64) (gr : Nat → Nat → Value) (v o : Nat) : Prop := ∃ D : s_D, t_Cb D ∧ ((v = 3 ∨ 102 ≤ v) ∧ v + 16 ≤ n) ∧ t_VL gr v ∧ t_CV gi gl v D ∧ t_ME o gi D
noncomputable def t_DR (n : Nat) (gi : Nat → Nat → Int32) (gl : Nat → Nat → Int64) (gr : Nat → Nat → Value) : Prop := (∃ v, gr 0 6 = .ref v ∧ t_DS n gi gl gr v 0) ∧ ∀ k : Nat, (k : Int) < (gi 0 12).toInt → ∃ v, gr 19 k = .ref v ∧ t_DS n gi gl gr v (350 * (k + 1))
noncomputable def t_ndB (wl : List (Nat × Nat)) : Bool := wl.all (fun q => Nat.blt q.1 102 && !(Nat.ble 3 q.1 && Nat.blt q.1 19))
section DREL
variable {sh sh2 : List (Nat ⊕ (Nat × Nat))} {gi g1 g2 : Nat → Nat → Int32} {gl l1 l2 : Nat → Nat → Int64} {gr r1 r2 : Nat → Nat → Value} {D : s_D} {w w1 w2 : List (Nat × Nat)} {n n' v o o' : Nat}
theorem t_MD.e (h : t_MD o gi D) : t_ME o gi D := ⟨h.1, h.2.1, h.2.2.1, h.2.2.2.1⟩
theorem t_ME.mv (h : t_ME o gi D) (hb : t_Cb D) (e : ∀ j, j < 100 → j ≠ 3 → j ≠ 8 → g1 70 (o' + j) = gi 70 (o + j)) : t_ME o' g1 D := by
  obtain ⟨⟨⟨a0, a1, a2⟩, a4, a5, a6, a7⟩, hp, hs, hc⟩ := h
  obtain ⟨⟨b1, b2⟩, ⟨b3, b4⟩, b5, b6⟩ := hb
  have e0 : g1 70 o' = gi 70 o := e 0 (by decide) (by decide) (by decide)
  refine ⟨⟨⟨by rw [e0]; exact a0, by rw [e 1 (by decide) (by decide) (by decide)]; exact a1, by rw [e 2 (by decide) (by decide) (by decide)]; exact a2⟩, by rw [e 4 (by decide) (by decide) (by decide)]; exact a4, by rw [e 5 (by decide) (by decide) (by decide)]; exact a5, by rw [e 6 (by decide) (by decide) (by decide)]; exact a6, by rw [e 7 (by decide) (by decide) (by decide)]; exact a7⟩, fun i hi => ?_, fun j hj hj2 => ?_, fun j hj hj2 => ?_⟩
  · refine t_prt_cg (hp i hi) (fun t ht => ?_)
    show g1 70 (o' + 10 + 7 * i + t) = gi 70 (o + 10 + 7 * i + t)
    have h1 := e (10 + 7 * i + t) (by omega) (by omega) (by omega)
    rw [show o' + 10 + 7 * i + t = o' + (10 + 7 * i + t) by omega, show o + 10 + 7 * i + t = o + (10 + 7 * i + t) by omega]
    exact h1
  · rw [e j (by omega) (by omega) (by omega)]; exact hs j hj hj2
  · rw [e j (by omega) (by omega) (by omega)]; exact hc j hj hj2
theorem t_CR.cv {r : Nat} {m : Int} {P : Int → Prop} (h : t_CR gi gl r D m P) : t_CV gi gl (r + 2) D := by
  obtain ⟨-, -, ⟨a0, a1⟩, ⟨b, -⟩, ⟨c0, c1⟩, d0, d1⟩ := h
  exact ⟨⟨a0, fun i hi => (a1 i hi).2⟩, b, ⟨c0, c1⟩, d0, d1⟩
theorem t_CV.fr (h : t_CV gi gl v D) (e : ∀ K, v ≤ K → K < v + 16 → g1 K = gi K ∧ l1 K = gl K ∧ r1 K = gr K) : t_CV g1 l1 v D := by
  unfold t_CV
  rw [(e v (by omega) (by omega)).1, (e (v + 1) (by omega) (by omega)).2.1, (e (v + 2) (by omega) (by omega)).2.1, (e (v + 3) (by omega) (by omega)).1, (e (v + 9) (by omega) (by omega)).1, (e (v + 3 + 2) (by omega) (by omega)).1, (e (v + 3 + 3) (by omega) (by omega)).1, (e (v + 3 + 4) (by omega) (by omega)).1, (e (v + 3 + 5) (by omega) (by omega)).1, (e (v + 10) (by omega) (by omega)).1, (e (v + 10 + 2) (by omega) (by omega)).1, (e (v + 10 + 3) (by omega) (by omega)).1, (e (v + 10 + 4) (by omega) (by omega)).1]
  exact h
theorem t_VL.fr (h : t_VL gr v) (e : ∀ K, v ≤ K → K < v + 16 → g1 K = gi K ∧ l1 K = gl K ∧ r1 K = gr K) : t_VL r1 v := by
  unfold t_VL
  rw [(e v (by omega) (by omega)).2.2, (e (v + 3) (by omega) (by omega)).2.2, (e (v + 10) (by omega) (by omega)).2.2]
  exact h
theorem t_DS.fr (h : t_DS n gi gl gr v o) (hn : n ≤ n') (e : ∀ K, (3 ≤ K ∧ K < 19) ∨ (102 ≤ K ∧ K < n) → g1 K = gi K ∧ l1 K = gl K ∧ r1 K = gr K) (em : ∀ j, j < 100 → j ≠ 3 → j ≠ 8 → g1 70 (o' + j) = gi 70 (o + j)) : t_DS n' g1 l1 r1 v o' := by
  obtain ⟨D, hb, ⟨hv, hv2⟩, hl, hc, hm⟩ := h
  have e2 : ∀ K, v ≤ K → K < v + 16 → g1 K = gi K ∧ l1 K = gl K ∧ r1 K = gr K := fun K k1 k2 => e K (by omega)
  exact ⟨D, hb, ⟨hv, by omega⟩, hl.fr e2, hc.fr e2, hm.mv hb em⟩
theorem t_nd_fr (hX : t_X w sh gi gl gr g1 l1 r1) (h : t_ndB w = true) : ∀ K, (3 ≤ K ∧ K < 19) ∨ 102 ≤ K → g1 K = gi K ∧ l1 K = gl K ∧ r1 K = gr K := by
  intro K hK
  have hcd : (3 ≤ t_cd sh K ∧ t_cd sh K < 19) ∨ 102 ≤ t_cd sh K := by
    unfold t_cd
    by_cases h1 : K < 102
    · rw [if_pos h1]; omega
    · rw [if_neg h1]
      right
      split
      · rename_i s _
        cases s with
        | inl c => show 102 ≤ 110 + c; omega
        | inr q => show 102 ≤ 130 + q.1; omega
      · exact Nat.le_refl _
  have hin : ∀ j, t_in w (t_cd sh K) j = false := by
    intro j
    unfold t_in
    rw [List.any_eq_false]
    intro q hq hh
    have h1 := List.all_eq_true.mp h q hq
    rw [Bool.and_eq_true, Bool.not_eq_true'] at h1
    have h2 : q.1 < 102 := Nat.blt_eq.mp h1.1
    have h3 : q.1 = t_cd sh K := by have := ((Bool.and_eq_true _ _).mp hh).1; exact eq_of_beq this
    have h4 : (Nat.ble 3 q.1 && Nat.blt q.1 19) = true := by
      rw [Bool.and_eq_true]
      exact ⟨Nat.ble_eq.mpr (by omega), Nat.blt_eq.mpr (by omega)⟩
    rw [h1.2] at h4
    cases h4
  exact ⟨funext fun j => (hX.1 K j (hin j)).1, funext fun j => (hX.1 K j (hin j)).2.1, funext fun j => (hX.1 K j (hin j)).2.2⟩
theorem t_F_nr (f : t_F w gi gl gr g1 l1 r1) {c : Nat} (h : t_nc w c = true) (hc : c < 102) : r1 c = gr c := funext fun j => (f c j hc (t_nc_in h)).2.2
/-- no RIVER is touched, nor which is there, nor the MARKS -/
theorem t_DR_gen (hD : t_DR n gi gl gr) (hn : n ≤ n') (e : ∀ K, (3 ≤ K ∧ K < 19) ∨ (102 ≤ K ∧ K < n) → g2 K = gi K ∧ l2 K = gl K ∧ r2 K = gr K) (e6 : r2 0 6 = gr 0 6) (e12 : g2 0 12 = gi 0 12) (e19 : r2 19 = gr 19) (em : ∀ j, j < 1400 → j % 350 ≠ 3 → j % 350 ≠ 8 → j % 350 < 100 → g2 70 j = gi 70 j) (hm : (gi 0 12).toInt ≤ 3) : t_DR n' g2 l2 r2 := by
  obtain ⟨⟨v, h1, h2⟩, h3⟩ := hD
  refine ⟨⟨v, by rw [e6]; exact h1, h2.fr hn e (fun j a b c => em (0 + j) (by omega) (by omega) (by omega) (by omega))⟩, fun k hk => ?_⟩
  rw [e12] at hk
  obtain ⟨u, h4, h5⟩ := h3 k hk
  exact ⟨u, by rw [e19]; exact h4, h5.fr hn e (fun j a b c => em (350 * (k + 1) + j) (by omega) (by omega) (by omega) (by omega))⟩
noncomputable def t_dsB (w1 w2 : List (Nat × Nat)) : Bool := t_ndB w1 && (t_ndB w2 && (t_un w1 (0, 6) && (t_un w2 (0, 6) && (t_un w1 (0, 12) && (t_un w2 (0, 12) && (t_nc w1 19 && (t_nc w2 19 && t_nc w1 70)))))))
theorem t_DR_same (hD : t_DR sh.length gi gl gr) (x1 : t_X w1 sh gi gl gr g1 l1 r1) (x2 : t_X w2 sh g1 l1 r1 g2 l2 r2) (hw : t_dsB w1 w2 = true) (em : ∀ j, j < 1400 → g2 70 j = g1 70 j) (hm : (gi 0 12).toInt ≤ 3) : t_DR sh.length g2 l2 r2 := by
  unfold t_dsB at hw
  simp only [Bool.and_eq_true] at hw
  obtain ⟨a1, a2, a3, a4, a5, a6, a7, a8, a9⟩ := hw
  have f1 := t_F_X x1
  have f2 := t_F_X x2
  refine t_DR_gen hD (Nat.le_refl _) (fun K hK => ?_) ?_ ?_ ?_ (fun j hj _ _ _ => ?_) hm
  · have k1 := t_nd_fr x1 a1 K (by omega)
    have k2 := t_nd_fr x2 a2 K (by omega)
    exact ⟨k2.1.trans k1.1, k2.2.1.trans k1.2.1, k2.2.2.trans k1.2.2⟩
  · rw [(f2 0 6 (by decide) (t_un_ok a4)).2.2, (f1 0 6 (by decide) (t_un_ok a3)).2.2]
  · rw [(f2 0 12 (by decide) (t_un_ok a6)).1, (f1 0 12 (by decide) (t_un_ok a5)).1]
  · rw [t_F_nr f2 a8 (by decide), t_F_nr f1 a7 (by decide)]
  · rw [em j hj, t_F_nc f1 a9 (by decide)]
end DREL
