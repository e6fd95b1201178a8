/-! ===== RIVERS: the start; RULES' places ===== -/
noncomputable def t_nGB (wl : List (Nat × Nat)) (k lo hi : Nat) : Bool := wl.all (fun q => !(q.1 == k) || (!(q.2 == 9999) && (if q.2 < 10000 then decide (q.2 < lo) || decide (hi ≤ q.2) else decide ((q.2 - 10000) % 100000 < lo) || decide (hi ≤ (q.2 - 10000) / 100000))))
theorem t_nD {wl : List (Nat × Nat)} (h : (t_nGB wl 70 0 3 && (t_nGB wl 70 4 8 && (t_nGB wl 70 9 100 && t_nGB wl 70 350 1400))) = true) {j : Nat} (a : j < 1400) (b : j % 350 ≠ 3) (c : j % 350 ≠ 8) (d : j % 350 < 100) : t_in wl 70 j = false := by
  simp only [Bool.and_eq_true] at h
  obtain ⟨h1, h2, h3, h4⟩ := h
  by_cases q : 350 ≤ j
  · exact t_nG h4 q a
  · have e : j % 350 = j := Nat.mod_eq_of_lt (by omega)
    rw [e] at b c d
    by_cases q1 : j < 3
    · exact t_nG h1 (Nat.zero_le _) q1
    · by_cases q2 : j < 8
      · exact t_nG h2 (by omega) q2
      · exact t_nG h3 (by omega) d
theorem W1_DR {sh : List (Nat ⊕ (Nat × Nat))} {gi : Nat → Nat → Int32} {gl : Nat → Nat → Int64} {gr : Nat → Nat → Value} (hR : x_R W1 (sh, gi, gl, gr)) : t_DR sh.length gi gl gr := by
  have hw := W1_WF hR
  have hrd : ∀ {k j : Nat} {c : x_C}, x_gc W1 k = some c → j < 2 ^ x_dp c.1 → gi k j = x_cI c j := fun hc hj => ((x_gc_R hR hc).2.2.2 _ hj).1
  have hl : 102 ≤ sh.length := t_102 hw
  have z3 : ∀ {j : Nat} {x : Int32}, j < 2 ^ x_dp w1_c3.1 → x_cI w1_c3 j = x → gi 3 j = x := fun hj e => (hrd (c := w1_c3) rfl hj).trans e
  have z70 : ∀ {j : Nat} {x : Int32}, j < 2 ^ x_dp w1_c70.1 → x_cI w1_c70 j = x → gi 70 j = x := fun hj e => (hrd (c := w1_c70) rfl hj).trans e
  refine ⟨⟨3, ((x_gc_R hR (c := w1_c0) rfl).2.2.2 6 (by decide)).2.2.trans rfl, s_D0, ⟨⟨by decide, by decide⟩, ⟨by decide, by decide⟩, by decide, by decide⟩, ⟨Or.inl rfl, by omega⟩, ⟨⟨hw.r rfl, hw.r rfl, hw.r rfl, hw.r rfl, hw.r rfl⟩, ⟨hw.r rfl, hw.r rfl, hw.r rfl, hw.r rfl, hw.r rfl⟩, hw.r rfl, hw.r rfl, hw.r rfl, hw.r rfl, hw.r rfl⟩, ?_, ?_⟩, fun k hk => ?_⟩
  · have a0 : gi 3 0 = 0 := z3 (by decide) rfl
    have a3 : gi 3 3 = 5 := z3 (by decide) rfl
    have a4 : gi 3 4 = 0 := z3 (by decide) rfl
    have a5 : gi 3 5 = 0 := z3 (by decide) rfl
    have a6 : gi 3 6 = 0 := z3 (by decide) rfl
    have b0 : gi 6 0 = 0 := (hrd (c := w1_c6) rfl (by decide)).trans rfl
    have c0 : gi 13 0 = 0 := (hrd (c := w1_c13) rfl (by decide)).trans rfl
    refine ⟨⟨by rw [a0]; rfl, fun i hi => absurd (show (i : Int) < 0 from hi) (by omega)⟩, ⟨by rw [a3]; rfl, by rw [a4]; rfl, by rw [a5]; rfl, by rw [a6]; rfl⟩, ⟨?_, fun i hi => absurd (show (i : Int) < 0 from hi) (by omega)⟩, ?_, fun i hi => absurd (show (i : Int) < 0 from hi) (by omega)⟩
    · show (gi 6 0).toInt = 0; rw [b0]; rfl
    · show (gi 13 0).toInt = 0; rw [c0]; rfl
  · have a0 : gi 70 0 = 0 := z70 (by decide) rfl
    have a1 : gi 70 1 = 0 := z70 (by decide) rfl
    have a2 : gi 70 2 = 0 := z70 (by decide) rfl
    have a4 : gi 70 4 = 5 := z70 (by decide) rfl
    have a5 : gi 70 5 = 0 := z70 (by decide) rfl
    have a6 : gi 70 6 = 0 := z70 (by decide) rfl
    have a7 : gi 70 7 = 0 := z70 (by decide) rfl
    refine ⟨⟨⟨by rw [a0]; rfl, ?_, ?_⟩, ?_, ?_, ?_, ?_⟩, fun i hi => absurd (show (i : Int) < 0 from hi) (by omega), fun j hj hj2 => ?_, fun j hj hj2 => ?_⟩
    · show (gi 70 1).toInt = 0; rw [a1]; rfl
    · show (gi 70 2).toInt = 0; rw [a2]; rfl
    · show (gi 70 4).toInt = 5; rw [a4]; rfl
    · show (gi 70 5).toInt = 0; rw [a5]; rfl
    · show (gi 70 6).toInt = 0; rw [a6]; rfl
    · show (gi 70 7).toInt = 0; rw [a7]; rfl
    · have h : (j : Int) < 52 + 5 * 0 := hj2
      omega
    · have h : (j : Int) < 82 + 3 * 0 := hj2
      omega
  · have h12 : gi 0 12 = 0 := hrd (c := w1_c0) rfl (by decide)
    have h0 : (0 : Int32).toInt = 0 := rfl
    rw [h12] at hk; omega
noncomputable def t_LD (c : Nat) (sh : List (Nat ⊕ (Nat × Nat))) (gi : Nat → Nat → Int32) (gl : Nat → Nat → Int64) (gr : Nat → Nat → Value) : Prop := t_LT c sh gi gl gr ∧ t_DR sh.length gi gl gr
