/-! ===== a day of the other side: its numbers, who is left ===== -/
section MPX
variable {D : s_D} {sd q : Int} {g g1 : Nat → Nat → Int32} {P : Nat → Nat → Int} {Z Y : Nat → Int} {A X : Nat → Int} {f : Nat → Int32} {n k : Nat}
/-- the order leaves nobody twice -/
theorem s_or_1 (A : Nat → Int) : ∀ i j k : Nat, j < i → k < i → s_or A i j = s_or A i k → j = k
  | 0, j, _, h, _, _ => absurd h (Nat.not_lt_zero j)
  | i + 1, j, k, hj, hk, e => by
    have e2 : s_ins (s_or A i) i (s_pk (fun j => A (s_or A i j)) (A i) i) j = s_ins (s_or A i) i (s_pk (fun j => A (s_or A i j)) (A i) i) k := e
    have hp := s_pk_le (fun j => A (s_or A i j)) (A i) i
    generalize s_pk (fun j => A (s_or A i j)) (A i) i = p at e2 hp
    have ih := s_or_1 A i
    have lt := s_or_lt A i
    unfold s_ins at e2
    by_cases h1 : j < p
    · rw [if_pos h1] at e2
      by_cases h2 : k < p
      · rw [if_pos h2] at e2; exact ih j k (by omega) (by omega) e2
      · rw [if_neg h2] at e2
        by_cases h3 : k = p
        · rw [if_pos h3] at e2; have := lt j (by omega); omega
        · rw [if_neg h3] at e2; have := ih j (k - 1) (by omega) (by omega) e2; omega
    · rw [if_neg h1] at e2
      by_cases h4 : j = p
      · rw [if_pos h4] at e2
        by_cases h2 : k < p
        · rw [if_pos h2] at e2; have := lt k (by omega); omega
        · rw [if_neg h2] at e2
          by_cases h3 : k = p
          · omega
          · rw [if_neg h3] at e2; have := lt (k - 1) (by omega); omega
      · rw [if_neg h4] at e2
        by_cases h2 : k < p
        · rw [if_pos h2] at e2; have := ih (j - 1) k (by omega) (by omega) e2; omega
        · rw [if_neg h2] at e2
          by_cases h3 : k = p
          · rw [if_pos h3] at e2; have := lt (j - 1) (by omega); omega
          · rw [if_neg h3] at e2; have := ih (j - 1) (k - 1) (by omega) (by omega) e2; omega
theorem s_RO_F (B : Nat → Bool) (hB : s_fn B n = n ∧ s_ff A B n = s_or A n) (h : s_RF (s_ff A B n) (fun k => (k : Int)) f (s_fn B n)) : s_RO A f n := by
  rw [hB.1, hB.2] at h
  exact h
theorem t_IJ_Y (hR : s_RO A (g 90) n) : t_IJ n g := fun i j hi hj e => s_or_1 A n i j hi hj (by
  have e1 : t_si g i = s_or A n i := by unfold t_si; rw [hR i hi]; rfl
  have e2 : t_si g j = s_or A n j := by unfold t_si; rw [hR j hj]; rfl
  rw [← e1, ← e2]; exact e)
/-- the other side's numbers are these -/
theorem s_TP_Y (hb : t_Cb D) (hD : s_DB D) (hq : q = D 4) (hm : t_ME 0 g D) (h44 : (g 69 44).toInt = D 1) (h45 : (g 69 45).toInt = D 2) (hR : s_RO (s_Ay D sd) (g 90) (D 1).toNat) (hS : s_RO (s_By D sd) (g 91) (D 2).toNat) (hA : ∀ j : Nat, (j : Int) < D 1 → (g 89 j).toInt = s_Ay D sd j) (hB : ∀ j : Nat, (j : Int) < D 2 → (g 89 (6 + j)).toInt = s_By D sd j) : s_TP g q (s_PY D sd) := by
  have b1 := hb.2.1
  have b2 := hb.2.2
  have k70 : ∀ j : Nat, 52 ≤ j → (j : Int) < 52 + 5 * D 1 → (g 70 j).toInt = D j := fun j h1 h2 => by have h := hm.2.2.1 j h1 h2; rw [Nat.zero_add] at h; exact h
  have c70 : ∀ j : Nat, 82 ≤ j → (j : Int) < 82 + 3 * D 2 → (g 70 j).toInt = D j := fun j h1 h2 => by have h := hm.2.2.2 j h1 h2; rw [Nat.zero_add] at h; exact h
  have eS : t_S g = (D 1).toNat := by unfold t_S; rw [h44]
  have eC : t_C g = (D 2).toNat := by unfold t_C; rw [h45]
  refine ⟨⟨?_, ?_⟩, fun s hs => ?_, fun c hc => ?_, fun m => ?_⟩
  · rw [eS]; rfl
  · rw [eC]; rfl
  · rw [eS] at hs
    have hl : ((s_or (s_Ay D sd) (D 1).toNat s : Nat) : Int) < D 1 := by have := s_or_lt (s_Ay D sd) _ _ hs; omega
    have e : t_si g s = s_or (s_Ay D sd) (D 1).toNat s := by unfold t_si; rw [hR s hs]; rfl
    have hd := hD.1 _ hl
    refine ⟨?_, ?_, ?_, ?_⟩
    · show s_Ay D sd _ = t_sa g s
      unfold t_sa; rw [e, hA _ hl]
    · show D _ = ((t_st g s : Nat) : Int)
      unfold t_st; rw [e, k70 _ (by omega) (by omega)]; omega
    · show D _ = t_so g s
      unfold t_so; rw [e, k70 _ (by omega) (by omega)]
    · show D _ = t_ss g s
      unfold t_ss; rw [e, k70 _ (by omega) (by omega)]
  · rw [eC] at hc
    have hl : ((s_or (s_By D sd) (D 2).toNat c : Nat) : Int) < D 2 := by have := s_or_lt (s_By D sd) _ _ hc; omega
    have e : t_ci g c = s_or (s_By D sd) (D 2).toNat c := by unfold t_ci; rw [hS c hc]; rfl
    have hd := hD.2.1 _ hl
    refine ⟨?_, ?_, ?_⟩
    · show s_By D sd _ = t_ca g c
      unfold t_ca; rw [e, hB _ hl]
    · show D _ = ((t_ct g c : Nat) : Int)
      unfold t_ct; rw [e, c70 _ (by omega) (by omega)]; omega
    · show D _ = t_cc g c
      unfold t_cc; rw [e, c70 _ (by omega) (by omega)]
  · have h5 : (g 70 5).toInt = D 5 := hm.1.2.2.1
    have h6 : (g 70 6).toInt = D 6 := hm.1.2.2.2.1
    have hd := hD.2.2.2
    show D 4 + (if (m : Int) < D 6 then 0 else D 5) = ((t_tt g q m : Nat) : Int)
    have hd4 := hD.2.2.1
    unfold t_tt
    rw [h5, h6, hq]
    by_cases h1 : (m : Int) < D 6
    · rw [if_pos h1, if_neg (by omega)]; omega
    · rw [if_neg h1]
      by_cases h2 : 0 < D 5
      · rw [if_pos ⟨h2, by omega⟩]; omega
      · rw [if_neg (by omega)]; omega
/-- who is left, one further -/
theorem t_YS.lS (h : t_YS n Z g) (hk : (g 69 64).toInt ≤ (k : Int)) (hn : k < n) : s_lS Z k = if (g 99 (t_si g k)).toInt = 0 then 1 else 0 := by
  obtain ⟨a, b, c, d⟩ := h.2 k hn
  have hc := c hk
  unfold s_lS
  by_cases hz : Z (10 + k) = 0
  · rw [if_pos hz, if_pos (by rw [a, if_neg (by omega)])]
  · have h2 : Z (10 + k) = 2 := by omega
    rw [if_neg hz, if_neg (by rw [a, if_pos h2]; decide)]
theorem t_YS.l0 (h : t_YS n Z g) (hk : (k : Int) ≤ (g 69 64).toInt) : s_cu (s_lS Z) k = 0 :=
  s_cu_0 k (fun j hj => if_neg ((h.2 j (by have := h.1; omega)).2.1 (by omega)))
/-- as a day begins -/
theorem t_YS_0 (h64 : (g 69 64).toInt = 0) (hsi : ∀ k, k < n → t_si g k < 6) (h99 : ∀ j, j < 6 → (g 99 j).toInt = 0) : t_YS n (fun _ => (0 : Int)) g := by
  refine ⟨by omega, fun k hk => ⟨?_, fun hh => by omega, fun _ => by show ¬ (0 : Int) = 1; decide, Or.inl rfl⟩⟩
  show (g 99 (t_si g k)).toInt = if (0 : Int) = 2 then 1 else 0
  rw [h99 _ (hsi k hk), if_neg (by decide)]
theorem t_YB_0 (h60 : (g 69 60).toInt = 0) (h61 : (g 69 61).toInt = -1) (h62 : (g 69 62).toInt = -1) (h63 : (g 69 63).toInt = 0) (h65 : (g 69 65).toInt = 0) (h66 : (g 69 66).toInt = 0) (h67 : (g 69 67).toInt = 0) : t_MB 0 (fun _ => (0 : Int)) g :=
  ⟨⟨h60, h63, h65⟩, ⟨t_oi_of h66, t_oi_of h67⟩, ⟨Int.le_refl 0, by show (0 : Int) ≤ 3; decide⟩, fun hh => absurd hh (by show ¬ (0 : Int) = 3; decide), fun _ => h61, fun hh => by rcases hh with hh | hh <;> exact absurd hh (by show ¬ (0 : Int) = _; decide), fun _ => by omega⟩
theorem s_okz_0 (h : 0 ≤ P 0 1) : s_okz P (fun _ => (0 : Int)) := ⟨Or.inl rfl, Int.le_refl 0, h, Int.le_refl 0, Int.le_refl 0, by show (0 : Int) ≤ 301; decide⟩
/-- what a day leaves behind, as far as it is told -/
noncomputable def t_YR (P : Nat → Nat → Int) (A : (Nat → Int) → Int) (g : Nat → Nat → Int32) : Prop := ∃ Z, t_YS (P 0 0).toNat Z g ∧ (g 69 66 = Int32.ofInt (Z 5) ∧ g 69 67 = Int32.ofInt (Z 6)) ∧ (g 69 65).toInt = Z 4 ∧ s_okz P Z ∧ Z 5 = s_dy P A 301 0 (fun _ => 0) 5 ∧ Z 6 = s_dy P A 301 0 (fun _ => 0) 6 ∧ s_lf P Z = s_lf P (s_dy P A 301 0 (fun _ => 0))
/-- as a minute begins: what comes to the same day -/
noncomputable def t_YD (P : Nat → Nat → Int) (A : (Nat → Int) → Int) (m : Int) (g : Nat → Nat → Int32) : Prop := ∃ Z, t_YS (P 0 0).toNat Z g ∧ t_MB m Z g ∧ s_okz P Z ∧ s_dy P A (301 - m).toNat m Z = s_dy P A 301 0 (fun _ => 0)
variable {R : List (List Int × Int)} {m : Int} {B : (Nat → Int) → Int}
theorem t_YR.fr (h : t_YR P B g) (e64 : g1 69 64 = g 69 64) (e65 : g1 69 65 = g 69 65) (e66 : g1 69 66 = g 69 66) (e67 : g1 69 67 = g 69 67) (e90 : g1 90 = g 90) (e99 : g1 99 = g 99) : t_YR P B g1 := by
  obtain ⟨Z, h1, h2, h3, h4⟩ := h
  exact ⟨Z, h1.fr e64 e90 e99, by rw [e66, e67]; exact h2, by rw [e65]; exact h3, h4⟩
theorem t_YD.fr (h : t_YD P B m g) (e : ∀ j, 60 ≤ j → j ≤ 67 → g1 69 j = g 69 j) (e90 : g1 90 = g 90) (e99 : g1 99 = g 99) : t_YD P B m g1 := by
  obtain ⟨Z, h1, h2, h3⟩ := h
  refine ⟨Z, h1.fr (e 64 (by decide) (by decide)) e90 e99, ?_, h3⟩
  unfold t_MB
  rw [e 60 (by decide) (by decide), e 61 (by decide) (by decide), e 62 (by decide) (by decide), e 63 (by decide) (by decide), e 65 (by decide) (by decide), e 66 (by decide) (by decide), e 67 (by decide) (by decide)]
  exact h2
/-- a day that wasn't over by minute 301 -/
theorem t_YD.out (h : t_YD P B m g) (hm : 301 ≤ m) : t_YR P B g := by
  obtain ⟨Z, h1, h2, h3, h4⟩ := h
  rw [show (301 - m).toNat = 0 by omega] at h4
  refine ⟨Z, h1, h2.2.1, h2.1.2.2, h3, ?_, ?_, ?_⟩
  · rw [← h4]; exact (s_z_ne (by decide)).symm
  · rw [← h4]; exact (s_z_ne (by decide)).symm
  · rw [← h4]; exact s_lf_cg (s_z_ne (by decide)).symm (fun k => (s_z_ne (by omega)).symm)
/-- a minute further: over, or on -/
theorem t_YD.step (hZ : t_YS (P 0 0).toNat Z g ∧ t_MB m Z g ∧ s_okz P Z ∧ s_dy P B (301 - m).toNat m Z = s_dy P B 301 0 (fun _ => 0)) (hm : 0 ≤ m ∧ m < 301) (hP : s_PO P) (q1 : s_done P (s_en m Z) → (g1 69 69).toInt = m ∧ t_YS (P 0 0).toNat (s_en m Z) g1 ∧ t_MZ m (s_en m Z) g1) (q2 : ¬ s_done P (s_en m Z) → g1 69 69 = g 69 69 ∧ t_YS (P 0 0).toNat (s_mn P B m Z) g1 ∧ t_MB (m + 1) (s_mn P B m Z) g1) (h69 : (g 69 69).toInt = -1) : ((g1 69 69).toInt = -1 → t_YD P B (m + 1) g1) ∧ ((g1 69 69).toInt ≠ -1 → t_YR P B g1) := by
  obtain ⟨h1, h2, h3, h4⟩ := hZ
  rw [show (301 - m).toNat = (301 - (m + 1)).toNat + 1 by omega] at h4
  by_cases hd : s_done P (s_en m Z)
  · obtain ⟨e1, e2, e3⟩ := q1 hd
    rw [s_dy_e hd] at h4
    refine ⟨fun hh => by omega, fun _ => ⟨_, e2, e3.2.1, e3.1.2.2, s_en_ok h3 (by omega), ?_, ?_, ?_⟩⟩
    · rw [← h4]; exact (s_z_ne (by decide)).symm
    · rw [← h4]; exact (s_z_ne (by decide)).symm
    · rw [← h4]; exact s_lf_cg (s_z_ne (by decide)).symm (fun k => (s_z_ne (by omega)).symm)
  · obtain ⟨e1, e2, e3⟩ := q2 hd
    rw [s_dy_s hd] at h4
    exact ⟨fun _ => ⟨_, e2, e3, s_mn_ok h3 (by omega) hP, h4⟩, fun hh => absurd (by rw [e1]; exact h69) hh⟩
end MPX
