/-! ===== the words that are no NAMES, as the other side finds them ===== -/
noncomputable def s_ksl : List Nat := [1, 6, 12, 18, 23, 28, 33, 39, 44, 47, 50, 56, 62, 67, 70, 73, 78, 83, 88, 91, 95, 99, 107, 113, 119, 124, 131, 138]
noncomputable def s_kel : List Nat := [5, 11, 17, 22, 27, 32, 38, 43, 46, 49, 55, 61, 66, 69, 72, 77, 82, 87, 90, 94, 98, 106, 112, 118, 123, 130, 137]
noncomputable def s_pml : List Nat := [0, 2, 3, 5, 6, 12, 1, 4, 7, 8, 9, 10, 11, 13, 14, 15, 16, 17, 18, 19, 20, 21, 22, 23, 24, 25, 26]
noncomputable def s_mil : List Int := [0, 6, 1, 2, 7, 3, 4, 8, 9, 10, 11, 12, 5, 13, 14, 15, 16, 17, 18, 19, 20, 21, 22, 23, 24, 25, 26]
noncomputable def s_ks (j : Nat) : Nat := s_ksl.getD j 138
noncomputable def s_ke (j : Nat) : Nat := s_kel.getD j 137
noncomputable def s_mi : Option Nat → Int
  | none => -1
  | some i => s_mil.getD i 0
theorem s_kt_all : ((List.range 27).all (fun j => decide (1 ≤ s_ks j ∧ s_ks j < s_ke j ∧ s_ke j ≤ 137 ∧ s_ke j - s_ks j ≤ 7 ∧ s_ks (j + 1) = s_ke j + 1 ∧ (x_kc (s_ke j)).toInt = 32) && (List.range (s_ke j - s_ks j)).all (fun t => decide (97 ≤ (x_kc (s_ks j + t)).toInt ∧ (x_kc (s_ks j + t)).toInt ≤ 122)))) = true := by decide +kernel
theorem s_kt {j : Nat} (hj : j < 27) : (1 ≤ s_ks j ∧ s_ks j < s_ke j ∧ s_ke j ≤ 137 ∧ s_ke j - s_ks j ≤ 7 ∧ s_ks (j + 1) = s_ke j + 1 ∧ (x_kc (s_ke j)).toInt = 32) ∧ ∀ t, t < s_ke j - s_ks j → 97 ≤ (x_kc (s_ks j + t)).toInt ∧ (x_kc (s_ks j + t)).toInt ≤ 122 := by
  have h := List.all_eq_true.mp s_kt_all j (List.mem_range.mpr hj)
  rw [Bool.and_eq_true, decide_eq_true_eq] at h
  exact ⟨h.1, fun t ht => of_decide_eq_true (List.all_eq_true.mp h.2 t (List.mem_range.mpr ht))⟩
/-- a word's letters as a number -/
noncomputable def s_lt (b : Nat → Int32) (q : Nat) : Nat → Int
  | 0 => 0
  | k + 1 => 32 * s_lt b q k + ((b (q + k)).toInt - 96)
noncomputable def s_wd (b : Nat → Int32) (q k : Nat) : Prop := ∀ t, t < k → 97 ≤ (b (q + t)).toInt ∧ (b (q + t)).toInt ≤ 122
section LTR
variable {b b' : Nat → Int32} {q q' : Nat}
theorem s_lt_nn : ∀ {k : Nat}, s_wd b q k → 0 ≤ s_lt b q k
  | 0, _ => Int.le_refl 0
  | k + 1, h => by
    have h3 := h k (Nat.lt_succ_self _)
    have h4 := s_lt_nn (fun i hi => h i (Nat.lt_succ_of_lt hi))
    show 0 ≤ 32 * s_lt b q k + ((b (q + k)).toInt - 96)
    omega
theorem s_lt_inj : ∀ {k k' : Nat}, s_wd b q k → s_wd b' q' k' → s_lt b q k = s_lt b' q' k' → k = k' ∧ ∀ i, i < k → b (q + i) = b' (q' + i)
  | 0, 0, _, _, _ => ⟨rfl, fun i h => absurd h (Nat.not_lt_zero i)⟩
  | 0, k' + 1, _, h2, h => by
    exfalso
    have h3 := h2 k' (Nat.lt_succ_self _)
    have h4 : 0 ≤ s_lt b' q' k' := s_lt_nn (fun i hi => h2 i (Nat.lt_succ_of_lt hi))
    have h5 : (0 : Int) = 32 * s_lt b' q' k' + ((b' (q' + k')).toInt - 96) := h
    omega
  | k + 1, 0, h1, _, h => by
    exfalso
    have h3 := h1 k (Nat.lt_succ_self _)
    have h4 : 0 ≤ s_lt b q k := s_lt_nn (fun i hi => h1 i (Nat.lt_succ_of_lt hi))
    have h5 : 32 * s_lt b q k + ((b (q + k)).toInt - 96) = 0 := h
    omega
  | k + 1, k' + 1, h1, h2, h => by
    have h3 := h1 k (Nat.lt_succ_self _)
    have h4 := h2 k' (Nat.lt_succ_self _)
    have h5 : 32 * s_lt b q k + ((b (q + k)).toInt - 96) = 32 * s_lt b' q' k' + ((b' (q' + k')).toInt - 96) := h
    have h6 : s_lt b q k = s_lt b' q' k' := by omega
    obtain ⟨e, h7⟩ := s_lt_inj (fun i hi => h1 i (Nat.lt_succ_of_lt hi)) (fun i hi => h2 i (Nat.lt_succ_of_lt hi)) h6
    subst e
    refine ⟨rfl, fun i hi => ?_⟩
    by_cases hik : i = k
    · subst hik; exact Int32.toInt_inj.mp (by omega)
    · exact h7 i (by omega)
theorem s_lt_b : ∀ {k : Nat}, s_wd b q k → s_lt b q k < 32 ^ k
  | 0, _ => by show (0 : Int) < 1; decide
  | k + 1, h => by
    have h3 := h k (Nat.lt_succ_self _)
    have h4 := s_lt_b (fun i hi => h i (Nat.lt_succ_of_lt hi))
    show 32 * s_lt b q k + ((b (q + k)).toInt - 96) < 32 ^ (k + 1)
    rw [Int.pow_succ]; omega
theorem s_p32 {k : Nat} (h : k ≤ 8) : (32 : Int) ^ k ≤ 1099511627776 := by
  have hk : k = 0 ∨ k = 1 ∨ k = 2 ∨ k = 3 ∨ k = 4 ∨ k = 5 ∨ k = 6 ∨ k = 7 ∨ k = 8 := by omega
  rcases hk with rfl | rfl | rfl | rfl | rfl | rfl | rfl | rfl | rfl <;> decide
theorem s_ll_lt : ∀ {k : Nat}, k ≤ 8 → s_wd b q k → (s_ll b q k).toInt = s_lt b q k
  | 0, _, _ => rfl
  | k + 1, h8, h => by
    have h3 := h k (Nat.lt_succ_self _)
    have hw : s_wd b q k := fun i hi => h i (Nat.lt_succ_of_lt hi)
    have h4 := s_ll_lt (k := k) (by omega) hw
    have h5 := s_lt_nn hw
    have h6 := s_lt_b hw
    have h7 := s_p32 (k := k) (by omega)
    have e32 : (32 : Int64).toInt = 32 := rfl
    have e1 : (s_ll b q k * 32).toInt = s_lt b q k * 32 := by rw [Int64.toInt_mul, h4, e32, Int.bmod_eq_of_le] <;> omega
    have e2 : (Int64.ofInt ((b (q + k)).toInt - 96)).toInt = (b (q + k)).toInt - 96 := Int64.toInt_ofInt_of_le (by omega) (by omega)
    show (s_ll b q k * 32 + Int64.ofInt ((b (q + k)).toInt - 96)).toInt = 32 * s_lt b q k + ((b (q + k)).toInt - 96)
    rw [Int64.toInt_add, e1, e2, Int.bmod_eq_of_le] <;> omega
theorem s_ll_cg : ∀ {k : Nat}, (∀ t, t < k → b (q + t) = b' (q' + t)) → s_ll b q k = s_ll b' q' k
  | 0, _ => rfl
  | k + 1, h => by
    show s_ll b q k * 32 + Int64.ofInt ((b (q + k)).toInt - 96) = s_ll b' q' k * 32 + Int64.ofInt ((b' (q' + k)).toInt - 96)
    rw [s_ll_cg (fun t ht => h t (Nat.lt_succ_of_lt ht)), h k (Nat.lt_succ_self _)]
/-- words of eight letters at most: the same number, the same word -/
theorem s_ll_inj {k k' : Nat} (h8 : k ≤ 8) (h8' : k' ≤ 8) (h : s_wd b q k) (h' : s_wd b' q' k') (e : s_ll b q k = s_ll b' q' k') : k = k' ∧ ∀ i, i < k → b (q + i) = b' (q' + i) :=
  s_lt_inj h h' (by rw [← s_ll_lt h8 h, ← s_ll_lt h8' h', e])
end LTR
/-- word j of these stands at q -/
noncomputable def s_mt (b : Nat → Int32) (n q j : Nat) : Prop := s_E b n q - s_F b n q = s_ke j - s_ks j ∧ ∀ t, t < s_ke j - s_ks j → x_kc (s_ks j + t) = b (s_F b n q + t)
theorem s_kl_all : ((List.range 27).all (fun j => decide (s_ll x_kc (s_ks j) (s_ke j - s_ks j) = x_kwl.getD (s_pml.getD j 0) 0) && (decide (s_kwm (x_kwl.getD (s_pml.getD j 0) 0) 27 = some (s_pml.getD j 0)) && decide (s_mil.getD (s_pml.getD j 0) 0 = (j : Int))))) = true := by decide +kernel
theorem s_pm_all : ((List.range 27).all (fun i => (List.range 27).any (fun j => decide (s_pml.getD j 0 = i)))) = true := by decide +kernel
section WORDS
variable {b : Nat → Int32} {n q : Nat}
theorem s_K2_wd (h : s_K b n q = 2) : s_wd b (s_F b n q) (s_E b n q - s_F b n q) := by
  intro t ht
  have hni : ¬ n ≤ s_F b n q := fun hh => by unfold s_K at h; rw [if_pos hh] at h; cases h
  have hs : s_sm (b (s_F b n q)).toInt = true := by
    cases hc : s_sm (b (s_F b n q)).toInt with
    | true => rfl
    | false =>
      exfalso
      unfold s_K at h
      rw [if_neg hni, hc, if_neg (by decide)] at h
      split at h
      · split at h <;> cases h
      · split at h <;> cases h
  have hE : s_E b n q = s_rn s_sm b n (s_F b n q) := by unfold s_E; rw [if_neg hni, if_pos hs]
  have h1 := (s_rn_b (P := s_sm) (b := b) (n := n) (i := s_F b n q)).2.2 (s_F b n q + t) (by omega) (by rw [hE] at ht; omega)
  unfold s_sm at h1
  rw [Bool.and_eq_true, decide_eq_true_eq, decide_eq_true_eq] at h1
  exact h1
theorem s_mt_W {j : Nat} (hj : j < 27) (hK : s_K b n q = 2) (h : s_mt b n q j) : s_mi (s_W b n q) = (j : Int) := by
  have h1 := List.all_eq_true.mp s_kl_all j (List.mem_range.mpr hj)
  rw [Bool.and_eq_true, Bool.and_eq_true, decide_eq_true_eq, decide_eq_true_eq, decide_eq_true_eq] at h1
  have h2 := s_kt hj
  have e : s_ll b (s_F b n q) (s_E b n q - s_F b n q) = x_kwl.getD (s_pml.getD j 0) 0 := by
    rw [← h1.1, h.1]; exact (s_ll_cg (fun t ht => h.2 t ht)).symm
  unfold s_W
  rw [if_pos ⟨hK, by rw [h.1]; omega⟩, e, h1.2.1]
  exact h1.2.2
theorem s_kwm_some {x : Int64} {i : Nat} : ∀ {m : Nat}, s_kwm x m = some i → i < m ∧ x_kwl.getD i 0 = x
  | 0, h => by cases h
  | m + 1, h => by
    have h : (if x_kwl.getD m 0 = x then some m else s_kwm x m) = some i := h
    split at h
    · cases h; exact ⟨Nat.lt_succ_self _, by assumption⟩
    · have := s_kwm_some h; exact ⟨by omega, this.2⟩
theorem s_nm_W (hn : ∀ j, j < 27 → ¬ s_mt b n q j) : s_W b n q = none := by
  cases hc : s_W b n q with
  | none => rfl
  | some i =>
    exfalso
    unfold s_W at hc
    split at hc
    case isFalse => cases hc
    case isTrue hk =>
      obtain ⟨h1, h2⟩ := s_kwm_some hc
      obtain ⟨j, hj, hji⟩ := List.any_eq_true.mp (List.all_eq_true.mp s_pm_all i (List.mem_range.mpr h1))
      have hj := List.mem_range.mp hj
      have hji := of_decide_eq_true hji
      have h3 := List.all_eq_true.mp s_kl_all j (List.mem_range.mpr hj)
      rw [Bool.and_eq_true, decide_eq_true_eq, hji, h2] at h3
      have h4 := s_kt hj
      obtain ⟨h5, h6⟩ := s_ll_inj (by omega) hk.2 h4.2 (s_K2_wd hk.1) h3.1
      exact hn j hj ⟨h5.symm, h6⟩
theorem s_K_W (h : s_K b n q ≠ 2) : s_W b n q = none := by unfold s_W; rw [if_neg (fun hh => h hh.1)]
/-- how far the words are looked at -/
noncomputable def t_I14 (b : Nat → Int32) (n q : Nat) (x2 x3 : Int32) : Prop := ∃ j : Nat, (j ≤ 27 ∧ x2.toInt = (j : Int) ∧ x3.toInt = (s_ks j : Nat)) ∧ ∀ i, i < j → ¬ s_mt b n q i
noncomputable def t_I25 (b : Nat → Int32) (n q : Nat) (x2 x3 x4 : Int32) : Prop := ∃ j : Nat, ((j < 27 ∧ x2.toInt = (j : Int) ∧ x3.toInt = (s_ks j : Nat)) ∧ ((s_ks j : Nat) : Int) ≤ x4.toInt ∧ x4.toInt ≤ (s_ke j : Nat)) ∧ ∀ i, i < j → ¬ s_mt b n q i
noncomputable def t_I68 (b : Nat → Int32) (n q : Nat) (x2 x3 x4 x5 x6 : Int32) : Prop := ∃ j : Nat, (((j < 27 ∧ x2.toInt = (j : Int) ∧ x3.toInt = (s_ks j : Nat)) ∧ x4.toInt = (s_ke j : Nat) ∧ ((s_ks j : Nat) : Int) ≤ x6.toInt ∧ x6.toInt ≤ (s_ke j : Nat)) ∧ ((x5.toInt ≠ 0 ∧ s_E b n q - s_F b n q = s_ke j - s_ks j ∧ ∀ t : Nat, ((s_ks j + t : Nat) : Int) < x6.toInt → x_kc (s_ks j + t) = b (s_F b n q + t)) ∨ (x5.toInt = 0 ∧ ¬ s_mt b n q j))) ∧ ∀ i, i < j → ¬ s_mt b n q i
theorem t_I14_0 : t_I14 b n q 0 1 := ⟨0, ⟨by decide, rfl, rfl⟩, fun i hi => absurd hi (Nat.not_lt_zero i)⟩
theorem t_I25_0 {x2 x3 : Int32} (h : t_I14 b n q x2 x3) (h3 : x3.toInt < 138) : t_I25 b n q x2 x3 x3 := by
  obtain ⟨j, ⟨h1, h2, h4⟩, h5⟩ := h
  have hj : j < 27 := by
    by_cases hj : j = 27
    · rw [hj, show s_ks 27 = 138 from rfl] at h4; omega
    · omega
  have := (s_kt hj).1
  exact ⟨j, ⟨⟨hj, h2, h4⟩, by omega, by omega⟩, h5⟩
theorem t_I25_s {x2 x3 x4 w z : Int32} (h : t_I25 b n q x2 x3 x4) (ew : w = x_kc x4.toNatClampNeg) (hw : w.toInt ≠ 32) (hz : z.toInt = x4.toInt + 1) : t_I25 b n q x2 x3 z := by
  obtain ⟨j, ⟨⟨hj, h2, h3⟩, h4, h5⟩, h6⟩ := h
  have hk := (s_kt hj).1
  have hc := t_clamp (i := x4) (by omega)
  have hne : x4.toInt ≠ (s_ke j : Nat) := fun hh => hw (by rw [ew, show x4.toNatClampNeg = s_ke j by omega]; exact hk.2.2.2.2.2)
  exact ⟨j, ⟨⟨hj, h2, h3⟩, by omega, by omega⟩, h6⟩
theorem t_I68_0 {x2 x3 x4 x5 w : Int32} (h : t_I25 b n q x2 x3 x4) (ew : w = x_kc x4.toNatClampNeg) (hw : w.toInt = 32) (h5 : (x5.toInt ≠ 0 ∧ x4.toInt - x3.toInt = ((s_E b n q : Nat) : Int) - (s_F b n q : Nat)) ∨ (x5.toInt = 0 ∧ x4.toInt - x3.toInt ≠ ((s_E b n q : Nat) : Int) - (s_F b n q : Nat))) (hEF : s_F b n q ≤ s_E b n q) : t_I68 b n q x2 x3 x4 x5 x3 := by
  obtain ⟨j, ⟨⟨hj, h2, h3⟩, h4, h6⟩, h7⟩ := h
  obtain ⟨hk, hk2⟩ := s_kt hj
  have hc := t_clamp (i := x4) (by omega)
  have he : x4.toInt = (s_ke j : Nat) := by
    by_cases hlt : x4.toInt < (s_ke j : Nat)
    · have := hk2 (x4.toNatClampNeg - s_ks j) (by omega)
      rw [show s_ks j + (x4.toNatClampNeg - s_ks j) = x4.toNatClampNeg by omega, ← ew] at this
      omega
    · omega
  refine ⟨j, ⟨⟨⟨hj, h2, h3⟩, he, by omega, by omega⟩, ?_⟩, h7⟩
  rcases h5 with ⟨h8, h9⟩ | ⟨h8, h9⟩
  · exact Or.inl ⟨h8, by omega, fun t ht => by omega⟩
  · exact Or.inr ⟨h8, fun hh => by have := hh.1; omega⟩
theorem t_I68_y {x2 x3 x4 x5 x6 c w z idx : Int32} (h : t_I68 b n q x2 x3 x4 x5 x6) (hb : t_by b n) (h5 : x5.toInt ≠ 0) (hlt : x6.toInt < x4.toInt) (hi : idx.toInt = ((s_F b n q : Nat) : Int) + x6.toInt - x3.toInt) (hEn : s_E b n q ≤ n) (ec : c = x_kc x6.toNatClampNeg) (ew : w.toInt = s_at b n idx.toNatClampNeg) (he : c = w) {y : Int32} (hy : y.toInt ≠ 0) (hz : z.toInt = x6.toInt + 1) : t_I68 b n q x2 x3 x4 y z := by
  obtain ⟨j, ⟨⟨⟨hj, h2, h3⟩, h4, h6, h7⟩, h8⟩, h9⟩ := h
  obtain ⟨hk, hk2⟩ := s_kt hj
  rcases h8 with ⟨_, h10, h11⟩ | ⟨h10, _⟩
  · refine ⟨j, ⟨⟨⟨hj, h2, h3⟩, h4, by omega, by omega⟩, Or.inl ⟨hy, h10, fun t ht => ?_⟩⟩, h9⟩
    by_cases ht6 : ((s_ks j + t : Nat) : Int) < x6.toInt
    · exact h11 t ht6
    · have hc := t_clamp (i := x6) (by omega)
      have hci := t_clamp (i := idx) (by omega)
      have e6 : x6.toNatClampNeg = s_ks j + t := by omega
      have ei : idx.toNatClampNeg = s_F b n q + t := by omega
      have hl := hk2 t (by omega)
      rw [e6] at ec
      rw [← ec] at hl
      rw [← he, ei] at ew
      have hb2 := ((s_at_c (i := s_F b n q + t) hb (c := c.toInt) (by omega) (by omega)).mp ew.symm).2
      rw [← ec]
      exact Int32.toInt_inj.mp hb2.symm
  · exact absurd h10 h5
theorem t_I68_n {x2 x3 x4 x5 x6 c w z idx : Int32} (h : t_I68 b n q x2 x3 x4 x5 x6) (hb : t_by b n) (h5 : x5.toInt ≠ 0) (hlt : x6.toInt < x4.toInt) (hi : idx.toInt = ((s_F b n q : Nat) : Int) + x6.toInt - x3.toInt) (hEn : s_E b n q ≤ n) (ec : c = x_kc x6.toNatClampNeg) (ew : w.toInt = s_at b n idx.toNatClampNeg) (he : c.toInt ≠ w.toInt) {y : Int32} (hy : y.toInt = 0) (hz : z.toInt = x6.toInt + 1) : t_I68 b n q x2 x3 x4 y z := by
  obtain ⟨j, ⟨⟨⟨hj, h2, h3⟩, h4, h6, h7⟩, h8⟩, h9⟩ := h
  obtain ⟨hk, hk2⟩ := s_kt hj
  rcases h8 with ⟨_, h10, h11⟩ | ⟨h10, _⟩
  · refine ⟨j, ⟨⟨⟨hj, h2, h3⟩, h4, by omega, by omega⟩, Or.inr ⟨hy, fun hh => he ?_⟩⟩, h9⟩
    have hc := t_clamp (i := x6) (by omega)
    have hci := t_clamp (i := idx) (by omega)
    have hl := hk2 (x6.toNatClampNeg - s_ks j) (by omega)
    have hm := hh.2 (x6.toNatClampNeg - s_ks j) (by omega)
    have e6 : s_ks j + (x6.toNatClampNeg - s_ks j) = x6.toNatClampNeg := by omega
    have ei : idx.toNatClampNeg = s_F b n q + (x6.toNatClampNeg - s_ks j) := by omega
    rw [e6] at hl hm
    rw [← ec] at hl hm
    rw [ew, ei]
    exact ((s_at_c hb (c := c.toInt) (by omega) (by omega)).mpr ⟨by omega, by rw [← hm]⟩).symm
  · exact absurd h10 h5
theorem t_I68_r {x2 x3 x4 x5 x6 : Int32} (h : t_I68 b n q x2 x3 x4 x5 x6) (h5 : x5.toInt ≠ 0) (hge : x4.toInt ≤ x6.toInt) (hK : s_K b n q = 2) : x2.toInt = s_mi (s_W b n q) := by
  obtain ⟨j, ⟨⟨⟨hj, h2, h3⟩, h4, h6, h7⟩, h8⟩, h9⟩ := h
  rcases h8 with ⟨_, h10, h11⟩ | ⟨h10, _⟩
  · rw [h2]; exact (s_mt_W hj hK ⟨h10, fun t ht => h11 t (by omega)⟩).symm
  · exact absurd h10 h5
theorem t_I14_s {x2 x3 x4 x5 x6 z2 z3 : Int32} (h : t_I68 b n q x2 x3 x4 x5 x6) (h5 : x5.toInt = 0) (hz2 : z2.toInt = x2.toInt + 1) (hz3 : z3.toInt = x4.toInt + 1) : t_I14 b n q z2 z3 := by
  obtain ⟨j, ⟨⟨⟨hj, h2, h3⟩, h4, h6, h7⟩, h8⟩, h9⟩ := h
  have hk := (s_kt hj).1
  rcases h8 with ⟨h10, _⟩ | ⟨_, h11⟩
  · exact absurd h5 h10
  · refine ⟨j + 1, ⟨by omega, by omega, by omega⟩, fun i hi => ?_⟩
    by_cases hij : i = j
    · rw [hij]; exact h11
    · exact h9 i (by omega)
theorem t_I14_e {x2 x3 : Int32} (h : t_I14 b n q x2 x3) (h3 : 138 ≤ x3.toInt) : -1 = s_mi (s_W b n q) := by
  obtain ⟨j, ⟨h1, h2, h4⟩, h5⟩ := h
  have hj : j = 27 := by
    by_cases hj : j < 27
    · have := (s_kt hj).1; omega
    · omega
  rw [s_nm_W (fun i hi => h5 i (by omega))]; rfl
end WORDS
