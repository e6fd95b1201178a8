/-! ===== TOKENS as the other side reads them ===== -/
/-- a byte from 0 to 255 -/
noncomputable def s_ub (x : Int) : Int := if 0 ≤ x then x else x + 256
theorem s_u_all : ((List.range 256).all (fun i => decide ((Int32.ofInt ((i : Int) - 128) &&& 255).toInt = s_ub ((i : Int) - 128)))) = true := by decide +kernel
theorem s_u_and {x : Int32} (l : -128 ≤ x.toInt) (u : x.toInt ≤ 127) : (x &&& 255).toInt = s_ub x.toInt := by
  have h := List.all_eq_true.mp s_u_all (x.toInt + 128).toNat (List.mem_range.mpr (by omega))
  have h := of_decide_eq_true h
  rw [show (((x.toInt + 128).toNat : Nat) : Int) - 128 = x.toInt by omega, Int32.ofInt_toInt] at h
  exact h
theorem s_i8_all : ((List.range 256).all (fun i => decide ((Int32.ofInt ((i : Int) - 128)).toInt8.toInt32 = Int32.ofInt ((i : Int) - 128)))) = true := by decide +kernel
theorem s_i8 {x : Int32} (l : -128 ≤ x.toInt) (u : x.toInt ≤ 127) : x.toInt8.toInt32 = x := by
  have h := List.all_eq_true.mp s_i8_all (x.toInt + 128).toNat (List.mem_range.mpr (by omega))
  have h := of_decide_eq_true h
  rw [show (((x.toInt + 128).toNat : Nat) : Int) - 128 = x.toInt by omega, Int32.ofInt_toInt] at h
  exact h
noncomputable def t_by (b : Nat → Int32) (n : Nat) : Prop := ∀ k : Nat, k < n → -128 ≤ (b k).toInt ∧ (b k).toInt ≤ 127
/-- the text -/
noncomputable def t_Tx (b : Nat → Int32) (n : Nat) (gi : Nat → Nat → Int32) : Prop := ((∀ k : Nat, k < n → gi 76 k = b k) ∧ t_by b n) ∧ (gi 69 11).toInt = (n : Int)
noncomputable def s_at (b : Nat → Int32) (n i : Nat) : Int := if i < n then s_ub (b i).toInt else -1
/-- it goes on behind p -/
noncomputable def t_Sm (b : Nat → Int32) (n p : Nat) (gi : Nat → Nat → Int32) : Prop := t_Tx b n gi ∧ (gi 69 14).toInt = (p : Int) ∧ p ≤ n
noncomputable def t_TM (b : Nat → Int32) (n p : Nat) (gi : Nat → Nat → Int32) : Prop := (t_Tx b n gi ∧ p ≤ n) ∧ (gi 69 14).toInt = (s_E b n p : Nat) ∧ (gi 69 13).toInt = (s_F b n p : Nat) ∧ (gi 69 12).toInt = (s_K b n p : Nat) ∧ (s_K b n p = 3 → gi 69 15 = s_nn b (s_F b n p) (s_E b n p - s_F b n p)) ∧ (s_K b n p = 4 → gi 69 15 = b (s_F b n p))
section TMM
variable {b : Nat → Int32} {n p q i j : Nat} {gi g1 g2 g3 : Nat → Nat → Int32}
theorem t_Tx.at (h : t_Tx b n gi) {x w z : Int32} (h0 : 0 ≤ x.toInt) (hx : x.toInt < (gi 69 11).toInt) (ew : w = gi 76 x.toNatClampNeg) (ez : z = w &&& 255) : z.toInt = s_at b n x.toNatClampNeg := by
  have hc := t_clamp h0
  have hn := h.2
  have hi : x.toNatClampNeg < n := by omega
  have hb := h.1.2 _ hi
  unfold s_at
  rw [if_pos hi, ez, ew, h.1.1 _ hi, s_u_and hb.1 hb.2]
theorem t_Tx.no (h : t_Tx b n gi) {x : Int32} (h0 : 0 ≤ x.toInt) (hx : (gi 69 11).toInt ≤ x.toInt) : -1 = s_at b n x.toNatClampNeg := by
  have hc := t_clamp h0
  have hn := h.2
  unfold s_at
  rw [if_neg (by omega)]
theorem s_at_c {c : Int} (hb : t_by b n) (h0 : 0 ≤ c) (h1 : c ≤ 127) : s_at b n i = c ↔ (i < n ∧ (b i).toInt = c) := by
  unfold s_at s_ub
  by_cases hi : i < n
  · have := hb i hi
    rw [if_pos hi]
    constructor
    · intro h; refine ⟨hi, ?_⟩; split at h <;> omega
    · rintro ⟨_, h⟩; rw [if_pos (by omega)]; exact h
  · rw [if_neg hi]
    constructor
    · intro h; omega
    · rintro ⟨h, _⟩; exact absurd h hi
theorem s_at_r {c d : Int} (hb : t_by b n) (h0 : 0 ≤ c) (h1 : d ≤ 127) : (c ≤ s_at b n i ∧ s_at b n i ≤ d) ↔ (i < n ∧ c ≤ (b i).toInt ∧ (b i).toInt ≤ d) := by
  unfold s_at s_ub
  by_cases hi : i < n
  · have := hb i hi
    rw [if_pos hi]
    constructor
    · rintro ⟨h, h'⟩; refine ⟨hi, ?_⟩; split at h <;> split at h' <;> omega
    · rintro ⟨_, h, h'⟩; rw [if_pos (by omega)]; exact ⟨h, h'⟩
  · rw [if_neg hi]
    constructor
    · rintro ⟨h, _⟩; omega
    · rintro ⟨h, _⟩; exact absurd h hi
theorem s_at_e (hy : t_by b n) (h : s_at b n i = -1) : n ≤ i := by
  apply Classical.byContradiction
  intro hi
  have hi : i < n := by omega
  have := hy i hi
  unfold s_at at h
  rw [if_pos hi] at h
  unfold s_ub at h
  split at h <;> omega
theorem s_at_n (h : n ≤ i) : s_at b n i = -1 := if_neg (by omega)
theorem t_Tx.up (h : t_Tx b n gi) {j : Nat} {v : Int32} (hj : j ≠ 11) (e : g1 = x_up2 gi 69 j v) : t_Tx b n g1 := by
  subst e
  exact ⟨⟨fun k hk => by rw [x_up2_ne (by decide)]; exact h.1.1 k hk, h.1.2⟩, by rw [x_up2_off (Or.inr hj.symm)]; exact h.2⟩
theorem t_Sm.up (h : t_Sm b n p gi) {j : Nat} {v : Int32} (hj : j ≠ 11 ∧ j ≠ 14) (e : g1 = x_up2 gi 69 j v) : t_Sm b n p g1 :=
  ⟨h.1.up hj.1 e, by rw [e, x_up2_off (Or.inr hj.2.symm)]; exact h.2.1, h.2.2⟩
theorem t_Sm.nx (h : t_Sm b n i gi) {v : Int32} (hv : v.toInt = (i : Int) + 1) (hi : i < n) (e : g1 = x_up2 gi 69 14 v) : t_Sm b n (i + 1) g1 :=
  ⟨h.1.up (by decide) e, by rw [e, x_up2_at]; omega, hi⟩
theorem t_Sm.cl (h : t_Sm b n i gi) : (gi 69 14).toNatClampNeg = i := by
  have h1 := h.2.1
  have hc := t_clamp (i := gi 69 14) (by omega)
  omega
theorem t_Sm.up2 (h : t_Sm b n p gi) {v : Int32} (e : g1 = x_up2 gi 69 12 v) : t_Sm b n p g1 := h.up (by decide) e
theorem s_sg_r {x : Int} (h : s_sg x = true) : 0 ≤ x ∧ x ≤ 127 := by
  unfold s_sg at h; simp only [Bool.or_eq_true, decide_eq_true_eq] at h; omega
/-- blanks -/
theorem t_Sm.blk1 (h : t_Sm b n i gi) {w : Int32} (ew : w.toInt = s_at b n (gi 69 14).toNatClampNeg) (hw : w.toInt = 32 ∨ w.toInt = 10) : i < n ∧ s_F b n (i + 1) = s_F b n i := by
  rw [h.cl] at ew
  have h2 : i < n ∧ ((b i).toInt = 32 ∨ (b i).toInt = 10) := by
    rcases hw with hw | hw
    · have := (s_at_c h.1.1.2 (by decide) (by decide)).mp (ew.symm.trans hw); exact ⟨this.1, Or.inl this.2⟩
    · have := (s_at_c h.1.1.2 (by decide) (by decide)).mp (ew.symm.trans hw); exact ⟨this.1, Or.inr this.2⟩
  refine ⟨h2.1, s_rn_t h2.1 ?_⟩
  unfold s_bl
  rw [Bool.or_eq_true, decide_eq_true_eq, decide_eq_true_eq]
  exact h2.2
theorem t_Sm.blk (h : t_Sm b n i gi) {w w2 : Int32} (ew : w.toInt = s_at b n (gi 69 14).toNatClampNeg) (ew2 : w2.toInt = s_at b n (gi 69 14).toNatClampNeg) (h1 : w.toInt ≠ 32) (h2 : w2.toInt ≠ 10) : s_F b n i = i := by
  rw [h.cl] at ew ew2
  refine s_rn_f (fun hi => ?_)
  unfold s_bl
  rw [Bool.or_eq_false_iff, decide_eq_false_iff_not, decide_eq_false_iff_not]
  exact ⟨fun hh => h1 (ew.trans ((s_at_c h.1.1.2 (by decide) (by decide)).mpr ⟨hi, hh⟩)), fun hh => h2 (ew2.trans ((s_at_c h.1.1.2 (by decide) (by decide)).mpr ⟨hi, hh⟩))⟩
/-- within a WORD, a NUMBER, from i, to j -/
noncomputable def t_MW (P : Int → Bool) (b : Nat → Int32) (n p i j : Nat) (gi : Nat → Nat → Int32) : Prop := (t_Sm b n j gi ∧ (gi 69 13).toInt = (i : Int) ∧ s_F b n p = i ∧ p ≤ n) ∧ (i < n ∧ P (b i).toInt = true) ∧ i ≤ j ∧ s_rn P b n j = s_rn P b n i
theorem t_MW.s {P : Int → Bool} (h : t_MW P b n p i j gi) (hj : j < n) (hP : P (b j).toInt = true) {v : Int32} (hv : v.toInt = (j : Int) + 1) (e : g1 = x_up2 gi 69 14 v) : t_MW P b n p i (j + 1) g1 := by
  obtain ⟨⟨h1, h2, h3, h4⟩, h5, h6, h7⟩ := h
  exact ⟨⟨h1.nx hv hj e, by rw [e, x_up2_off (Or.inr (by decide))]; exact h2, h3, h4⟩, h5, by omega, by rw [s_rn_t hj hP]; exact h7⟩
theorem t_MW.e {P : Int → Bool} (h : t_MW P b n p i j gi) (hP : j < n → P (b j).toInt = false) : j = s_rn P b n i := by
  rw [← h.2.2.2]; exact (s_rn_f hP).symm
theorem t_MW.up {P : Int → Bool} (h : t_MW P b n p i j gi) {k : Nat} {v : Int32} (hk : k ≠ 11 ∧ k ≠ 14 ∧ k ≠ 13) (e : g1 = x_up2 gi 69 k v) : t_MW P b n p i j g1 :=
  ⟨⟨h.1.1.up ⟨hk.1, hk.2.1⟩ e, by rw [e, x_up2_off (Or.inr hk.2.2.symm)]; exact h.1.2.1, h.1.2.2⟩, h.2⟩
theorem s_smT {x : Int} (l : 97 ≤ x) (u : x ≤ 122) : s_sm x = true := by unfold s_sm; rw [Bool.and_eq_true, decide_eq_true_eq, decide_eq_true_eq]; exact ⟨l, u⟩
theorem s_dgT {x : Int} (l : 48 ≤ x) (u : x ≤ 57) : s_dg x = true := by unfold s_dg; rw [Bool.and_eq_true, decide_eq_true_eq, decide_eq_true_eq]; exact ⟨l, u⟩
theorem s_smF' {x : Int} (h : x < 97 ∨ 122 < x) : s_sm x = false := by
  cases hc : s_sm x with
  | false => rfl
  | true => exact absurd hc (s_smF h)
theorem s_dgF' {x : Int} (h : x < 48 ∨ 57 < x) : s_dg x = false := by
  unfold s_dg
  cases hc : (decide (48 ≤ x) && decide (x ≤ 57)) with
  | false => rfl
  | true => rw [Bool.and_eq_true, decide_eq_true_eq, decide_eq_true_eq] at hc; omega
/-- the byte told lies between, or not -/
theorem t_Sm.inn (h : t_Sm b n j gi) {w : Int32} (ew : w.toInt = s_at b n (gi 69 14).toNatClampNeg) {c d : Int} (h0 : 0 ≤ c) (h1 : d ≤ 127) (l : c ≤ w.toInt) (u : w.toInt ≤ d) : j < n ∧ c ≤ (b j).toInt ∧ (b j).toInt ≤ d := by
  rw [h.cl] at ew
  exact (s_at_r h.1.1.2 h0 h1).mp ⟨by omega, by omega⟩
theorem t_Sm.out (h : t_Sm b n j gi) {w : Int32} (ew : w.toInt = s_at b n (gi 69 14).toNatClampNeg) {c d : Int} (h0 : 0 ≤ c) (h1 : d ≤ 127) (hw : w.toInt < c ∨ d < w.toInt) (hj : j < n) : (b j).toInt < c ∨ d < (b j).toInt := by
  rw [h.cl] at ew
  by_cases hh : (b j).toInt < c ∨ d < (b j).toInt
  · exact hh
  · have := (s_at_r (i := j) h.1.1.2 h0 h1).mpr ⟨hj, by omega, by omega⟩
    omega
theorem s_K_0 (hF : s_F b n p = i) (hn : n ≤ i) : s_K b n p = 0 ∧ s_E b n p = i := by
  unfold s_K s_E; rw [hF, if_pos hn, if_pos hn]; exact ⟨rfl, rfl⟩
theorem s_K_2 (hF : s_F b n p = i) (hn : i < n) (hw : s_sm (b i).toInt = true) : s_K b n p = 2 ∧ s_E b n p = s_rn s_sm b n i := by
  unfold s_K s_E
  have hni : ¬ n ≤ i := by omega
  rw [hF, if_neg hni, if_neg hni, if_pos hw, if_pos hw]; exact ⟨rfl, rfl⟩
theorem s_K_3 (hF : s_F b n p = i) (hn : i < n) (hd : s_dg (b i).toInt = true) : s_K b n p = (if 4 < s_rn s_dg b n i - i then 1 else 3) ∧ s_E b n p = s_rn s_dg b n i := by
  have hw : ¬ s_sm (b i).toInt = true := by
    unfold s_dg at hd
    rw [Bool.and_eq_true, decide_eq_true_eq, decide_eq_true_eq] at hd
    exact s_smF (by omega)
  unfold s_K s_E
  have hni : ¬ n ≤ i := by omega
  rw [hF, if_neg hni, if_neg hni, if_neg hw, if_neg hw, if_pos hd, if_pos hd]; exact ⟨rfl, rfl⟩
theorem s_K_4 (hF : s_F b n p = i) (hn : i < n) (hw : ¬ s_sm (b i).toInt = true) (hd : ¬ s_dg (b i).toInt = true) : s_K b n p = (if s_sg (b i).toInt = true then 4 else 1) ∧ s_E b n p = i + 1 := by
  unfold s_K s_E
  have hni : ¬ n ≤ i := by omega
  rw [hF, if_neg hni, if_neg hni, if_neg hw, if_neg hw, if_neg hd, if_neg hd]; exact ⟨rfl, rfl⟩
theorem t_TM_0 (h : t_Sm b n i gi) (hF : s_F b n p = i) (hp : p ≤ n) (hn : n ≤ i) (h13 : (gi 69 13).toInt = (i : Int)) (h12 : (gi 69 12).toInt = 0) : t_TM b n p gi := by
  obtain ⟨hK, hE⟩ := s_K_0 hF hn
  exact ⟨⟨h.1, hp⟩, by rw [hE]; exact h.2.1, by rw [hF]; exact h13, by rw [hK]; exact h12, fun hh => (by rw [hK] at hh; cases hh), fun hh => (by rw [hK] at hh; cases hh)⟩
theorem t_TM_2 (h : t_MW s_sm b n p i j gi) (he : j = s_rn s_sm b n i) (h12 : (gi 69 12).toInt = 2) : t_TM b n p gi := by
  obtain ⟨⟨h1, h2, h3, h4⟩, h5, h6, h7⟩ := h
  obtain ⟨hK, hE⟩ := s_K_2 h3 h5.1 h5.2
  exact ⟨⟨h1.1, h4⟩, by rw [hE, ← he]; exact h1.2.1, by rw [h3]; exact h2, by rw [hK]; exact h12, fun hh => (by rw [hK] at hh; cases hh), fun hh => (by rw [hK] at hh; cases hh)⟩
theorem t_TM_3 (h : t_MW s_dg b n p i j gi) (he : j = s_rn s_dg b n i) (hv : j - i ≤ 4 → gi 69 15 = s_nn b i (j - i)) (h12 : (gi 69 12).toInt = if 4 < (j : Int) - i then 1 else 3) : t_TM b n p gi := by
  obtain ⟨⟨h1, h2, h3, h4⟩, h5, h6, h7⟩ := h
  obtain ⟨hK, hE⟩ := s_K_3 h3 h5.1 h5.2
  rw [← he] at hK hE
  refine ⟨⟨h1.1, h4⟩, by rw [hE]; exact h1.2.1, by rw [h3]; exact h2, ?_, fun hh => ?_, fun hh => ?_⟩
  · rw [hK, h12]
    by_cases h8 : 4 < j - i
    · rw [if_pos h8, if_pos (by omega)]; rfl
    · rw [if_neg h8, if_neg (by omega)]; rfl
  · rw [hE, h3]
    refine hv ?_
    rw [hK] at hh
    by_cases h8 : 4 < j - i
    · rw [if_pos h8] at hh; cases hh
    · omega
  · rw [hK] at hh; split at hh <;> cases hh
theorem t_TM_4 (h : t_Sm b n (i + 1) gi) (hF : s_F b n p = i) (hp : p ≤ n) (hn : i < n) (hw : (b i).toInt < 97 ∨ 122 < (b i).toInt) (hd : (b i).toInt < 48 ∨ 57 < (b i).toInt) (h13 : (gi 69 13).toInt = (i : Int)) (h12 : (gi 69 12).toInt = if s_sg (b i).toInt = true then 4 else 1) (h15 : s_sg (b i).toInt = true → gi 69 15 = b i) : t_TM b n p gi := by
  obtain ⟨hK, hE⟩ := s_K_4 hF hn (s_smF hw) (by rw [s_dgF' hd]; decide)
  refine ⟨⟨h.1, hp⟩, by rw [hE]; exact h.2.1, by rw [hF]; exact h13, ?_, fun hh => ?_, fun hh => ?_⟩
  · rw [hK, h12]; split <;> rfl
  · rw [hK] at hh; split at hh <;> cases hh
  · rw [hF]; refine h15 ?_
    rw [hK] at hh
    by_cases hs : s_sg (b i).toInt = true
    · exact hs
    · rw [if_neg hs] at hh; cases hh
/-- digits: the number so far -/
theorem s_nn_b : ∀ k : Nat, k ≤ 4 → (∀ t, t < k → 48 ≤ (b (q + t)).toInt ∧ (b (q + t)).toInt ≤ 57) → 0 ≤ (s_nn b q k).toInt ∧ (s_nn b q k).toInt < 10 ^ k
  | 0, _, _ => by show 0 ≤ (0 : Int32).toInt ∧ (0 : Int32).toInt < 1; exact ⟨by decide, by decide⟩
  | k + 1, h4, h => by
    obtain ⟨h1, h2⟩ := s_nn_b k (by omega) (fun t ht => h t (by omega))
    have h3 := h k (by omega)
    have hp : (10 : Int) ^ k ≤ 1000 := by
      have hk : k = 0 ∨ k = 1 ∨ k = 2 ∨ k = 3 := by omega
      rcases hk with rfl | rfl | rfl | rfl <;> decide
    have h48 : (48 : Int32).toInt = 48 := rfl
    have h10 : (10 : Int32).toInt = 10 := rfl
    have e1 : (b (q + k) - 48).toInt = (b (q + k)).toInt - 48 := by rw [Int32.toInt_sub, h48, Int.bmod_eq_of_le] <;> omega
    have e2 : (s_nn b q k * 10).toInt = (s_nn b q k).toInt * 10 := by rw [Int32.toInt_mul, h10, Int.bmod_eq_of_le] <;> omega
    have e3 : (s_nn b q k * 10 + (b (q + k) - 48)).toInt = (s_nn b q k).toInt * 10 + ((b (q + k)).toInt - 48) := by rw [Int32.toInt_add, e1, e2, Int.bmod_eq_of_le] <;> omega
    show 0 ≤ (s_nn b q k * 10 + (b (q + k) - 48)).toInt ∧ (s_nn b q k * 10 + (b (q + k) - 48)).toInt < 10 ^ (k + 1)
    rw [e3, Int.pow_succ]
    exact ⟨by omega, by omega⟩
theorem s_nn_s {k : Nat} (h4 : k < 4) (h : ∀ t, t < k + 1 → 48 ≤ (b (q + t)).toInt ∧ (b (q + t)).toInt ≤ 57) : (s_nn b q (k + 1)).toInt = 10 * (s_nn b q k).toInt + (b (q + k)).toInt - 48 ∧ (s_nn b q (k + 1)).toInt ≤ 9999 := by
  obtain ⟨h1, h2⟩ := s_nn_b (b := b) (q := q) k (by omega) (fun t ht => h t (by omega))
  have h3 := h k (by omega)
  have hp : (10 : Int) ^ k ≤ 1000 := by
    have hk : k = 0 ∨ k = 1 ∨ k = 2 ∨ k = 3 := by omega
    rcases hk with rfl | rfl | rfl | rfl <;> decide
  have h48 : (48 : Int32).toInt = 48 := rfl
  have h10 : (10 : Int32).toInt = 10 := rfl
  have e1 : (b (q + k) - 48).toInt = (b (q + k)).toInt - 48 := by rw [Int32.toInt_sub, h48, Int.bmod_eq_of_le] <;> omega
  have e2 : (s_nn b q k * 10).toInt = (s_nn b q k).toInt * 10 := by rw [Int32.toInt_mul, h10, Int.bmod_eq_of_le] <;> omega
  have e3 : (s_nn b q k * 10 + (b (q + k) - 48)).toInt = (s_nn b q k).toInt * 10 + ((b (q + k)).toInt - 48) := by rw [Int32.toInt_add, e1, e2, Int.bmod_eq_of_le] <;> omega
  have e4 : (s_nn b q (k + 1)).toInt = (s_nn b q k).toInt * 10 + ((b (q + k)).toInt - 48) := e3
  exact ⟨by omega, by omega⟩
theorem t_dig1 {v w z1 z2 z3 x : Int32} (e1 : z1 = 10 * v) (e2 : z2 = z1 + w) (e3 : z3 = z2 - 48) (ex : x.toInt = min (100000 : Int32).toInt z3.toInt) (w0 : 48 ≤ w.toInt) (w1 : w.toInt ≤ 57) (h0 : 0 ≤ v.toInt) (h1 : v.toInt ≤ 999) : x.toInt = 10 * v.toInt + w.toInt - 48 := by
  have h48 : (48 : Int32).toInt = 48 := rfl
  have h10 : (10 : Int32).toInt = 10 := rfl
  have hM : (100000 : Int32).toInt = 100000 := rfl
  have f1 : z1.toInt = 10 * v.toInt := by rw [e1, Int32.toInt_mul, h10, Int.bmod_eq_of_le] <;> omega
  have f2 : z2.toInt = 10 * v.toInt + w.toInt := by rw [e2, Int32.toInt_add, f1, Int.bmod_eq_of_le] <;> omega
  have f3 : z3.toInt = 10 * v.toInt + w.toInt - 48 := by rw [e3, Int32.toInt_sub, f2, h48, Int.bmod_eq_of_le] <;> omega
  rw [hM] at ex
  omega
/-- a digit more -/
theorem t_MW.dig (h : t_MW s_dg b n p i j gi) (_ : j < n) (hd : 48 ≤ (b j).toInt ∧ (b j).toInt ≤ 57) (hv : j - i ≤ 4 → gi 69 15 = s_nn b i (j - i)) {x : Int32} (hx : 0 ≤ (gi 69 15).toInt → (gi 69 15).toInt ≤ 999 → x.toInt = 10 * (gi 69 15).toInt + (b j).toInt - 48) : j + 1 - i ≤ 4 → x = s_nn b i (j + 1 - i) := by
  intro h4
  obtain ⟨⟨h1, h2, h3, h5⟩, h6, h7, h8⟩ := h
  have hr := s_rn_b (P := s_dg) (b := b) (n := n) (i := i)
  have hr2 := s_rn_b (P := s_dg) (b := b) (n := n) (i := j)
  have hall : ∀ t, t < (j - i) + 1 → 48 ≤ (b (i + t)).toInt ∧ (b (i + t)).toInt ≤ 57 := fun t ht => by
    by_cases htj : i + t = j
    · rw [htj]; exact hd
    · have h9 := hr.2.2 (i + t) (by omega) (by rw [← h8]; omega)
      unfold s_dg at h9
      rw [Bool.and_eq_true, decide_eq_true_eq, decide_eq_true_eq] at h9
      exact h9
  obtain ⟨s1, s2⟩ := s_nn_s (k := j - i) (by omega) hall
  obtain ⟨s3, s4⟩ := s_nn_b (b := b) (q := i) (j - i) (by omega) (fun t ht => hall t (by omega))
  have hp : (10 : Int) ^ (j - i) ≤ 1000 := by
    have hk : j - i = 0 ∨ j - i = 1 ∨ j - i = 2 ∨ j - i = 3 := by omega
    rcases hk with e | e | e | e <;> rw [e] <;> decide
  have e := hv (by omega)
  rw [show i + (j - i) = j by omega] at s1
  rw [show j + 1 - i = (j - i) + 1 by omega]
  rw [← e] at s3 s4 s1
  exact Int32.toInt_inj.mp (by rw [hx s3 (by omega)]; omega)
end TMM
theorem t_P_PI {X : x_Ext} {d mi : Nat} {as : List Value} {G : x_G} {wl : List (Nat × Nat)} {sh : List (Nat ⊕ (Nat × Nat))} {gi : Nat → Nat → Int32} {gl : Nat → Nat → Int64} {gr : Nat → Nat → Value} {lo hi : Int} (h : x_Me X d mi as G (t_P wl sh gi gl gr (t_Ri lo hi))) : x_Me X d mi as G (t_PI wl sh gi gl gr lo hi (fun _ _ _ _ => True)) :=
  h.mono (fun v G' ⟨g, l, r, e, hI, hX, x, hv, h1, h2⟩ => ⟨g, l, r, e, hI, hX, x, hv, h1, h2, trivial⟩)
