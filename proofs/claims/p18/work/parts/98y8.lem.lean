/-! ===== the RIVER as the other side keeps it ===== -/
noncomputable def s_m8 (b : Nat → Int32) (q : Nat) : Nat → Int64
  | 0 => 0
  | k + 1 => s_m8 b q k <<< ((8 : Int32).toInt64 &&& 63) ||| (b (q + k)).toInt64
noncomputable def s_l8 (b : Nat → Int32) (q : Nat) : Nat → Int
  | 0 => 0
  | k + 1 => 256 * s_l8 b q k + (b (q + k)).toInt
theorem s_or8 {x c : Int64} (h0 : 0 ≤ x.toInt) (h1 : x.toInt < 36028797018963968) (c0 : 0 ≤ c.toInt) (c1 : c.toInt < 256) : (x <<< ((8 : Int32).toInt64 &&& 63) ||| c).toInt = 256 * x.toInt + c.toInt := by
  have e := t_nn64 h0
  have ec := t_nn64 c0
  have hy : (((8 : Int32).toInt64 &&& 63).toBitVec.smod 64#64).toNat = 8 := by decide
  have g1 : (x <<< ((8 : Int32).toInt64 &&& 63)).toBitVec.toNat = x.toBitVec.toNat * 2 ^ 8 := by
    show (x.toBitVec <<< (((8 : Int32).toInt64 &&& 63).toBitVec.smod 64#64)).toNat = _
    rw [BitVec.shiftLeft_eq', BitVec.toNat_shiftLeft, hy, Nat.shiftLeft_eq]
    exact Nat.mod_eq_of_lt (by omega)
  have g2 : (x <<< ((8 : Int32).toInt64 &&& 63) ||| c).toBitVec.toNat = x.toBitVec.toNat * 2 ^ 8 + c.toBitVec.toNat := by
    rw [Int64.toBitVec_or, BitVec.toNat_or, g1, ← Nat.shiftLeft_eq]
    exact (Nat.shiftLeft_add_eq_or_of_lt (by omega) _).symm
  have g3 : (x <<< ((8 : Int32).toInt64 &&& 63) ||| c).toInt = ((x <<< ((8 : Int32).toInt64 &&& 63) ||| c).toBitVec.toNat : Int) := by
    show (x <<< ((8 : Int32).toInt64 &&& 63) ||| c).toBitVec.toInt = _
    rw [BitVec.toInt_eq_toNat_of_lt (by rw [g2]; omega)]
  rw [g3, g2]; omega
section M8
variable {b b' : Nat → Int32} {q q' : Nat}
theorem s_p256 {k : Nat} (h : k ≤ 7) : (256 : Int) ^ k ≤ 72057594037927936 := by
  have hk : k = 0 ∨ k = 1 ∨ k = 2 ∨ k = 3 ∨ k = 4 ∨ k = 5 ∨ k = 6 ∨ k = 7 := by omega
  rcases hk with rfl | rfl | rfl | rfl | rfl | rfl | rfl | rfl <;> decide
theorem s_l8_b : ∀ {k : Nat}, s_wd b q k → 0 ≤ s_l8 b q k ∧ 2 * s_l8 b q k + 1 ≤ 256 ^ k
  | 0, _ => by show (0 : Int) ≤ 0 ∧ (2 : Int) * 0 + 1 ≤ 1; decide
  | k + 1, h => by
    have h3 := h k (Nat.lt_succ_self _)
    have h4 := s_l8_b (k := k) (fun i hi => h i (Nat.lt_succ_of_lt hi))
    show 0 ≤ 256 * s_l8 b q k + (b (q + k)).toInt ∧ 2 * (256 * s_l8 b q k + (b (q + k)).toInt) + 1 ≤ 256 ^ (k + 1)
    rw [Int.pow_succ]
    exact ⟨by omega, by omega⟩
theorem s_m8_l8 : ∀ {k : Nat}, k ≤ 8 → s_wd b q k → (s_m8 b q k).toInt = s_l8 b q k
  | 0, _, _ => rfl
  | k + 1, h8, h => by
    have h3 := h k (Nat.lt_succ_self _)
    have hw : s_wd b q k := fun i hi => h i (Nat.lt_succ_of_lt hi)
    have h4 := s_m8_l8 (k := k) (by omega) hw
    have h5 := s_l8_b hw
    have h7 := s_p256 (k := k) (by omega)
    show (s_m8 b q k <<< ((8 : Int32).toInt64 &&& 63) ||| (b (q + k)).toInt64).toInt = 256 * s_l8 b q k + (b (q + k)).toInt
    rw [s_or8 (by rw [h4]; omega) (by rw [h4]; omega) (by rw [Int32.toInt_toInt64]; omega) (by rw [Int32.toInt_toInt64]; omega), h4, Int32.toInt_toInt64]
theorem s_l8_inj : ∀ {k k' : Nat}, s_wd b q k → s_wd b' q' k' → s_l8 b q k = s_l8 b' q' k' → k = k' ∧ ∀ i, i < k → b (q + i) = b' (q' + i)
  | 0, 0, _, _, _ => ⟨rfl, fun i h => absurd h (Nat.not_lt_zero i)⟩
  | 0, k' + 1, _, h2, h => by
    exfalso
    have h3 := h2 k' (Nat.lt_succ_self _)
    have h4 := (s_l8_b (b := b') (q := q') (k := k') (fun i hi => h2 i (Nat.lt_succ_of_lt hi))).1
    have h5 : (0 : Int) = 256 * s_l8 b' q' k' + (b' (q' + k')).toInt := h
    omega
  | k + 1, 0, h1, _, h => by
    exfalso
    have h3 := h1 k (Nat.lt_succ_self _)
    have h4 := (s_l8_b (b := b) (q := q) (k := k) (fun i hi => h1 i (Nat.lt_succ_of_lt hi))).1
    have h5 : 256 * s_l8 b q k + (b (q + k)).toInt = 0 := h
    omega
  | k + 1, k' + 1, h1, h2, h => by
    have h3 := h1 k (Nat.lt_succ_self _)
    have h4 := h2 k' (Nat.lt_succ_self _)
    have h5 : 256 * s_l8 b q k + (b (q + k)).toInt = 256 * s_l8 b' q' k' + (b' (q' + k')).toInt := h
    have h6 : s_l8 b q k = s_l8 b' q' k' := by omega
    obtain ⟨e, h7⟩ := s_l8_inj (fun i hi => h1 i (Nat.lt_succ_of_lt hi)) (fun i hi => h2 i (Nat.lt_succ_of_lt hi)) h6
    subst e
    refine ⟨rfl, fun i hi => ?_⟩
    by_cases hik : i = k
    · subst hik; exact Int32.toInt_inj.mp (by omega)
    · exact h7 i (by omega)
theorem s_m8_cg : ∀ {k : Nat}, (∀ t, t < k → b (q + t) = b' (q' + t)) → s_m8 b q k = s_m8 b' q' k
  | 0, _ => rfl
  | k + 1, h => by
    show s_m8 b q k <<< ((8 : Int32).toInt64 &&& 63) ||| (b (q + k)).toInt64 = s_m8 b' q' k <<< ((8 : Int32).toInt64 &&& 63) ||| (b' (q' + k)).toInt64
    rw [s_m8_cg (fun t ht => h t (Nat.lt_succ_of_lt ht)), h k (Nat.lt_succ_self _)]
end M8
/-- a NAME by 256 and by 32 -/
noncomputable def t_nr (y : Int64) (x : Int) : Prop := ∃ (b : Nat → Int32) (q k : Nat), (k ≤ 8 ∧ s_wd b q k) ∧ y = s_m8 b q k ∧ x = (s_ll b q k).toInt
theorem t_nr_eq {y : Int64} {x : Int} {b : Nat → Int32} {q k : Nat} (h : t_nr y x) (hk : k ≤ 8) (hw : s_wd b q k) : y = s_m8 b q k ↔ x = (s_ll b q k).toInt := by
  obtain ⟨b', q', k', ⟨hk', hw'⟩, hy, hx⟩ := h
  constructor
  · intro e
    have e2 : s_l8 b' q' k' = s_l8 b q k := by rw [← s_m8_l8 hk' hw', ← s_m8_l8 hk hw, ← hy, e]
    obtain ⟨e3, e4⟩ := s_l8_inj hw' hw e2
    subst e3
    rw [hx, s_ll_cg e4]
  · intro e
    obtain ⟨e3, e4⟩ := s_ll_inj hk' hk hw' hw (Int64.toInt_inj.mp (hx.symm.trans e))
    subst e3
    rw [hy, s_m8_cg e4]
/-- BLASTS in a row, as a number -/
noncomputable def t_prt (f : Nat → Int32) (x : Int) : Prop := ∃ (b : Nat → Int32) (q k : Nat), (k ≤ 6 ∧ s_wd b q k ∧ ∀ t, t < k → (b (q + t)).toInt = 108 ∨ (b (q + t)).toInt = 115) ∧ (f 0).toInt = (k : Int) ∧ (∀ t, t < k → f (1 + t) = b (q + t)) ∧ (∀ t, k ≤ t → t < 6 → (f (1 + t)).toInt = 0) ∧ x = (s_ll b q k).toInt
theorem t_prt_cg {f g : Nat → Int32} {x : Int} (h : t_prt f x) (e : ∀ t, t < 7 → g t = f t) : t_prt g x := by
  obtain ⟨b, q, k, ⟨hk, hw, hl⟩, h0, h1, h2, hx⟩ := h
  exact ⟨b, q, k, ⟨hk, hw, hl⟩, by rw [e 0 (by decide)]; exact h0, fun t ht => by rw [e (1 + t) (by omega)]; exact h1 t ht, fun t ht ht6 => by rw [e (1 + t) (by omega)]; exact h2 t ht ht6, hx⟩
theorem t_pr_eq {f g : Nat → Int32} {x y : Int} (h : t_prt f x) (h' : t_prt g y) : (∀ t, t < 7 → f t = g t) ↔ x = y := by
  obtain ⟨b, q, k, ⟨hk, hw, hl⟩, h0, h1, h2, hx⟩ := h
  obtain ⟨b', q', k', ⟨hk', hw', hl'⟩, h0', h1', h2', hy⟩ := h'
  constructor
  · intro e
    have ek : k = k' := by have := e 0 (by decide); rw [this] at h0; omega
    subst ek
    rw [hx, hy, s_ll_cg (b := b) (q := q) (b' := b') (q' := q') (fun t ht => by rw [← h1 t ht, ← h1' t ht]; exact e (1 + t) (by omega))]
  · intro e
    obtain ⟨ek, e4⟩ := s_ll_inj (by omega) (by omega) hw hw' (Int64.toInt_inj.mp (by rw [← hx, ← hy, e]))
    subst ek
    intro t ht
    by_cases ht0 : t = 0
    · subst ht0; exact Int32.toInt_inj.mp (by omega)
    · have e1 : t = 1 + (t - 1) := by omega
      rw [e1]
      by_cases htk : t - 1 < k
      · rw [h1 _ htk, h1' _ htk, e4 _ htk]
      · exact Int32.toInt_inj.mp (by rw [h2 _ (by omega) (by omega), h2' _ (by omega) (by omega)])
noncomputable def t_MD (o : Nat) (gi : Nat → Nat → Int32) (D : s_D) : Prop := (((gi 70 o).toInt = D 0 ∧ (gi 70 (o + 1)).toInt = D 1 ∧ (gi 70 (o + 2)).toInt = D 2) ∧ (gi 70 (o + 4)).toInt = D 4 ∧ (gi 70 (o + 5)).toInt = D 5 ∧ (gi 70 (o + 6)).toInt = D 6 ∧ (gi 70 (o + 7)).toInt = D 7) ∧ (∀ i : Nat, (i : Int) < D 0 → t_prt (fun t => gi 70 (o + 10 + 7 * i + t)) (D (10 + i))) ∧ (∀ j : Nat, 52 ≤ j → (j : Int) < 52 + 5 * D 1 → (gi 70 (o + j)).toInt = D j) ∧ (∀ j : Nat, 82 ≤ j → (j : Int) < 82 + 3 * D 2 → (gi 70 (o + j)).toInt = D j) ∧ (gi 70 (o + 3)).toInt = D 3 ∧ (gi 70 (o + 8)).toInt = D 8
noncomputable def t_Mn (gl : Nat → Nat → Int64) (D : s_D) : Prop := (∀ i : Nat, (i : Int) < D 0 → t_nr (gl 71 (72 + i)) (D (200 + i))) ∧ (∀ i : Nat, (i : Int) < D 1 → t_nr (gl 71 (78 + i)) (D (206 + i))) ∧ ∀ i : Nat, (i : Int) < D 2 → t_nr (gl 71 (84 + i)) (D (212 + i))
noncomputable def t_Mt (gi : Nat → Nat → Int32) (D : s_D) : Prop := (gi 69 20).toInt = 2 * D 221 + 4 * D 222 + 8 * D 223 ∧ (D 221 = 0 ∨ D 221 = 1) ∧ (D 222 = 0 ∨ D 222 = 1) ∧ (D 223 = 0 ∨ D 223 = 1)
noncomputable def t_MF (gi : Nat → Nat → Int32) (f p : Int) : Prop := (gi 69 18).toInt = f ∧ (gi 69 17).toInt = p
noncomputable def t_MR (gi : Nat → Nat → Int32) (gl : Nat → Nat → Int64) (D : s_D) : Prop := t_Cb D ∧ t_MD 1400 gi D ∧ t_Mn gl D ∧ t_Mt gi D
noncomputable def t_MS (b : Nat → Int32) (n q : Nat) (D : s_D) (gi : Nat → Nat → Int32) (gl : Nat → Nat → Int64) : Prop := t_TM b n q gi ∧ t_MR gi gl D ∧ t_MF gi 0 (-1)
section MSL
variable {b : Nat → Int32} {n p q i j k : Nat} {gi g1 g2 g3 : Nat → Nat → Int32} {gl l1 l2 : Nat → Nat → Int64} {D D' : s_D}
theorem t_MD.eq {o : Nat} (h : t_MD o gi D) (e : ∀ j, g1 70 j = gi 70 j) : t_MD o g1 D := by
  have e : g1 70 = gi 70 := funext e
  unfold t_MD; rw [e]; exact h
theorem t_Mn.eq (h : t_Mn gl D) (e : ∀ j, l1 71 j = gl 71 j) : t_Mn l1 D := by
  have e : l1 71 = gl 71 := funext e
  unfold t_Mn; rw [e]; exact h
theorem t_MR.eq (h : t_MR gi gl D) (e : ∀ j, g1 70 j = gi 70 j) (f : ∀ j, l1 71 j = gl 71 j) (e20 : g1 69 20 = gi 69 20) : t_MR g1 l1 D :=
  ⟨h.1, h.2.1.eq e, h.2.2.1.eq f, by unfold t_Mt; rw [e20]; exact h.2.2.2⟩
theorem t_TM.S (h : t_TM b n q gi) : t_Sm b n (s_E b n q) gi := ⟨h.1.1, h.2.1, (s_E_b h.1.2).2⟩
theorem t_TM.eq (h : t_TM b n q gi) (e : ∀ j, g1 76 j = gi 76 j) (e2 : ∀ j, 11 ≤ j → j ≤ 15 → g1 69 j = gi 69 j) : t_TM b n q g1 := by
  have e : g1 76 = gi 76 := funext e
  unfold t_TM t_Tx
  rw [e, e2 11 (by decide) (by decide), e2 12 (by decide) (by decide), e2 13 (by decide) (by decide), e2 14 (by decide) (by decide), e2 15 (by decide) (by decide)]
  exact h
/-- the keywords' numbers, one by one -/
theorem s_mi_all : ((List.range 27).all (fun i => decide (0 ≤ s_mil.getD i 0) && (List.range 27).all (fun j => !(s_mil.getD i 0 == s_mil.getD j 0) || i == j))) = true := by decide +kernel
theorem s_mi_W {i : Nat} (hi : i < 27) : s_mi (s_W b n q) = s_mil.getD i 0 ↔ s_W b n q = some i := by
  constructor
  · intro h
    have h1 := List.all_eq_true.mp s_mi_all i (List.mem_range.mpr hi)
    rw [Bool.and_eq_true, decide_eq_true_eq] at h1
    cases hc : s_W b n q with
    | none => rw [hc] at h; have h : (-1 : Int) = s_mil.getD i 0 := h; omega
    | some j =>
      rw [hc] at h
      have h : s_mil.getD j 0 = s_mil.getD i 0 := h
      have hj : j < 27 := by unfold s_W at hc; split at hc; exact (s_kwm_some hc).1; cases hc
      have h2 := List.all_eq_true.mp h1.2 j (List.mem_range.mpr hj)
      rw [h] at h2
      simp at h2
      rw [h2]
  · intro h; rw [h]; rfl
theorem s_mi_N : s_mi (s_W b n q) = -1 ↔ s_W b n q = none := by
  constructor
  · intro h
    cases hc : s_W b n q with
    | none => rfl
    | some j =>
      exfalso
      rw [hc] at h
      have h : s_mil.getD j 0 = -1 := h
      have hj : j < 27 := by unfold s_W at hc; split at hc; exact (s_kwm_some hc).1; cases hc
      have h1 := List.all_eq_true.mp s_mi_all j (List.mem_range.mpr hj)
      rw [Bool.and_eq_true, decide_eq_true_eq] at h1
      omega
  · intro h; rw [h]; rfl
theorem t_TM.isN (h : t_TM b n q gi) : ((gi 69 12).toInt = 2 ∧ (gi 69 14).toInt - (gi 69 13).toInt ≤ 8 ∧ s_mi (s_W b n q) = -1) ↔ s_isN b n q := by
  have h2 := h.2.1
  have h3 := h.2.2.1
  have h4 := h.2.2.2.1
  have hE := (s_E_b (b := b) h.1.2).1
  unfold s_isN
  rw [s_mi_N]
  constructor
  · rintro ⟨a, c, d⟩; exact ⟨by omega, d, by omega⟩
  · rintro ⟨a, c, d⟩; exact ⟨by omega, by omega, c⟩
theorem t_TM.isS (h : t_TM b n q gi) {c : Int} : ((gi 69 12).toInt = 4 ∧ (gi 69 15).toInt = c) ↔ s_isS b n q c := by
  have h4 := h.2.2.2.1
  have h5 := h.2.2.2.2.2
  unfold s_isS
  constructor
  · rintro ⟨a, d⟩; exact ⟨by omega, by rw [← h5 (by omega)]; exact d⟩
  · rintro ⟨a, d⟩; exact ⟨by omega, by rw [h5 a]; exact d⟩
theorem t_TM.fl (h : t_TM b n q gi) {x : Int} {v : Int32} (e1 : g1 = x_up2 gi 69 18 v) (e2 : g2 = x_up2 g1 69 17 (g1 69 13)) (hv : ((gi 69 12).toInt = 1 ∧ v.toInt = 1) ∨ ((gi 69 12).toInt ≠ 1 ∧ v.toInt = x)) : t_MF g2 (s_fk b n q x) (s_F b n q) := by
  have h4 := h.2.2.2.1
  refine ⟨?_, ?_⟩
  · rw [e2, x_up2_off (Or.inr (by decide)), e1, x_up2_at]
    unfold s_fk
    rcases hv with ⟨a, c⟩ | ⟨a, c⟩
    · rw [if_pos (by omega), c]
    · rw [if_neg (by omega), c]
  · rw [e2, x_up2_at, e1, x_up2_off (Or.inr (by decide))]; exact h.2.2.1
theorem t_TM.vT (h : t_TM b n q gi) {lo hi : Int} (h3 : (gi 69 12).toInt = 3) (h1 : lo ≤ (gi 69 15).toInt) (h2 : (gi 69 15).toInt ≤ hi) : s_isV b n q lo hi ∧ (gi 69 15).toInt = s_V b n q := by
  have h4 := h.2.2.2.1
  have h5 := h.2.2.2.2.1 (by omega)
  unfold s_isV s_V
  rw [← h5]
  exact ⟨⟨by omega, h1, h2⟩, rfl⟩
theorem t_TM.vF (h : t_TM b n q gi) {lo hi : Int} (h3 : (gi 69 12).toInt = 3) (h1 : (gi 69 15).toInt < lo ∨ hi < (gi 69 15).toInt) : s_K b n q = 3 ∧ ¬ s_isV b n q lo hi := by
  have h4 := h.2.2.2.1
  have h5 := h.2.2.2.2.1 (by omega)
  unfold s_isV s_V
  rw [← h5]
  exact ⟨by omega, fun hh => by omega⟩
theorem t_TM.vK (h : t_TM b n q gi) (h3 : (gi 69 12).toInt ≠ 3) : s_K b n q ≠ 3 := by
  have h4 := h.2.2.2.1
  omega
theorem t_TM.isB0 (h : t_TM b n q gi) (h3 : (gi 69 12).toInt = 2) (h5 : (gi 69 14).toInt - (gi 69 13).toInt ≤ 6) : t_BL b n q (gi 69 13) := by
  have h2 := h.2.1
  have h4 := h.2.2.1
  have h6 := h.2.2.2.1
  exact ⟨⟨by omega, by omega⟩, by omega, fun j hj hj2 => by omega⟩
theorem t_TM.isB1 (h : t_TM b n q gi) {y w z : Int32} (hb : t_BL b n q y) (ew : w.toInt = s_at b n y.toNatClampNeg) (hw : w.toInt = 108 ∨ w.toInt = 115) (hz : z.toInt = y.toInt + 1) : t_BL b n q z := by
  obtain ⟨h1, h2, h3⟩ := hb
  have hc := t_clamp (i := y) (by omega)
  refine ⟨h1, by omega, fun j hj hj2 => ?_⟩
  by_cases hji : j = y.toNatClampNeg
  · rw [hji]
    rcases hw with hw | hw
    · exact Or.inl ((s_at_c h.1.1.1.2 (by decide) (by decide)).mp (ew.symm.trans hw)).2
    · exact Or.inr ((s_at_c h.1.1.1.2 (by decide) (by decide)).mp (ew.symm.trans hw)).2
  · exact h3 j hj (by omega)
theorem t_TM.isB2 (h : t_TM b n q gi) {y : Int32} (hb : t_BL b n q y) (hge : (gi 69 14).toInt ≤ y.toInt) : s_isB b n q := ⟨hb.1, fun j hj hj2 => hb.2.2 j hj (by have := h.2.1; omega)⟩
theorem t_TM.isB3 (h : t_TM b n q gi) {P : Prop} (hh : s_isB b n q) (hx : (gi 69 12).toInt ≠ 2 ∨ 6 < (gi 69 14).toInt - (gi 69 13).toInt) : P := by
  exfalso
  have h2 := h.2.1
  have h4 := h.2.2.1
  have h6 := h.2.2.2.1
  have := hh.1
  omega
theorem t_TM.isB4 (h : t_TM b n q gi) {P : Prop} {y w w2 : Int32} (hb : t_BL b n q y) (hh : s_isB b n q) (hlt : y.toInt < (gi 69 14).toInt) (ew : w.toInt = s_at b n y.toNatClampNeg) (ew2 : w2.toInt = s_at b n y.toNatClampNeg) (hw : w.toInt ≠ 108) (hw2 : w2.toInt ≠ 115) : P := by
  exfalso
  have h2 := h.2.1
  have hc := t_clamp (i := y) (by have := hb.2.1; omega)
  have hE := (s_E_b (b := b) h.1.2).2
  have h3 := hh.2 y.toNatClampNeg (by have := hb.2.1; omega) (by omega)
  rcases h3 with h3 | h3
  · exact hw (ew.trans ((s_at_c h.1.1.1.2 (by decide) (by decide)).mpr ⟨by omega, h3⟩))
  · exact hw2 (ew2.trans ((s_at_c h.1.1.1.2 (by decide) (by decide)).mpr ⟨by omega, h3⟩))
/-- the NAME that stands there, so far -/
noncomputable def t_NH (b : Nat → Int32) (n q : Nat) (v : Int64) (x : Int32) : Prop := ((s_F b n q : Nat) : Int) ≤ x.toInt ∧ x.toInt ≤ (s_E b n q : Nat) ∧ v = s_m8 b (s_F b n q) (x.toNatClampNeg - s_F b n q)
theorem t_NH_0 (h : t_TM b n q gi) : t_NH b n q 0 (gi 69 13) := by
  have h4 := h.2.2.1
  have hc := t_clamp (i := gi 69 13) (by omega)
  have hE := (s_E_b (b := b) h.1.2).1
  exact ⟨by omega, by omega, by rw [show (gi 69 13).toNatClampNeg - s_F b n q = 0 by omega]; rfl⟩
theorem t_NH_s (h : t_TM b n q gi) (hK : s_K b n q = 2) {v v1 v2 v' : Int64} {x w z : Int32} (hn : t_NH b n q v x) (hlt : x.toInt < (gi 69 14).toInt) (ew : w.toInt = s_at b n x.toNatClampNeg) (e1 : v1 = v <<< ((8 : Int32).toInt64 &&& 63)) (e2 : v2 = w.toInt64) (e3 : v' = v1 ||| v2) (hz : z.toInt = x.toInt + 1) : t_NH b n q v' z := by
  obtain ⟨h1, h2, h3⟩ := hn
  have hE := h.2.1
  have hEn := (s_E_b (b := b) h.1.2).2
  have hc := t_clamp (i := x) (by omega)
  have hc2 := t_clamp (i := z) (by omega)
  refine ⟨by omega, by omega, ?_⟩
  have hl := s_K2_wd hK (x.toNatClampNeg - s_F b n q) (by omega)
  rw [show s_F b n q + (x.toNatClampNeg - s_F b n q) = x.toNatClampNeg by omega] at hl
  have hb := (s_at_c (i := x.toNatClampNeg) h.1.1.1.2 (c := (b x.toNatClampNeg).toInt) (by omega) (by omega)).mpr ⟨by omega, rfl⟩
  have ewb : w = b x.toNatClampNeg := Int32.toInt_inj.mp (ew.trans hb)
  rw [show z.toNatClampNeg - s_F b n q = (x.toNatClampNeg - s_F b n q) + 1 by omega, e3, e1, e2, h3]
  show _ = s_m8 b (s_F b n q) (x.toNatClampNeg - s_F b n q) <<< ((8 : Int32).toInt64 &&& 63) ||| (b (s_F b n q + (x.toNatClampNeg - s_F b n q))).toInt64
  rw [show s_F b n q + (x.toNatClampNeg - s_F b n q) = x.toNatClampNeg by omega, ewb]
theorem t_NH_e (h : t_TM b n q gi) {v : Int64} {x : Int32} (hn : t_NH b n q v x) (hge : (gi 69 14).toInt ≤ x.toInt) : v = s_m8 b (s_F b n q) (s_E b n q - s_F b n q) := by
  obtain ⟨h1, h2, h3⟩ := hn
  have hE := h.2.1
  have hc := t_clamp (i := x) (by omega)
  rw [h3, show x.toNatClampNeg = s_E b n q by omega]
/-- the first place with this NAME -/
theorem s_fst_n {f : Nat → Int} {x : Int} {m i : Nat} (h : f i ≠ x) : s_fst f x (m + 1) i = s_fst f x m (i + 1) := by show (if f i = x then _ else _) = _; rw [if_neg h]
theorem s_fst_y {f : Nat → Int} {x : Int} {m i : Nat} (h : f i = x) : s_fst f x (m + 1) i = (i : Int) := by show (if f i = x then _ else _) = _; rw [if_pos h]
theorem s_fst_ne {f : Nat → Int} {x : Int} : ∀ {m i : Nat}, s_fst f x m i ≠ -1 ↔ ∃ t, i ≤ t ∧ t < i + m ∧ f t = x
  | 0, i => by
    constructor
    · intro h; exact absurd rfl h
    · rintro ⟨t, h1, h2, _⟩; omega
  | m + 1, i => by
    by_cases h : f i = x
    · rw [s_fst_y h]
      exact ⟨fun _ => ⟨i, Nat.le_refl _, by omega, h⟩, fun _ => by omega⟩
    · rw [s_fst_n h, s_fst_ne]
      constructor
      · rintro ⟨t, h1, h2, h3⟩; exact ⟨t, by omega, by omega, h3⟩
      · rintro ⟨t, h1, h2, h3⟩
        refine ⟨t, ?_, by omega, h3⟩
        by_cases hti : t = i
        · rw [hti] at h3; exact absurd h3 h
        · omega
end MSL
noncomputable def t_mf (gi g1 : Nat → Nat → Int32) : Prop := g1 69 18 = gi 69 18 ∧ g1 69 17 = gi 69 17
section MSL2
variable {b : Nat → Int32} {n p q q' i j k : Nat} {gi g1 g2 g3 : Nat → Nat → Int32} {gl l1 l2 : Nat → Nat → Int64} {D D' : s_D}
/-- a TOKEN more -/
theorem t_MS.tk (h : t_MS b n q D gi gl) (ht : t_TM b n q' g1) (hf : t_mf gi g1) (e : ∀ j, g1 70 j = gi 70 j) (f : ∀ j, l1 71 j = gl 71 j) (e20 : g1 69 20 = gi 69 20) : t_MS b n q' D g1 l1 :=
  ⟨ht, h.2.1.eq e f e20, by rw [hf.1]; exact h.2.2.1, by rw [hf.2]; exact h.2.2.2⟩
/-- which NAMES are taken: by the three searches -/
theorem s_used_f (hb : t_Cb D) {x : Int} : s_used D x ↔ (s_fst (fun i => D (200 + i)) x (D 0).toNat 0 ≠ -1 ∨ s_fst (fun i => D (206 + i)) x (D 1).toNat 0 ≠ -1 ∨ s_fst (fun i => D (212 + i)) x (D 2).toNat 0 ≠ -1) := by
  obtain ⟨⟨b1, b2⟩, ⟨b3, b4⟩, b5, b6⟩ := hb
  rw [s_fst_ne, s_fst_ne, s_fst_ne]
  unfold s_used
  constructor
  · rintro (⟨i, hi, hx⟩ | ⟨i, hi, hx⟩ | ⟨i, hi, hx⟩)
    · exact Or.inl ⟨i, Nat.zero_le _, by omega, hx⟩
    · exact Or.inr (Or.inl ⟨i, Nat.zero_le _, by omega, hx⟩)
    · exact Or.inr (Or.inr ⟨i, Nat.zero_le _, by omega, hx⟩)
  · rintro (⟨i, _, hi, hx⟩ | ⟨i, _, hi, hx⟩ | ⟨i, _, hi, hx⟩)
    · exact Or.inl ⟨i, by omega, hx⟩
    · exact Or.inr (Or.inl ⟨i, by omega, hx⟩)
    · exact Or.inr (Or.inr ⟨i, by omega, hx⟩)
/-- names by 256 found as by 32 -/
theorem t_nr_f {base cnt : Nat} {f : Nat → Int} {m : Int} (h : ∀ i : Nat, (i : Int) < m → t_nr (gl 71 (base + i)) (f i)) (hc : (cnt : Int) = m) (hN : s_isN b n q) : ∀ i, i < cnt → (gl 71 (base + i) = s_m8 b (s_F b n q) (s_E b n q - s_F b n q) ↔ f i = (s_L b n q).toInt) :=
  fun i hi => t_nr_eq (h i (by omega)) hN.2.2 (s_K2_wd hN.1)
theorem t_nr_of (hN : s_isN b n q) : t_nr (s_m8 b (s_F b n q) (s_E b n q - s_F b n q)) (s_L b n q).toInt := ⟨b, _, _, ⟨hN.2.2, s_K2_wd hN.1⟩, rfl, rfl⟩
/-- told already, or not -/
theorem t_told_all : ((List.range 8).all (fun i => (List.range 3).all (fun k => decide (((Int32.ofNat (2 * i)) >>> ((Int32.ofNat (k + 1)) &&& 31) &&& 1).toInt = ((i / 2 ^ k % 2 : Nat) : Int)) && decide (((Int32.ofNat (2 * i)) ||| (Int32.ofNat (2 ^ (k + 1)))).toInt = if i / 2 ^ k % 2 = 1 then 2 * (i : Int) else 2 * (i : Int) + 2 ^ (k + 1))))) = true := by decide +kernel
end MSL2
section MPO
variable {b : Nat → Int32} {n p q q' i j k : Nat} {gi g1 g2 g3 : Nat → Nat → Int32} {gl l1 l2 : Nat → Nat → Int64} {D D' : s_D}
theorem t_pr_cg {f g : Nat → Int32} {x : Int} (h : t_prt f x) (e : ∀ t, t < 7 → g t = f t) : t_prt g x := by
  obtain ⟨b, q, k, h0, h1, h2, h3, h4⟩ := h
  exact ⟨b, q, k, h0, by rw [e 0 (by decide)]; exact h1, fun t ht => by rw [e _ (by omega)]; exact h2 t ht, fun t ht ht6 => by rw [e _ (by omega)]; exact h3 t ht ht6, h4⟩
/-- stores among the places of PORTS to come -/
theorem t_MD.hi (h : t_MD 1400 gi D) (hb : t_Cb D) {m : Nat} {v : Int32} (h1 : 1410 + 7 * D 0 ≤ (m : Int)) (h2 : m < 1452) (e : g1 = x_up2 gi 70 m v) : t_MD 1400 g1 D := by
  have hr : ∀ j, j ≠ m → g1 70 j = gi 70 j := fun j hj => by rw [e, x_up2_off (Or.inr hj)]
  have := hb.1
  obtain ⟨⟨⟨a0, a1, a2⟩, a4, a5, a6, a7⟩, hp, hs, hc, a3, a8⟩ := h
  refine ⟨⟨⟨by rw [hr _ (by omega)]; exact a0, by rw [hr _ (by omega)]; exact a1, by rw [hr _ (by omega)]; exact a2⟩, by rw [hr _ (by omega)]; exact a4, by rw [hr _ (by omega)]; exact a5, by rw [hr _ (by omega)]; exact a6, by rw [hr _ (by omega)]; exact a7⟩, fun i hi => ?_, fun j hj hj2 => ?_, fun j hj hj2 => ?_, by rw [hr _ (by omega)]; exact a3, by rw [hr _ (by omega)]; exact a8⟩
  · exact t_pr_cg (hp i hi) (fun t ht => hr _ (by omega))
  · rw [hr _ (by omega)]; exact hs j hj hj2
  · rw [hr _ (by omega)]; exact hc j hj hj2
noncomputable abbrev s_p3 (b : Nat → Int32) (n q : Nat) : Nat := s_E b n (s_E b n (s_E b n q))
/-- a PORT's NAME and BLASTS are there -/
noncomputable def t_PB (b : Nat → Int32) (n q : Nat) (D : s_D) (gi : Nat → Nat → Int32) (gl : Nat → Nat → Int64) : Prop := (D 0 < 6 ∧ s_isN b n (s_E b n q) ∧ ¬ s_used D (s_L b n (s_E b n q)).toInt ∧ s_W b n (s_E b n (s_E b n q)) = some 1 ∧ s_isB b n (s_p3 b n q)) ∧ t_TM b n (s_p3 b n q) gi ∧ (t_Cb D ∧ t_MD 1400 gi D ∧ (t_Mn gl D ∧ t_nr (gl 71 (72 + (D 0).toNat)) (s_L b n (s_E b n q)).toInt) ∧ t_Mt gi D) ∧ t_MF gi 0 (-1)
/-- its BLASTS, copied to x -/
noncomputable def t_PC (b : Nat → Int32) (n q : Nat) (D : s_D) (x : Int32) (gi : Nat → Nat → Int32) : Prop := (gi 70 (1410 + 7 * (D 0).toNat)).toInt = ((s_E b n (s_p3 b n q) : Nat) : Int) - (s_F b n (s_p3 b n q) : Nat) ∧ ∀ t : Nat, (t : Int) < x.toInt → t < 6 → (gi 70 (1410 + 7 * (D 0).toNat + (1 + t))).toInt = if t < s_E b n (s_p3 b n q) - s_F b n (s_p3 b n q) then (b (s_F b n (s_p3 b n q) + t)).toInt else 0
theorem t_PB.up (h : t_PB b n q D gi gl) {m : Nat} {v : Int32} (h1 : 1410 + 7 * D 0 ≤ (m : Int)) (h2 : m < 1452) (e : g1 = x_up2 gi 70 m v) : t_PB b n q D g1 gl := by
  obtain ⟨ha, ht, ⟨hb, hd, hn, hm⟩, hf⟩ := h
  have e69 : g1 69 = gi 69 := by rw [e, x_up2_ne (by decide)]
  refine ⟨ha, ht.eq (fun j => by rw [e, x_up2_ne (by decide)]) (fun j _ _ => by rw [e69]), ⟨hb, hd.hi hb h1 h2 e, hn, by unfold t_Mt; rw [e69]; exact hm⟩, by unfold t_MF; rw [e69]; exact hf⟩
theorem t_PC_0 (ht : t_TM b n (s_p3 b n q) gi) {m : Nat} {v : Int32} (hm : (m : Int) = 1410 + 7 * D 0) (hb : 0 ≤ D 0) (hv : v.toInt = (gi 69 14).toInt - (gi 69 13).toInt) (e : g1 = x_up2 gi 70 m v) : t_PC b n q D 0 g1 := by
  refine ⟨?_, fun t ht0 => absurd ht0 (by have : (0 : Int32).toInt = 0 := rfl; omega)⟩
  rw [e, show 1410 + 7 * (D 0).toNat = m by omega, x_up2_at, hv, ht.2.1, ht.2.2.1]
theorem t_PC_s {x z v : Int32} {m : Nat} (h : t_PC b n q D x gi) (h0 : 0 ≤ x.toInt) (h6 : x.toInt < 6) (hz : z.toInt = x.toInt + 1) (hm : (m : Int) = 1411 + 7 * D 0 + x.toInt) (hb : 0 ≤ D 0) (hv : v.toInt = if x.toInt < ((s_E b n (s_p3 b n q) : Nat) : Int) - (s_F b n (s_p3 b n q) : Nat) then (b (s_F b n (s_p3 b n q) + x.toNatClampNeg)).toInt else 0) (e : g1 = x_up2 gi 70 m v) : t_PC b n q D z g1 := by
  obtain ⟨h1, h2⟩ := h
  have hc := t_clamp h0
  refine ⟨by rw [e, x_up2_off (Or.inr (by omega))]; exact h1, fun t ht ht6 => ?_⟩
  by_cases htx : t = x.toNatClampNeg
  · rw [e, show 1410 + 7 * (D 0).toNat + (1 + t) = m by omega, x_up2_at, hv, htx]
    by_cases hl : x.toNatClampNeg < s_E b n (s_p3 b n q) - s_F b n (s_p3 b n q)
    · rw [if_pos (by omega), if_pos hl]
    · rw [if_neg (by omega), if_neg hl]
  · rw [e, x_up2_off (Or.inr (by omega))]; exact h2 t (by omega) ht6
/-- the row of the new PORT -/
theorem t_PC_p {x : Int32} (h : t_PC b n q D x gi) (hB : s_isB b n (s_p3 b n q)) (hx : 6 ≤ x.toInt) : t_prt (fun t => gi 70 (1410 + 7 * (D 0).toNat + t)) (s_L b n (s_p3 b n q)).toInt := by
  obtain ⟨h1, h2⟩ := h
  have hw := s_K2_wd hB.1.1
  refine ⟨b, s_F b n (s_p3 b n q), s_E b n (s_p3 b n q) - s_F b n (s_p3 b n q), ⟨hB.1.2, hw, fun t ht => hB.2 _ (by omega) (by omega)⟩, ?_, fun t ht => ?_, fun t ht ht6 => ?_, rfl⟩
  · show (gi 70 (1410 + 7 * (D 0).toNat)).toInt = _
    rw [h1]
    have := hB.1.2
    by_cases hEF : s_F b n (s_p3 b n q) ≤ s_E b n (s_p3 b n q)
    · omega
    · exfalso
      have hK := hB.1.1
      unfold s_K at hK
      have hF : s_F b n (s_p3 b n q) ≤ s_E b n (s_p3 b n q) := by
        unfold s_E
        split
        · exact Nat.le_refl _
        split
        · exact s_rn_b.1
        split
        · exact s_rn_b.1
        · omega
      exact hEF hF
  · have := hB.1.2
    have h3 := h2 t (by omega) (by omega)
    rw [if_pos ht] at h3
    exact Int32.toInt_inj.mp h3
  · have h3 := h2 t (by omega) ht6
    rw [if_neg (by omega)] at h3
    exact h3
/-- a PORT more -/
theorem t_MS_port (h : t_PB b n q D gi gl) (hr : t_prt (fun t => gi 70 (1410 + 7 * (D 0).toNat + t)) (s_L b n (s_p3 b n q)).toInt) (ht : t_TM b n q' g1) (hf : t_mf gi g1) (e : ∀ j, g1 70 j = gi 70 j) (f : ∀ j, l1 71 j = gl 71 j) (e20 : g1 69 20 = gi 69 20) {v : Int32} (hv : v.toInt = (g1 70 1400).toInt + 1) (e2 : g2 = x_up2 g1 70 1400 v) : t_MS b n q' (s_addP D (s_L b n (s_E b n q)).toInt (s_L b n (s_p3 b n q)).toInt) g2 l1 := by
  obtain ⟨⟨h6, _⟩, _, ⟨hb, hd, ⟨hn, hnn⟩, hm⟩, hmf⟩ := h
  have e69 : g2 69 = g1 69 := by rw [e2, x_up2_ne (by decide)]
  have hr2 : ∀ j, j ≠ 1400 → g2 70 j = gi 70 j := fun j hj => by rw [e2, x_up2_off (Or.inr hj), e]
  have hl : ∀ j, l1 71 j = gl 71 j := f
  obtain ⟨⟨⟨a0, a1, a2⟩, a4, a5, a6, a7⟩, hp, hs, hc, a3, a8⟩ := hd
  obtain ⟨⟨b1, b2⟩, ⟨b3, b4⟩, b5, b6⟩ := id hb
  have z0 : s_addP D (s_L b n (s_E b n q)).toInt (s_L b n (s_p3 b n q)).toInt 0 = D 0 + 1 := if_pos rfl
  have ao : ∀ j : Nat, j ≠ 0 → (j < 10 ∨ (16 ≤ j ∧ j < 200) ∨ 206 ≤ j) → s_addP D (s_L b n (s_E b n q)).toInt (s_L b n (s_p3 b n q)).toInt j = D j := fun j h0 hj => s_addP_o h0 (by omega) (by omega)
  have ez : (g2 70 1400).toInt = D 0 + 1 := by rw [e2, x_up2_at, hv, e, a0]
  refine ⟨ht.eq (fun j => by rw [e2, x_up2_ne (by decide)]) (fun j _ _ => by rw [e69]), ⟨⟨⟨by rw [z0]; omega, by rw [z0]; omega⟩, ⟨by rw [ao 1 (by decide) (by omega)]; exact b3, by rw [ao 1 (by decide) (by omega)]; exact b4⟩, by rw [ao 2 (by decide) (by omega)]; exact b5, by rw [ao 2 (by decide) (by omega)]; exact b6⟩, ⟨⟨⟨by rw [z0]; exact ez, ?_, ?_⟩, ?_, ?_, ?_, ?_⟩, fun i hi => ?_, fun j hj hj2 => ?_, fun j hj hj2 => ?_, by rw [hr2 _ (by decide), ao 3 (by decide) (by omega)]; exact a3, by rw [hr2 _ (by decide), ao 8 (by decide) (by omega)]; exact a8⟩, ⟨fun i hi => ?_, fun i hi => ?_, fun i hi => ?_⟩, ?_⟩, by unfold t_MF; rw [e69, hf.1, hf.2]; exact hmf⟩
  · rw [hr2 _ (by decide), ao 1 (by decide) (by omega)]; exact a1
  · rw [hr2 _ (by decide), ao 2 (by decide) (by omega)]; exact a2
  · rw [hr2 _ (by decide), ao 4 (by decide) (by omega)]; exact a4
  · rw [hr2 _ (by decide), ao 5 (by decide) (by omega)]; exact a5
  · rw [hr2 _ (by decide), ao 6 (by decide) (by omega)]; exact a6
  · rw [hr2 _ (by decide), ao 7 (by decide) (by omega)]; exact a7
  · rw [z0] at hi
    by_cases hid : i = (D 0).toNat
    · have hx : s_addP D (s_L b n (s_E b n q)).toInt (s_L b n (s_p3 b n q)).toInt (10 + i) = (s_L b n (s_p3 b n q)).toInt := by unfold s_addP; rw [if_neg (by omega), if_neg (by omega), if_pos (by omega)]
      rw [hx]
      refine t_pr_cg hr (fun t ht7 => ?_)
      show g2 70 (1400 + 10 + 7 * i + t) = gi 70 (1410 + 7 * (D 0).toNat + t)
      rw [hr2 _ (by omega), hid, show 1400 + 10 + 7 * (D 0).toNat + t = 1410 + 7 * (D 0).toNat + t by omega]
    · rw [s_addP_o (by omega) (by omega) (by omega)]
      exact t_pr_cg (hp i (by omega)) (fun t _ => hr2 _ (by omega))
  · rw [ao 1 (by decide) (by omega)] at hj2
    rw [hr2 _ (by omega), ao j (by omega) (by omega)]
    exact hs j hj hj2
  · rw [ao 2 (by decide) (by omega)] at hj2
    rw [hr2 _ (by omega), ao j (by omega) (by omega)]
    exact hc j hj hj2
  · rw [z0] at hi
    by_cases hid : i = (D 0).toNat
    · have hx : s_addP D (s_L b n (s_E b n q)).toInt (s_L b n (s_p3 b n q)).toInt (200 + i) = (s_L b n (s_E b n q)).toInt := by unfold s_addP; rw [if_neg (by omega), if_pos (by omega)]
      rw [hx, hl, hid]; exact hnn
    · rw [s_addP_o (by omega) (by omega) (by omega), hl]; exact hn.1 i (by omega)
  · rw [ao 1 (by decide) (by omega)] at hi
    rw [ao _ (by omega) (by omega), hl]; exact hn.2.1 i hi
  · rw [ao 2 (by decide) (by omega)] at hi
    rw [ao _ (by omega) (by omega), hl]; exact hn.2.2 i hi
  · unfold t_Mt
    rw [e69, e20, ao 221 (by decide) (by omega), ao 222 (by decide) (by omega), ao 223 (by decide) (by omega)]; exact hm
end MPO
section MSH
variable {b : Nat → Int32} {n p q q' i j k : Nat} {gi g1 : Nat → Nat → Int32} {gl l1 : Nat → Nat → Int64} {D D' : s_D}
theorem t_TM.st (h : t_TM b n q gi) {m : Nat} {v : Int32} (e : g1 = x_up2 gi 70 m v) : t_TM b n q g1 := h.eq (fun j => by rw [e, x_up2_ne (by decide)]) (fun j _ _ => by rw [e, x_up2_ne (by decide)])
/-- a SHIP more -/
theorem t_MS_ship (h : t_MS b n q D gi gl) (h6 : D 1 < 6) (hN : s_isN b n (s_E b n q)) (ht : t_TM b n q' g1) (hf : t_mf gi g1) {po at_ ta co sa : Int} {d : Nat} (hd : (d : Int) = D 1) (r : ∀ j, j ≠ 1401 → (j < 1452 + 5 * d ∨ 1457 + 5 * d ≤ j) → g1 70 j = gi 70 j) (r1 : (g1 70 1401).toInt = D 1 + 1) (v0 : (g1 70 (1452 + 5 * d)).toInt = po) (v1 : (g1 70 (1453 + 5 * d)).toInt = at_) (v2 : (g1 70 (1454 + 5 * d)).toInt = ta) (v3 : (g1 70 (1455 + 5 * d)).toInt = co) (v4 : (g1 70 (1456 + 5 * d)).toInt = sa) (hl : ∀ j : Nat, l1 71 j = if j = 78 + d then s_m8 b (s_F b n (s_E b n q)) (s_E b n (s_E b n q) - s_F b n (s_E b n q)) else gl 71 j) (e20 : g1 69 20 = gi 69 20) : t_MS b n q' (s_addS D (s_L b n (s_E b n q)).toInt po at_ ta co sa) g1 l1 := by
  obtain ⟨_, ⟨hb, hd0, hn, hm⟩, hmf⟩ := h
  have hcn : (D 1).toNat = d := by omega
  obtain ⟨⟨⟨a0, a1, a2⟩, a4, a5, a6, a7⟩, hp, hs, hc, a3, a8⟩ := hd0
  obtain ⟨⟨b1, b2⟩, ⟨b3, b4⟩, b5, b6⟩ := id hb
  have ao : ∀ j : Nat, j ≠ 1 → (j < 52 ∨ (82 ≤ j ∧ j < 206) ∨ 212 ≤ j) → s_addS D (s_L b n (s_E b n q)).toInt po at_ ta co sa j = D j := fun j h1 hj => s_addS_o hb h1 (by omega) (by omega)
  refine ⟨ht, ⟨⟨⟨by rw [ao 0 (by decide) (by omega)]; exact b1, by rw [ao 0 (by decide) (by omega)]; exact b2⟩, ⟨by rw [s_addS_1]; omega, by rw [s_addS_1]; omega⟩, by rw [ao 2 (by decide) (by omega)]; exact b5, by rw [ao 2 (by decide) (by omega)]; exact b6⟩, ⟨⟨⟨?_, by rw [s_addS_1]; exact r1, ?_⟩, ?_, ?_, ?_, ?_⟩, fun i hi => ?_, fun j hj hj2 => ?_, fun j hj hj2 => ?_, by rw [r _ (by decide) (by omega), ao 3 (by decide) (by omega)]; exact a3, by rw [r _ (by decide) (by omega), ao 8 (by decide) (by omega)]; exact a8⟩, ⟨fun i hi => ?_, fun i hi => ?_, fun i hi => ?_⟩, ?_⟩, by unfold t_MF; rw [hf.1, hf.2]; exact hmf⟩
  · rw [r _ (by decide) (by omega), ao 0 (by decide) (by omega)]; exact a0
  · rw [r _ (by decide) (by omega), ao 2 (by decide) (by omega)]; exact a2
  · rw [r _ (by decide) (by omega), ao 4 (by decide) (by omega)]; exact a4
  · rw [r _ (by decide) (by omega), ao 5 (by decide) (by omega)]; exact a5
  · rw [r _ (by decide) (by omega), ao 6 (by decide) (by omega)]; exact a6
  · rw [r _ (by decide) (by omega), ao 7 (by decide) (by omega)]; exact a7
  · rw [ao 0 (by decide) (by omega)] at hi
    rw [ao _ (by omega) (by omega)]
    exact t_pr_cg (hp i hi) (fun t ht7 => r _ (by omega) (by omega))
  · rw [s_addS_1] at hj2
    by_cases hjd : j < 52 + 5 * d
    · rw [r _ (by omega) (by omega), s_addS_o hb (by omega) (by omega) (by omega)]; exact hs j hj (by omega)
    · obtain ⟨_, z1, z2, z3, z4, z5⟩ := s_addS_n (nm := (s_L b n (s_E b n q)).toInt) (po := po) (at_ := at_) (ta := ta) (co := co) (sa := sa) hb
      rw [hcn] at z1 z2 z3 z4 z5
      have hj5 : j = 52 + 5 * d ∨ j = 53 + 5 * d ∨ j = 54 + 5 * d ∨ j = 55 + 5 * d ∨ j = 56 + 5 * d := by omega
      rcases hj5 with e | e | e | e | e
      · rw [e, z1, show 1400 + (52 + 5 * d) = 1452 + 5 * d by omega]; exact v0
      · rw [e, z2, show 1400 + (53 + 5 * d) = 1453 + 5 * d by omega]; exact v1
      · rw [e, z3, show 1400 + (54 + 5 * d) = 1454 + 5 * d by omega]; exact v2
      · rw [e, z4, show 1400 + (55 + 5 * d) = 1455 + 5 * d by omega]; exact v3
      · rw [e, z5, show 1400 + (56 + 5 * d) = 1456 + 5 * d by omega]; exact v4
  · rw [ao 2 (by decide) (by omega)] at hj2
    rw [r _ (by omega) (by omega), ao j (by omega) (by omega)]
    exact hc j hj hj2
  · rw [ao 0 (by decide) (by omega)] at hi
    rw [ao _ (by omega) (by omega), hl, if_neg (by omega)]; exact hn.1 i hi
  · rw [s_addS_1] at hi
    by_cases hid : i = d
    · have z := (s_addS_n (nm := (s_L b n (s_E b n q)).toInt) (po := po) (at_ := at_) (ta := ta) (co := co) (sa := sa) hb).1
      rw [hcn] at z
      rw [hid, z, hl, if_pos rfl]; exact t_nr_of hN
    · rw [s_addS_o hb (by omega) (by omega) (by omega), hl, if_neg (by omega)]; exact hn.2.1 i (by omega)
  · rw [ao 2 (by decide) (by omega)] at hi
    rw [ao _ (by omega) (by omega), hl, if_neg (by omega)]; exact hn.2.2 i hi
  · unfold t_Mt
    rw [e20, ao 221 (by decide) (by omega), ao 222 (by decide) (by omega), ao 223 (by decide) (by omega)]; exact hm
/-- a CART more -/
theorem t_MS_cart (h : t_MS b n q D gi gl) (h6 : D 2 < 6) (hN : s_isN b n (s_E b n q)) (ht : t_TM b n q' g1) (hf : t_mf gi g1) {at_ ta co : Int} {d : Nat} (hd : (d : Int) = D 2) (r : ∀ j, j ≠ 1402 → (j < 1482 + 3 * d ∨ 1485 + 3 * d ≤ j) → g1 70 j = gi 70 j) (r1 : (g1 70 1402).toInt = D 2 + 1) (v1 : (g1 70 (1482 + 3 * d)).toInt = at_) (v2 : (g1 70 (1483 + 3 * d)).toInt = ta) (v3 : (g1 70 (1484 + 3 * d)).toInt = co) (hl : ∀ j : Nat, l1 71 j = if j = 84 + d then s_m8 b (s_F b n (s_E b n q)) (s_E b n (s_E b n q) - s_F b n (s_E b n q)) else gl 71 j) (e20 : g1 69 20 = gi 69 20) : t_MS b n q' (s_addC D (s_L b n (s_E b n q)).toInt at_ ta co) g1 l1 := by
  obtain ⟨_, ⟨hb, hd0, hn, hm⟩, hmf⟩ := h
  have hcn : (D 2).toNat = d := by omega
  obtain ⟨⟨⟨a0, a1, a2⟩, a4, a5, a6, a7⟩, hp, hs, hc, a3, a8⟩ := hd0
  obtain ⟨⟨b1, b2⟩, ⟨b3, b4⟩, b5, b6⟩ := id hb
  have ao : ∀ j : Nat, j ≠ 2 → (j < 82 ∨ (100 ≤ j ∧ j < 212) ∨ 218 ≤ j) → s_addC D (s_L b n (s_E b n q)).toInt at_ ta co j = D j := fun j h1 hj => s_addC_o h1 (by omega) (by omega)
  refine ⟨ht, ⟨⟨⟨by rw [ao 0 (by decide) (by omega)]; exact b1, by rw [ao 0 (by decide) (by omega)]; exact b2⟩, ⟨by rw [ao 1 (by decide) (by omega)]; exact b3, by rw [ao 1 (by decide) (by omega)]; exact b4⟩, by rw [s_addC_2]; omega, by rw [s_addC_2]; omega⟩, ⟨⟨⟨?_, ?_, by rw [s_addC_2]; exact r1⟩, ?_, ?_, ?_, ?_⟩, fun i hi => ?_, fun j hj hj2 => ?_, fun j hj hj2 => ?_, by rw [r _ (by decide) (by omega), ao 3 (by decide) (by omega)]; exact a3, by rw [r _ (by decide) (by omega), ao 8 (by decide) (by omega)]; exact a8⟩, ⟨fun i hi => ?_, fun i hi => ?_, fun i hi => ?_⟩, ?_⟩, by unfold t_MF; rw [hf.1, hf.2]; exact hmf⟩
  · rw [r _ (by decide) (by omega), ao 0 (by decide) (by omega)]; exact a0
  · rw [r _ (by decide) (by omega), ao 1 (by decide) (by omega)]; exact a1
  · rw [r _ (by decide) (by omega), ao 4 (by decide) (by omega)]; exact a4
  · rw [r _ (by decide) (by omega), ao 5 (by decide) (by omega)]; exact a5
  · rw [r _ (by decide) (by omega), ao 6 (by decide) (by omega)]; exact a6
  · rw [r _ (by decide) (by omega), ao 7 (by decide) (by omega)]; exact a7
  · rw [ao 0 (by decide) (by omega)] at hi
    rw [ao _ (by omega) (by omega)]
    exact t_pr_cg (hp i hi) (fun t ht7 => r _ (by omega) (by omega))
  · rw [ao 1 (by decide) (by omega)] at hj2
    rw [r _ (by omega) (by omega), ao j (by omega) (by omega)]
    exact hs j hj hj2
  · rw [s_addC_2] at hj2
    by_cases hjd : j < 82 + 3 * d
    · rw [r _ (by omega) (by omega), s_addC_o (by omega) (by omega) (by omega)]; exact hc j hj (by omega)
    · obtain ⟨_, z1, z2, z3⟩ := s_addC_n (nm := (s_L b n (s_E b n q)).toInt) (at_ := at_) (ta := ta) (co := co) hb
      rw [hcn] at z1 z2 z3
      have hj5 : j = 82 + 3 * d ∨ j = 83 + 3 * d ∨ j = 84 + 3 * d := by omega
      rcases hj5 with e | e | e
      · rw [e, z1, show 1400 + (82 + 3 * d) = 1482 + 3 * d by omega]; exact v1
      · rw [e, z2, show 1400 + (83 + 3 * d) = 1483 + 3 * d by omega]; exact v2
      · rw [e, z3, show 1400 + (84 + 3 * d) = 1484 + 3 * d by omega]; exact v3
  · rw [ao 0 (by decide) (by omega)] at hi
    rw [ao _ (by omega) (by omega), hl, if_neg (by omega)]; exact hn.1 i hi
  · rw [ao 1 (by decide) (by omega)] at hi
    rw [ao _ (by omega) (by omega), hl, if_neg (by omega)]; exact hn.2.1 i hi
  · rw [s_addC_2] at hi
    by_cases hid : i = d
    · have z := (s_addC_n (nm := (s_L b n (s_E b n q)).toInt) (at_ := at_) (ta := ta) (co := co) hb).1
      rw [hcn] at z
      rw [hid, z, hl, if_pos rfl]; exact t_nr_of hN
    · rw [s_addC_o (by omega) (by omega) (by omega), hl, if_neg (by omega)]; exact hn.2.2 i (by omega)
  · unfold t_Mt
    rw [e20, ao 221 (by decide) (by omega), ao 222 (by decide) (by omega), ao 223 (by decide) (by omega)]; exact hm
/-- numbers told -/
theorem t_MS_tel (h : t_MS b n q D gi gl) (ht : t_TM b n q' g1) (hf : t_mf gi g1) (r : ∀ j, (j < 1404 ∨ 1408 ≤ j) → g1 70 j = gi 70 j) (v4 : (g1 70 1404).toInt = D' 4) (v5 : (g1 70 1405).toInt = D' 5) (v6 : (g1 70 1406).toInt = D' 6) (v7 : (g1 70 1407).toInt = D' 7) (hl : ∀ j : Nat, l1 71 j = gl 71 j) (hD : ∀ j : Nat, (j < 4 ∨ (8 ≤ j ∧ j < 221) ∨ 224 ≤ j) → D' j = D j) (hm : t_Mt g1 D') : t_MS b n q' D' g1 l1 := by
  obtain ⟨_, ⟨hb, hd0, hn, _⟩, hmf⟩ := h
  obtain ⟨⟨⟨a0, a1, a2⟩, _⟩, hp, hs, hc, a3, a8⟩ := hd0
  obtain ⟨⟨b1, b2⟩, ⟨b3, b4⟩, b5, b6⟩ := id hb
  have d0 := hD 0 (by omega)
  have d1 := hD 1 (by omega)
  have d2 := hD 2 (by omega)
  refine ⟨ht, ⟨⟨⟨by omega, by omega⟩, ⟨by omega, by omega⟩, by omega, by omega⟩, ⟨⟨⟨by rw [r _ (by omega), d0]; exact a0, by rw [r _ (by omega), d1]; exact a1, by rw [r _ (by omega), d2]; exact a2⟩, v4, v5, v6, v7⟩, fun i hi => ?_, fun j hj hj2 => ?_, fun j hj hj2 => ?_, by rw [r _ (by omega), hD 3 (by omega)]; exact a3, by rw [r _ (by omega), hD 8 (by omega)]; exact a8⟩, ⟨fun i hi => ?_, fun i hi => ?_, fun i hi => ?_⟩, hm⟩, by unfold t_MF; rw [hf.1, hf.2]; exact hmf⟩
  · rw [d0] at hi
    rw [hD _ (by omega)]
    exact t_pr_cg (hp i hi) (fun t ht7 => r _ (by omega))
  · rw [d1] at hj2
    rw [r _ (by omega), hD _ (by omega)]; exact hs j hj hj2
  · rw [d2] at hj2
    rw [r _ (by omega), hD _ (by omega)]; exact hc j hj hj2
  · rw [d0] at hi; rw [hl, hD _ (by omega)]; exact hn.1 i hi
  · rw [d1] at hi; rw [hl, hD _ (by omega)]; exact hn.2.1 i hi
  · rw [d2] at hi; rw [hl, hD _ (by omega)]; exact hn.2.2 i hi
theorem t_mtb {x z1 z2 : Int32} {k : Int32} (hm : t_Mt gi D) (hx : x = gi 69 20) {kk : Nat} (hk : k.toInt = (kk : Int) + 1) (hkk : kk < 3) (e1 : z1 = x >>> (k &&& 31)) (e2 : z2 = z1 &&& 1) : z2.toInt = D (221 + kk) := by
  obtain ⟨h0, h1, h2, h3⟩ := hm
  have hi : x = Int32.ofNat (2 * ((gi 69 20).toInt.toNat / 2)) := by
    have h4 : (Int32.ofNat (2 * ((gi 69 20).toInt.toNat / 2))).toInt = ((2 * ((gi 69 20).toInt.toNat / 2) : Nat) : Int) := Int32.toInt_ofNat_of_lt (by omega)
    exact Int32.toInt_inj.mp (by rw [hx, h4]; omega)
  have hkI : k = Int32.ofNat (kk + 1) := by
    have h4 : (Int32.ofNat (kk + 1)).toInt = ((kk + 1 : Nat) : Int) := Int32.toInt_ofNat_of_lt (by omega)
    exact Int32.toInt_inj.mp (by rw [hk, h4]; omega)
  have hA := List.all_eq_true.mp t_told_all ((gi 69 20).toInt.toNat / 2) (List.mem_range.mpr (by omega))
  have hB := List.all_eq_true.mp hA kk (List.mem_range.mpr hkk)
  rw [Bool.and_eq_true, decide_eq_true_eq, decide_eq_true_eq, ← hi, ← hkI] at hB
  rw [e2, e1, hB.1]
  have hk3 : kk = 0 ∨ kk = 1 ∨ kk = 2 := by omega
  rcases hk3 with rfl | rfl | rfl
  · show (((gi 69 20).toInt.toNat / 2 / 2 ^ 0 % 2 : Nat) : Int) = D 221; omega
  · show (((gi 69 20).toInt.toNat / 2 / 2 ^ 1 % 2 : Nat) : Int) = D 222; omega
  · show (((gi 69 20).toInt.toNat / 2 / 2 ^ 2 % 2 : Nat) : Int) = D 223; omega
theorem t_mts {x z1 z2 : Int32} {k : Int32} (hm : t_Mt gi D) (hx : x = gi 69 20) {kk : Nat} (hk : k.toInt = (kk : Int) + 1) (hkk : kk < 3) (h0 : D (221 + kk) = 0) {p : Int} (hp : p = 2 ^ (kk + 1)) (e1 : z1.toInt = p) (e2 : z2 = x ||| z1) : z2.toInt = (gi 69 20).toInt + 2 ^ (kk + 1) := by
  obtain ⟨h0', h1, h2, h3⟩ := hm
  have hi : x = Int32.ofNat (2 * ((gi 69 20).toInt.toNat / 2)) := by
    have h4 : (Int32.ofNat (2 * ((gi 69 20).toInt.toNat / 2))).toInt = ((2 * ((gi 69 20).toInt.toNat / 2) : Nat) : Int) := Int32.toInt_ofNat_of_lt (by omega)
    exact Int32.toInt_inj.mp (by rw [hx, h4]; omega)
  have hkI : k = Int32.ofNat (kk + 1) := by
    have h4 : (Int32.ofNat (kk + 1)).toInt = ((kk + 1 : Nat) : Int) := Int32.toInt_ofNat_of_lt (by omega)
    exact Int32.toInt_inj.mp (by rw [hk, h4]; omega)
  have hA := List.all_eq_true.mp t_told_all ((gi 69 20).toInt.toNat / 2) (List.mem_range.mpr (by omega))
  have hB := List.all_eq_true.mp hA kk (List.mem_range.mpr hkk)
  have hz : z1 = Int32.ofNat (2 ^ (kk + 1)) := by
    have hk3 : kk = 0 ∨ kk = 1 ∨ kk = 2 := by omega
    rcases hk3 with rfl | rfl | rfl <;> exact Int32.toInt_inj.mp (by rw [e1, hp]; rfl)
  rw [Bool.and_eq_true, decide_eq_true_eq, decide_eq_true_eq, ← hi, ← hkI, ← hz] at hB
  rw [e2, hB.2]
  have hk3 : kk = 0 ∨ kk = 1 ∨ kk = 2 := by omega
  rcases hk3 with rfl | rfl | rfl
  · have h0 : D 221 = 0 := h0
    rw [if_neg (by show ¬ ((gi 69 20).toInt.toNat / 2 / 2 ^ 0 % 2 = 1); omega)]
    show 2 * (((gi 69 20).toInt.toNat / 2 : Nat) : Int) + 2 = (gi 69 20).toInt + 2; omega
  · have h0 : D 222 = 0 := h0
    rw [if_neg (by show ¬ ((gi 69 20).toInt.toNat / 2 / 2 ^ 1 % 2 = 1); omega)]
    show 2 * (((gi 69 20).toInt.toNat / 2 : Nat) : Int) + 4 = (gi 69 20).toInt + 4; omega
  · have h0 : D 223 = 0 := h0
    rw [if_neg (by show ¬ ((gi 69 20).toInt.toNat / 2 / 2 ^ 2 % 2 = 1); omega)]
    show 2 * (((gi 69 20).toInt.toNat / 2 : Nat) : Int) + 8 = (gi 69 20).toInt + 8; omega
end MSH
section MRV
variable {b : Nat → Int32} {n p q q' m : Nat} {gi g1 : Nat → Nat → Int32} {gl l1 : Nat → Nat → Int64} {D D' : s_D} {x : Int}
theorem s_semi_b1 (hx : x ≠ 0) (hp : s_part b n p D = s_bad b n q x D') : s_semi b n (s_part b n p D) = s_bad b n q x D' := by
  have h1 : ¬ (s_bad b n q x D').1.1 = 0 := s_fk_ne hx
  rw [hp]; unfold s_semi; rw [s_ifF h1]
theorem s_semi_b2 (hp : s_part b n p D = s_ok q D') (hs : ¬ s_isS b n q 59) : s_semi b n (s_part b n p D) = s_bad b n q 2 D' := by
  rw [hp]; unfold s_semi; rw [s_ifT (show (s_ok q D').1.1 = 0 from rfl), s_ifF (show ¬ s_isS b n (s_ok q D').2.1 59 from hs)]; rfl
theorem s_rv_y (hK : s_K b n p ≠ 0) (h : s_semi b n (s_part b n p D) = s_ok q D') : s_rv b n (m + 1) p D = s_rv b n m q D' := by
  show s_if _ _ _ = _
  rw [s_ifF hK, h, s_ifT (show (s_ok q D').1.1 = 0 from rfl)]; rfl
theorem s_rv_n (hK : s_K b n p ≠ 0) (hx : x ≠ 0) (h : s_semi b n (s_part b n p D) = s_bad b n q x D') : s_rv b n (m + 1) p D = s_bad b n q x D' := by
  have h1 : ¬ (s_bad b n q x D').1.1 = 0 := s_fk_ne hx
  show s_if _ _ _ = _
  rw [s_ifF hK, h, s_ifF h1]
/-- the begin: nothing is told -/
theorem t_MS_0 (ht : t_TM b n 0 gi) (hz : ∀ j : Nat, j < 350 → j ≠ 4 → (gi 70 (1400 + j)).toInt = 0) (h5 : (gi 70 1404).toInt = 5) (h20 : (gi 69 20).toInt = 0) (hf : t_MF gi 0 (-1)) : t_MS b n 0 s_D0 gi gl := by
  refine ⟨ht, ⟨⟨⟨by decide, by decide⟩, ⟨by decide, by decide⟩, by decide, by decide⟩, ⟨⟨⟨hz 0 (by decide) (by decide), hz 1 (by decide) (by decide), hz 2 (by decide) (by decide)⟩, h5, hz 5 (by decide) (by decide), hz 6 (by decide) (by decide), hz 7 (by decide) (by decide)⟩, fun i hi => ?_, fun j hj hj2 => ?_, fun j hj hj2 => ?_, hz 3 (by decide) (by decide), hz 8 (by decide) (by decide)⟩, ⟨fun i hi => ?_, fun i hi => ?_, fun i hi => ?_⟩, ⟨h20, by decide, by decide, by decide⟩⟩, hf⟩
  · have hi : (i : Int) < 0 := hi
    omega
  · have hj2 : (j : Int) < 52 + 5 * 0 := hj2
    omega
  · have hj2 : (j : Int) < 82 + 3 * 0 := hj2
    omega
  · have hi : (i : Int) < 0 := hi
    omega
  · have hi : (i : Int) < 0 := hi
    omega
  · have hi : (i : Int) < 0 := hi
    omega
/-- a slot copied -/
theorem t_MD_cp (h : t_MD 1400 gi D) (hb : t_Cb D) (e : ∀ j : Nat, j < 350 → g1 70 j = gi 70 (1400 + j)) : t_MD 0 g1 D := by
  obtain ⟨⟨⟨a0, a1, a2⟩, a4, a5, a6, a7⟩, hp, hs, hc, a3, a8⟩ := h
  obtain ⟨⟨b1, b2⟩, ⟨b3, b4⟩, b5, b6⟩ := hb
  refine ⟨⟨⟨by rw [e _ (by decide)]; exact a0, by rw [e _ (by decide)]; exact a1, by rw [e _ (by decide)]; exact a2⟩, by rw [e _ (by decide)]; exact a4, by rw [e _ (by decide)]; exact a5, by rw [e _ (by decide)]; exact a6, by rw [e _ (by decide)]; exact a7⟩, fun i hi => ?_, fun j hj hj2 => ?_, fun j hj hj2 => ?_, by rw [e _ (by decide)]; exact a3, by rw [e _ (by decide)]; exact a8⟩
  · refine t_prt_cg (hp i hi) (fun t ht => ?_)
    show g1 70 (0 + 10 + 7 * i + t) = gi 70 (1400 + 10 + 7 * i + t)
    rw [e _ (by omega), show 1400 + (0 + 10 + 7 * i + t) = 1400 + 10 + 7 * i + t by omega]
  · rw [show 0 + j = j by omega, e _ (by omega)]; exact hs j hj hj2
  · rw [show 0 + j = j by omega, e _ (by omega)]; exact hc j hj hj2
/-- where the other side's loop stands -/
noncomputable def t_MU (b : Nat → Int32) (n : Nat) (y : Int32) (gi : Nat → Nat → Int32) (gl : Nat → Nat → Int64) : Prop := (y.toInt ≠ 0 ∧ ∃ (q : Nat) (D : s_D) (f : Nat), t_MS b n q D gi gl ∧ s_rv b n 901 0 s_D0 = s_rv b n f q D ∧ (s_K b n q ≠ 0 → n + 1 ≤ s_E b n q + f)) ∨ (y.toInt = 0 ∧ ∃ (p : Nat) (x : Int) (D : s_D), x ≠ 0 ∧ s_rv b n 901 0 s_D0 = s_bad b n p x D ∧ t_MF gi (s_fk b n p x) (s_F b n p))
theorem t_MU_s {y : Int32} (h : t_MU b n y gi gl) (hy : y.toInt ≠ 0) (h12 : (gi 69 12).toInt ≠ 0) {w : Int32} (hc : ∀ q D, t_MS b n q D gi gl → (w.toInt = 1 ∧ ∃ q2 D2, s_semi b n (s_part b n q D) = s_ok q2 D2 ∧ t_MS b n q2 D2 g1 l1) ∨ (w.toInt = 0 ∧ ∃ p x D2, x ≠ 0 ∧ s_semi b n (s_part b n q D) = s_bad b n p x D2 ∧ t_MF g1 (s_fk b n p x) (s_F b n p))) (hm : w.toInt = 1 → (g1 69 12).toInt ≠ 0 → (gi 69 14).toInt < (g1 69 14).toInt) : t_MU b n w g1 l1 := by
  rcases h with ⟨_, q, D, f, h1, h2, h3⟩ | ⟨h0, _⟩
  · have hK : s_K b n q ≠ 0 := by have := h1.1.2.2.2.1; omega
    have hEn := (s_E_b (b := b) h1.1.1.2).2
    have hf := h3 hK
    obtain ⟨f', rfl⟩ : ∃ f', f = f' + 1 := ⟨f - 1, by omega⟩
    rcases hc q D h1 with ⟨hw, q2, D2, h4, h5⟩ | ⟨hw, p, x, D2, hx, h4, h5⟩
    · refine Or.inl ⟨by omega, q2, D2, f', h5, h2.trans (s_rv_y hK h4), fun hK2 => ?_⟩
      have h6 := hm hw (by have := h5.1.2.2.2.1; omega)
      have h7 := h1.1.2.1
      have h8 := h5.1.2.1
      omega
    · exact Or.inr ⟨hw, p, x, D2, hx, h2.trans (s_rv_n hK hx h4), h5⟩
  · exact absurd h0 hy
end MRV
section MLO
variable {b : Nat → Int32} {n p q : Nat} {gi g1 g2 : Nat → Nat → Int32} {gl l1 : Nat → Nat → Int64} {D : s_D}
theorem t_MD.lo (h : t_MD 1400 gi D) {m : Nat} {v : Int32} (hm : m < 1400) (e : g1 = x_up2 gi 70 m v) : t_MD 1400 g1 D := by
  have hr : ∀ j, 1400 ≤ j → g1 70 j = gi 70 j := fun j hj => by rw [e, x_up2_off (Or.inr (by omega))]
  obtain ⟨⟨⟨a0, a1, a2⟩, a4, a5, a6, a7⟩, hp, hs, hc, a3, a8⟩ := h
  refine ⟨⟨⟨by rw [hr _ (by omega)]; exact a0, by rw [hr _ (by omega)]; exact a1, by rw [hr _ (by omega)]; exact a2⟩, by rw [hr _ (by omega)]; exact a4, by rw [hr _ (by omega)]; exact a5, by rw [hr _ (by omega)]; exact a6, by rw [hr _ (by omega)]; exact a7⟩, fun i hi => ?_, fun j hj hj2 => ?_, fun j hj hj2 => ?_, by rw [hr _ (by omega)]; exact a3, by rw [hr _ (by omega)]; exact a8⟩
  · exact t_prt_cg (hp i hi) (fun t ht => hr _ (by omega))
  · rw [hr _ (by omega)]; exact hs j hj hj2
  · rw [hr _ (by omega)]; exact hc j hj hj2
/-- what is copied so far -/
noncomputable def t_MV (b : Nat → Int32) (n : Nat) (y : Int32) (gi : Nat → Nat → Int32) : Prop := ∃ (q : Nat) (D : s_D), (s_rv b n 901 0 s_D0 = s_ok q D ∧ t_Cb D) ∧ t_MD 1400 gi D ∧ t_MF gi 0 (-1) ∧ ∀ j : Nat, (j : Int) < y.toInt → j < 350 → gi 70 j = gi 70 (1400 + j)
theorem t_MV_0 {y z : Int32} (h : t_MU b n y gi gl) (hf : (gi 69 18).toInt = 0) (hz : z.toInt = 0) (he : y.toInt = 0 ∨ (gi 69 12).toInt = 0) : t_MV b n z gi := by
  rcases h with ⟨h0, q, D, f, h1, h2, h3⟩ | ⟨h0, p, x, D, hx, h2, h3⟩
  · have hK : s_K b n q = 0 := by have := h1.1.2.2.2.1; omega
    exact ⟨q, D, ⟨h2.trans (s_rv_e hK), h1.2.1.1⟩, h1.2.1.2.1, h1.2.2, fun j hj _ => by omega⟩
  · exact absurd (h3.1.symm.trans hf) (s_fk_ne hx)
theorem t_MV_s {y z w : Int32} {i i2 : Nat} (h : t_MV b n y gi) (h0 : 0 ≤ y.toInt) (h1 : y.toInt < 350) (hi : (i : Int) = y.toInt) (hi2 : (i2 : Int) = 1400 + y.toInt) (ew : w = gi 70 i2) (hz : z.toInt = y.toInt + 1) (e : g1 = x_up2 gi 70 i w) : t_MV b n z g1 := by
  obtain ⟨q, D, h2, h3, h4, h5⟩ := h
  refine ⟨q, D, h2, h3.lo (by omega) e, ?_, fun j hj hj2 => ?_⟩
  · unfold t_MF; rw [e, x_up2_ne (by decide)]; exact h4
  · by_cases hji : j = i
    · rw [e, x_up2_off (Or.inr (by omega)) (b := 1400 + j), hji, x_up2_at, ew, show i2 = 1400 + i by omega]
    · rw [e, x_up2_off (Or.inr hji), x_up2_off (Or.inr (by omega))]; exact h5 j (by omega) hj2
theorem t_MV_k {y z : Int32} (h : t_MV b n y gi) (hy : 350 ≤ y.toInt) : t_MV b n z gi := by
  obtain ⟨q, D, h2, h3, h4, h5⟩ := h
  exact ⟨q, D, h2, h3, h4, fun j _ hj => h5 j (by omega) hj⟩
end MLO
