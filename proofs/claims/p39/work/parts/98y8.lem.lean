/-! ===== the RIVER as the other side keeps it ===== -/
noncomputable def s_m8 (b : Nat → Int32) (q : Nat) : Nat → Int64
  | 0 => 0
  | k + 1 => s_m8 b q k <<< ((8 : Int32).toInt64 &&& 63) ||| (b (q + k)).toInt64
noncomputable def s_l8 (b : Nat → Int32) (q : Nat) : Nat → Int
  | 0 => 0
  | k + 1 => 256 * s_l8 b q k + (b (q + k)).toInt
theorem s_or8 {x c : Int64} (h0 : 0 ≤ x.toInt) (h1 : x.toInt < 36028797018963968) (c0 : 0 ≤ c.toInt) (c1 : c.toInt < 256) : (x <<< ((8 : Int32).toInt64 &&& 63) ||| c).toInt = 256 * x.toInt + c.toInt := by
  have e := t_nn64 h0
  have ec := t_nn64 c0
  have hy : (((8 : Int32).toInt64 &&& 63).toBitVec.smod 64#64).toNat = 8 := by decide
  have g1 : (x <<< ((8 : Int32).toInt64 &&& 63)).toBitVec.toNat = x.toBitVec.toNat * 2 ^ 8 := by
    show (x.toBitVec <<< (((8 : Int32).toInt64 &&& 63).toBitVec.smod 64#64)).toNat = _
    rw [BitVec.shiftLeft_eq', BitVec.toNat_shiftLeft, hy, Nat.shiftLeft_eq]
    exact Nat.mod_eq_of_lt (by omega)
  have g2 : (x <<< ((8 : Int32).toInt64 &&& 63) ||| c).toBitVec.toNat = x.toBitVec.toNat * 2 ^ 8 + c.toBitVec.toNat := by
    rw [Int64.toBitVec_or, BitVec.toNat_or, g1, ← Nat.shiftLeft_eq]
    exact (Nat.shiftLeft_add_eq_or_of_lt (by omega) _).symm
  have g3 : (x <<< ((8 : Int32).toInt64 &&& 63) ||| c).toInt = ((x <<< ((8 : Int32).toInt64 &&& 63) ||| c).toBitVec.toNat : Int) := by
    show (x <<< ((8 : Int32).toInt64 &&& 63) ||| c).toBitVec.toInt = _
    rw [BitVec.toInt_eq_toNat_of_lt (by rw [g2]; omega)]
  rw [g3, g2]; omega
section M8
variable {b b' : Nat → Int32} {q q' : Nat}
theorem s_p256 {k : Nat} (h : k ≤ 7) : (256 : Int) ^ k ≤ 72057594037927936 := by
  have hk : k = 0 ∨ k = 1 ∨ k = 2 ∨ k = 3 ∨ k = 4 ∨ k = 5 ∨ k = 6 ∨ k = 7 := by omega
  rcases hk with rfl | rfl | rfl | rfl | rfl | rfl | rfl | rfl <;> decide
theorem s_l8_b : ∀ {k : Nat}, s_wd b q k → 0 ≤ s_l8 b q k ∧ 2 * s_l8 b q k + 1 ≤ 256 ^ k
  | 0, _ => by show (0 : Int) ≤ 0 ∧ (2 : Int) * 0 + 1 ≤ 1; decide
  | k + 1, h => by
    have h3 := h k (Nat.lt_succ_self _)
    have h4 := s_l8_b (k := k) (fun i hi => h i (Nat.lt_succ_of_lt hi))
    show 0 ≤ 256 * s_l8 b q k + (b (q + k)).toInt ∧ 2 * (256 * s_l8 b q k + (b (q + k)).toInt) + 1 ≤ 256 ^ (k + 1)
    rw [Int.pow_succ]
    exact ⟨by omega, by omega⟩
theorem s_m8_l8 : ∀ {k : Nat}, k ≤ 8 → s_wd b q k → (s_m8 b q k).toInt = s_l8 b q k
  | 0, _, _ => rfl
  | k + 1, h8, h => by
    have h3 := h k (Nat.lt_succ_self _)
    have hw : s_wd b q k := fun i hi => h i (Nat.lt_succ_of_lt hi)
    have h4 := s_m8_l8 (k := k) (by omega) hw
    have h5 := s_l8_b hw
    have h7 := s_p256 (k := k) (by omega)
    show (s_m8 b q k <<< ((8 : Int32).toInt64 &&& 63) ||| (b (q + k)).toInt64).toInt = 256 * s_l8 b q k + (b (q + k)).toInt
    rw [s_or8 (by rw [h4]; omega) (by rw [h4]; omega) (by rw [Int32.toInt_toInt64]; omega) (by rw [Int32.toInt_toInt64]; omega), h4, Int32.toInt_toInt64]
theorem s_l8_inj : ∀ {k k' : Nat}, s_wd b q k → s_wd b' q' k' → s_l8 b q k = s_l8 b' q' k' → k = k' ∧ ∀ i, i < k → b (q + i) = b' (q' + i)
  | 0, 0, _, _, _ => ⟨rfl, fun i h => absurd h (Nat.not_lt_zero i)⟩
  | 0, k' + 1, _, h2, h => by
    exfalso
    have h3 := h2 k' (Nat.lt_succ_self _)
    have h4 := (s_l8_b (b := b') (q := q') (k := k') (fun i hi => h2 i (Nat.lt_succ_of_lt hi))).1
    have h5 : (0 : Int) = 256 * s_l8 b' q' k' + (b' (q' + k')).toInt := h
    omega
  | k + 1, 0, h1, _, h => by
    exfalso
    have h3 := h1 k (Nat.lt_succ_self _)
    have h4 := (s_l8_b (b := b) (q := q) (k := k) (fun i hi => h1 i (Nat.lt_succ_of_lt hi))).1
    have h5 : 256 * s_l8 b q k + (b (q + k)).toInt = 0 := h
    omega
  | k + 1, k' + 1, h1, h2, h => by
    have h3 := h1 k (Nat.lt_succ_self _)
    have h4 := h2 k' (Nat.lt_succ_self _)
    have h5 : 256 * s_l8 b q k + (b (q + k)).toInt = 256 * s_l8 b' q' k' + (b' (q' + k')).toInt := h
    have h6 : s_l8 b q k = s_l8 b' q' k' := by omega
    obtain ⟨e, h7⟩ := s_l8_inj (fun i hi => h1 i (Nat.lt_succ_of_lt hi)) (fun i hi => h2 i (Nat.lt_succ_of_lt hi)) h6
    subst e
    refine ⟨rfl, fun i hi => ?_⟩
    by_cases hik : i = k
    · subst hik; exact Int32.toInt_inj.mp (by omega)
    · exact h7 i (by omega)
theorem s_m8_cg : ∀ {k : Nat}, (∀ t, t < k → b (q + t) = b' (q' + t)) → s_m8 b q k = s_m8 b' q' k
  | 0, _ => rfl
  | k + 1, h => by
    show s_m8 b q k <<< ((8 : Int32).toInt64 &&& 63) ||| (b (q + k)).toInt64 = s_m8 b' q' k <<< ((8 : Int32).toInt64 &&& 63) ||| (b' (q' + k)).toInt64
    rw [s_m8_cg (fun t ht => h t (Nat.lt_succ_of_lt ht)), h k (Nat.lt_succ_self _)]
end M8
/-- a NAME by 256 and by 32 -/
noncomputable def t_nr (y : Int64) (x : Int) : Prop := ∃ (b : Nat → Int32) (q k : Nat), (k ≤ 8 ∧ s_wd b q k) ∧ y = s_m8 b q k ∧ x = (s_ll b q k).toInt
theorem t_nr_eq {y : Int64} {x : Int} {b : Nat → Int32} {q k : Nat} (h : t_nr y x) (hk : k ≤ 8) (hw : s_wd b q k) : y = s_m8 b q k ↔ x = (s_ll b q k).toInt := by
  obtain ⟨b', q', k', ⟨hk', hw'⟩, hy, hx⟩ := h
  constructor
  · intro e
    have e2 : s_l8 b' q' k' = s_l8 b q k := by rw [← s_m8_l8 hk' hw', ← s_m8_l8 hk hw, ← hy, e]
    obtain ⟨e3, e4⟩ := s_l8_inj hw' hw e2
    subst e3
    rw [hx, s_ll_cg e4]
  · intro e
    obtain ⟨e3, e4⟩ := s_ll_inj hk' hk hw' hw (Int64.toInt_inj.mp (hx.symm.trans e))
    subst e3
    rw [hy, s_m8_cg e4]
/-- BLASTS in a row, as a number -/
noncomputable def t_prt (f : Nat → Int32) (x : Int) : Prop := ∃ (b : Nat → Int32) (q k : Nat), (k ≤ 6 ∧ s_wd b q k ∧ ∀ t, t < k → (b (q + t)).toInt = 108 ∨ (b (q + t)).toInt = 115) ∧ (f 0).toInt = (k : Int) ∧ (∀ t, t < k → f (1 + t) = b (q + t)) ∧ (∀ t, k ≤ t → t < 6 → (f (1 + t)).toInt = 0) ∧ x = (s_ll b q k).toInt
theorem t_prt_cg {f g : Nat → Int32} {x : Int} (h : t_prt f x) (e : ∀ t, t < 7 → g t = f t) : t_prt g x := by
  obtain ⟨b, q, k, ⟨hk, hw, hl⟩, h0, h1, h2, hx⟩ := h
  exact ⟨b, q, k, ⟨hk, hw, hl⟩, by rw [e 0 (by decide)]; exact h0, fun t ht => by rw [e (1 + t) (by omega)]; exact h1 t ht, fun t ht ht6 => by rw [e (1 + t) (by omega)]; exact h2 t ht ht6, hx⟩
theorem t_pr_eq {f g : Nat → Int32} {x y : Int} (h : t_prt f x) (h' : t_prt g y) : (∀ t, t < 7 → f t = g t) ↔ x = y := by
  obtain ⟨b, q, k, ⟨hk, hw, hl⟩, h0, h1, h2, hx⟩ := h
  obtain ⟨b', q', k', ⟨hk', hw', hl'⟩, h0', h1', h2', hy⟩ := h'
  constructor
  · intro e
    have ek : k = k' := by have := e 0 (by decide); rw [this] at h0; omega
    subst ek
    rw [hx, hy, s_ll_cg (b := b) (q := q) (b' := b') (q' := q') (fun t ht => by rw [← h1 t ht, ← h1' t ht]; exact e (1 + t) (by omega))]
  · intro e
    obtain ⟨ek, e4⟩ := s_ll_inj (by omega) (by omega) hw hw' (Int64.toInt_inj.mp (by rw [← hx, ← hy, e]))
    subst ek
    intro t ht
    by_cases ht0 : t = 0
    · subst ht0; exact Int32.toInt_inj.mp (by omega)
    · have e1 : t = 1 + (t - 1) := by omega
      rw [e1]
      by_cases htk : t - 1 < k
      · rw [h1 _ htk, h1' _ htk, e4 _ htk]
      · exact Int32.toInt_inj.mp (by rw [h2 _ (by omega) (by omega), h2' _ (by omega) (by omega)])
noncomputable def t_MD (o : Nat) (gi : Nat → Nat → Int32) (D : s_D) : Prop := (((gi 70 o).toInt = D 0 ∧ (gi 70 (o + 1)).toInt = D 1 ∧ (gi 70 (o + 2)).toInt = D 2) ∧ (gi 70 (o + 4)).toInt = D 4 ∧ (gi 70 (o + 5)).toInt = D 5 ∧ (gi 70 (o + 6)).toInt = D 6 ∧ (gi 70 (o + 7)).toInt = D 7) ∧ (∀ i : Nat, (i : Int) < D 0 → t_prt (fun t => gi 70 (o + 10 + 7 * i + t)) (D (10 + i))) ∧ (∀ j : Nat, 52 ≤ j → (j : Int) < 52 + 5 * D 1 → (gi 70 (o + j)).toInt = D j) ∧ (∀ j : Nat, 82 ≤ j → (j : Int) < 82 + 3 * D 2 → (gi 70 (o + j)).toInt = D j) ∧ (gi 70 (o + 3)).toInt = D 3 ∧ (gi 70 (o + 8)).toInt = D 8
noncomputable def t_Mn (gl : Nat → Nat → Int64) (D : s_D) : Prop := (∀ i : Nat, (i : Int) < D 0 → t_nr (gl 71 (72 + i)) (D (200 + i))) ∧ (∀ i : Nat, (i : Int) < D 1 → t_nr (gl 71 (78 + i)) (D (206 + i))) ∧ ∀ i : Nat, (i : Int) < D 2 → t_nr (gl 71 (84 + i)) (D (212 + i))
noncomputable def t_Mt (gi : Nat → Nat → Int32) (D : s_D) : Prop := (gi 69 20).toInt = 2 * D 221 + 4 * D 222 + 8 * D 223 ∧ (D 221 = 0 ∨ D 221 = 1) ∧ (D 222 = 0 ∨ D 222 = 1) ∧ (D 223 = 0 ∨ D 223 = 1)
noncomputable def t_MF (gi : Nat → Nat → Int32) (f p : Int) : Prop := (gi 69 18).toInt = f ∧ (gi 69 17).toInt = p
noncomputable def t_MR (gi : Nat → Nat → Int32) (gl : Nat → Nat → Int64) (D : s_D) : Prop := t_Cb D ∧ t_MD 1400 gi D ∧ t_Mn gl D ∧ t_Mt gi D
noncomputable def t_MS (b : Nat → Int32) (n q : Nat) (D : s_D) (gi : Nat → Nat → Int32) (gl : Nat → Nat → Int64) : Prop := t_TM b n q gi ∧ t_MR gi gl D ∧ t_MF gi 0 (-1)
section MSL
variable {b : Nat → Int32} {n p q i j k : Nat} {gi g1 g2 g3 : Nat → Nat → Int32} {gl l1 l2 : Nat → Nat → Int64} {D D' : s_D}
theorem t_MD.eq {o : Nat} (h : t_MD o gi D) (e : ∀ j, g1 70 j = gi 70 j) : t_MD o g1 D := by
  have e : g1 70 = gi 70 := funext e
  unfold t_MD; rw [e]; exact h
theorem t_Mn.eq (h : t_Mn gl D) (e : ∀ j, l1 71 j = gl 71 j) : t_Mn l1 D := by
  have e : l1 71 = gl 71 := funext e
  unfold t_Mn; rw [e]; exact h
theorem t_MR.eq (h : t_MR gi gl D) (e : ∀ j, g1 70 j = gi 70 j) (f : ∀ j, l1 71 j = gl 71 j) (e20 : g1 69 20 = gi 69 20) : t_MR g1 l1 D :=
  ⟨h.1, h.2.1.eq e, h.2.2.1.eq f, by unfold t_Mt; rw [e20]; exact h.2.2.2⟩
theorem t_TM.S (h : t_TM b n q gi) : t_Sm b n (s_E b n q) gi := ⟨h.1.1, h.2.1, (s_E_b h.1.2).2⟩
theorem t_TM.eq (h : t_TM b n q gi) (e : ∀ j, g1 76 j = gi 76 j) (e2 : ∀ j, 11 ≤ j → j ≤ 15 → g1 69 j = gi 69 j) : t_TM b n q g1 := by
  have e : g1 76 = gi 76 := funext e
  unfold t_TM t_Tx
  rw [e, e2 11 (by decide) (by decide), e2 12 (by decide) (by decide), e2 13 (by decide) (by decide), e2 14 (by decide) (by decide), e2 15 (by decide) (by decide)]
  exact h
/-- the keywords' numbers, one by one -/
theorem s_mi_all : ((List.range 27).all (fun i => decide (0 ≤ s_mil.getD i 0) && (List.range 27).all (fun j => !(s_mil.getD i 0 == s_mil.getD j 0) || i == j))) = true := by decide +kernel
theorem s_mi_W {i : Nat} (hi : i < 27) : s_mi (s_W b n q) = s_mil.getD i 0 ↔ s_W b n q = some i := by
  constructor
  · intro h
    have h1 := List.all_eq_true.mp s_mi_all i (List.mem_range.mpr hi)
    rw [Bool.and_eq_true, decide_eq_true_eq] at h1
    cases hc : s_W b n q with
    | none => rw [hc] at h; have h : (-1 : Int) = s_mil.getD i 0 := h; omega
    | some j =>
      rw [hc] at h
      have h : s_mil.getD j 0 = s_mil.getD i 0 := h
      have hj : j < 27 := by unfold s_W at hc; split at hc; exact (s_kwm_some hc).1; cases hc
      have h2 := List.all_eq_true.mp h1.2 j (List.mem_range.mpr hj)
      rw [h] at h2
      simp at h2
      rw [h2]
  · intro h; rw [h]; rfl
theorem s_mi_N : s_mi (s_W b n q) = -1 ↔ s_W b n q = none := by
  constructor
  · intro h
    cases hc : s_W b n q with
    | none => rfl
    | some j =>
      exfalso
      rw [hc] at h
      have h : s_mil.getD j 0 = -1 := h
      have hj : j < 27 := by unfold s_W at hc; split at hc; exact (s_kwm_some hc).1; cases hc
      have h1 := List.all_eq_true.mp s_mi_all j (List.mem_range.mpr hj)
      rw [Bool.and_eq_true, decide_eq_true_eq] at h1
      omega
  · intro h; rw [h]; rfl
theorem t_TM.isN (h : t_TM b n q gi) : ((gi 69 12).toInt = 2 ∧ (gi 69 14).toInt - (gi 69 13).toInt ≤ 8 ∧ s_mi (s_W b n q) = -1) ↔ s_isN b n q := by
  have h2 := h.2.1
  have h3 := h.2.2.1
  have h4 := h.2.2.2.1
  have hE := (s_E_b (b := b) h.1.2).1
  unfold s_isN
  rw [s_mi_N]
  constructor
  · rintro ⟨a, c, d⟩; exact ⟨by omega, d, by omega⟩
  · rintro ⟨a, c, d⟩; exact ⟨by omega, by omega, c⟩
theorem t_TM.isS (h : t_TM b n q gi) {c : Int} : ((gi 69 12).toInt = 4 ∧ (gi 69 15).toInt = c) ↔ s_isS b n q c := by
  have h4 := h.2.2.2.1
  have h5 := h.2.2.2.2.2
  unfold s_isS
  constructor
  · rintro ⟨a, d⟩; exact ⟨by omega, by rw [← h5 (by omega)]; exact d⟩
  · rintro ⟨a, d⟩; exact ⟨by omega, by rw [h5 a]; exact d⟩
theorem t_TM.fl (h : t_TM b n q gi) {x : Int} {v : Int32} (e1 : g1 = x_up2 gi 69 18 v) (e2 : g2 = x_up2 g1 69 17 (g1 69 13)) (hv : ((gi 69 12).toInt = 1 ∧ v.toInt = 1) ∨ ((gi 69 12).toInt ≠ 1 ∧ v.toInt = x)) : t_MF g2 (s_fk b n q x) (s_F b n q) := by
  have h4 := h.2.2.2.1
  refine ⟨?_, ?_⟩
  · rw [e2, x_up2_off (Or.inr (by decide)), e1, x_up2_at]
    unfold s_fk
    rcases hv with ⟨a, c⟩ | ⟨a, c⟩
    · rw [if_pos (by omega), c]
    · rw [if_neg (by omega), c]
  · rw [e2, x_up2_at, e1, x_up2_off (Or.inr (by decide))]; exact h.2.2.1
theorem t_TM.vT (h : t_TM b n q gi) {lo hi : Int} (h3 : (gi 69 12).toInt = 3) (h1 : lo ≤ (gi 69 15).toInt) (h2 : (gi 69 15).toInt ≤ hi) : s_isV b n q lo hi ∧ (gi 69 15).toInt = s_V b n q := by
  have h4 := h.2.2.2.1
  have h5 := h.2.2.2.2.1 (by omega)
  unfold s_isV s_V
  rw [← h5]
  exact ⟨⟨by omega, h1, h2⟩, rfl⟩
theorem t_TM.vF (h : t_TM b n q gi) {lo hi : Int} (h3 : (gi 69 12).toInt = 3) (h1 : (gi 69 15).toInt < lo ∨ hi < (gi 69 15).toInt) : s_K b n q = 3 ∧ ¬ s_isV b n q lo hi := by
  have h4 := h.2.2.2.1
  have h5 := h.2.2.2.2.1 (by omega)
  unfold s_isV s_V
  rw [← h5]
  exact ⟨by omega, fun hh => by omega⟩
theorem t_TM.vK (h : t_TM b n q gi) (h3 : (gi 69 12).toInt ≠ 3) : s_K b n q ≠ 3 := by
  have h4 := h.2.2.2.1
  omega
theorem t_TM.isB0 (h : t_TM b n q gi) (h3 : (gi 69 12).toInt = 2) (h5 : (gi 69 14).toInt - (gi 69 13).toInt ≤ 6) : t_BL b n q (gi 69 13) := by
  have h2 := h.2.1
  have h4 := h.2.2.1
  have h6 := h.2.2.2.1
  exact ⟨⟨by omega, by omega⟩, by omega, fun j hj hj2 => by omega⟩
theorem t_TM.isB1 (h : t_TM b n q gi) {y w z : Int32} (hb : t_BL b n q y) (ew : w.toInt = s_at b n y.toNatClampNeg) (hw : w.toInt = 108 ∨ w.toInt = 115) (hz : z.toInt = y.toInt + 1) : t_BL b n q z := by
  obtain ⟨h1, h2, h3⟩ := hb
  have hc := t_clamp (i := y) (by omega)
  refine ⟨h1, by omega, fun j hj hj2 => ?_⟩
  by_cases hji : j = y.toNatClampNeg
  · rw [hji]
    rcases hw with hw | hw
    · exact Or.inl ((s_at_c h.1.1.1.2 (by decide) (by decide)).mp (ew.symm.trans hw)).2
    · exact Or.inr ((s_at_c h.1.1.1.2 (by decide) (by decide)).mp (ew.symm.trans hw)).2
  · exact h3 j hj (by omega)
theorem t_TM.isB2 (h : t_TM b n q gi) {y : Int32} (hb : t_BL b n q y) (hge : (gi 69 14).toInt ≤ y.toInt) : s_isB b n q := ⟨hb.1, fun j hj hj2 => hb.2.2 j hj (by have := h.2.1; omega)⟩
theorem t_TM.isB3 (h : t_TM b n q gi) {P : Prop} (hh : s_isB b n q) (hx : (gi 69 12).toInt ≠ 2 ∨ 6 < (gi 69 14).toInt - (gi 69 13).toInt) : P := by
  exfalso
  have h2 := h.2.1
  have h4 := h.2.2.1
  have h6 := h.2.2.2.1
  have := hh.1
  omega
theorem t_TM.isB4 (h : t_TM b n q gi) {P : Prop} {y w w2 : Int32} (hb : t_BL b n q y) (hh : s_isB b n q) (hlt : y.toInt < (gi 69 14).toInt) (ew : w.toInt = s_at b n y.toNatClampNeg) (ew2 : w2.toInt = s_at b n y.toNatClampNeg) (hw : w.toInt ≠ 108) (hw2 : w2.toInt ≠ 115) : P := by
  exfalso
  have h2 := h.2.1
  have hc := t_clamp (i := y) (by have := hb.2.1; omega)
  have hE := (s_E_b (b := b) h.1.2).2
  have h3 := hh.2 y.toNatClampNeg (by have := hb.2.1; omega) (by omega)
  rcases h3 with h3 | h3
  · exact hw (ew.trans ((s_at_c h.1.1.1.2 (by decide) (by decide)).mpr ⟨by omega, h3⟩))
  · exact hw2 (ew2.trans ((s_at_c h.1.1.1.2 (by decide) (by decide)).mpr ⟨by omega, h3⟩))
/-- the NAME that stands there, so far -/
noncomputable def t_NH (b : Nat → Int32) (n q : Nat) (v : Int64) (x : Int32) : Prop := ((s_F b n q : Nat) : Int) ≤ x.toInt ∧ x.toInt ≤ (s_E b n q : Nat) ∧ v = s_m8 b (s_F b n q) (x.toNatClampNeg - s_F b n q)
theorem t_NH_0 (h : t_TM b n q gi) : t_NH b n q 0 (gi 69 13) := by
  have h4 := h.2.2.1
  have hc := t_clamp (i := gi 69 13) (by omega)
  have hE := (s_E_b (b := b) h.1.2).1
  exact ⟨by omega, by omega, by rw [show (gi 69 13).toNatClampNeg - s_F b n q = 0 by omega]; rfl⟩
theorem t_NH_s (h : t_TM b n q gi) (hK : s_K b n q = 2) {v v1 v2 v' : Int64} {x w z : Int32} (hn : t_NH b n q v x) (hlt : x.toInt < (gi 69 14).toInt) (ew : w.toInt = s_at b n x.toNatClampNeg) (e1 : v1 = v <<< ((8 : Int32).toInt64 &&& 63)) (e2 : v2 = w.toInt64) (e3 : v' = v1 ||| v2) (hz : z.toInt = x.toInt + 1) : t_NH b n q v' z := by
  obtain ⟨h1, h2, h3⟩ := hn
  have hE := h.2.1
  have hEn := (s_E_b (b := b) h.1.2).2
  have hc := t_clamp (i := x) (by omega)
  have hc2 := t_clamp (i := z) (by omega)
  refine ⟨by omega, by omega, ?_⟩
  have hl := s_K2_wd hK (x.toNatClampNeg - s_F b n q) (by omega)
  rw [show s_F b n q + (x.toNatClampNeg - s_F b n q) = x.toNatClampNeg by omega] at hl
  have hb := (s_at_c (i := x.toNatClampNeg) h.1.1.1.2 (c := (b x.toNatClampNeg).toInt) (by omega) (by omega)).mpr ⟨by omega, rfl⟩
  have ewb : w = b x.toNatClampNeg := Int32.toInt_inj.mp (ew.trans hb)
  rw [show z.toNatClampNeg - s_F b n q = (x.toNatClampNeg - s_F b n q) + 1 by omega, e3, e1, e2, h3]
  show _ = s_m8 b (s_F b n q) (x.toNatClampNeg - s_F b n q) <<< ((8 : Int32).toInt64 &&& 63) ||| (b (s_F b n q + (x.toNatClampNeg - s_F b n q))).toInt64
  rw [show s_F b n q + (x.toNatClampNeg - s_F b n q) = x.toNatClampNeg by omega, ewb]
theorem t_NH_e (h : t_TM b n q gi) {v : Int64} {x : Int32} (hn : t_NH b n q v x) (hge : (gi 69 14).toInt ≤ x.toInt) : v = s_m8 b (s_F b n q) (s_E b n q - s_F b n q) := by
  obtain ⟨h1, h2, h3⟩ := hn
  have hE := h.2.1
  have hc := t_clamp (i := x) (by omega)
  rw [h3, show x.toNatClampNeg = s_E b n q by omega]
/-- the first place with this NAME -/
theorem s_fst_n {f : Nat → Int} {x : Int} {m i : Nat} (h : f i ≠ x) : s_fst f x (m + 1) i = s_fst f x m (i + 1) := by show (if f i = x then _ else _) = _; rw [if_neg h]
theorem s_fst_y {f : Nat → Int} {x : Int} {m i : Nat} (h : f i = x) : s_fst f x (m + 1) i = (i : Int) := by show (if f i = x then _ else _) = _; rw [if_pos h]
theorem s_fst_ne {f : Nat → Int} {x : Int} : ∀ {m i : Nat}, s_fst f x m i ≠ -1 ↔ ∃ t, i ≤ t ∧ t < i + m ∧ f t = x
  | 0, i => by
    constructor
    · intro h; exact absurd rfl h
    · rintro ⟨t, h1, h2, _⟩; omega
  | m + 1, i => by
    by_cases h : f i = x
    · rw [s_fst_y h]
      exact ⟨fun _ => ⟨i, Nat.le_refl _, by omega, h⟩, fun _ => by omega⟩
    · rw [s_fst_n h, s_fst_ne]
      constructor
      · rintro ⟨t, h1, h2, h3⟩; exact ⟨t, by omega, by omega, h3⟩
      · rintro ⟨t, h1, h2, h3⟩
        refine ⟨t, ?_, by omega, h3⟩
        by_cases hti : t = i
        · rw [hti] at h3; exact absurd h3 h
        · omega
end MSL
noncomputable def t_mf (gi g1 : Nat → Nat → Int32) : Prop := g1 69 18 = gi 69 18 ∧ g1 69 17 = gi 69 17
section MSL2
variable {b : Nat → Int32} {n p q q' i j k : Nat} {gi g1 g2 g3 : Nat → Nat → Int32} {gl l1 l2 : Nat → Nat → Int64} {D D' : s_D}
/-- a TOKEN more -/
theorem t_MS.tk (h : t_MS b n q D gi gl) (ht : t_TM b n q' g1) (hf : t_mf gi g1) (e : ∀ j, g1 70 j = gi 70 j) (f : ∀ j, l1 71 j = gl 71 j) (e20 : g1 69 20 = gi 69 20) : t_MS b n q' D g1 l1 :=
  ⟨ht, h.2.1.eq e f e20, by rw [hf.1]; exact h.2.2.1, by rw [hf.2]; exact h.2.2.2⟩
/-- which NAMES are taken: by the three searches -/
theorem s_used_f (hb : t_Cb D) {x : Int} : s_used D x ↔ (s_fst (fun i => D (200 + i)) x (D 0).toNat 0 ≠ -1 ∨ s_fst (fun i => D (206 + i)) x (D 1).toNat 0 ≠ -1 ∨ s_fst (fun i => D (212 + i)) x (D 2).toNat 0 ≠ -1) := by
  obtain ⟨⟨b1, b2⟩, ⟨b3, b4⟩, b5, b6⟩ := hb
  rw [s_fst_ne, s_fst_ne, s_fst_ne]
  unfold s_used
  constructor
  · rintro (⟨i, hi, hx⟩ | ⟨i, hi, hx⟩ | ⟨i, hi, hx⟩)
    · exact Or.inl ⟨i, Nat.zero_le _, by omega, hx⟩
    · exact Or.inr (Or.inl ⟨i, Nat.zero_le _, by omega, hx⟩)
    · exact Or.inr (Or.inr ⟨i, Nat.zero_le _, by omega, hx⟩)
  · rintro (⟨i, _, hi, hx⟩ | ⟨i, _, hi, hx⟩ | ⟨i, _, hi, hx⟩)
    · exact Or.inl ⟨i, by omega, hx⟩
    · exact Or.inr (Or.inl ⟨i, by omega, hx⟩)
    · exact Or.inr (Or.inr ⟨i, by omega, hx⟩)
/-- names by 256 found as by 32 -/
theorem t_nr_f {base cnt : Nat} {f : Nat → Int} {m : Int} (h : ∀ i : Nat, (i : Int) < m → t_nr (gl 71 (base + i)) (f i)) (hc : (cnt : Int) = m) (hN : s_isN b n q) : ∀ i, i < cnt → (gl 71 (base + i) = s_m8 b (s_F b n q) (s_E b n q - s_F b n q) ↔ f i = (s_L b n q).toInt) :=
  fun i hi => t_nr_eq (h i (by omega)) hN.2.2 (s_K2_wd hN.1)
theorem t_nr_of (hN : s_isN b n q) : t_nr (s_m8 b (s_F b n q) (s_E b n q - s_F b n q)) (s_L b n q).toInt := ⟨b, _, _, ⟨hN.2.2, s_K2_wd hN.1⟩, rfl, rfl⟩
/-- told already, or not -/
theorem t_told_all : ((List.range 8).all (fun i => (List.range 3).all (fun k => decide (((Int32.ofNat (2 * i)) >>> ((Int32.ofNat (k + 1)) &&& 31) &&& 1).toInt = ((i / 2 ^ k % 2 : Nat) : Int)) && decide (((Int32.ofNat (2 * i)) ||| (Int32.ofNat (2 ^ (k + 1)))).toInt = if i / 2 ^ k % 2 = 1 then 2 * (i : Int) else 2 * (i : Int) + 2 ^ (k + 1))))) = true := by decide +kernel
end MSL2
section MPO
variable {b : Nat → Int32} {n p q q' i j k : Nat} {gi g1 g2 g3 : Nat → Nat → Int32} {gl l1 l2 : Nat → Nat → Int64} {D D' : s_D}
theorem t_pr_cg {f g : Nat → Int32} {x : Int} (h : t_prt f x) (e : ∀ t, t < 7 → g t = f t) : t_prt g x := by
  obtain ⟨b, q, k, h0, h1, h2, h3, h4⟩ := h
  exact ⟨b, q, k, h0, by rw [e 0 (by decide)]; exact h1, fun t ht => by rw [e _ (by omega)]; exact h2 t ht, fun t ht ht6 => by rw [e _ (by omega)]; exact h3 t ht ht6, h4⟩
/-- stores among the places of PORTS to come -/
theorem t_MD.hi (h : t_MD 1400 gi D) (hb : t_Cb D) {m : Nat} {v : Int32} (h1 : 1410 + 7 * D 0 ≤ (m : Int)) (h2 : m < 1452) (e : g1 = x_up2 gi 70 m v) : t_MD 1400 g1 D := by
  have hr : ∀ j, j ≠ m → g1 70 j = gi 70 j := fun j hj => by rw [e, x_up2_off (Or.inr hj)]
  have := hb.1
  obtain ⟨⟨⟨a0, a1, a2⟩, a4, a5, a6, a7⟩, hp, hs, hc, a3, a8⟩ := h
  refine ⟨⟨⟨by rw [hr _ (by omega)]; exact a0, by rw [hr _ (by omega)]; exact a1, by rw [hr _ (by omega)]; exact a2⟩, by rw [hr _ (by omega)]; exact a4, by rw [hr _ (by omega)]; exact a5, by rw [hr _ (by omega)]; exact a6, by rw [hr _ (by omega)]; exact a7⟩, fun i hi => ?_, fun j hj hj2 => ?_, fun j hj hj2 => ?_, by rw [hr _ (by omega)]; exact a3, by rw [hr _ (by omega)]; exact a8⟩
  · exact t_pr_cg (hp i hi) (fun t ht => hr _ (by omega))
  · rw [hr _ (by omega)]; exact hs j hj hj2
  · rw [hr _ (by omega)]; exact hc j hj hj2
noncomputable abbrev s_p3 (b : Nat → Int32) (n q : Nat) : Nat := s_E b n (s_E b n (s_E b n q))
/-- a PORT's NAME and BLASTS are there -/
noncomputable def t_PB (b : Nat → Int32) (n q : Nat) (D : s_D) (gi : Nat → Nat → Int32) (gl : Nat → Nat → Int64) : Prop := (D 0 < 6 ∧ s_isN b n (s_E b n q) ∧ ¬ s_used D (s_L b n (s_E b n q)).toInt ∧ s_W b n (s_E b n (s_E b n q)) = some 1 ∧ s_isB b n (s_p3 b n q)) ∧ t_TM b n (s_p3 b n q) gi ∧ (t_Cb D ∧ t_MD 1400 gi D ∧ (t_Mn gl D ∧ t_nr (gl 71 (72 + (D 0).toNat)) (s_L b n (s_E b n q)).toInt) ∧ t_Mt gi D) ∧ t_MF gi 0 (-1)
/-- its BLASTS, copied to x -/
noncomputable def t_PC (b : Nat → Int32) (n q : Nat) (D : s_D) (x : Int32) (gi : Nat → Nat → Int32) : Prop := (gi 70 (1410 + 7 * (D 0).toNat)).toInt = ((s_E b n (s_p3 b n q) : Nat) : Int) - (s_F b n (s_p3 b n q) : Nat) ∧ ∀ t : Nat, (t : Int) < x.toInt → t < 6 → (gi 70 (1410 + 7 * (D 0).toNat + (1 + t))).toInt = if t < s_E b n (s_p3 b n q) - s_F b n (s_p3 b n q) then (b (s_F b n (s_p3 b n q) + t)).toInt else 0
theorem t_PB.up (h : t_PB b n q D gi gl) {m : Nat} {v : Int32} (h1 : 1410 + 7 * D 0 ≤ (m : Int)) (h2 : m < 1452) (e : g1 = x_up2 gi 70 m v) : t_PB b n q D g1 gl := by
  obtain ⟨ha, ht, ⟨hb, hd, hn, hm⟩, hf⟩ := h
  have e69 : g1 69 = gi 69 := by rw [e, x_up2_ne (by decide)]
  refine ⟨ha, ht.eq (fun j => by rw [e, x_up2_ne (by decide)]) (fun j _ _ => by rw [e69]), ⟨hb, hd.hi hb h1 h2 e, hn, by unfold t_Mt; rw [e69]; exact hm⟩, by unfold t_MF; rw [e69]; exact hf⟩
theorem t_PC_0 (ht : t_TM b n (s_p3 b n q) gi) {m : Nat} {v : Int32} (hm : (m : Int) = 1410 + 7 * D 0) (hb : 0 ≤ D 0) (hv : v.toInt = (gi 69 14).toInt - (gi 69 13).toInt) (e : g1 = x_up2 gi 70 m v) : t_PC b n q D 0 g1 := by
  refine ⟨?_, fun t ht0 => absurd ht0 (by have : (0 : Int32).toInt = 0 := rfl; omega)⟩
  rw [e, show 1410 + 7 * (D 0).toNat = m by omega, x_up2_at, hv, ht.2.1, ht.2.2.1]
theorem t_PC_s {x z v : Int32} {m : Nat} (h : t_PC b n q D x gi) (h0 : 0 ≤ x.toInt) (h6 : x.toInt < 6) (hz : z.toInt = x.toInt + 1) (hm : (m : Int) = 1411 + 7 * D 0 + x.toInt) (hb : 0 ≤ D 0) (hv : v.toInt = if x.toInt < ((s_E b n (s_p3 b n q) : Nat) : Int) - (s_F b n (s_p3 b n q) : Nat) then (b (s_F b n (s_p3 b n q) + x.toNatClampNeg)).toInt else 0) (e : g1 = x_up2 gi 70 m v) : t_PC b n q D z g1 := by
  obtain ⟨h1, h2⟩ := h
  have hc := t_clamp h0
  refine ⟨by rw [e, x_up2_off (Or.inr (by omega))]; exact h1, fun t ht ht6 => ?_⟩
  by_cases htx : t = x.toNatClampNeg
  · rw [e, show 1410 + 7 * (D 0).toNat + (1 + t) = m by omega, x_up2_at, hv, htx]
    by_cases hl : x.toNatClampNeg < s_E b n (s_p3 b n q) - s_F b n (s_p3 b n q)
    · rw [if_pos (by omega), if_pos hl]
    · rw [if_neg (by omega), if_neg hl]
  · rw [e, x_up2_off (Or.inr (by omega))]; exact h2 t (by omega) ht6
/-- the row of the new PORT -/
theorem t_PC_p {x : Int32} (h : t_PC b n q D x gi) (hB : s_isB b n (s_p3 b n q)) (hx : 6 ≤ x.toInt) : t_prt (fun t => gi 70 (1410 + 7 * (D 0).toNat + t)) (s_L b n (s_p3 b n q)).toInt := by
  obtain ⟨h1, h2⟩ := h
  have hw := s_K2_wd hB.1.1
  refine ⟨b, s_F b n (s_p3 b n q), s_E b n (s_p3 b n q) - s_F b n (s_p3 b n q), ⟨hB.1.2, hw, fun t ht => hB.2 _ (by omega) (by omega)⟩, ?_, fun t ht => ?_, fun t ht ht6 => ?_, rfl⟩
  · show (gi 70 (1410 + 7 * (D 0).toNat)).toInt = _
    rw [h1]
    have := hB.1.2
    by_cases hEF : s_F b n (s_p3 b n q) ≤ s_E b n (s_p3 b n q)
    · omega
    · exfalso
      have hK := hB.1.1
      unfold s_K at hK
      have hF : s_F b n (s_p3 b n q) ≤ s_E b n (s_p3 b n q) := by
        unfold s_E
        split
        · exact Nat.le_refl _
        split
        · exact s_rn_b.1
        split
        · exact s_rn_b.1
        · omega
      exact hEF hF
  · have := hB.1.2
    have h3 := h2 t (by omega) (by omega)
    rw [if_pos ht] at h3
    exact Int32.toInt_inj.mp h3
  · have h3 := h2 t (by omega) ht6
    rw [if_neg (by omega)] at h3
    exact h3
/-- a PORT more -/
theorem t_MS_port (h : t_PB b n q D gi gl) (hr : t_prt (fun t => gi 70 (1410 + 7 * (D 0).toNat + t)) (s_L b n (s_p3 b n q)).toInt) (ht : t_TM b n q' g1) (hf : t_mf gi g1) (e : ∀ j, g1 70 j = gi 70 j) (f : ∀ j, l1 71 j = gl 71 j) (e20 : g1 69 20 = gi 69 20) {v : Int32} (hv : v.toInt = (g1 70 1400).toInt + 1) (e2 : g2 = x_up2 g1 70 1400 v) : t_MS b n q' (s_addP D (s_L b n (s_E b n q)).toInt (s_L b n (s_p3 b n q)).toInt) g2 l1 := by
  obtain ⟨⟨h6, _⟩, _, ⟨hb, hd, ⟨hn, hnn⟩, hm⟩, hmf⟩ := h
  have e69 : g2 69 = g1 69 := by rw [e2, x_up2_ne (by decide)]
  have hr2 : ∀ j, j ≠ 1400 → g2 70 j = gi 70 j := fun j hj => by rw [e2, x_up2_off (Or.inr hj), e]
  have hl : ∀ j, l1 71 j = gl 71 j := f
  obtain ⟨⟨⟨a0, a1, a2⟩, a4, a5, a6, a7⟩, hp, hs, hc, a3, a8⟩ := hd
  obtain ⟨⟨b1, b2⟩, ⟨b3, b4⟩, b5, b6⟩ := id hb
  have z0 : s_addP D (s_L b n (s_E b n q)).toInt (s_L b n (s_p3 b n q)).toInt 0 = D 0 + 1 := if_pos rfl
  have ao : ∀ j : Nat, j ≠ 0 → (j < 10 ∨ (16 ≤ j ∧ j < 200) ∨ 206 ≤ j) → s_addP D (s_L b n (s_E b n q)).toInt (s_L b n (s_p3 b n q)).toInt j = D j := fun j h0 hj => s_addP_o h0 (by omega) (by omega)
  have ez : (g2 70 1400).toInt = D 0 + 1 := by rw [e2, x_up2_at, hv, e, a0]
  refine ⟨ht.eq (fun j => by rw [e2, x_up2_ne (by decide)]) (fun j _ _ => by rw [e69]), ⟨⟨⟨by rw [z0]; omega, by rw [z0]; omega⟩, ⟨by rw [ao 1 (by decide) (by omega)]; exact b3, by rw [ao 1 (by decide) (by omega)]; exact b4⟩, by rw [ao 2 (by decide) (by omega)]; exact b5, by rw [ao 2 (by decide) (by omega)]; exact b6⟩, ⟨⟨⟨by rw [z0]; exact ez, ?_, ?_⟩, ?_, ?_, ?_, ?_⟩, fun i hi => ?_, fun j hj hj2 => ?_, fun j hj hj2 => ?_, by rw [hr2 _ (by decide), ao 3 (by decide) (by omega)]; exact a3, by rw [hr2 _ (by decide), ao 8 (by decide) (by omega)]; exact a8⟩, ⟨fun i hi => ?_, fun i hi => ?_, fun i hi => ?_⟩, ?_⟩, by unfold t_MF; rw [e69, hf.1, hf.2]; exact hmf⟩
  · rw [hr2 _ (by decide), ao 1 (by decide) (by omega)]; exact a1
  · rw [hr2 _ (by decide), ao 2 (by decide) (by omega)]; exact a2
  · rw [hr2 _ (by decide), ao 4 (by decide) (by omega)]; exact a4
  · rw [hr2 _ (by decide), ao 5 (by decide) (by omega)]; exact a5
  · rw [hr2 _ (by decide), ao 6 (by decide) (by omega)]; exact a6
  · rw [hr2 _ (by decide), ao 7 (by decide) (by omega)]; exact a7
  · rw [z0] at hi
    by_cases hid : i = (D 0).toNat
    · have hx : s_addP D (s_L b n (s_E b n q)).toInt (s_L b n (s_p3 b n q)).toInt (10 + i) = (s_L b n (s_p3 b n q)).toInt := by unfold s_addP; rw [if_neg (by omega), if_neg (by omega), if_pos (by omega)]
      rw [hx]
      refine t_pr_cg hr (fun t ht7 => ?_)
      show g2 70 (1400 + 10 + 7 * i + t) = gi 70 (1410 + 7 * (D 0).toNat + t)
      rw [hr2 _ (by omega), hid, show 1400 + 10 + 7 * (D 0).toNat + t = 1410 + 7 * (D 0).toNat + t by omega]
    · rw [s_addP_o (by omega) (by omega) (by omega)]
      exact t_pr_cg (hp i (by omega)) (fun t _ => hr2 _ (by omega))
  · rw [ao 1 (by decide) (by omega)] at hj2
    rw [hr2 _ (by omega), ao j (by omega) (by omega)]
    exact hs j hj hj2
  · rw [ao 2 (by decide) (by omega)] at hj2
    rw [hr2 _ (by omega), ao j (by omega) (by omega)]
    exact hc j hj hj2
  · rw [z0] at hi
    by_cases hid : i = (D 0).toNat
    · have hx : s_addP D (s_L b n (s_E b n q)).toInt (s_L b n (s_p3 b n q)).toInt (200 + i) = (s_L b n (s_E b n q)).toInt := by unfold s_addP; rw [if_neg (by omega), if_pos (by omega)]
      rw [hx, hl, hid]; exact hnn
    · rw [s_addP_o (by omega) (by omega) (by omega), hl]; exact hn.1 i (by omega)
  · rw [ao 1 (by decide) (by omega)] at hi
    rw [ao _ (by omega) (by omega), hl]; exact hn.2.1 i hi
  · rw [ao 2 (by decide) (by omega)] at hi
    rw [ao _ (by omega) (by omega), hl]; exact hn.2.2 i hi
  · unfold t_Mt
    rw [e69, e20, ao 221 (by decide) (by omega), ao 222 (by decide) (by omega), ao 223 (by decide) (by omega)]; exact hm
end MPO
section MSH
variable {b : Nat → Int32} {n p q q' i j k : Nat} {gi g1 : Nat → Nat → Int32} {gl l1 : Nat → Nat → Int64} {D D' : s_D}
theorem t_TM.st (h : t_TM b n q gi) {m : Nat} {v : Int32} (e : g1 = x_up2 gi 70 m v) : t_TM b n q g1 := h.eq (fun j => by rw [e, x_up2_ne (by decide)]) (fun j _ _ => by rw [e, x_up2_ne (by decide)])
/-- a SHIP more -/
theorem t_MS_ship (h : t_MS b n q D gi gl) (h6 : D 1 < 6) (hN : s_isN b n (s_E b n q)) (ht : t_TM b n q' g1) (hf : t_mf gi g1) {po at_ ta co sa : Int} {d : Nat} (hd : (d : Int) = D 1) (r : ∀ j, j ≠ 1401 → (j < 1452 + 5 * d ∨ 1457 + 5 * d ≤ j) → g1 70 j = gi 70 j) (r1 : (g1 70 1401).toInt = D 1 + 1) (v0 : (g1 70 (1452 + 5 * d)).toInt = po) (v1 : (g1 70 (1453 + 5 * d)).toInt = at_) (v2 : (g1 70 (1454 + 5 * d)).toInt = ta) (v3 : (g1 70 (1455 + 5 * d)).toInt = co) (v4 : (g1 70 (1456 + 5 * d)).toInt = sa) (hl : ∀ j : Nat, l1 71 j = if j = 78 + d then s_m8 b (s_F b n (s_E b n q)) (s_E b n (s_E b n q) - s_F b n (s_E b n q)) else gl 71 j) (e20 : g1 69 20 = gi 69 20) : t_MS b n q' (s_addS D (s_L b n (s_E b n q)).toInt po at_ ta co sa) g1 l1 := by
  obtain ⟨_, ⟨hb, hd0, hn, hm⟩, hmf⟩ := h
  have hcn : (D 1).toNat = d := by omega
  obtain ⟨⟨⟨a0, a1, a2⟩, a4, a5, a6, a7⟩, hp, hs, hc, a3, a8⟩ := hd0
  obtain ⟨⟨b1, b2⟩, ⟨b3, b4⟩, b5, b6⟩ := id hb
  have ao : ∀ j : Nat, j ≠ 1 → (j < 52 ∨ (82 ≤ j ∧ j < 206) ∨ 212 ≤ j) → s_addS D (s_L b n (s_E b n q)).toInt po at_ ta co sa j = D j := fun j h1 hj => s_addS_o hb h1 (by omega) (by omega)
  refine ⟨ht, ⟨⟨⟨by rw [ao 0 (by decide) (by omega)]; exact b1, by rw [ao 0 (by decide) (by omega)]; exact b2⟩, ⟨by rw [s_addS_1]; omega, by rw [s_addS_1]; omega⟩, by rw [ao 2 (by decide) (by omega)]; exact b5, by rw [ao 2 (by decide) (by omega)]; exact b6⟩, ⟨⟨⟨?_, by rw [s_addS_1]; exact r1, ?_⟩, ?_, ?_, ?_, ?_⟩, fun i hi => ?_, fun j hj hj2 => ?_, fun j hj hj2 => ?_, by rw [r _ (by decide) (by omega), ao 3 (by decide) (by omega)]; exact a3, by rw [r _ (by decide) (by omega), ao 8 (by decide) (by omega)]; exact a8⟩, ⟨fun i hi => ?_, fun i hi => ?_, fun i hi => ?_⟩, ?_⟩, by unfold t_MF; rw [hf.1, hf.2]; exact hmf⟩
  · rw [r _ (by decide) (by omega), ao 0 (by decide) (by omega)]; exact a0
  · rw [r _ (by decide) (by omega), ao 2 (by decide) (by omega)]; exact a2
  · rw [r _ (by decide) (by omega), ao 4 (by decide) (by omega)]; exact a4
  · rw [r _ (by decide) (by omega), ao 5 (by decide) (by omega)]; exact a5
  · rw [r _ (by decide) (by omega), ao 6 (by decide) (by omega)]; exact a6
  · rw [r _ (by decide) (by omega), ao 7 (by decide) (by omega)]; exact a7
  · rw [ao 0 (by decide) (by omega)] at hi
    rw [ao _ (by omega) (by omega)]
    exact t_pr_cg (hp i hi) (fun t ht7 => r _ (by omega) (by omega))
  · rw [s_addS_1] at hj2
    by_cases hjd : j < 52 + 5 * d
    · rw [r _ (by omega) (by omega), s_addS_o hb (by omega) (by omega) (by omega)]; exact hs j hj (by omega)
    · obtain ⟨_, z1, z2, z3, z4, z5⟩ := s_addS_n (nm := (s_L b n (s_E b n q)).toInt) (po := po) (at_ := at_) (ta := ta) (co := co) (sa := sa) hb
      rw [hcn] at z1 z2 z3 z4 z5
      have hj5 : j = 52 + 5 * d ∨ j = 53 + 5 * d ∨ j = 54 + 5 * d ∨ j = 55 + 5 * d ∨ j = 56 + 5 * d := by omega
      rcases hj5 with e | e | e | e | e
      · rw [e, z1, show 1400 + (52 + 5 * d) = 1452 + 5 * d by omega]; exact v0
      · rw [e, z2, show 1400 + (53 + 5 * d) = 1453 + 5 * d by omega]; exact v1
      · rw [e, z3, show 1400 + (54 + 5 * d) = 1454 + 5 * d by omega]; exact v2
      · rw [e, z4, show 1400 + (55 + 5 * d) = 1455 + 5 * d by omega]; exact v3
      · rw [e, z5, show 1400 + (56 + 5 * d) = 1456 + 5 * d by omega]; exact v4
  · rw [ao 2 (by decide) (by omega)] at hj2
    rw [r _ (by omega) (by omega), ao j (by omega) (by omega)]
    exact hc j hj hj2
  · rw [ao 0 (by decide) (by omega)] at hi
    rw [ao _ (by omega) (by omega), hl, if_neg (by omega)]; exact hn.1 i hi
  · rw [s_addS_1] at hi
    by_cases hid : i = d
    · have z := (s_addS_n (nm := (s_L b n (s_E b n q)).toInt) (po := po) (at_ := at_) (ta := ta) (co := co) (sa := sa) hb).1
      rw [hcn] at z
      rw [hid, z, hl, if_pos rfl]; exact t_nr_of hN
    · rw [s_addS_o hb (by omega) (by omega) (by omega), hl, if_neg (by omega)]; exact hn.2.1 i (by omega)
  · rw [ao 2 (by decide) (by omega)] at hi
    rw [ao _ (by omega) (by omega), hl, if_neg (by omega)]; exact hn.2.2 i hi
  · unfold t_Mt
    rw [e20, ao 221 (by decide) (by omega), ao 222 (by decide) (by omega), ao 223 (by decide) (by omega)]; exact hm
/-- a CART more -/
theorem t_MS_cart (h : t_MS b n q D gi gl) (h6 : D 2 < 6) (hN : s_isN b n (s_E b n q)) (ht : t_TM b n q' g1) (hf : t_mf gi g1) {at_ ta co : Int} {d : Nat} (hd : (d : Int) = D 2) (r : ∀ j, j ≠ 1402 → (j < 1482 + 3 * d ∨ 1485 + 3 * d ≤ j) → g1 70 j = gi 70 j) (r1 : (g1 70 1402).toInt = D 2 + 1) (v1 : (g1 70 (1482 + 3 * d)).toInt = at_) (v2 : (g1 70 (1483 + 3 * d)).toInt = ta) (v3 : (g1 70 (1484 + 3 * d)).toInt = co) (hl : ∀ j : Nat, l1 71 j = if j = 84 + d then s_m8 b (s_F b n (s_E b n q)) (s_E b n (s_E b n q) - s_F b n (s_E b n q)) else gl 71 j) (e20 : g1 69 20 = gi 69 20) : t_MS b n q' (s_addC D (s_L b n (s_E b n q)).toInt at_ ta co) g1 l1 := by
  obtain ⟨_, ⟨hb, hd0, hn, hm⟩, hmf⟩ := h
  have hcn : (D 2).toNat = d := by omega
  obtain ⟨⟨⟨a0, a1, a2⟩, a4, a5, a6, a7⟩, hp, hs, hc, a3, a8⟩ := hd0
  obtain ⟨⟨b1, b2⟩, ⟨b3, b4⟩, b5, b6⟩ := id hb
  have ao : ∀ j : Nat, j ≠ 2 → (j < 82 ∨ (100 ≤ j ∧ j < 212) ∨ 218 ≤ j) → s_addC D (s_L b n (s_E b n q)).toInt at_ ta co j = D j := fun j h1 hj => s_addC_o h1 (by omega) (by omega)
  refine ⟨ht, ⟨⟨⟨by rw [ao 0 (by decide) (by omega)]; exact b1, by rw [ao 0 (by decide) (by omega)]; exact b2⟩, ⟨by rw [ao 1 (by decide) (by omega)]; exact b3, by rw [ao 1 (by decide) (by omega)]; exact b4⟩, by rw [s_addC_2]; omega, by rw [s_addC_2]; omega⟩, ⟨⟨⟨?_, ?_, by rw [s_addC_2]; exact r1⟩, ?_, ?_, ?_, ?_⟩, fun i hi => ?_, fun j hj hj2 => ?_, fun j hj hj2 => ?_, by rw [r _ (by decide) (by omega), ao 3 (by decide) (by omega)]; exact a3, by rw [r _ (by decide) (by omega), ao 8 (by decide) (by omega)]; exact a8⟩, ⟨fun i hi => ?_, fun i hi => ?_, fun i hi => ?_⟩, ?_⟩, by unfold t_MF; rw [hf.1, hf.2]; exact hmf⟩
  · rw [r _ (by decide) (by omega), ao 0 (by decide) (by omega)]; exact a0
  · rw [r _ (by decide) (by omega), ao 1 (by decide) (by omega)]; exact a1
  · rw [r _ (by decide) (by omega), ao 4 (by decide) (by omega)]; exact a4
  · rw [r _ (by decide) (by omega), ao 5 (by decide) (by omega)]; exact a5
  · rw [r _ (by decide) (by omega), ao 6 (by decide) (by omega)]; exact a6
  · rw [r _ (by decide) (by omega), ao 7 (by decide) (by omega)]; exact a7
  · rw [ao 0 (by decide) (by omega)] at hi
    rw [ao _ (by omega) (by omega)]
    exact t_pr_cg (hp i hi) (fun t ht7 => r _ (by omega) (by omega))
  · rw [ao 1 (by decide) (by omega)] at hj2
    rw [r _ (by omega) (by omega), ao j (by omega) (by omega)]
    exact hs j hj hj2
  · rw [s_addC_2] at hj2
    by_cases hjd : j < 82 + 3 * d
    · rw [r _ (by omega) (by omega), s_addC_o (by omega) (by omega) (by omega)]; exact hc j hj (by omega)
    · obtain ⟨_, z1, z2, z3⟩ := s_addC_n (nm := (s_L b n (s_E b n q)).toInt) (at_ := at_) (ta := ta) (co := co) hb
      rw [hcn] at z1 z2 z3
      have hj5 : j = 82 + 3 * d ∨ j = 83 + 3 * d ∨ j = 84 + 3 * d := by omega
      rcases hj5 with e | e | e
      · rw [e, z1, show 1400 + (82 + 3 * d) = 1482 + 3 * d by omega]; exact v1
      · rw [e, z2, show 1400 + (83 + 3 * d) = 1483 + 3 * d by omega]; exact v2
      · rw [e, z3, show 1400 + (84 + 3 * d) = 1484 + 3 * d by omega]; exact v3
  · rw [ao 0 (by decide) (by omega)] at hi
    rw [ao _ (by omega) (by omega), hl, if_neg (by omega)]; exact hn.1 i hi
  · rw [ao 1 (by decide) (by omega)] at hi
    rw [ao _ (by omega) (by omega), hl, if_neg (by omega)]; exact hn.2.1 i hi
  · rw [s_addC_2] at hi
    by_cases hid : i = d
    · have z := (s_addC_n (nm := (s_L b n (s_E b n q)).toInt) (at_ := at_) (ta := ta) (co := co) hb).1
      rw [hcn] at z
      rw [hid, z, hl, if_pos rfl]; exact t_nr_of hN
    · rw [s_addC_o (by omega) (by omega) (by omega), hl, if_neg (by omega)]; exact hn.2.2 i (by omega)
  · unfold t_Mt
    rw [e20, ao 221 (by decide) (by omega), ao 222 (by decide) (by omega), ao 223 (by decide) (by omega)]; exact hm
/-- numbers told -/
theorem t_MS_tel (h : t_MS b n q D gi gl) (ht : t_TM b n q' g1) (hf : t_mf gi g1) (r : ∀ j, (j < 1404 ∨ 1408 ≤ j) → g1 70 j = gi 70 j) (v4 : (g1 70 1404).toInt = D' 4) (v5 : (g1 70 1405).toInt = D' 5) (v6 : (g1 70 1406).toInt = D' 6) (v7 : (g1 70 1407).toInt = D' 7) (hl : ∀ j : Nat, l1 71 j = gl 71 j) (hD : ∀ j : Nat, (j < 4 ∨ (8 ≤ j ∧ j < 221) ∨ 224 ≤ j) → D' j = D j) (hm : t_Mt g1 D') : t_MS b n q' D' g1 l1 := by
  obtain ⟨_, ⟨hb, hd0, hn, _⟩, hmf⟩ := h
  obtain ⟨⟨⟨a0, a1, a2⟩, _⟩, hp, hs, hc, a3, a8⟩ := hd0
  obtain ⟨⟨b1, b2⟩, ⟨b3, b4⟩, b5, b6⟩ := id hb
  have d0 := hD 0 (by omega)
  have d1 := hD 1 (by omega)
  have d2 := hD 2 (by omega)
  refine ⟨ht, ⟨⟨⟨by omega, by omega⟩, ⟨by omega, by omega⟩, by omega, by omega⟩, ⟨⟨⟨by rw [r _ (by omega), d0]; exact a0, by rw [r _ (by omega), d1]; exact a1, by rw [r _ (by omega), d2]; exact a2⟩, v4, v5, v6, v7⟩, fun i hi => ?_, fun j hj hj2 => ?_, fun j hj hj2 => ?_, by rw [r _ (by omega), hD 3 (by omega)]; exact a3, by rw [r _ (by omega), hD 8 (by omega)]; exact a8⟩, ⟨fun i hi => ?_, fun i hi => ?_, fun i hi => ?_⟩, hm⟩, by unfold t_MF; rw [hf.1, hf.2]; exact hmf⟩
  · rw [d0] at hi
    rw [hD _ (by omega)]
    exact t_pr_cg (hp i hi) (fun t ht7 => r _ (by omega))
  · rw [d1] at hj2
    rw [r _ (by omega), hD _ (by omega)]; exact hs j hj hj2
  · rw [d2] at hj2
    rw [r _ (by omega), hD _ (by omega)]; exact hc j hj hj2
  · rw [d0] at hi; rw [hl, hD _ (by omega)]; exact hn.1 i hi
  · rw [d1] at hi; rw [hl, hD _ (by omega)]; exact hn.2.1 i hi
  · rw [d2] at hi; rw [hl, hD _ (by omega)]; exact hn.2.2 i hi
theorem t_mtb {x z1 z2 : Int32} {k : Int32} (hm : t_Mt gi D) (hx : x = gi 69 20) {kk : Nat} (hk : k.toInt = (kk : Int) + 1) (hkk : kk < 3) (e1 : z1 = x >>> (k &&& 31)) (e2 : z2 = z1 &&& 1) : z2.toInt = D (221 + kk) := by
  obtain ⟨h0, h1, h2, h3⟩ := hm
  have hi : x = Int32.ofNat (2 * ((gi 69 20).toInt.toNat / 2)) := by
    have h4 : (Int32.ofNat (2 * ((gi 69 20).toInt.toNat / 2))).toInt = ((2 * ((gi 69 20).toInt.toNat / 2) : Nat) : Int) := Int32.toInt_ofNat_of_lt (by omega)
    exact Int32.toInt_inj.mp (by rw [hx, h4]; omega)
  have hkI : k = Int32.ofNat (kk + 1) := by
    have h4 : (Int32.ofNat (kk + 1)).toInt = ((kk + 1 : Nat) : Int) := Int32.toInt_ofNat_of_lt (by omega)
    exact Int32.toInt_inj.mp (by rw [hk, h4]; omega)
  have hA := List.all_eq_true.mp t_told_all ((gi 69 20).toInt.toNat / 2) (List.mem_range.mpr (by omega))
  have hB := List.all_eq_true.mp hA kk (List.mem_range.mpr hkk)
  rw [Bool.and_eq_true, decide_eq_true_eq, decide_eq_true_eq, ← hi, ← hkI] at hB
  rw [e2, e1, hB.1]
  have hk3 : kk = 0 ∨ kk = 1 ∨ kk = 2 := by omega
  rcases hk3 with rfl | rfl | rfl
  · show (((gi 69 20).toInt.toNat / 2 / 2 ^ 0 % 2 : Nat) : Int) = D 221; omega
  · show (((gi 69 20).toInt.toNat / 2 / 2 ^ 1 % 2 : Nat) : Int) = D 222; omega
  · show (((gi 69 20).toInt.toNat / 2 / 2 ^ 2 % 2 : Nat) : Int) = D 223; omega
theorem t_mts {x z1 z2 : Int32} {k : Int32} (hm : t_Mt gi D) (hx : x = gi 69 20) {kk : Nat} (hk : k.toInt = (kk : Int) + 1) (hkk : kk < 3) (h0 : D (221 + kk) = 0) {p : Int} (hp : p = 2 ^ (kk + 1)) (e1 : z1.toInt = p) (e2 : z2 = x ||| z1) : z2.toInt = (gi 69 20).toInt + 2 ^ (kk + 1) := by
  obtain ⟨h0', h1, h2, h3⟩ := hm
  have hi : x = Int32.ofNat (2 * ((gi 69 20).toInt.toNat / 2)) := by
    have h4 : (Int32.ofNat (2 * ((gi 69 20).toInt.toNat / 2))).toInt = ((2 * ((gi 69 20).toInt.toNat / 2) : Nat) : Int) := Int32.toInt_ofNat_of_lt (by omega)
    exact Int32.toInt_inj.mp (by rw [hx, h4]; omega)
  have hkI : k = Int32.ofNat (kk + 1) := by
    have h4 : (Int32.ofNat (kk + 1)).toInt = ((kk + 1 : Nat) : Int) := Int32.toInt_ofNat_of_lt (by omega)
    exact Int32.toInt_inj.mp (by rw [hk, h4]; omega)
  have hA := List.all_eq_true.mp t_told_all ((gi 69 20).toInt.toNat / 2) (List.mem_range.mpr (by omega))
  have hB := List.all_eq_true.mp hA kk (List.mem_range.mpr hkk)
  have hz : z1 = Int32.ofNat (2 ^ (kk + 1)) := by
    have hk3 : kk = 0 ∨ kk = 1 ∨ kk = 2 := by omega
    rcases hk3 with rfl | rfl | rfl <;> exact Int32.toInt_inj.mp (by rw [e1, hp]; rfl)
  rw [Bool.and_eq_true, decide_eq_true_eq, decide_eq_true_eq, ← hi, ← hkI, ← hz] at hB
  rw [e2, hB.2]
  have hk3 : kk = 0 ∨ kk = 1 ∨ kk = 2 := by omega
  rcases hk3 with rfl | rfl | rfl
  · have h0 : D 221 = 0 := h0
    rw [if_neg (by show ¬ ((gi 69 20).toInt.toNat / 2 / 2 ^ 0 % 2 = 1); omega)]
    show 2 * (((gi 69 20).toInt.toNat / 2 : Nat) : Int) + 2 = (gi 69 20).toInt + 2; omega
  · have h0 : D 222 = 0 := h0
    rw [if_neg (by show ¬ ((gi 69 20).toInt.toNat / 2 / 2 ^ 1 % 2 = 1); omega)]
    show 2 * (((gi 69 20).toInt.toNat / 2 : Nat) : Int) + 4 = (gi 69 20).toInt + 4; omega
  · have h0 : D 223 = 0 := h0
    rw [if_neg (by show ¬ ((gi 69 20).toInt.toNat / 2 / 2 ^ 2 % 2 = 1); omega)]
    show 2 * (((gi 69 20).toInt.toNat / 2 : Nat) : Int) + 8 = (gi 69 20).toInt + 8; omega
end MSH
section MRV
variable {b : Nat → Int32} {n p q q' m : Nat} {gi g1 : Nat → Nat → Int32} {gl l1 : Nat → Nat → Int64} {D D' : s_D} {x : Int}
theorem s_semi_b1 (hx : x ≠ 0) (hp : s_part b n p D = s_bad b n q x D') : s_semi b n (s_part b n p D) = s_bad b n q x D' := by
  have h1 : ¬ (s_bad b n q x D').1.1 = 0 := s_fk_ne hx
  rw [hp]; unfold s_semi; rw [s_ifF h1]
theorem s_semi_b2 (hp : s_part b n p D = s_ok q D') (hs : ¬ s_isS b n q 59) : s_semi b n (s_part b n p D) = s_bad b n q 2 D' := by
  rw [hp]; unfold s_semi; rw [s_ifT (show (s_ok q D').1.1 = 0 from rfl), s_ifF (show ¬ s_isS b n (s_ok q D').2.1 59 from hs)]; rfl
theorem s_rv_y (hK : s_K b n p ≠ 0) (h : s_semi b n (s_part b n p D) = s_ok q D') : s_rv b n (m + 1) p D = s_rv b n m q D' := by
  show s_if _ _ _ = _
  rw [s_ifF hK, h, s_ifT (show (s_ok q D').1.1 = 0 from rfl)]; rfl
theorem s_rv_n (hK : s_K b n p ≠ 0) (hx : x ≠ 0) (h : s_semi b n (s_part b n p D) = s_bad b n q x D') : s_rv b n (m + 1) p D = s_bad b n q x D' := by
  have h1 : ¬ (s_bad b n q x D').1.1 = 0 := s_fk_ne hx
  show s_if _ _ _ = _
  rw [s_ifF hK, h, s_ifF h1]
/-- the begin: nothing is told -/
theorem t_MS_0 (ht : t_TM b n 0 gi) (hz : ∀ j : Nat, j < 350 → j ≠ 4 → (gi 70 (1400 + j)).toInt = 0) (h5 : (gi 70 1404).toInt = 5) (h20 : (gi 69 20).toInt = 0) (hf : t_MF gi 0 (-1)) : t_MS b n 0 s_D0 gi gl := by
  refine ⟨ht, ⟨⟨⟨by decide, by decide⟩, ⟨by decide, by decide⟩, by decide, by decide⟩, ⟨⟨⟨hz 0 (by decide) (by decide), hz 1 (by decide) (by decide), hz 2 (by decide) (by decide)⟩, h5, hz 5 (by decide) (by decide), hz 6 (by decide) (by decide), hz 7 (by decide) (by decide)⟩, fun i hi => ?_, fun j hj hj2 => ?_, fun j hj hj2 => ?_, hz 3 (by decide) (by decide), hz 8 (by decide) (by decide)⟩, ⟨fun i hi => ?_, fun i hi => ?_, fun i hi => ?_⟩, ⟨h20, by decide, by decide, by decide⟩⟩, hf⟩
  · have hi : (i : Int) < 0 := hi
    omega
  · have hj2 : (j : Int) < 52 + 5 * 0 := hj2
    omega
  · have hj2 : (j : Int) < 82 + 3 * 0 := hj2
    omega
  · have hi : (i : Int) < 0 := hi
    omega
  · have hi : (i : Int) < 0 := hi
    omega
  · have hi : (i : Int) < 0 := hi
    omega
/-- a slot copied -/
theorem t_MD_cp (h : t_MD 1400 gi D) (hb : t_Cb D) (e : ∀ j : Nat, j < 350 → g1 70 j = gi 70 (1400 + j)) : t_MD 0 g1 D := by
  obtain ⟨⟨⟨a0, a1, a2⟩, a4, a5, a6, a7⟩, hp, hs, hc, a3, a8⟩ := h
  obtain ⟨⟨b1, b2⟩, ⟨b3, b4⟩, b5, b6⟩ := hb
  refine ⟨⟨⟨by rw [e _ (by decide)]; exact a0, by rw [e _ (by decide)]; exact a1, by rw [e _ (by decide)]; exact a2⟩, by rw [e _ (by decide)]; exact a4, by rw [e _ (by decide)]; exact a5, by rw [e _ (by decide)]; exact a6, by rw [e _ (by decide)]; exact a7⟩, fun i hi => ?_, fun j hj hj2 => ?_, fun j hj hj2 => ?_, by rw [e _ (by decide)]; exact a3, by rw [e _ (by decide)]; exact a8⟩
  · refine t_prt_cg (hp i hi) (fun t ht => ?_)
    show g1 70 (0 + 10 + 7 * i + t) = gi 70 (1400 + 10 + 7 * i + t)
    rw [e _ (by omega), show 1400 + (0 + 10 + 7 * i + t) = 1400 + 10 + 7 * i + t by omega]
  · rw [show 0 + j = j by omega, e _ (by omega)]; exact hs j hj hj2
  · rw [show 0 + j = j by omega, e _ (by omega)]; exact hc j hj hj2
/-- where the other side's loop stands -/
noncomputable def t_MU (b : Nat → Int32) (n : Nat) (y : Int32) (gi : Nat → Nat → Int32) (gl : Nat → Nat → Int64) : Prop := (y.toInt ≠ 0 ∧ ∃ (q : Nat) (D : s_D) (f : Nat), t_MS b n q D gi gl ∧ s_rv b n 901 0 s_D0 = s_rv b n f q D ∧ (s_K b n q ≠ 0 → n + 1 ≤ s_E b n q + f)) ∨ (y.toInt = 0 ∧ ∃ (p : Nat) (x : Int) (D : s_D), x ≠ 0 ∧ s_rv b n 901 0 s_D0 = s_bad b n p x D ∧ t_MF gi (s_fk b n p x) (s_F b n p))
theorem t_MU_s {y : Int32} (h : t_MU b n y gi gl) (hy : y.toInt ≠ 0) (h12 : (gi 69 12).toInt ≠ 0) {w : Int32} (hc : ∀ q D, t_MS b n q D gi gl → (w.toInt = 1 ∧ ∃ q2 D2, s_semi b n (s_part b n q D) = s_ok q2 D2 ∧ t_MS b n q2 D2 g1 l1) ∨ (w.toInt = 0 ∧ ∃ p x D2, x ≠ 0 ∧ s_semi b n (s_part b n q D) = s_bad b n p x D2 ∧ t_MF g1 (s_fk b n p x) (s_F b n p))) (hm : w.toInt = 1 → (g1 69 12).toInt ≠ 0 → (gi 69 14).toInt < (g1 69 14).toInt) : t_MU b n w g1 l1 := by
  rcases h with ⟨_, q, D, f, h1, h2, h3⟩ | ⟨h0, _⟩
  · have hK : s_K b n q ≠ 0 := by have := h1.1.2.2.2.1; omega
    have hEn := (s_E_b (b := b) h1.1.1.2).2
    have hf := h3 hK
    obtain ⟨f', rfl⟩ : ∃ f', f = f' + 1 := ⟨f - 1, by omega⟩
    rcases hc q D h1 with ⟨hw, q2, D2, h4, h5⟩ | ⟨hw, p, x, D2, hx, h4, h5⟩
    · refine Or.inl ⟨by omega, q2, D2, f', h5, h2.trans (s_rv_y hK h4), fun hK2 => ?_⟩
      have h6 := hm hw (by have := h5.1.2.2.2.1; omega)
      have h7 := h1.1.2.1
      have h8 := h5.1.2.1
      omega
    · exact Or.inr ⟨hw, p, x, D2, hx, h2.trans (s_rv_n hK hx h4), h5⟩
  · exact absurd h0 hy
end MRV
section MLO
variable {b : Nat → Int32} {n p q : Nat} {gi g1 g2 : Nat → Nat → Int32} {gl l1 : Nat → Nat → Int64} {D : s_D}
theorem t_MD.lo (h : t_MD 1400 gi D) {m : Nat} {v : Int32} (hm : m < 1400) (e : g1 = x_up2 gi 70 m v) : t_MD 1400 g1 D := by
  have hr : ∀ j, 1400 ≤ j → g1 70 j = gi 70 j := fun j hj => by rw [e, x_up2_off (Or.inr (by omega))]
  obtain ⟨⟨⟨a0, a1, a2⟩, a4, a5, a6, a7⟩, hp, hs, hc, a3, a8⟩ := h
  refine ⟨⟨⟨by rw [hr _ (by omega)]; exact a0, by rw [hr _ (by omega)]; exact a1, by rw [hr _ (by omega)]; exact a2⟩, by rw [hr _ (by omega)]; exact a4, by rw [hr _ (by omega)]; exact a5, by rw [hr _ (by omega)]; exact a6, by rw [hr _ (by omega)]; exact a7⟩, fun i hi => ?_, fun j hj hj2 => ?_, fun j hj hj2 => ?_, by rw [hr _ (by omega)]; exact a3, by rw [hr _ (by omega)]; exact a8⟩
  · exact t_prt_cg (hp i hi) (fun t ht => hr _ (by omega))
  · rw [hr _ (by omega)]; exact hs j hj hj2
  · rw [hr _ (by omega)]; exact hc j hj hj2
/-- what is copied so far -/
noncomputable def t_MV (b : Nat → Int32) (n : Nat) (y : Int32) (gi : Nat → Nat → Int32) : Prop := ∃ (q : Nat) (D : s_D), (s_rv b n 901 0 s_D0 = s_ok q D ∧ t_Cb D) ∧ t_MD 1400 gi D ∧ t_MF gi 0 (-1) ∧ ∀ j : Nat, (j : Int) < y.toInt → j < 350 → gi 70 j = gi 70 (1400 + j)
theorem t_MV_0 {y z : Int32} (h : t_MU b n y gi gl) (hf : (gi 69 18).toInt = 0) (hz : z.toInt = 0) (he : y.toInt = 0 ∨ (gi 69 12).toInt = 0) : t_MV b n z gi := by
  rcases h with ⟨h0, q, D, f, h1, h2, h3⟩ | ⟨h0, p, x, D, hx, h2, h3⟩
  · have hK : s_K b n q = 0 := by have := h1.1.2.2.2.1; omega
    exact ⟨q, D, ⟨h2.trans (s_rv_e hK), h1.2.1.1⟩, h1.2.1.2.1, h1.2.2, fun j hj _ => by omega⟩
  · exact absurd (h3.1.symm.trans hf) (s_fk_ne hx)
theorem t_MV_s {y z w : Int32} {i i2 : Nat} (h : t_MV b n y gi) (h0 : 0 ≤ y.toInt) (h1 : y.toInt < 350) (hi : (i : Int) = y.toInt) (hi2 : (i2 : Int) = 1400 + y.toInt) (ew : w = gi 70 i2) (hz : z.toInt = y.toInt + 1) (e : g1 = x_up2 gi 70 i w) : t_MV b n z g1 := by
  obtain ⟨q, D, h2, h3, h4, h5⟩ := h
  refine ⟨q, D, h2, h3.lo (by omega) e, ?_, fun j hj hj2 => ?_⟩
  · unfold t_MF; rw [e, x_up2_ne (by decide)]; exact h4
  · by_cases hji : j = i
    · rw [e, x_up2_off (Or.inr (by omega)) (b := 1400 + j), hji, x_up2_at, ew, show i2 = 1400 + i by omega]
    · rw [e, x_up2_off (Or.inr hji), x_up2_off (Or.inr (by omega))]; exact h5 j (by omega) hj2
theorem t_MV_k {y z : Int32} (h : t_MV b n y gi) (hy : 350 ≤ y.toInt) : t_MV b n z gi := by
  obtain ⟨q, D, h2, h3, h4, h5⟩ := h
  exact ⟨q, D, h2, h3, h4, fun j _ hj => h5 j (by omega) hj⟩
end MLO
/-! ===== what is refused has a count above nothing ===== -/
section POS
variable {b : Nat → Int32} {n p : Nat} {D : s_D}
noncomputable def s_pos (r : s_R) : Prop := 0 ≤ r.1.1
theorem s_pos_if {c : Prop} {x y : s_R} (hx : s_pos x) (hy : s_pos y) : s_pos (s_if c x y) := by
  rcases Classical.em c with h | h
  · rw [s_ifT h]; exact hx
  · rw [s_ifF h]; exact hy
theorem s_pos_bad {x : Int} (hx : 0 ≤ x) : s_pos (s_bad b n p x D) := by
  show 0 ≤ s_fk b n p x
  unfold s_fk; split
  · decide
  · exact hx
theorem s_pos_ok : s_pos (s_ok p D) := Int.le_refl 0
theorem s_pos_kw {i : Nat} {k : Nat → s_R} (h : ∀ q, s_pos (k q)) : s_pos (s_kw b n p i D k) := s_pos_if (h _) (s_pos_bad (by decide))
theorem s_pos_num {lo hi : Int} {k : Nat → s_R} (h : ∀ q, s_pos (k q)) : s_pos (s_num b n p lo hi D k) := s_pos_if (s_pos_if (h _) (s_pos_bad (by decide))) (s_pos_bad (by decide))
theorem s_pos_name {k : Nat → s_R} (h : ∀ q, s_pos (k q)) : s_pos (s_name b n p D k) := s_pos_if (s_pos_if (s_pos_bad (by decide)) (h _)) (s_pos_bad (by decide))
theorem s_pos_come {k : Nat → Int → Int → Int → s_R} (h : ∀ q x y z, s_pos (k q x y z)) : s_pos (s_come b n p D k) := s_pos_kw fun _ => s_pos_num fun _ => s_pos_kw fun _ => s_pos_num fun _ => s_pos_kw fun _ => s_pos_num fun _ => h _ _ _ _
theorem s_pos_port : s_pos (s_port b n p D) := s_pos_if (s_pos_bad (by decide)) (s_pos_name fun _ => s_pos_kw fun _ => s_pos_if (s_pos_if (s_pos_bad (by decide)) s_pos_ok) (s_pos_bad (by decide)))
theorem s_pos_turns : s_pos (s_turns b n p D) := s_pos_if (s_pos_num fun _ => s_pos_ok) (s_pos_bad (by decide))
theorem s_pos_frost : s_pos (s_frost b n p D) := s_pos_if (s_pos_num fun _ => s_pos_kw fun _ => s_pos_num fun _ => s_pos_ok) (s_pos_bad (by decide))
theorem s_pos_echo : s_pos (s_echo b n p D) := s_pos_if (s_pos_num fun _ => s_pos_ok) (s_pos_bad (by decide))
theorem s_pos_ship : s_pos (s_ship b n p D) := s_pos_if (s_pos_bad (by decide)) (s_pos_name fun _ => s_pos_kw fun _ => s_pos_if (s_pos_if (s_pos_bad (by decide)) (s_pos_come fun _ _ _ _ => s_pos_if s_pos_ok s_pos_ok)) (s_pos_bad (by decide)))
theorem s_pos_cart : s_pos (s_cart b n p D) := s_pos_if (s_pos_bad (by decide)) (s_pos_name fun _ => s_pos_come fun _ _ _ _ => s_pos_ok)
theorem s_pos_part : s_pos (s_part b n p D) := s_pos_if s_pos_port (s_pos_if s_pos_turns (s_pos_if s_pos_frost (s_pos_if s_pos_echo (s_pos_if s_pos_ship (s_pos_if s_pos_cart (s_pos_bad (by decide)))))))
theorem s_pos_semi {r : s_R} (h : s_pos r) : s_pos (s_semi b n r) := s_pos_if (s_pos_if s_pos_ok (s_pos_bad (by decide))) h
theorem s_pos_rv : ∀ (m p : Nat) (D : s_D), s_pos (s_rv b n m p D)
  | 0, _, _ => s_pos_ok
  | m + 1, _, _ => s_pos_if s_pos_ok (s_pos_if (s_pos_rv m _ _) (s_pos_semi s_pos_part))
end POS
/-! ===== printed by riv.py: the RIVER of the other side ===== -/
noncomputable def wl_n_byteAt : List (Nat × Nat) := []
noncomputable def Q_n_byteAt (gi : Nat → Nat → Int32) (gl : Nat → Nat → Int64) (gr : Nat → Nat → Value) (ar1 : Int32) : Int32 → (Nat → Nat → Int32) → (Nat → Nat → Int64) → (Nat → Nat → Value) → Prop := fun (v : Int32) (gi2 : Nat → Nat → Int32) (gl2 : Nat → Nat → Int64) (gr2 : Nat → Nat → Value) => (∀ (b : Nat → Int32) (n : Nat), t_Tx b n gi → v.toInt = s_at b n ar1.toNatClampNeg) ∧ (v.toInt ≠ -1 → ar1.toInt < (gi 69 11).toInt) ∧ (v.toInt = -1 → (gi 69 11).toInt ≤ ar1.toInt)
theorem c_n_byteAt {X : x_Ext} {d : Nat} {sh : List (Nat ⊕ (Nat × Nat))} {gi : Nat → Nat → Int32} {gl : Nat → Nat → Int64} {gr : Nat → Nat → Value} (hI : t_I sh gi gr) (ar1 : Int32) (l_a1 : 0 ≤ ar1.toInt) : x_Me X (d + 1) n_X12_byteAt [.ref 69, .int ar1] (sh, gi, gl, gr) (t_PI wl_n_byteAt sh gi gl gr (-1) 255 (Q_n_byteAt gi gl gr ar1)) := by
  have hX : t_X wl_n_byteAt sh gi gl gr gi gl gr := t_X.rf
  refine me_i f_X12_byteAt (hI.wf.s rfl) rfl rfl rfl ?_
  obtain ⟨l1, u1⟩ := hI.b (hI.wf.s (k := 69) rfl) (t_bdK rfl : t_bd 11 11 = some (0, 900))
  refine ev_loc f_X12_byteAt (nx := 1) rfl rfl rfl rfl ?_
  refine ev_loc f_X12_byteAt (nx := 2) rfl rfl rfl rfl ?_
  refine ev_gvI f_X12_byteAt (nx := 5) (w := (gi 69 11)) rfl (hI.wf.s rfl) rfl rfl rfl rfl ?_
  refine ev_if f_X12_byteAt (t1 := 21) (t2 := 8) rfl rfl rfl (fun h2 => ?_) (fun h2 => ?_)
  · have r3 : (gi 69 11).toInt ≤ ar1.toInt := Int32.le_iff_toInt_le.mp h2
    refine ev_ic f_X12_byteAt (nx := 22) (v := -1) rfl (by decide) rfl ?_
    exact ev_ret f_X12_byteAt rfl rfl rfl ⟨_, _, _, rfl, hI, hX, ⟨_, rfl, (by decide : ((-1):Int) ≤ ((-1):Int32).toInt), (Int.le_trans (by decide : ((-1):Int32).toInt ≤ ((-1):Int)) (by decide : ((-1):Int) ≤ 255)), (show (∀ (b : Nat → Int32) (n : Nat), t_Tx b n gi → ((-1) : Int) = s_at b n ar1.toNatClampNeg) ∧ (((-1) : Int) ≠ -1 → ar1.toInt < (gi 69 11).toInt) ∧ (((-1) : Int) = -1 → (gi 69 11).toInt ≤ ar1.toInt) from ⟨fun b n h => h.no l_a1 (by omega), fun hh => absurd rfl hh, fun _ => by omega⟩)⟩⟩
  · have r4 : ar1.toInt < (gi 69 11).toInt := Int32.lt_iff_toInt_lt.mp (t_nle h2)
    have u5 : ar1.toInt ≤ 899 := t_ltu (t_nle h2) u1 rfl
    have l6 : 1 ≤ (gi 69 11).toInt := t_ltl (t_nle h2) l_a1 rfl
    refine ev_loc f_X12_byteAt (nx := 9) rfl rfl rfl rfl ?_
    refine ev_getR f_X12_byteAt (nx := 12) rfl (hI.wf.s rfl) rfl rfl (hI.wf.r rfl) rfl rfl ?_
    refine ev_loc f_X12_byteAt (nx := 13) rfl rfl rfl rfl ?_
    refine ev_baldT f_X12_byteAt (nx := 14) rfl (hI.wf.s rfl) rfl l_a1 (by decide) u5 (by decide) rfl (fun w7 e7 => ?_)
    refine ev_sp f_X12_byteAt (nx := 17) (v := 255) rfl (by decide) rfl ?_
    refine ev_andE f_X12_byteAt (nx := 18) (c := 255) rfl (by decide) (by decide) rfl (fun z8 e8 l8 u8 => ?_)
    refine ev_jmp f_X12_byteAt (nx := 22) rfl rfl rfl ?_
    exact ev_ret f_X12_byteAt rfl rfl rfl ⟨_, _, _, rfl, hI, hX, ⟨_, rfl, (Int.le_trans (by decide : ((-1):Int) ≤ 0) l8), u8, (show (∀ (b : Nat → Int32) (n : Nat), t_Tx b n gi → z8.toInt = s_at b n ar1.toNatClampNeg) ∧ (z8.toInt ≠ -1 → ar1.toInt < (gi 69 11).toInt) ∧ (z8.toInt = -1 → (gi 69 11).toInt ≤ ar1.toInt) from ⟨fun b n h => h.at l_a1 (by omega) e7 e8, fun _ => by omega, fun hh => absurd hh (by omega)⟩)⟩⟩
noncomputable def wl_n_ahead : List (Nat × Nat) := [(69, 12), (69, 13), (69, 14), (69, 15)]
noncomputable def Q_n_ahead (gi : Nat → Nat → Int32) (gl : Nat → Nat → Int64) (gr : Nat → Nat → Value) : (Nat → Nat → Int32) → (Nat → Nat → Int64) → (Nat → Nat → Value) → Prop := fun (gi2 : Nat → Nat → Int32) (gl2 : Nat → Nat → Int64) (gr2 : Nat → Nat → Value) => ∀ (b : Nat → Int32) (n q : Nat), t_Sm b n q gi → t_TM b n q gi2
theorem c_n_ahead {X : x_Ext} {d : Nat} {sh : List (Nat ⊕ (Nat × Nat))} {gi : Nat → Nat → Int32} {gl : Nat → Nat → Int64} {gr : Nat → Nat → Value} (hI : t_I sh gi gr) : x_Me X (d + 2) n_X12_ahead [.ref 69] (sh, gi, gl, gr) (t_PN wl_n_ahead sh gi gl gr (Q_n_ahead gi gl gr)) := by
  have hX : t_X wl_n_ahead sh gi gl gr gi gl gr := t_X.rf
  refine me_i f_X12_ahead (hI.wf.s rfl) rfl rfl rfl ?_
  obtain ⟨l1, u1⟩ := hI.b (hI.wf.s (k := 69) rfl) (t_bdK rfl : t_bd 11 11 = some (0, 900))
  obtain ⟨l2, u2⟩ := hI.b (hI.wf.s (k := 69) rfl) (t_bdK rfl : t_bd 11 14 = some (0, 900))
  have L3 : ∀ (gi3 : Nat → Nat → Int32) (gl3 : Nat → Nat → Int64) (gr3 : Nat → Nat → Value), t_I sh gi3 gr3 → t_X wl_n_ahead sh gi gl gr gi3 gl3 gr3 → (∀ (b : Nat → Int32) (n q : Nat), t_Sm b n q gi → ∃ i : Nat, t_Sm b n i gi3 ∧ s_F b n q = i ∧ q ≤ n) → x_Ev X (d + 2) n_X12_ahead 39 [(0, .ref 69)] [] (sh, gi3, gl3, gr3) (t_PN wl_n_ahead sh gi gl gr (Q_n_ahead gi gl gr)) := by
    intro gi3 gl3 gr3 hI hX j3_0
    obtain ⟨l4, u4⟩ := hI.b (hI.wf.s (k := 69) rfl) (t_bdK rfl : t_bd 11 11 = some (0, 900))
    obtain ⟨l5, u5⟩ := hI.b (hI.wf.s (k := 69) rfl) (t_bdK rfl : t_bd 11 14 = some (0, 900))
    refine ev_loc f_X12_ahead (nx := 40) rfl rfl rfl rfl ?_
    refine ev_loc f_X12_ahead (nx := 41) rfl rfl rfl rfl ?_
    refine ev_gvI f_X12_ahead (nx := 44) (w := (gi3 69 14)) rfl (hI.wf.s rfl) rfl rfl rfl rfl ?_
    refine ev_putIT f_X12_ahead (nx := 47) rfl (hI.wf.s rfl) rfl rfl rfl (hI.putB (hI.wf.s rfl) rfl rfl l5 (by decide) u5 (by decide)) (hX.upI rfl) (fun g6 e6 hI hX => ?_)
    refine ev_loc f_X12_ahead (nx := 48) rfl rfl rfl rfl ?_
    refine ev_loc f_X12_ahead (nx := 49) rfl rfl rfl rfl ?_
    refine ev_gvI f_X12_ahead (nx := 52) (w := (gi3 69 14)) rfl (hI.wf.s rfl) rfl rfl ((by rw [e6]; exact x_up2_off (Or.inr (by decide)) : g6 69 14 = gi3 69 14).trans rfl) rfl ?_
    refine ev_qI0 f_X12_ahead (nx := 55) (r := []) rfl rfl rfl rfl rfl rfl rfl (c_n_byteAt hI ((gi3 69 14)) l5) rfl (fun w7 l7 u7 q7 => ?_)
    have ff8 : (g6 69 11).toInt = (gi3 69 11).toInt := congrArg Int32.toInt ((by rw [e6]; exact x_up2_off (Or.inr (by decide)) : g6 69 11 = gi3 69 11).trans rfl)
    have q7 : (∀ (b : Nat → Int32) (n : Nat), t_Tx b n g6 → w7.toInt = s_at b n (gi3 69 14).toNatClampNeg) ∧ (w7.toInt ≠ -1 → (gi3 69 14).toInt < (g6 69 11).toInt) ∧ (w7.toInt = -1 → (g6 69 11).toInt ≤ (gi3 69 14).toInt) := q7
    refine ev_loc f_X12_ahead (nx := 56) (lo' := [(1, .int w7), (0, .ref 69)]) rfl rfl rfl rfl ?_
    refine ev_loc f_X12_ahead (nx := 57) rfl rfl rfl rfl ?_
    refine ev_loc f_X12_ahead (nx := 58) rfl rfl rfl rfl ?_
    refine ev_putIT f_X12_ahead (nx := 61) rfl (hI.wf.s rfl) rfl rfl rfl (hI.put0 (hI.wf.s rfl) rfl rfl) (hX.upI rfl) (fun g9 e9 hI hX => ?_)
    refine ev_loc f_X12_ahead (nx := 62) rfl rfl rfl rfl ?_
    refine ev_ic f_X12_ahead (nx := 63) (v := -1) rfl (by decide) rfl ?_
    refine ev_if f_X12_ahead (t1 := 66) (t2 := 74) rfl rfl rfl (fun h10 => ?_) (fun h10 => ?_)
    · have u11 : w7.toInt ≤ (-1) := t_equ h10 (by decide : ((-1):Int32).toInt ≤ ((-1):Int))
      refine ev_loc f_X12_ahead (nx := 67) rfl rfl rfl rfl ?_
      refine ev_ic f_X12_ahead (nx := 68) (v := 0) rfl (by decide) rfl ?_
      refine ev_putIT f_X12_ahead (nx := 71) rfl (hI.wf.s rfl) rfl rfl rfl (hI.putB (hI.wf.s rfl) rfl rfl (by decide : (0:Int) ≤ (0:Int32).toInt) (by decide) (by decide : (0:Int32).toInt ≤ (0:Int)) (by decide)) (hX.upI rfl) (fun g12 e12 hI hX => ?_)
      refine ev_jmp f_X12_ahead (nx := 263) rfl rfl rfl ?_
      exact ev_ret f_X12_ahead rfl rfl rfl ⟨_, _, _, rfl, hI, hX, ⟨rfl, (show ∀ (b : Nat → Int32) (n q : Nat), t_Sm b n q gi → t_TM b n q g12 from (fun b n q h => (by
                                                            obtain ⟨i, hi, hF, hp⟩ := j3_0 b n q h
                                                            have s44 := hi.up (by decide) e6
                                                            have s58 := s44.up (by decide) e9
                                                            have hw : w7.toInt = s_at b n (g9 69 14).toNatClampNeg := by rw [e9, x_up2_off (Or.inr (by decide)), e6, x_up2_off (Or.inr (by decide))]; exact q7.1 b n s44.1
                                                            have h13 : (g9 69 13).toInt = (i : Int) := by rw [e9, x_up2_off (Or.inr (by decide)), e6, x_up2_at]; exact hi.2.1
                                                            have hn : n ≤ i := by
                                                              rw [s58.cl] at hw
                                                              exact s_at_e s58.1.1.2 (by omega)
                                                            exact t_TM_0 (s58.up (by decide) e12) hF hp hn (by rw [e12, x_up2_off (Or.inr (by decide))]; exact h13) (by rw [e12, x_up2_at]; rfl))))⟩⟩
    · have r13 : w7.toInt ≠ (-1) := fun e => h10 (Int32.toInt_inj.mp (e.trans (by decide : ((-1):Int) = ((-1) : Int32).toInt)))
      have l14 : 0 ≤ w7.toInt := t_nel h10 l7 rfl rfl
      refine ev_loc f_X12_ahead (nx := 75) rfl rfl rfl rfl ?_
      refine ev_inS1 f_X12_ahead (nx := 78) (lo2 := [(0, .int w7)]) rfl rfl rfl rfl f_X12_isSmall rfl rfl rfl rfl ?_
      refine ev_loc f_X12_isSmall (nx := 1) rfl rfl rfl rfl ?_
      refine ev_bp f_X12_isSmall (nx := 3) (v := 97) rfl (by decide) rfl ?_
      refine ev_if f_X12_isSmall (t1 := 16) (t2 := 6) rfl rfl rfl (fun h15 => ?_) (fun h15 => ?_)
      · have u16 : w7.toInt ≤ 96 := t_ltu h15 (by decide : (97:Int32).toInt ≤ (97:Int)) rfl
        refine ev_ic f_X12_isSmall (nx := 17) (v := 0) rfl (by decide) rfl ?_
        refine ev_retK1 f_X12_isSmall rfl rfl rfl ?_
        refine ev_t f_X12_ahead (t1 := 116) (t2 := 81) rfl rfl rfl (by decide) ?_
        refine ev_loc f_X12_ahead (nx := 117) rfl rfl rfl rfl ?_
        refine ev_inS1 f_X12_ahead (nx := 120) (lo2 := [(0, .int w7)]) rfl rfl rfl rfl f_X12_isDigit rfl rfl rfl rfl ?_
        refine ev_loc f_X12_isDigit (nx := 1) rfl rfl rfl rfl ?_
        refine ev_bp f_X12_isDigit (nx := 3) (v := 48) rfl (by decide) rfl ?_
        refine ev_if f_X12_isDigit (t1 := 16) (t2 := 6) rfl rfl rfl (fun h17 => ?_) (fun h17 => ?_)
        · have u18 : w7.toInt ≤ 47 := t_ltu h17 (by decide : (48:Int32).toInt ≤ (48:Int)) rfl
          refine ev_ic f_X12_isDigit (nx := 17) (v := 0) rfl (by decide) rfl ?_
          refine ev_retK1 f_X12_isDigit rfl rfl rfl ?_
          refine ev_t f_X12_ahead (t1 := 208) (t2 := 123) rfl rfl rfl (by decide) ?_
          refine ev_loc f_X12_ahead (nx := 209) rfl rfl rfl rfl ?_
          refine ev_alu f_X12_ahead (nx := 210) rfl rfl rfl rfl ?_
          refine ev_gvI f_X12_ahead (nx := 213) (w := (gi3 69 14)) rfl (hI.wf.s rfl) rfl rfl ((by rw [e9]; exact x_up2_off (Or.inr (by decide)) : g9 69 14 = g6 69 14).trans ((by rw [e6]; exact x_up2_off (Or.inr (by decide)) : g6 69 14 = gi3 69 14).trans rfl)) rfl ?_
          refine ev_ic f_X12_ahead (nx := 214) (v := 1) rfl (by decide) rfl ?_
          refine ev_addC f_X12_ahead (nx := 215) (c := 1) (l := 1) (u := 901) rfl (by decide) l5 u5 rfl rfl (by decide) (by decide) rfl (fun z19 e19 l19 u19 => ?_)
          have u21 : z19.toInt ≤ (900:Int) := (by have h1 := q7.2.1 (by omega); omega)
          refine ev_putIT f_X12_ahead (nx := 218) rfl (hI.wf.s rfl) rfl rfl rfl (hI.putB (hI.wf.s rfl) rfl rfl l19 (by decide) u21 (by decide)) (hX.upI rfl) (fun g20 e20 hI hX => ?_)
          refine ev_loc f_X12_ahead (nx := 219) rfl rfl rfl rfl ?_
          refine ev_loc f_X12_ahead (nx := 220) rfl rfl rfl rfl ?_
          refine ev_bp f_X12_ahead (nx := 222) (v := 59) rfl (by decide) rfl ?_
          refine ev_f f_X12_ahead (t1 := 255) (t2 := 225) rfl rfl rfl (t_neT u18 (by decide : (59:Int) ≤ (59:Int32).toInt) (by decide)) ?_
          refine ev_loc f_X12_ahead (nx := 226) rfl rfl rfl rfl ?_
          refine ev_bp f_X12_ahead (nx := 228) (v := 60) rfl (by decide) rfl ?_
          refine ev_f f_X12_ahead (t1 := 255) (t2 := 231) rfl rfl rfl (t_neT u18 (by decide : (60:Int) ≤ (60:Int32).toInt) (by decide)) ?_
          refine ev_loc f_X12_ahead (nx := 232) rfl rfl rfl rfl ?_
          refine ev_bp f_X12_ahead (nx := 234) (v := 62) rfl (by decide) rfl ?_
          refine ev_f f_X12_ahead (t1 := 255) (t2 := 237) rfl rfl rfl (t_neT u18 (by decide : (62:Int) ≤ (62:Int32).toInt) (by decide)) ?_
          refine ev_loc f_X12_ahead (nx := 238) rfl rfl rfl rfl ?_
          refine ev_bp f_X12_ahead (nx := 240) (v := 61) rfl (by decide) rfl ?_
          refine ev_f f_X12_ahead (t1 := 255) (t2 := 243) rfl rfl rfl (t_neT u18 (by decide : (61:Int) ≤ (61:Int32).toInt) (by decide)) ?_
          refine ev_loc f_X12_ahead (nx := 244) rfl rfl rfl rfl ?_
          refine ev_bp f_X12_ahead (nx := 246) (v := 40) rfl (by decide) rfl ?_
          refine ev_if f_X12_ahead (t1 := 255) (t2 := 249) rfl rfl rfl (fun h22 => ?_) (fun h22 => ?_)
          · have u23 : w7.toInt ≤ 40 := t_equ h22 (by decide : (40:Int32).toInt ≤ (40:Int))
            have l24 : 40 ≤ w7.toInt := t_eql h22 (by decide : (40:Int) ≤ (40:Int32).toInt)
            refine ev_ic f_X12_ahead (nx := 256) (v := 4) rfl (by decide) rfl ?_
            refine ev_jmp f_X12_ahead (nx := 260) rfl rfl rfl ?_
            refine ev_putIT f_X12_ahead (nx := 263) rfl (hI.wf.s rfl) rfl rfl rfl (hI.putB (hI.wf.s rfl) rfl rfl (by decide : (4:Int) ≤ (4:Int32).toInt) (by decide) (by decide : (4:Int32).toInt ≤ (4:Int)) (by decide)) (hX.upI rfl) (fun g25 e25 hI hX => ?_)
            exact ev_ret f_X12_ahead rfl rfl rfl ⟨_, _, _, rfl, hI, hX, ⟨rfl, (show ∀ (b : Nat → Int32) (n q : Nat), t_Sm b n q gi → t_TM b n q g25 from (fun b n q h => (by
                                                            obtain ⟨i, hi, hF, hp⟩ := j3_0 b n q h
                                                            have s44 := hi.up (by decide) e6
                                                            have s58 := s44.up (by decide) e9
                                                            have hw : w7.toInt = s_at b n (g9 69 14).toNatClampNeg := by rw [e9, x_up2_off (Or.inr (by decide)), e6, x_up2_off (Or.inr (by decide))]; exact q7.1 b n s44.1
                                                            have h13 : (g9 69 13).toInt = (i : Int) := by rw [e9, x_up2_off (Or.inr (by decide)), e6, x_up2_at]; exact hi.2.1
                                                            have hn : i < n := by
                                                              rw [s58.cl] at hw
                                                              exact Nat.lt_of_not_le (fun hh => absurd (s_at_n (b := b) hh) (by omega))
                                                            have hw1 := s58.out hw (c := 97) (d := 122) (by decide) (by decide) (by omega) hn
                                                            have hw2 := s58.out hw (c := 48) (d := 57) (by decide) (by decide) (by omega) hn
                                                            have hc : (b i).toInt = w7.toInt := by
                                                              rw [s58.cl] at hw
                                                              exact ((s_at_c s58.1.1.2 (by omega) (by omega)).mp hw.symm).2
                                                            have hs : s_sg (b i).toInt = true := s_sgT (by omega)
                                                            exact t_TM_4 ((s58.nx (by have h3 := s58.2.1; rw [e9, x_up2_off (Or.inr (by decide)), e6, x_up2_off (Or.inr (by decide))] at h3; omega) hn e20).up2 e25) hF hp hn hw1 hw2 (by rw [e25, x_up2_off (Or.inr (by decide)), e20, x_up2_off (Or.inr (by decide))]; exact h13) (by rw [e25, x_up2_at, if_pos hs]; rfl) (fun _ => by rw [e25, x_up2_off (Or.inr (by decide)), e20, x_up2_off (Or.inr (by decide)), e9, x_up2_at]; exact Int32.toInt_inj.mp hc.symm))))⟩⟩
          · have r26 : w7.toInt ≠ 40 := fun e => h22 (Int32.toInt_inj.mp (e.trans (by decide : (40:Int) = (40 : Int32).toInt)))
            refine ev_loc f_X12_ahead (nx := 250) rfl rfl rfl rfl ?_
            refine ev_bp f_X12_ahead (nx := 252) (v := 41) rfl (by decide) rfl ?_
            refine ev_if f_X12_ahead (t1 := 255) (t2 := 259) rfl rfl rfl (fun h27 => ?_) (fun h27 => ?_)
            · have u28 : w7.toInt ≤ 41 := t_equ h27 (by decide : (41:Int32).toInt ≤ (41:Int))
              have l29 : 41 ≤ w7.toInt := t_eql h27 (by decide : (41:Int) ≤ (41:Int32).toInt)
              refine ev_ic f_X12_ahead (nx := 256) (v := 4) rfl (by decide) rfl ?_
              refine ev_jmp f_X12_ahead (nx := 260) rfl rfl rfl ?_
              refine ev_putIT f_X12_ahead (nx := 263) rfl (hI.wf.s rfl) rfl rfl rfl (hI.putB (hI.wf.s rfl) rfl rfl (by decide : (4:Int) ≤ (4:Int32).toInt) (by decide) (by decide : (4:Int32).toInt ≤ (4:Int)) (by decide)) (hX.upI rfl) (fun g30 e30 hI hX => ?_)
              exact ev_ret f_X12_ahead rfl rfl rfl ⟨_, _, _, rfl, hI, hX, ⟨rfl, (show ∀ (b : Nat → Int32) (n q : Nat), t_Sm b n q gi → t_TM b n q g30 from (fun b n q h => (by
                                                            obtain ⟨i, hi, hF, hp⟩ := j3_0 b n q h
                                                            have s44 := hi.up (by decide) e6
                                                            have s58 := s44.up (by decide) e9
                                                            have hw : w7.toInt = s_at b n (g9 69 14).toNatClampNeg := by rw [e9, x_up2_off (Or.inr (by decide)), e6, x_up2_off (Or.inr (by decide))]; exact q7.1 b n s44.1
                                                            have h13 : (g9 69 13).toInt = (i : Int) := by rw [e9, x_up2_off (Or.inr (by decide)), e6, x_up2_at]; exact hi.2.1
                                                            have hn : i < n := by
                                                              rw [s58.cl] at hw
                                                              exact Nat.lt_of_not_le (fun hh => absurd (s_at_n (b := b) hh) (by omega))
                                                            have hw1 := s58.out hw (c := 97) (d := 122) (by decide) (by decide) (by omega) hn
                                                            have hw2 := s58.out hw (c := 48) (d := 57) (by decide) (by decide) (by omega) hn
                                                            have hc : (b i).toInt = w7.toInt := by
                                                              rw [s58.cl] at hw
                                                              exact ((s_at_c s58.1.1.2 (by omega) (by omega)).mp hw.symm).2
                                                            have hs : s_sg (b i).toInt = true := s_sgT (by omega)
                                                            exact t_TM_4 ((s58.nx (by have h3 := s58.2.1; rw [e9, x_up2_off (Or.inr (by decide)), e6, x_up2_off (Or.inr (by decide))] at h3; omega) hn e20).up2 e30) hF hp hn hw1 hw2 (by rw [e30, x_up2_off (Or.inr (by decide)), e20, x_up2_off (Or.inr (by decide))]; exact h13) (by rw [e30, x_up2_at, if_pos hs]; rfl) (fun _ => by rw [e30, x_up2_off (Or.inr (by decide)), e20, x_up2_off (Or.inr (by decide)), e9, x_up2_at]; exact Int32.toInt_inj.mp hc.symm))))⟩⟩
            · have r31 : w7.toInt ≠ 41 := fun e => h27 (Int32.toInt_inj.mp (e.trans (by decide : (41:Int) = (41 : Int32).toInt)))
              refine ev_ic f_X12_ahead (nx := 260) (v := 1) rfl (by decide) rfl ?_
              refine ev_putIT f_X12_ahead (nx := 263) rfl (hI.wf.s rfl) rfl rfl rfl (hI.putB (hI.wf.s rfl) rfl rfl (by decide : (1:Int) ≤ (1:Int32).toInt) (by decide) (by decide : (1:Int32).toInt ≤ (1:Int)) (by decide)) (hX.upI rfl) (fun g32 e32 hI hX => ?_)
              exact ev_ret f_X12_ahead rfl rfl rfl ⟨_, _, _, rfl, hI, hX, ⟨rfl, (show ∀ (b : Nat → Int32) (n q : Nat), t_Sm b n q gi → t_TM b n q g32 from (fun b n q h => (by
                                                            obtain ⟨i, hi, hF, hp⟩ := j3_0 b n q h
                                                            have s44 := hi.up (by decide) e6
                                                            have s58 := s44.up (by decide) e9
                                                            have hw : w7.toInt = s_at b n (g9 69 14).toNatClampNeg := by rw [e9, x_up2_off (Or.inr (by decide)), e6, x_up2_off (Or.inr (by decide))]; exact q7.1 b n s44.1
                                                            have h13 : (g9 69 13).toInt = (i : Int) := by rw [e9, x_up2_off (Or.inr (by decide)), e6, x_up2_at]; exact hi.2.1
                                                            have hn : i < n := by
                                                              rw [s58.cl] at hw
                                                              exact Nat.lt_of_not_le (fun hh => absurd (s_at_n (b := b) hh) (by omega))
                                                            have hw1 := s58.out hw (c := 97) (d := 122) (by decide) (by decide) (by omega) hn
                                                            have hw2 := s58.out hw (c := 48) (d := 57) (by decide) (by decide) (by omega) hn
                                                            have hs : ¬ s_sg (b i).toInt = true := fun hh => by
                                                              have hr := s_sg_r hh
                                                              have hc := (s_at_c (i := i) s58.1.1.2 (c := (b i).toInt) (by omega) (by omega)).mpr ⟨hn, rfl⟩
                                                              rw [s58.cl, hc] at hw
                                                              exact absurd hh (s_sgF (by omega))
                                                            exact t_TM_4 ((s58.nx (by have h3 := s58.2.1; rw [e9, x_up2_off (Or.inr (by decide)), e6, x_up2_off (Or.inr (by decide))] at h3; omega) hn e20).up2 e32) hF hp hn hw1 hw2 (by rw [e32, x_up2_off (Or.inr (by decide)), e20, x_up2_off (Or.inr (by decide))]; exact h13) (by rw [e32, x_up2_at, if_neg hs]; rfl) (fun hh => absurd hh hs))))⟩⟩
        · have l33 : 48 ≤ w7.toInt := t_lel (t_nlt h17) (by decide : (48:Int) ≤ (48:Int32).toInt)
          refine ev_loc f_X12_isDigit (nx := 7) rfl rfl rfl rfl ?_
          refine ev_bp f_X12_isDigit (nx := 9) (v := 57) rfl (by decide) rfl ?_
          refine ev_if f_X12_isDigit (t1 := 16) (t2 := 12) rfl rfl rfl (fun h34 => ?_) (fun h34 => ?_)
          · have l35 : 58 ≤ w7.toInt := t_ltl h34 (by decide : (57:Int) ≤ (57:Int32).toInt) rfl
            refine ev_ic f_X12_isDigit (nx := 17) (v := 0) rfl (by decide) rfl ?_
            refine ev_retK1 f_X12_isDigit rfl rfl rfl ?_
            refine ev_t f_X12_ahead (t1 := 208) (t2 := 123) rfl rfl rfl (by decide) ?_
            refine ev_loc f_X12_ahead (nx := 209) rfl rfl rfl rfl ?_
            refine ev_alu f_X12_ahead (nx := 210) rfl rfl rfl rfl ?_
            refine ev_gvI f_X12_ahead (nx := 213) (w := (gi3 69 14)) rfl (hI.wf.s rfl) rfl rfl ((by rw [e9]; exact x_up2_off (Or.inr (by decide)) : g9 69 14 = g6 69 14).trans ((by rw [e6]; exact x_up2_off (Or.inr (by decide)) : g6 69 14 = gi3 69 14).trans rfl)) rfl ?_
            refine ev_ic f_X12_ahead (nx := 214) (v := 1) rfl (by decide) rfl ?_
            refine ev_addC f_X12_ahead (nx := 215) (c := 1) (l := 1) (u := 901) rfl (by decide) l5 u5 rfl rfl (by decide) (by decide) rfl (fun z36 e36 l36 u36 => ?_)
            have u38 : z36.toInt ≤ (900:Int) := (by have h1 := q7.2.1 (by omega); omega)
            refine ev_putIT f_X12_ahead (nx := 218) rfl (hI.wf.s rfl) rfl rfl rfl (hI.putB (hI.wf.s rfl) rfl rfl l36 (by decide) u38 (by decide)) (hX.upI rfl) (fun g37 e37 hI hX => ?_)
            refine ev_loc f_X12_ahead (nx := 219) rfl rfl rfl rfl ?_
            refine ev_loc f_X12_ahead (nx := 220) rfl rfl rfl rfl ?_
            refine ev_bp f_X12_ahead (nx := 222) (v := 59) rfl (by decide) rfl ?_
            refine ev_if f_X12_ahead (t1 := 255) (t2 := 225) rfl rfl rfl (fun h39 => ?_) (fun h39 => ?_)
            · have u40 : w7.toInt ≤ 59 := t_equ h39 (by decide : (59:Int32).toInt ≤ (59:Int))
              have l41 : 59 ≤ w7.toInt := t_eql h39 (by decide : (59:Int) ≤ (59:Int32).toInt)
              refine ev_ic f_X12_ahead (nx := 256) (v := 4) rfl (by decide) rfl ?_
              refine ev_jmp f_X12_ahead (nx := 260) rfl rfl rfl ?_
              refine ev_putIT f_X12_ahead (nx := 263) rfl (hI.wf.s rfl) rfl rfl rfl (hI.putB (hI.wf.s rfl) rfl rfl (by decide : (4:Int) ≤ (4:Int32).toInt) (by decide) (by decide : (4:Int32).toInt ≤ (4:Int)) (by decide)) (hX.upI rfl) (fun g42 e42 hI hX => ?_)
              exact ev_ret f_X12_ahead rfl rfl rfl ⟨_, _, _, rfl, hI, hX, ⟨rfl, (show ∀ (b : Nat → Int32) (n q : Nat), t_Sm b n q gi → t_TM b n q g42 from (fun b n q h => (by
                                                            obtain ⟨i, hi, hF, hp⟩ := j3_0 b n q h
                                                            have s44 := hi.up (by decide) e6
                                                            have s58 := s44.up (by decide) e9
                                                            have hw : w7.toInt = s_at b n (g9 69 14).toNatClampNeg := by rw [e9, x_up2_off (Or.inr (by decide)), e6, x_up2_off (Or.inr (by decide))]; exact q7.1 b n s44.1
                                                            have h13 : (g9 69 13).toInt = (i : Int) := by rw [e9, x_up2_off (Or.inr (by decide)), e6, x_up2_at]; exact hi.2.1
                                                            have hn : i < n := by
                                                              rw [s58.cl] at hw
                                                              exact Nat.lt_of_not_le (fun hh => absurd (s_at_n (b := b) hh) (by omega))
                                                            have hw1 := s58.out hw (c := 97) (d := 122) (by decide) (by decide) (by omega) hn
                                                            have hw2 := s58.out hw (c := 48) (d := 57) (by decide) (by decide) (by omega) hn
                                                            have hc : (b i).toInt = w7.toInt := by
                                                              rw [s58.cl] at hw
                                                              exact ((s_at_c s58.1.1.2 (by omega) (by omega)).mp hw.symm).2
                                                            have hs : s_sg (b i).toInt = true := s_sgT (by omega)
                                                            exact t_TM_4 ((s58.nx (by have h3 := s58.2.1; rw [e9, x_up2_off (Or.inr (by decide)), e6, x_up2_off (Or.inr (by decide))] at h3; omega) hn e37).up2 e42) hF hp hn hw1 hw2 (by rw [e42, x_up2_off (Or.inr (by decide)), e37, x_up2_off (Or.inr (by decide))]; exact h13) (by rw [e42, x_up2_at, if_pos hs]; rfl) (fun _ => by rw [e42, x_up2_off (Or.inr (by decide)), e37, x_up2_off (Or.inr (by decide)), e9, x_up2_at]; exact Int32.toInt_inj.mp hc.symm))))⟩⟩
            · have r43 : w7.toInt ≠ 59 := fun e => h39 (Int32.toInt_inj.mp (e.trans (by decide : (59:Int) = (59 : Int32).toInt)))
              refine ev_loc f_X12_ahead (nx := 226) rfl rfl rfl rfl ?_
              refine ev_bp f_X12_ahead (nx := 228) (v := 60) rfl (by decide) rfl ?_
              refine ev_if f_X12_ahead (t1 := 255) (t2 := 231) rfl rfl rfl (fun h44 => ?_) (fun h44 => ?_)
              · have u45 : w7.toInt ≤ 60 := t_equ h44 (by decide : (60:Int32).toInt ≤ (60:Int))
                have l46 : 60 ≤ w7.toInt := t_eql h44 (by decide : (60:Int) ≤ (60:Int32).toInt)
                refine ev_ic f_X12_ahead (nx := 256) (v := 4) rfl (by decide) rfl ?_
                refine ev_jmp f_X12_ahead (nx := 260) rfl rfl rfl ?_
                refine ev_putIT f_X12_ahead (nx := 263) rfl (hI.wf.s rfl) rfl rfl rfl (hI.putB (hI.wf.s rfl) rfl rfl (by decide : (4:Int) ≤ (4:Int32).toInt) (by decide) (by decide : (4:Int32).toInt ≤ (4:Int)) (by decide)) (hX.upI rfl) (fun g47 e47 hI hX => ?_)
                exact ev_ret f_X12_ahead rfl rfl rfl ⟨_, _, _, rfl, hI, hX, ⟨rfl, (show ∀ (b : Nat → Int32) (n q : Nat), t_Sm b n q gi → t_TM b n q g47 from (fun b n q h => (by
                                                            obtain ⟨i, hi, hF, hp⟩ := j3_0 b n q h
                                                            have s44 := hi.up (by decide) e6
                                                            have s58 := s44.up (by decide) e9
                                                            have hw : w7.toInt = s_at b n (g9 69 14).toNatClampNeg := by rw [e9, x_up2_off (Or.inr (by decide)), e6, x_up2_off (Or.inr (by decide))]; exact q7.1 b n s44.1
                                                            have h13 : (g9 69 13).toInt = (i : Int) := by rw [e9, x_up2_off (Or.inr (by decide)), e6, x_up2_at]; exact hi.2.1
                                                            have hn : i < n := by
                                                              rw [s58.cl] at hw
                                                              exact Nat.lt_of_not_le (fun hh => absurd (s_at_n (b := b) hh) (by omega))
                                                            have hw1 := s58.out hw (c := 97) (d := 122) (by decide) (by decide) (by omega) hn
                                                            have hw2 := s58.out hw (c := 48) (d := 57) (by decide) (by decide) (by omega) hn
                                                            have hc : (b i).toInt = w7.toInt := by
                                                              rw [s58.cl] at hw
                                                              exact ((s_at_c s58.1.1.2 (by omega) (by omega)).mp hw.symm).2
                                                            have hs : s_sg (b i).toInt = true := s_sgT (by omega)
                                                            exact t_TM_4 ((s58.nx (by have h3 := s58.2.1; rw [e9, x_up2_off (Or.inr (by decide)), e6, x_up2_off (Or.inr (by decide))] at h3; omega) hn e37).up2 e47) hF hp hn hw1 hw2 (by rw [e47, x_up2_off (Or.inr (by decide)), e37, x_up2_off (Or.inr (by decide))]; exact h13) (by rw [e47, x_up2_at, if_pos hs]; rfl) (fun _ => by rw [e47, x_up2_off (Or.inr (by decide)), e37, x_up2_off (Or.inr (by decide)), e9, x_up2_at]; exact Int32.toInt_inj.mp hc.symm))))⟩⟩
              · have r48 : w7.toInt ≠ 60 := fun e => h44 (Int32.toInt_inj.mp (e.trans (by decide : (60:Int) = (60 : Int32).toInt)))
                refine ev_loc f_X12_ahead (nx := 232) rfl rfl rfl rfl ?_
                refine ev_bp f_X12_ahead (nx := 234) (v := 62) rfl (by decide) rfl ?_
                refine ev_if f_X12_ahead (t1 := 255) (t2 := 237) rfl rfl rfl (fun h49 => ?_) (fun h49 => ?_)
                · have u50 : w7.toInt ≤ 62 := t_equ h49 (by decide : (62:Int32).toInt ≤ (62:Int))
                  have l51 : 62 ≤ w7.toInt := t_eql h49 (by decide : (62:Int) ≤ (62:Int32).toInt)
                  refine ev_ic f_X12_ahead (nx := 256) (v := 4) rfl (by decide) rfl ?_
                  refine ev_jmp f_X12_ahead (nx := 260) rfl rfl rfl ?_
                  refine ev_putIT f_X12_ahead (nx := 263) rfl (hI.wf.s rfl) rfl rfl rfl (hI.putB (hI.wf.s rfl) rfl rfl (by decide : (4:Int) ≤ (4:Int32).toInt) (by decide) (by decide : (4:Int32).toInt ≤ (4:Int)) (by decide)) (hX.upI rfl) (fun g52 e52 hI hX => ?_)
                  exact ev_ret f_X12_ahead rfl rfl rfl ⟨_, _, _, rfl, hI, hX, ⟨rfl, (show ∀ (b : Nat → Int32) (n q : Nat), t_Sm b n q gi → t_TM b n q g52 from (fun b n q h => (by
                                                            obtain ⟨i, hi, hF, hp⟩ := j3_0 b n q h
                                                            have s44 := hi.up (by decide) e6
                                                            have s58 := s44.up (by decide) e9
                                                            have hw : w7.toInt = s_at b n (g9 69 14).toNatClampNeg := by rw [e9, x_up2_off (Or.inr (by decide)), e6, x_up2_off (Or.inr (by decide))]; exact q7.1 b n s44.1
                                                            have h13 : (g9 69 13).toInt = (i : Int) := by rw [e9, x_up2_off (Or.inr (by decide)), e6, x_up2_at]; exact hi.2.1
                                                            have hn : i < n := by
                                                              rw [s58.cl] at hw
                                                              exact Nat.lt_of_not_le (fun hh => absurd (s_at_n (b := b) hh) (by omega))
                                                            have hw1 := s58.out hw (c := 97) (d := 122) (by decide) (by decide) (by omega) hn
                                                            have hw2 := s58.out hw (c := 48) (d := 57) (by decide) (by decide) (by omega) hn
                                                            have hc : (b i).toInt = w7.toInt := by
                                                              rw [s58.cl] at hw
                                                              exact ((s_at_c s58.1.1.2 (by omega) (by omega)).mp hw.symm).2
                                                            have hs : s_sg (b i).toInt = true := s_sgT (by omega)
                                                            exact t_TM_4 ((s58.nx (by have h3 := s58.2.1; rw [e9, x_up2_off (Or.inr (by decide)), e6, x_up2_off (Or.inr (by decide))] at h3; omega) hn e37).up2 e52) hF hp hn hw1 hw2 (by rw [e52, x_up2_off (Or.inr (by decide)), e37, x_up2_off (Or.inr (by decide))]; exact h13) (by rw [e52, x_up2_at, if_pos hs]; rfl) (fun _ => by rw [e52, x_up2_off (Or.inr (by decide)), e37, x_up2_off (Or.inr (by decide)), e9, x_up2_at]; exact Int32.toInt_inj.mp hc.symm))))⟩⟩
                · have r53 : w7.toInt ≠ 62 := fun e => h49 (Int32.toInt_inj.mp (e.trans (by decide : (62:Int) = (62 : Int32).toInt)))
                  refine ev_loc f_X12_ahead (nx := 238) rfl rfl rfl rfl ?_
                  refine ev_bp f_X12_ahead (nx := 240) (v := 61) rfl (by decide) rfl ?_
                  refine ev_if f_X12_ahead (t1 := 255) (t2 := 243) rfl rfl rfl (fun h54 => ?_) (fun h54 => ?_)
                  · have u55 : w7.toInt ≤ 61 := t_equ h54 (by decide : (61:Int32).toInt ≤ (61:Int))
                    have l56 : 61 ≤ w7.toInt := t_eql h54 (by decide : (61:Int) ≤ (61:Int32).toInt)
                    refine ev_ic f_X12_ahead (nx := 256) (v := 4) rfl (by decide) rfl ?_
                    refine ev_jmp f_X12_ahead (nx := 260) rfl rfl rfl ?_
                    refine ev_putIT f_X12_ahead (nx := 263) rfl (hI.wf.s rfl) rfl rfl rfl (hI.putB (hI.wf.s rfl) rfl rfl (by decide : (4:Int) ≤ (4:Int32).toInt) (by decide) (by decide : (4:Int32).toInt ≤ (4:Int)) (by decide)) (hX.upI rfl) (fun g57 e57 hI hX => ?_)
                    exact ev_ret f_X12_ahead rfl rfl rfl ⟨_, _, _, rfl, hI, hX, ⟨rfl, (show ∀ (b : Nat → Int32) (n q : Nat), t_Sm b n q gi → t_TM b n q g57 from (fun b n q h => (by
                                                            obtain ⟨i, hi, hF, hp⟩ := j3_0 b n q h
                                                            have s44 := hi.up (by decide) e6
                                                            have s58 := s44.up (by decide) e9
                                                            have hw : w7.toInt = s_at b n (g9 69 14).toNatClampNeg := by rw [e9, x_up2_off (Or.inr (by decide)), e6, x_up2_off (Or.inr (by decide))]; exact q7.1 b n s44.1
                                                            have h13 : (g9 69 13).toInt = (i : Int) := by rw [e9, x_up2_off (Or.inr (by decide)), e6, x_up2_at]; exact hi.2.1
                                                            have hn : i < n := by
                                                              rw [s58.cl] at hw
                                                              exact Nat.lt_of_not_le (fun hh => absurd (s_at_n (b := b) hh) (by omega))
                                                            have hw1 := s58.out hw (c := 97) (d := 122) (by decide) (by decide) (by omega) hn
                                                            have hw2 := s58.out hw (c := 48) (d := 57) (by decide) (by decide) (by omega) hn
                                                            have hc : (b i).toInt = w7.toInt := by
                                                              rw [s58.cl] at hw
                                                              exact ((s_at_c s58.1.1.2 (by omega) (by omega)).mp hw.symm).2
                                                            have hs : s_sg (b i).toInt = true := s_sgT (by omega)
                                                            exact t_TM_4 ((s58.nx (by have h3 := s58.2.1; rw [e9, x_up2_off (Or.inr (by decide)), e6, x_up2_off (Or.inr (by decide))] at h3; omega) hn e37).up2 e57) hF hp hn hw1 hw2 (by rw [e57, x_up2_off (Or.inr (by decide)), e37, x_up2_off (Or.inr (by decide))]; exact h13) (by rw [e57, x_up2_at, if_pos hs]; rfl) (fun _ => by rw [e57, x_up2_off (Or.inr (by decide)), e37, x_up2_off (Or.inr (by decide)), e9, x_up2_at]; exact Int32.toInt_inj.mp hc.symm))))⟩⟩
                  · have r58 : w7.toInt ≠ 61 := fun e => h54 (Int32.toInt_inj.mp (e.trans (by decide : (61:Int) = (61 : Int32).toInt)))
                    refine ev_loc f_X12_ahead (nx := 244) rfl rfl rfl rfl ?_
                    refine ev_bp f_X12_ahead (nx := 246) (v := 40) rfl (by decide) rfl ?_
                    refine ev_f f_X12_ahead (t1 := 255) (t2 := 249) rfl rfl rfl (t_neT' (by decide : (40:Int32).toInt ≤ (40:Int)) l35 (by decide)) ?_
                    refine ev_loc f_X12_ahead (nx := 250) rfl rfl rfl rfl ?_
                    refine ev_bp f_X12_ahead (nx := 252) (v := 41) rfl (by decide) rfl ?_
                    refine ev_f f_X12_ahead (t1 := 255) (t2 := 259) rfl rfl rfl (t_neT' (by decide : (41:Int32).toInt ≤ (41:Int)) l35 (by decide)) ?_
                    refine ev_ic f_X12_ahead (nx := 260) (v := 1) rfl (by decide) rfl ?_
                    refine ev_putIT f_X12_ahead (nx := 263) rfl (hI.wf.s rfl) rfl rfl rfl (hI.putB (hI.wf.s rfl) rfl rfl (by decide : (1:Int) ≤ (1:Int32).toInt) (by decide) (by decide : (1:Int32).toInt ≤ (1:Int)) (by decide)) (hX.upI rfl) (fun g59 e59 hI hX => ?_)
                    exact ev_ret f_X12_ahead rfl rfl rfl ⟨_, _, _, rfl, hI, hX, ⟨rfl, (show ∀ (b : Nat → Int32) (n q : Nat), t_Sm b n q gi → t_TM b n q g59 from (fun b n q h => (by
                                                            obtain ⟨i, hi, hF, hp⟩ := j3_0 b n q h
                                                            have s44 := hi.up (by decide) e6
                                                            have s58 := s44.up (by decide) e9
                                                            have hw : w7.toInt = s_at b n (g9 69 14).toNatClampNeg := by rw [e9, x_up2_off (Or.inr (by decide)), e6, x_up2_off (Or.inr (by decide))]; exact q7.1 b n s44.1
                                                            have h13 : (g9 69 13).toInt = (i : Int) := by rw [e9, x_up2_off (Or.inr (by decide)), e6, x_up2_at]; exact hi.2.1
                                                            have hn : i < n := by
                                                              rw [s58.cl] at hw
                                                              exact Nat.lt_of_not_le (fun hh => absurd (s_at_n (b := b) hh) (by omega))
                                                            have hw1 := s58.out hw (c := 97) (d := 122) (by decide) (by decide) (by omega) hn
                                                            have hw2 := s58.out hw (c := 48) (d := 57) (by decide) (by decide) (by omega) hn
                                                            have hs : ¬ s_sg (b i).toInt = true := fun hh => by
                                                              have hr := s_sg_r hh
                                                              have hc := (s_at_c (i := i) s58.1.1.2 (c := (b i).toInt) (by omega) (by omega)).mpr ⟨hn, rfl⟩
                                                              rw [s58.cl, hc] at hw
                                                              exact absurd hh (s_sgF (by omega))
                                                            exact t_TM_4 ((s58.nx (by have h3 := s58.2.1; rw [e9, x_up2_off (Or.inr (by decide)), e6, x_up2_off (Or.inr (by decide))] at h3; omega) hn e37).up2 e59) hF hp hn hw1 hw2 (by rw [e59, x_up2_off (Or.inr (by decide)), e37, x_up2_off (Or.inr (by decide))]; exact h13) (by rw [e59, x_up2_at, if_neg hs]; rfl) (fun hh => absurd hh hs))))⟩⟩
          · have u60 : w7.toInt ≤ 57 := t_leu (t_nlt h34) (by decide : (57:Int32).toInt ≤ (57:Int))
            refine ev_ic f_X12_isDigit (nx := 13) (v := 1) rfl (by decide) rfl ?_
            refine ev_jmp f_X12_isDigit (nx := 17) rfl rfl rfl ?_
            refine ev_retK1 f_X12_isDigit rfl rfl rfl ?_
            refine ev_f f_X12_ahead (t1 := 208) (t2 := 123) rfl rfl rfl (by decide) ?_
            refine ev_loc f_X12_ahead (nx := 124) rfl rfl rfl rfl ?_
            refine ev_ic f_X12_ahead (nx := 125) (v := 0) rfl (by decide) rfl ?_
            refine ev_putIT f_X12_ahead (nx := 128) rfl (hI.wf.s rfl) rfl rfl rfl (hI.put0 (hI.wf.s rfl) rfl rfl) (hX.upI rfl) (fun g61 e61 hI hX => ?_)
            have L62 : ∀ (m62 : Nat) (gi62 : Nat → Nat → Int32) (gl62 : Nat → Nat → Int64) (gr62 : Nat → Nat → Value), t_I sh gi62 gr62 → t_X wl_n_ahead sh gi gl gr gi62 gl62 gr62 → gi62 69 11 = (gi3 69 11) → gi62 69 13 = (gi3 69 14) → (∀ (b : Nat → Int32) (n q : Nat), t_Sm b n q gi → ∃ i j : Nat, t_MW s_dg b n q i j gi62 ∧ (j - i ≤ 4 → gi62 69 15 = s_nn b i (j - i))) → (900 - (gi62 69 14).toInt).toNat = m62 → x_Ev X (d + 2) n_X12_ahead 128 [(1, .int w7), (0, .ref 69)] [] (sh, gi62, gl62, gr62) (t_PN wl_n_ahead sh gi gl gr (Q_n_ahead gi gl gr)) := by
              intro m62
              induction m62 using Nat.strongRecOn with
              | _ m62 ih62 =>
              intro gi62 gl62 gr62 hI hX c62_0 c62_1 j62_0 hm62
              obtain ⟨l63, u63⟩ := hI.b (hI.wf.s (k := 69) rfl) (t_bdK rfl : t_bd 11 14 = some (0, 900))
              refine ev_loc f_X12_ahead (nx := 129) rfl rfl rfl rfl ?_
              refine ev_loc f_X12_ahead (nx := 130) rfl rfl rfl rfl ?_
              refine ev_gvI f_X12_ahead (nx := 133) (w := (gi62 69 14)) rfl (hI.wf.s rfl) rfl rfl rfl rfl ?_
              refine ev_qI0 f_X12_ahead (nx := 136) (r := []) rfl rfl rfl rfl rfl rfl rfl (c_n_byteAt hI ((gi62 69 14)) l63) rfl (fun w64 l64 u64 q64 => ?_)
              have ff65 : (gi62 69 11).toInt = (gi3 69 11).toInt := congrArg Int32.toInt c62_0
              have q64 : (∀ (b : Nat → Int32) (n : Nat), t_Tx b n gi62 → w64.toInt = s_at b n (gi62 69 14).toNatClampNeg) ∧ (w64.toInt ≠ -1 → (gi62 69 14).toInt < (gi62 69 11).toInt) ∧ (w64.toInt = -1 → (gi62 69 11).toInt ≤ (gi62 69 14).toInt) := q64
              refine ev_inS1 f_X12_ahead (nx := 139) (lo2 := [(0, .int w64)]) rfl rfl rfl rfl f_X12_isDigit rfl rfl rfl rfl ?_
              refine ev_loc f_X12_isDigit (nx := 1) rfl rfl rfl rfl ?_
              refine ev_bp f_X12_isDigit (nx := 3) (v := 48) rfl (by decide) rfl ?_
              refine ev_if f_X12_isDigit (t1 := 16) (t2 := 6) rfl rfl rfl (fun h66 => ?_) (fun h66 => ?_)
              · have u67 : w64.toInt ≤ 47 := t_ltu h66 (by decide : (48:Int32).toInt ≤ (48:Int)) rfl
                refine ev_ic f_X12_isDigit (nx := 17) (v := 0) rfl (by decide) rfl ?_
                refine ev_retK1 f_X12_isDigit rfl rfl rfl ?_
                refine ev_t f_X12_ahead (t1 := 183) (t2 := 142) rfl rfl rfl (by decide) ?_
                refine ev_loc f_X12_ahead (nx := 184) rfl rfl rfl rfl ?_
                refine ev_loc f_X12_ahead (nx := 185) rfl rfl rfl rfl ?_
                refine ev_gvI f_X12_ahead (nx := 188) (w := (gi62 69 14)) rfl (hI.wf.s rfl) rfl rfl rfl rfl ?_
                refine ev_loc f_X12_ahead (nx := 189) rfl rfl rfl rfl ?_
                refine ev_gvI f_X12_ahead (nx := 192) (w := (gi3 69 14)) rfl (hI.wf.s rfl) rfl rfl c62_1 rfl ?_
                refine ev_subR f_X12_ahead (nx := 193) (l := (-900)) (u := 900) rfl l63 u63 l5 u5 rfl rfl (by decide) (by decide) rfl (fun z68 e68 l68 u68 => ?_)
                refine ev_ic f_X12_ahead (nx := 194) (v := 4) rfl (by decide) rfl ?_
                refine ev_if f_X12_ahead (t1 := 201) (t2 := 197) rfl rfl rfl (fun h69 => ?_) (fun h69 => ?_)
                · have u70 : z68.toInt ≤ 4 := t_leu h69 (by decide : (4:Int32).toInt ≤ (4:Int))
                  refine ev_ic f_X12_ahead (nx := 202) (v := 3) rfl (by decide) rfl ?_
                  refine ev_putIT f_X12_ahead (nx := 205) rfl (hI.wf.s rfl) rfl rfl rfl (hI.putB (hI.wf.s rfl) rfl rfl (by decide : (3:Int) ≤ (3:Int32).toInt) (by decide) (by decide : (3:Int32).toInt ≤ (3:Int)) (by decide)) (hX.upI rfl) (fun g71 e71 hI hX => ?_)
                  refine ev_jmp f_X12_ahead (nx := 263) rfl rfl rfl ?_
                  exact ev_ret f_X12_ahead rfl rfl rfl ⟨_, _, _, rfl, hI, hX, ⟨rfl, (show ∀ (b : Nat → Int32) (n q : Nat), t_Sm b n q gi → t_TM b n q g71 from (fun b n q h => (by
                                                            obtain ⟨i, j, hm, hv⟩ := j62_0 b n q h
                                                            have he := hm.e (fun hj => s_dgF' (hm.1.1.out (q64.1 b n hm.1.1.1) (c := 48) (d := 57) (by decide) (by decide) (by omega) hj))
                                                            have h13 := hm.1.2.1
                                                            have h14 := hm.1.1.2.1
                                                            have h15 := congrArg Int32.toInt c62_1
                                                            exact t_TM_3 (hm.up (by decide) e71) he (fun h4 => by rw [e71, x_up2_off (Or.inr (by decide))]; exact hv h4) (by rw [e71, x_up2_at, if_neg (by omega)]; rfl))))⟩⟩
                · have l72 : 5 ≤ z68.toInt := t_ltl (t_nle h69) (by decide : (4:Int) ≤ (4:Int32).toInt) rfl
                  have u73 : (gi3 69 14).toInt ≤ 895 := by have := u63; omega
                  refine ev_ic f_X12_ahead (nx := 198) (v := 1) rfl (by decide) rfl ?_
                  refine ev_jmp f_X12_ahead (nx := 202) rfl rfl rfl ?_
                  refine ev_putIT f_X12_ahead (nx := 205) rfl (hI.wf.s rfl) rfl rfl rfl (hI.putB (hI.wf.s rfl) rfl rfl (by decide : (1:Int) ≤ (1:Int32).toInt) (by decide) (by decide : (1:Int32).toInt ≤ (1:Int)) (by decide)) (hX.upI rfl) (fun g74 e74 hI hX => ?_)
                  refine ev_jmp f_X12_ahead (nx := 263) rfl rfl rfl ?_
                  exact ev_ret f_X12_ahead rfl rfl rfl ⟨_, _, _, rfl, hI, hX, ⟨rfl, (show ∀ (b : Nat → Int32) (n q : Nat), t_Sm b n q gi → t_TM b n q g74 from (fun b n q h => (by
                                                            obtain ⟨i, j, hm, hv⟩ := j62_0 b n q h
                                                            have he := hm.e (fun hj => s_dgF' (hm.1.1.out (q64.1 b n hm.1.1.1) (c := 48) (d := 57) (by decide) (by decide) (by omega) hj))
                                                            have h13 := hm.1.2.1
                                                            have h14 := hm.1.1.2.1
                                                            have h15 := congrArg Int32.toInt c62_1
                                                            exact t_TM_3 (hm.up (by decide) e74) he (fun h4 => by rw [e74, x_up2_off (Or.inr (by decide))]; exact hv h4) (by rw [e74, x_up2_at, if_pos (by omega)]; rfl))))⟩⟩
              · have l75 : 48 ≤ w64.toInt := t_lel (t_nlt h66) (by decide : (48:Int) ≤ (48:Int32).toInt)
                refine ev_loc f_X12_isDigit (nx := 7) rfl rfl rfl rfl ?_
                refine ev_bp f_X12_isDigit (nx := 9) (v := 57) rfl (by decide) rfl ?_
                refine ev_if f_X12_isDigit (t1 := 16) (t2 := 12) rfl rfl rfl (fun h76 => ?_) (fun h76 => ?_)
                · have l77 : 58 ≤ w64.toInt := t_ltl h76 (by decide : (57:Int) ≤ (57:Int32).toInt) rfl
                  refine ev_ic f_X12_isDigit (nx := 17) (v := 0) rfl (by decide) rfl ?_
                  refine ev_retK1 f_X12_isDigit rfl rfl rfl ?_
                  refine ev_t f_X12_ahead (t1 := 183) (t2 := 142) rfl rfl rfl (by decide) ?_
                  refine ev_loc f_X12_ahead (nx := 184) rfl rfl rfl rfl ?_
                  refine ev_loc f_X12_ahead (nx := 185) rfl rfl rfl rfl ?_
                  refine ev_gvI f_X12_ahead (nx := 188) (w := (gi62 69 14)) rfl (hI.wf.s rfl) rfl rfl rfl rfl ?_
                  refine ev_loc f_X12_ahead (nx := 189) rfl rfl rfl rfl ?_
                  refine ev_gvI f_X12_ahead (nx := 192) (w := (gi3 69 14)) rfl (hI.wf.s rfl) rfl rfl c62_1 rfl ?_
                  refine ev_subR f_X12_ahead (nx := 193) (l := (-900)) (u := 900) rfl l63 u63 l5 u5 rfl rfl (by decide) (by decide) rfl (fun z78 e78 l78 u78 => ?_)
                  refine ev_ic f_X12_ahead (nx := 194) (v := 4) rfl (by decide) rfl ?_
                  refine ev_if f_X12_ahead (t1 := 201) (t2 := 197) rfl rfl rfl (fun h79 => ?_) (fun h79 => ?_)
                  · have u80 : z78.toInt ≤ 4 := t_leu h79 (by decide : (4:Int32).toInt ≤ (4:Int))
                    refine ev_ic f_X12_ahead (nx := 202) (v := 3) rfl (by decide) rfl ?_
                    refine ev_putIT f_X12_ahead (nx := 205) rfl (hI.wf.s rfl) rfl rfl rfl (hI.putB (hI.wf.s rfl) rfl rfl (by decide : (3:Int) ≤ (3:Int32).toInt) (by decide) (by decide : (3:Int32).toInt ≤ (3:Int)) (by decide)) (hX.upI rfl) (fun g81 e81 hI hX => ?_)
                    refine ev_jmp f_X12_ahead (nx := 263) rfl rfl rfl ?_
                    exact ev_ret f_X12_ahead rfl rfl rfl ⟨_, _, _, rfl, hI, hX, ⟨rfl, (show ∀ (b : Nat → Int32) (n q : Nat), t_Sm b n q gi → t_TM b n q g81 from (fun b n q h => (by
                                                            obtain ⟨i, j, hm, hv⟩ := j62_0 b n q h
                                                            have he := hm.e (fun hj => s_dgF' (hm.1.1.out (q64.1 b n hm.1.1.1) (c := 48) (d := 57) (by decide) (by decide) (by omega) hj))
                                                            have h13 := hm.1.2.1
                                                            have h14 := hm.1.1.2.1
                                                            have h15 := congrArg Int32.toInt c62_1
                                                            exact t_TM_3 (hm.up (by decide) e81) he (fun h4 => by rw [e81, x_up2_off (Or.inr (by decide))]; exact hv h4) (by rw [e81, x_up2_at, if_neg (by omega)]; rfl))))⟩⟩
                  · have l82 : 5 ≤ z78.toInt := t_ltl (t_nle h79) (by decide : (4:Int) ≤ (4:Int32).toInt) rfl
                    have u83 : (gi3 69 14).toInt ≤ 895 := by have := u63; omega
                    refine ev_ic f_X12_ahead (nx := 198) (v := 1) rfl (by decide) rfl ?_
                    refine ev_jmp f_X12_ahead (nx := 202) rfl rfl rfl ?_
                    refine ev_putIT f_X12_ahead (nx := 205) rfl (hI.wf.s rfl) rfl rfl rfl (hI.putB (hI.wf.s rfl) rfl rfl (by decide : (1:Int) ≤ (1:Int32).toInt) (by decide) (by decide : (1:Int32).toInt ≤ (1:Int)) (by decide)) (hX.upI rfl) (fun g84 e84 hI hX => ?_)
                    refine ev_jmp f_X12_ahead (nx := 263) rfl rfl rfl ?_
                    exact ev_ret f_X12_ahead rfl rfl rfl ⟨_, _, _, rfl, hI, hX, ⟨rfl, (show ∀ (b : Nat → Int32) (n q : Nat), t_Sm b n q gi → t_TM b n q g84 from (fun b n q h => (by
                                                            obtain ⟨i, j, hm, hv⟩ := j62_0 b n q h
                                                            have he := hm.e (fun hj => s_dgF' (hm.1.1.out (q64.1 b n hm.1.1.1) (c := 48) (d := 57) (by decide) (by decide) (by omega) hj))
                                                            have h13 := hm.1.2.1
                                                            have h14 := hm.1.1.2.1
                                                            have h15 := congrArg Int32.toInt c62_1
                                                            exact t_TM_3 (hm.up (by decide) e84) he (fun h4 => by rw [e84, x_up2_off (Or.inr (by decide))]; exact hv h4) (by rw [e84, x_up2_at, if_pos (by omega)]; rfl))))⟩⟩
                · have u85 : w64.toInt ≤ 57 := t_leu (t_nlt h76) (by decide : (57:Int32).toInt ≤ (57:Int))
                  refine ev_ic f_X12_isDigit (nx := 13) (v := 1) rfl (by decide) rfl ?_
                  refine ev_jmp f_X12_isDigit (nx := 17) rfl rfl rfl ?_
                  refine ev_retK1 f_X12_isDigit rfl rfl rfl ?_
                  refine ev_f f_X12_ahead (t1 := 183) (t2 := 142) rfl rfl rfl (by decide) ?_
                  refine ev_loc f_X12_ahead (nx := 143) rfl rfl rfl rfl ?_
                  refine ev_ldI f_X12_ahead (nx := 145) (v := 100000) rfl (by decide) rfl ?_
                  refine ev_bp f_X12_ahead (nx := 147) (v := 10) rfl (by decide) rfl ?_
                  refine ev_loc f_X12_ahead (nx := 148) rfl rfl rfl rfl ?_
                  refine ev_getI f_X12_ahead (nx := 151) rfl (hI.wf.s rfl) rfl rfl rfl ?_
                  refine ev_anyIE f_X12_ahead (nx := 152) rfl rfl rfl rfl (fun z86 e86 => ?_)
                  refine ev_loc f_X12_ahead (nx := 153) rfl rfl rfl rfl ?_
                  refine ev_loc f_X12_ahead (nx := 154) rfl rfl rfl rfl ?_
                  refine ev_gvI f_X12_ahead (nx := 157) (w := (gi62 69 14)) rfl (hI.wf.s rfl) rfl rfl rfl rfl ?_
                  refine ev_qI0 f_X12_ahead (nx := 160) (r := [.int z86, .int 100000, .ref 69]) rfl rfl rfl rfl rfl rfl rfl (c_n_byteAt hI ((gi62 69 14)) l63) rfl (fun w87 l87 u87 q87 => ?_)
                  have ff88 : (gi62 69 11).toInt = (gi3 69 11).toInt := congrArg Int32.toInt c62_0
                  have q87 : (∀ (b : Nat → Int32) (n : Nat), t_Tx b n gi62 → w87.toInt = s_at b n (gi62 69 14).toNatClampNeg) ∧ (w87.toInt ≠ -1 → (gi62 69 14).toInt < (gi62 69 11).toInt) ∧ (w87.toInt = -1 → (gi62 69 11).toInt ≤ (gi62 69 14).toInt) := q87
                  refine ev_anyIE f_X12_ahead (nx := 161) rfl rfl rfl rfl (fun z89 e89 => ?_)
                  refine ev_bp f_X12_ahead (nx := 163) (v := 48) rfl (by decide) rfl ?_
                  refine ev_anyIE f_X12_ahead (nx := 164) rfl rfl rfl rfl (fun z90 e90 => ?_)
                  refine ev_minE f_X12_ahead (nx := 167) (l := (-2147483648)) (u := 100000) rfl rfl (by omega) rfl (by decide : (100000:Int) ≤ (100000:Int32).toInt) (by decide : (100000:Int32).toInt ≤ (100000:Int)) (t_lo z90) (t_hi z90) (by decide) (by decide) rfl (fun z91 e91 l91 u91 => ?_)
                  refine ev_putIT f_X12_ahead (nx := 170) rfl (hI.wf.s rfl) rfl rfl rfl (hI.put0 (hI.wf.s rfl) rfl rfl) (hX.upI rfl) (fun g92 e92 hI hX => ?_)
                  refine ev_loc f_X12_ahead (nx := 171) rfl rfl rfl rfl ?_
                  refine ev_alu f_X12_ahead (nx := 172) rfl rfl rfl rfl ?_
                  refine ev_gvI f_X12_ahead (nx := 175) (w := (gi62 69 14)) rfl (hI.wf.s rfl) rfl rfl ((by rw [e92]; exact x_up2_off (Or.inr (by decide)) : g92 69 14 = gi62 69 14).trans rfl) rfl ?_
                  refine ev_ic f_X12_ahead (nx := 176) (v := 1) rfl (by decide) rfl ?_
                  refine ev_addC f_X12_ahead (nx := 177) (c := 1) (l := 1) (u := 901) rfl (by decide) l63 u63 rfl rfl (by decide) (by decide) rfl (fun z93 e93 l93 u93 => ?_)
                  have u95 : z93.toInt ≤ (900:Int) := (by have h1 := q64.2.1 (by omega); omega)
                  refine ev_putIT f_X12_ahead (nx := 180) rfl (hI.wf.s rfl) rfl rfl rfl (hI.putB (hI.wf.s rfl) rfl rfl l93 (by decide) u95 (by decide)) (hX.upI rfl) (fun g94 e94 hI hX => ?_)
                  refine ev_jmp f_X12_ahead (nx := 128) rfl rfl rfl ?_
                  refine ev_sub (lo := [(1, .int w7), (0, .ref 69)]) rfl (t_sc rfl (t_sc rfl t_sn)) ?_
                  exact ih62 _ (by have h1 := q64.2.1 (by omega); have ff96 : (g94 69 14).toInt = z93.toInt := congrArg Int32.toInt (by rw [e94]; exact x_up2_at _ _ _ _ : g94 69 14 = z93); omega) g94 gl62 gr62  hI hX  ((by rw [e94]; exact x_up2_off (Or.inr (by decide)) : g94 69 11 = g92 69 11).trans ((by rw [e92]; exact x_up2_off (Or.inr (by decide)) : g92 69 11 = gi62 69 11).trans c62_0)) ((by rw [e94]; exact x_up2_off (Or.inr (by decide)) : g94 69 13 = g92 69 13).trans ((by rw [e92]; exact x_up2_off (Or.inr (by decide)) : g92 69 13 = gi62 69 13).trans c62_1)) (fun b n q h => (by
                                                            obtain ⟨i, j, hm, hv⟩ := j62_0 b n q h
                                                            have hb := hm.1.1.inn (q64.1 b n hm.1.1.1) (c := 48) (d := 57) (by decide) (by decide) (by omega) (by omega)
                                                            have hw2 : w87.toInt = (b j).toInt := by
                                                              have h1 := q87.1 b n hm.1.1.1
                                                              rw [hm.1.1.cl] at h1
                                                              exact h1.trans ((s_at_c hm.1.1.1.1.2 (by omega) (by omega)).mpr ⟨hb.1, rfl⟩)
                                                            have hd := hm.dig hb.1 hb.2 hv (x := z91) (fun a0 a1 => by rw [t_dig1 e86 e89 e90 e91 (by omega) (by omega) a0 a1, hw2])
                                                            exact ⟨i, j + 1, (hm.up (by decide) e92).s hb.1 (s_dgT hb.2.1 hb.2.2) (by have h3 := hm.1.1.2.1; omega) e94, fun h4 => by rw [e94, x_up2_off (Or.inr (by decide)), e92, x_up2_at]; exact hd h4⟩)) rfl
            refine ev_sub (lo := [(1, .int w7), (0, .ref 69)]) rfl (t_sc rfl (t_sc rfl t_sn)) ?_
            exact L62 _ g61 gl3 gr3  hI hX  ((by rw [e61]; exact x_up2_off (Or.inr (by decide)) : g61 69 11 = g9 69 11).trans ((by rw [e9]; exact x_up2_off (Or.inr (by decide)) : g9 69 11 = g6 69 11).trans ((by rw [e6]; exact x_up2_off (Or.inr (by decide)) : g6 69 11 = gi3 69 11).trans rfl))) ((by rw [e61]; exact x_up2_off (Or.inr (by decide)) : g61 69 13 = g9 69 13).trans ((by rw [e9]; exact x_up2_off (Or.inr (by decide)) : g9 69 13 = g6 69 13).trans (by rw [e6]; exact x_up2_at _ _ _ _ : g6 69 13 = (gi3 69 14)))) (fun b n q h => (by
                                                            obtain ⟨i, hi, hF, hp⟩ := j3_0 b n q h
                                                            have s44 := hi.up (by decide) e6
                                                            have s58 := s44.up (by decide) e9
                                                            have hw : w7.toInt = s_at b n (g9 69 14).toNatClampNeg := by rw [e9, x_up2_off (Or.inr (by decide)), e6, x_up2_off (Or.inr (by decide))]; exact q7.1 b n s44.1
                                                            have h13 : (g9 69 13).toInt = (i : Int) := by rw [e9, x_up2_off (Or.inr (by decide)), e6, x_up2_at]; exact hi.2.1
                                                            have hb := s58.inn hw (c := 48) (d := 57) (by decide) (by decide) (by omega) (by omega)
                                                            have hm : t_MW s_dg b n q i i g9 := ⟨⟨s58, h13, hF, hp⟩, ⟨hb.1, s_dgT hb.2.1 hb.2.2⟩, Nat.le_refl _, rfl⟩
                                                            exact ⟨i, i, hm.up (by decide) e61, fun _ => by rw [e61, x_up2_at, Nat.sub_self]; rfl⟩)) rfl
      · have l97 : 97 ≤ w7.toInt := t_lel (t_nlt h15) (by decide : (97:Int) ≤ (97:Int32).toInt)
        refine ev_loc f_X12_isSmall (nx := 7) rfl rfl rfl rfl ?_
        refine ev_bp f_X12_isSmall (nx := 9) (v := 122) rfl (by decide) rfl ?_
        refine ev_if f_X12_isSmall (t1 := 16) (t2 := 12) rfl rfl rfl (fun h98 => ?_) (fun h98 => ?_)
        · have l99 : 123 ≤ w7.toInt := t_ltl h98 (by decide : (122:Int) ≤ (122:Int32).toInt) rfl
          refine ev_ic f_X12_isSmall (nx := 17) (v := 0) rfl (by decide) rfl ?_
          refine ev_retK1 f_X12_isSmall rfl rfl rfl ?_
          refine ev_t f_X12_ahead (t1 := 116) (t2 := 81) rfl rfl rfl (by decide) ?_
          refine ev_loc f_X12_ahead (nx := 117) rfl rfl rfl rfl ?_
          refine ev_inS1 f_X12_ahead (nx := 120) (lo2 := [(0, .int w7)]) rfl rfl rfl rfl f_X12_isDigit rfl rfl rfl rfl ?_
          refine ev_loc f_X12_isDigit (nx := 1) rfl rfl rfl rfl ?_
          refine ev_bp f_X12_isDigit (nx := 3) (v := 48) rfl (by decide) rfl ?_
          refine ev_f f_X12_isDigit (t1 := 16) (t2 := 6) rfl rfl rfl (t_ltF (by decide : (48:Int32).toInt ≤ (48:Int)) l99 (by decide)) ?_
          refine ev_loc f_X12_isDigit (nx := 7) rfl rfl rfl rfl ?_
          refine ev_bp f_X12_isDigit (nx := 9) (v := 57) rfl (by decide) rfl ?_
          refine ev_t f_X12_isDigit (t1 := 16) (t2 := 12) rfl rfl rfl (t_ltT (by decide : (57:Int32).toInt ≤ (57:Int)) l99 (by decide)) ?_
          refine ev_ic f_X12_isDigit (nx := 17) (v := 0) rfl (by decide) rfl ?_
          refine ev_retK1 f_X12_isDigit rfl rfl rfl ?_
          refine ev_t f_X12_ahead (t1 := 208) (t2 := 123) rfl rfl rfl (by decide) ?_
          refine ev_loc f_X12_ahead (nx := 209) rfl rfl rfl rfl ?_
          refine ev_alu f_X12_ahead (nx := 210) rfl rfl rfl rfl ?_
          refine ev_gvI f_X12_ahead (nx := 213) (w := (gi3 69 14)) rfl (hI.wf.s rfl) rfl rfl ((by rw [e9]; exact x_up2_off (Or.inr (by decide)) : g9 69 14 = g6 69 14).trans ((by rw [e6]; exact x_up2_off (Or.inr (by decide)) : g6 69 14 = gi3 69 14).trans rfl)) rfl ?_
          refine ev_ic f_X12_ahead (nx := 214) (v := 1) rfl (by decide) rfl ?_
          refine ev_addC f_X12_ahead (nx := 215) (c := 1) (l := 1) (u := 901) rfl (by decide) l5 u5 rfl rfl (by decide) (by decide) rfl (fun z100 e100 l100 u100 => ?_)
          have u102 : z100.toInt ≤ (900:Int) := (by have h1 := q7.2.1 (by omega); omega)
          refine ev_putIT f_X12_ahead (nx := 218) rfl (hI.wf.s rfl) rfl rfl rfl (hI.putB (hI.wf.s rfl) rfl rfl l100 (by decide) u102 (by decide)) (hX.upI rfl) (fun g101 e101 hI hX => ?_)
          refine ev_loc f_X12_ahead (nx := 219) rfl rfl rfl rfl ?_
          refine ev_loc f_X12_ahead (nx := 220) rfl rfl rfl rfl ?_
          refine ev_bp f_X12_ahead (nx := 222) (v := 59) rfl (by decide) rfl ?_
          refine ev_f f_X12_ahead (t1 := 255) (t2 := 225) rfl rfl rfl (t_neT' (by decide : (59:Int32).toInt ≤ (59:Int)) l99 (by decide)) ?_
          refine ev_loc f_X12_ahead (nx := 226) rfl rfl rfl rfl ?_
          refine ev_bp f_X12_ahead (nx := 228) (v := 60) rfl (by decide) rfl ?_
          refine ev_f f_X12_ahead (t1 := 255) (t2 := 231) rfl rfl rfl (t_neT' (by decide : (60:Int32).toInt ≤ (60:Int)) l99 (by decide)) ?_
          refine ev_loc f_X12_ahead (nx := 232) rfl rfl rfl rfl ?_
          refine ev_bp f_X12_ahead (nx := 234) (v := 62) rfl (by decide) rfl ?_
          refine ev_f f_X12_ahead (t1 := 255) (t2 := 237) rfl rfl rfl (t_neT' (by decide : (62:Int32).toInt ≤ (62:Int)) l99 (by decide)) ?_
          refine ev_loc f_X12_ahead (nx := 238) rfl rfl rfl rfl ?_
          refine ev_bp f_X12_ahead (nx := 240) (v := 61) rfl (by decide) rfl ?_
          refine ev_f f_X12_ahead (t1 := 255) (t2 := 243) rfl rfl rfl (t_neT' (by decide : (61:Int32).toInt ≤ (61:Int)) l99 (by decide)) ?_
          refine ev_loc f_X12_ahead (nx := 244) rfl rfl rfl rfl ?_
          refine ev_bp f_X12_ahead (nx := 246) (v := 40) rfl (by decide) rfl ?_
          refine ev_f f_X12_ahead (t1 := 255) (t2 := 249) rfl rfl rfl (t_neT' (by decide : (40:Int32).toInt ≤ (40:Int)) l99 (by decide)) ?_
          refine ev_loc f_X12_ahead (nx := 250) rfl rfl rfl rfl ?_
          refine ev_bp f_X12_ahead (nx := 252) (v := 41) rfl (by decide) rfl ?_
          refine ev_f f_X12_ahead (t1 := 255) (t2 := 259) rfl rfl rfl (t_neT' (by decide : (41:Int32).toInt ≤ (41:Int)) l99 (by decide)) ?_
          refine ev_ic f_X12_ahead (nx := 260) (v := 1) rfl (by decide) rfl ?_
          refine ev_putIT f_X12_ahead (nx := 263) rfl (hI.wf.s rfl) rfl rfl rfl (hI.putB (hI.wf.s rfl) rfl rfl (by decide : (1:Int) ≤ (1:Int32).toInt) (by decide) (by decide : (1:Int32).toInt ≤ (1:Int)) (by decide)) (hX.upI rfl) (fun g103 e103 hI hX => ?_)
          exact ev_ret f_X12_ahead rfl rfl rfl ⟨_, _, _, rfl, hI, hX, ⟨rfl, (show ∀ (b : Nat → Int32) (n q : Nat), t_Sm b n q gi → t_TM b n q g103 from (fun b n q h => (by
                                                            obtain ⟨i, hi, hF, hp⟩ := j3_0 b n q h
                                                            have s44 := hi.up (by decide) e6
                                                            have s58 := s44.up (by decide) e9
                                                            have hw : w7.toInt = s_at b n (g9 69 14).toNatClampNeg := by rw [e9, x_up2_off (Or.inr (by decide)), e6, x_up2_off (Or.inr (by decide))]; exact q7.1 b n s44.1
                                                            have h13 : (g9 69 13).toInt = (i : Int) := by rw [e9, x_up2_off (Or.inr (by decide)), e6, x_up2_at]; exact hi.2.1
                                                            have hn : i < n := by
                                                              rw [s58.cl] at hw
                                                              exact Nat.lt_of_not_le (fun hh => absurd (s_at_n (b := b) hh) (by omega))
                                                            have hw1 := s58.out hw (c := 97) (d := 122) (by decide) (by decide) (by omega) hn
                                                            have hw2 := s58.out hw (c := 48) (d := 57) (by decide) (by decide) (by omega) hn
                                                            have hs : ¬ s_sg (b i).toInt = true := fun hh => by
                                                              have hr := s_sg_r hh
                                                              have hc := (s_at_c (i := i) s58.1.1.2 (c := (b i).toInt) (by omega) (by omega)).mpr ⟨hn, rfl⟩
                                                              rw [s58.cl, hc] at hw
                                                              exact absurd hh (s_sgF (by omega))
                                                            exact t_TM_4 ((s58.nx (by have h3 := s58.2.1; rw [e9, x_up2_off (Or.inr (by decide)), e6, x_up2_off (Or.inr (by decide))] at h3; omega) hn e101).up2 e103) hF hp hn hw1 hw2 (by rw [e103, x_up2_off (Or.inr (by decide)), e101, x_up2_off (Or.inr (by decide))]; exact h13) (by rw [e103, x_up2_at, if_neg hs]; rfl) (fun hh => absurd hh hs))))⟩⟩
        · have u104 : w7.toInt ≤ 122 := t_leu (t_nlt h98) (by decide : (122:Int32).toInt ≤ (122:Int))
          refine ev_ic f_X12_isSmall (nx := 13) (v := 1) rfl (by decide) rfl ?_
          refine ev_jmp f_X12_isSmall (nx := 17) rfl rfl rfl ?_
          refine ev_retK1 f_X12_isSmall rfl rfl rfl ?_
          refine ev_f f_X12_ahead (t1 := 116) (t2 := 81) rfl rfl rfl (by decide) ?_
          have L105 : ∀ (m105 : Nat) (gi105 : Nat → Nat → Int32) (gl105 : Nat → Nat → Int64) (gr105 : Nat → Nat → Value), t_I sh gi105 gr105 → t_X wl_n_ahead sh gi gl gr gi105 gl105 gr105 → gi105 69 11 = (gi3 69 11) → gi105 69 13 = (gi3 69 14) → (∀ (b : Nat → Int32) (n q : Nat), t_Sm b n q gi → ∃ i j : Nat, t_MW s_sm b n q i j gi105) → (900 - (gi105 69 14).toInt).toNat = m105 → x_Ev X (d + 2) n_X12_ahead 81 [(1, .int w7), (0, .ref 69)] [] (sh, gi105, gl105, gr105) (t_PN wl_n_ahead sh gi gl gr (Q_n_ahead gi gl gr)) := by
            intro m105
            induction m105 using Nat.strongRecOn with
            | _ m105 ih105 =>
            intro gi105 gl105 gr105 hI hX c105_0 c105_1 j105_0 hm105
            obtain ⟨l106, u106⟩ := hI.b (hI.wf.s (k := 69) rfl) (t_bdK rfl : t_bd 11 14 = some (0, 900))
            refine ev_loc f_X12_ahead (nx := 82) rfl rfl rfl rfl ?_
            refine ev_loc f_X12_ahead (nx := 83) rfl rfl rfl rfl ?_
            refine ev_gvI f_X12_ahead (nx := 86) (w := (gi105 69 14)) rfl (hI.wf.s rfl) rfl rfl rfl rfl ?_
            refine ev_qI0 f_X12_ahead (nx := 89) (r := []) rfl rfl rfl rfl rfl rfl rfl (c_n_byteAt hI ((gi105 69 14)) l106) rfl (fun w107 l107 u107 q107 => ?_)
            have ff108 : (gi105 69 11).toInt = (gi3 69 11).toInt := congrArg Int32.toInt c105_0
            have q107 : (∀ (b : Nat → Int32) (n : Nat), t_Tx b n gi105 → w107.toInt = s_at b n (gi105 69 14).toNatClampNeg) ∧ (w107.toInt ≠ -1 → (gi105 69 14).toInt < (gi105 69 11).toInt) ∧ (w107.toInt = -1 → (gi105 69 11).toInt ≤ (gi105 69 14).toInt) := q107
            refine ev_inS1 f_X12_ahead (nx := 92) (lo2 := [(0, .int w107)]) rfl rfl rfl rfl f_X12_isSmall rfl rfl rfl rfl ?_
            refine ev_loc f_X12_isSmall (nx := 1) rfl rfl rfl rfl ?_
            refine ev_bp f_X12_isSmall (nx := 3) (v := 97) rfl (by decide) rfl ?_
            refine ev_if f_X12_isSmall (t1 := 16) (t2 := 6) rfl rfl rfl (fun h109 => ?_) (fun h109 => ?_)
            · have u110 : w107.toInt ≤ 96 := t_ltu h109 (by decide : (97:Int32).toInt ≤ (97:Int)) rfl
              refine ev_ic f_X12_isSmall (nx := 17) (v := 0) rfl (by decide) rfl ?_
              refine ev_retK1 f_X12_isSmall rfl rfl rfl ?_
              refine ev_t f_X12_ahead (t1 := 108) (t2 := 95) rfl rfl rfl (by decide) ?_
              refine ev_loc f_X12_ahead (nx := 109) rfl rfl rfl rfl ?_
              refine ev_ic f_X12_ahead (nx := 110) (v := 2) rfl (by decide) rfl ?_
              refine ev_putIT f_X12_ahead (nx := 113) rfl (hI.wf.s rfl) rfl rfl rfl (hI.putB (hI.wf.s rfl) rfl rfl (by decide : (2:Int) ≤ (2:Int32).toInt) (by decide) (by decide : (2:Int32).toInt ≤ (2:Int)) (by decide)) (hX.upI rfl) (fun g111 e111 hI hX => ?_)
              refine ev_jmp f_X12_ahead (nx := 263) rfl rfl rfl ?_
              exact ev_ret f_X12_ahead rfl rfl rfl ⟨_, _, _, rfl, hI, hX, ⟨rfl, (show ∀ (b : Nat → Int32) (n q : Nat), t_Sm b n q gi → t_TM b n q g111 from (fun b n q h => (by
                                                            obtain ⟨i, j, hm⟩ := j105_0 b n q h
                                                            have he := hm.e (fun hj => s_smF' (hm.1.1.out (q107.1 b n hm.1.1.1) (c := 97) (d := 122) (by decide) (by decide) (by omega) hj))
                                                            exact t_TM_2 (hm.up (by decide) e111) he (by rw [e111, x_up2_at]; rfl))))⟩⟩
            · have l112 : 97 ≤ w107.toInt := t_lel (t_nlt h109) (by decide : (97:Int) ≤ (97:Int32).toInt)
              refine ev_loc f_X12_isSmall (nx := 7) rfl rfl rfl rfl ?_
              refine ev_bp f_X12_isSmall (nx := 9) (v := 122) rfl (by decide) rfl ?_
              refine ev_if f_X12_isSmall (t1 := 16) (t2 := 12) rfl rfl rfl (fun h113 => ?_) (fun h113 => ?_)
              · have l114 : 123 ≤ w107.toInt := t_ltl h113 (by decide : (122:Int) ≤ (122:Int32).toInt) rfl
                refine ev_ic f_X12_isSmall (nx := 17) (v := 0) rfl (by decide) rfl ?_
                refine ev_retK1 f_X12_isSmall rfl rfl rfl ?_
                refine ev_t f_X12_ahead (t1 := 108) (t2 := 95) rfl rfl rfl (by decide) ?_
                refine ev_loc f_X12_ahead (nx := 109) rfl rfl rfl rfl ?_
                refine ev_ic f_X12_ahead (nx := 110) (v := 2) rfl (by decide) rfl ?_
                refine ev_putIT f_X12_ahead (nx := 113) rfl (hI.wf.s rfl) rfl rfl rfl (hI.putB (hI.wf.s rfl) rfl rfl (by decide : (2:Int) ≤ (2:Int32).toInt) (by decide) (by decide : (2:Int32).toInt ≤ (2:Int)) (by decide)) (hX.upI rfl) (fun g115 e115 hI hX => ?_)
                refine ev_jmp f_X12_ahead (nx := 263) rfl rfl rfl ?_
                exact ev_ret f_X12_ahead rfl rfl rfl ⟨_, _, _, rfl, hI, hX, ⟨rfl, (show ∀ (b : Nat → Int32) (n q : Nat), t_Sm b n q gi → t_TM b n q g115 from (fun b n q h => (by
                                                            obtain ⟨i, j, hm⟩ := j105_0 b n q h
                                                            have he := hm.e (fun hj => s_smF' (hm.1.1.out (q107.1 b n hm.1.1.1) (c := 97) (d := 122) (by decide) (by decide) (by omega) hj))
                                                            exact t_TM_2 (hm.up (by decide) e115) he (by rw [e115, x_up2_at]; rfl))))⟩⟩
              · have u116 : w107.toInt ≤ 122 := t_leu (t_nlt h113) (by decide : (122:Int32).toInt ≤ (122:Int))
                refine ev_ic f_X12_isSmall (nx := 13) (v := 1) rfl (by decide) rfl ?_
                refine ev_jmp f_X12_isSmall (nx := 17) rfl rfl rfl ?_
                refine ev_retK1 f_X12_isSmall rfl rfl rfl ?_
                refine ev_f f_X12_ahead (t1 := 108) (t2 := 95) rfl rfl rfl (by decide) ?_
                refine ev_loc f_X12_ahead (nx := 96) rfl rfl rfl rfl ?_
                refine ev_alu f_X12_ahead (nx := 97) rfl rfl rfl rfl ?_
                refine ev_gvI f_X12_ahead (nx := 100) (w := (gi105 69 14)) rfl (hI.wf.s rfl) rfl rfl rfl rfl ?_
                refine ev_ic f_X12_ahead (nx := 101) (v := 1) rfl (by decide) rfl ?_
                refine ev_addC f_X12_ahead (nx := 102) (c := 1) (l := 1) (u := 901) rfl (by decide) l106 u106 rfl rfl (by decide) (by decide) rfl (fun z117 e117 l117 u117 => ?_)
                have u119 : z117.toInt ≤ (900:Int) := (by have h1 := q107.2.1 (by omega); omega)
                refine ev_putIT f_X12_ahead (nx := 105) rfl (hI.wf.s rfl) rfl rfl rfl (hI.putB (hI.wf.s rfl) rfl rfl l117 (by decide) u119 (by decide)) (hX.upI rfl) (fun g118 e118 hI hX => ?_)
                refine ev_jmp f_X12_ahead (nx := 81) rfl rfl rfl ?_
                refine ev_sub (lo := [(1, .int w7), (0, .ref 69)]) rfl (t_sc rfl (t_sc rfl t_sn)) ?_
                exact ih105 _ (by have h1 := q107.2.1 (by omega); have ff120 : (g118 69 14).toInt = z117.toInt := congrArg Int32.toInt (by rw [e118]; exact x_up2_at _ _ _ _ : g118 69 14 = z117); omega) g118 gl105 gr105  hI hX  ((by rw [e118]; exact x_up2_off (Or.inr (by decide)) : g118 69 11 = gi105 69 11).trans c105_0) ((by rw [e118]; exact x_up2_off (Or.inr (by decide)) : g118 69 13 = gi105 69 13).trans c105_1) (fun b n q h => (by
                                                            obtain ⟨i, j, hm⟩ := j105_0 b n q h
                                                            have hb := hm.1.1.inn (q107.1 b n hm.1.1.1) (c := 97) (d := 122) (by decide) (by decide) (by omega) (by omega)
                                                            exact ⟨i, j + 1, hm.s hb.1 (s_smT hb.2.1 hb.2.2) (by have h3 := hm.1.1.2.1; omega) e118⟩)) rfl
          refine ev_sub (lo := [(1, .int w7), (0, .ref 69)]) rfl (t_sc rfl (t_sc rfl t_sn)) ?_
          exact L105 _ g9 gl3 gr3  hI hX  ((by rw [e9]; exact x_up2_off (Or.inr (by decide)) : g9 69 11 = g6 69 11).trans ((by rw [e6]; exact x_up2_off (Or.inr (by decide)) : g6 69 11 = gi3 69 11).trans rfl)) ((by rw [e9]; exact x_up2_off (Or.inr (by decide)) : g9 69 13 = g6 69 13).trans (by rw [e6]; exact x_up2_at _ _ _ _ : g6 69 13 = (gi3 69 14))) (fun b n q h => (by
                                                            obtain ⟨i, hi, hF, hp⟩ := j3_0 b n q h
                                                            have s44 := hi.up (by decide) e6
                                                            have s58 := s44.up (by decide) e9
                                                            have hw : w7.toInt = s_at b n (g9 69 14).toNatClampNeg := by rw [e9, x_up2_off (Or.inr (by decide)), e6, x_up2_off (Or.inr (by decide))]; exact q7.1 b n s44.1
                                                            have h13 : (g9 69 13).toInt = (i : Int) := by rw [e9, x_up2_off (Or.inr (by decide)), e6, x_up2_at]; exact hi.2.1
                                                            have hb := s58.inn hw (c := 97) (d := 122) (by decide) (by decide) (by omega) (by omega)
                                                            exact ⟨i, i, ⟨s58, h13, hF, hp⟩, ⟨hb.1, s_smT hb.2.1 hb.2.2⟩, Nat.le_refl _, rfl⟩)) rfl
  have L121 : ∀ (m121 : Nat) (gi121 : Nat → Nat → Int32) (gl121 : Nat → Nat → Int64) (gr121 : Nat → Nat → Value), t_I sh gi121 gr121 → t_X wl_n_ahead sh gi gl gr gi121 gl121 gr121 → gi121 69 11 = (gi 69 11) → (∀ (b : Nat → Int32) (n q : Nat), t_Sm b n q gi → ∃ i : Nat, t_Sm b n i gi121 ∧ s_F b n i = s_F b n q) → (900 - (gi121 69 14).toInt).toNat = m121 → x_Ev X (d + 2) n_X12_ahead 0 [(0, .ref 69)] [] (sh, gi121, gl121, gr121) (t_PN wl_n_ahead sh gi gl gr (Q_n_ahead gi gl gr)) := by
    intro m121
    induction m121 using Nat.strongRecOn with
    | _ m121 ih121 =>
    intro gi121 gl121 gr121 hI hX c121_0 j121_0 hm121
    obtain ⟨l122, u122⟩ := hI.b (hI.wf.s (k := 69) rfl) (t_bdK rfl : t_bd 11 14 = some (0, 900))
    refine ev_loc f_X12_ahead (nx := 1) rfl rfl rfl rfl ?_
    refine ev_loc f_X12_ahead (nx := 2) rfl rfl rfl rfl ?_
    refine ev_gvI f_X12_ahead (nx := 5) (w := (gi121 69 14)) rfl (hI.wf.s rfl) rfl rfl rfl rfl ?_
    refine ev_qI0 f_X12_ahead (nx := 8) (r := []) rfl rfl rfl rfl rfl rfl rfl (c_n_byteAt hI ((gi121 69 14)) l122) rfl (fun w123 l123 u123 q123 => ?_)
    have ff124 : (gi121 69 11).toInt = (gi 69 11).toInt := congrArg Int32.toInt c121_0
    have q123 : (∀ (b : Nat → Int32) (n : Nat), t_Tx b n gi121 → w123.toInt = s_at b n (gi121 69 14).toNatClampNeg) ∧ (w123.toInt ≠ -1 → (gi121 69 14).toInt < (gi121 69 11).toInt) ∧ (w123.toInt = -1 → (gi121 69 11).toInt ≤ (gi121 69 14).toInt) := q123
    refine ev_bp f_X12_ahead (nx := 10) (v := 32) rfl (by decide) rfl ?_
    refine ev_if f_X12_ahead (t1 := 26) (t2 := 13) rfl rfl rfl (fun h125 => ?_) (fun h125 => ?_)
    · have u126 : w123.toInt ≤ 32 := t_equ h125 (by decide : (32:Int32).toInt ≤ (32:Int))
      have l127 : 32 ≤ w123.toInt := t_eql h125 (by decide : (32:Int) ≤ (32:Int32).toInt)
      refine ev_loc f_X12_ahead (nx := 27) rfl rfl rfl rfl ?_
      refine ev_alu f_X12_ahead (nx := 28) rfl rfl rfl rfl ?_
      refine ev_gvI f_X12_ahead (nx := 31) (w := (gi121 69 14)) rfl (hI.wf.s rfl) rfl rfl rfl rfl ?_
      refine ev_ic f_X12_ahead (nx := 32) (v := 1) rfl (by decide) rfl ?_
      refine ev_addC f_X12_ahead (nx := 33) (c := 1) (l := 1) (u := 901) rfl (by decide) l122 u122 rfl rfl (by decide) (by decide) rfl (fun z128 e128 l128 u128 => ?_)
      have u130 : z128.toInt ≤ (900:Int) := (by have h1 := q123.2.1 (by omega); omega)
      refine ev_putIT f_X12_ahead (nx := 36) rfl (hI.wf.s rfl) rfl rfl rfl (hI.putB (hI.wf.s rfl) rfl rfl l128 (by decide) u130 (by decide)) (hX.upI rfl) (fun g129 e129 hI hX => ?_)
      refine ev_jmp f_X12_ahead (nx := 0) rfl rfl rfl ?_
      refine ev_sub (lo := [(0, .ref 69)]) rfl (t_sc rfl t_sn) ?_
      exact ih121 _ (by have h1 := q123.2.1 (by omega); have ff131 : (g129 69 14).toInt = z128.toInt := congrArg Int32.toInt (by rw [e129]; exact x_up2_at _ _ _ _ : g129 69 14 = z128); omega) g129 gl121 gr121  hI hX  ((by rw [e129]; exact x_up2_off (Or.inr (by decide)) : g129 69 11 = gi121 69 11).trans c121_0) (fun b n q h => (by
                                                            obtain ⟨i, hi, hF⟩ := j121_0 b n q h
                                                            have hb := hi.blk1 (q123.1 b n hi.1) (by omega)
                                                            exact ⟨i + 1, hi.nx (by have h3 := hi.2.1; omega) hb.1 e129, hb.2.trans hF⟩)) rfl
    · have r132 : w123.toInt ≠ 32 := fun e => h125 (Int32.toInt_inj.mp (e.trans (by decide : (32:Int) = (32 : Int32).toInt)))
      refine ev_loc f_X12_ahead (nx := 14) rfl rfl rfl rfl ?_
      refine ev_loc f_X12_ahead (nx := 15) rfl rfl rfl rfl ?_
      refine ev_gvI f_X12_ahead (nx := 18) (w := (gi121 69 14)) rfl (hI.wf.s rfl) rfl rfl rfl rfl ?_
      refine ev_qI0 f_X12_ahead (nx := 21) (r := []) rfl rfl rfl rfl rfl rfl rfl (c_n_byteAt hI ((gi121 69 14)) l122) rfl (fun w133 l133 u133 q133 => ?_)
      have ff134 : (gi121 69 11).toInt = (gi 69 11).toInt := congrArg Int32.toInt c121_0
      have q133 : (∀ (b : Nat → Int32) (n : Nat), t_Tx b n gi121 → w133.toInt = s_at b n (gi121 69 14).toNatClampNeg) ∧ (w133.toInt ≠ -1 → (gi121 69 14).toInt < (gi121 69 11).toInt) ∧ (w133.toInt = -1 → (gi121 69 11).toInt ≤ (gi121 69 14).toInt) := q133
      refine ev_bp f_X12_ahead (nx := 23) (v := 10) rfl (by decide) rfl ?_
      refine ev_if f_X12_ahead (t1 := 26) (t2 := 39) rfl rfl rfl (fun h135 => ?_) (fun h135 => ?_)
      · have u136 : w133.toInt ≤ 10 := t_equ h135 (by decide : (10:Int32).toInt ≤ (10:Int))
        have l137 : 10 ≤ w133.toInt := t_eql h135 (by decide : (10:Int) ≤ (10:Int32).toInt)
        refine ev_loc f_X12_ahead (nx := 27) rfl rfl rfl rfl ?_
        refine ev_alu f_X12_ahead (nx := 28) rfl rfl rfl rfl ?_
        refine ev_gvI f_X12_ahead (nx := 31) (w := (gi121 69 14)) rfl (hI.wf.s rfl) rfl rfl rfl rfl ?_
        refine ev_ic f_X12_ahead (nx := 32) (v := 1) rfl (by decide) rfl ?_
        refine ev_addC f_X12_ahead (nx := 33) (c := 1) (l := 1) (u := 901) rfl (by decide) l122 u122 rfl rfl (by decide) (by decide) rfl (fun z138 e138 l138 u138 => ?_)
        have u140 : z138.toInt ≤ (900:Int) := (by have h1 := q133.2.1 (by omega); omega)
        refine ev_putIT f_X12_ahead (nx := 36) rfl (hI.wf.s rfl) rfl rfl rfl (hI.putB (hI.wf.s rfl) rfl rfl l138 (by decide) u140 (by decide)) (hX.upI rfl) (fun g139 e139 hI hX => ?_)
        refine ev_jmp f_X12_ahead (nx := 0) rfl rfl rfl ?_
        refine ev_sub (lo := [(0, .ref 69)]) rfl (t_sc rfl t_sn) ?_
        exact ih121 _ (by have h1 := q133.2.1 (by omega); have ff141 : (g139 69 14).toInt = z138.toInt := congrArg Int32.toInt (by rw [e139]; exact x_up2_at _ _ _ _ : g139 69 14 = z138); omega) g139 gl121 gr121  hI hX  ((by rw [e139]; exact x_up2_off (Or.inr (by decide)) : g139 69 11 = gi121 69 11).trans c121_0) (fun b n q h => (by
                                                            obtain ⟨i, hi, hF⟩ := j121_0 b n q h
                                                            have hb := hi.blk1 (q133.1 b n hi.1) (by omega)
                                                            exact ⟨i + 1, hi.nx (by have h3 := hi.2.1; omega) hb.1 e139, hb.2.trans hF⟩)) rfl
      · have r142 : w133.toInt ≠ 10 := fun e => h135 (Int32.toInt_inj.mp (e.trans (by decide : (10:Int) = (10 : Int32).toInt)))
        refine ev_sub (lo := [(0, .ref 69)]) rfl (t_sc rfl t_sn) ?_
        exact L3 gi121 gl121 gr121  hI hX  (fun b n q h => (by
                                                            obtain ⟨i, hi, hF⟩ := j121_0 b n q h
                                                            exact ⟨i, hi, hF.symm.trans (hi.blk (q123.1 b n hi.1) (q133.1 b n hi.1) (by omega) (by omega)), h.2.2⟩))
  refine ev_sub (lo := [(0, .ref 69)]) rfl (t_sc rfl t_sn) ?_
  exact L121 _ gi gl gr  hI hX  rfl (fun b n q h => ⟨q, h, rfl⟩) rfl
/-! ===== printed by riv.py: the RIVER of the other side ===== -/
noncomputable def wl_n_inWords : List (Nat × Nat) := []
noncomputable def Q_n_inWords (gi : Nat → Nat → Int32) (gl : Nat → Nat → Int64) (gr : Nat → Nat → Value) : Int32 → (Nat → Nat → Int32) → (Nat → Nat → Int64) → (Nat → Nat → Value) → Prop := fun (v : Int32) (gi2 : Nat → Nat → Int32) (gl2 : Nat → Nat → Int64) (gr2 : Nat → Nat → Value) => (∀ (b : Nat → Int32) (n q : Nat), t_TM b n q gi → v.toInt = s_mi (s_W b n q)) ∧ (0 ≤ v.toInt → (gi 69 12).toInt = 2)
theorem c_n_inWords {X : x_Ext} {d : Nat} {sh : List (Nat ⊕ (Nat × Nat))} {gi : Nat → Nat → Int32} {gl : Nat → Nat → Int64} {gr : Nat → Nat → Value} (hI : t_I sh gi gr) : x_Me X (d + 5) n_X12_inWords [.ref 69, .retAddr 28] (sh, gi, gl, gr) (t_PI wl_n_inWords sh gi gl gr (-1) 137 (Q_n_inWords gi gl gr)) := by
  have hX : t_X wl_n_inWords sh gi gl gr gi gl gr := t_X.rf
  refine me_i f_X12_inWords (hI.wf.s rfl) rfl rfl rfl ?_
  obtain ⟨l1, u1⟩ := hI.b (hI.wf.s (k := 69) rfl) (t_bdK rfl : t_bd 11 12 = some (0, 4))
  refine ev_loc f_X12_inWords (nx := 1) rfl rfl rfl rfl ?_
  refine ev_gvI f_X12_inWords (nx := 4) (w := (gi 69 12)) rfl (hI.wf.s rfl) rfl rfl rfl rfl ?_
  refine ev_ic f_X12_inWords (nx := 5) (v := 2) rfl (by decide) rfl ?_
  refine ev_if f_X12_inWords (t1 := 10) (t2 := 8) rfl rfl rfl (fun h2 => ?_) (fun h2 => ?_)
  · have u3 : (gi 69 12).toInt ≤ 2 := t_equ h2 (by decide : (2:Int32).toInt ≤ (2:Int))
    have l4 : 2 ≤ (gi 69 12).toInt := t_eql h2 (by decide : (2:Int) ≤ (2:Int32).toInt)
    refine ev_ic f_X12_inWords (nx := 11) (v := 0) rfl (by decide) rfl ?_
    refine ev_loc f_X12_inWords (nx := 12) (lo' := [(2, .int 0), (0, .ref 69), (1, .retAddr 28)]) rfl rfl rfl rfl ?_
    refine ev_ic f_X12_inWords (nx := 13) (v := 1) rfl (by decide) rfl ?_
    refine ev_loc f_X12_inWords (nx := 14) (lo' := [(3, .int 1), (2, .int 0), (0, .ref 69), (1, .retAddr 28)]) rfl rfl rfl rfl ?_
    have L5 : ∀ (m5 : Nat) (y5_3 : Int32) (y5_2 : Int32), 1 ≤ y5_3.toInt → y5_3.toInt ≤ 138 → 0 ≤ y5_2.toInt → y5_2.toInt ≤ 137 → (∀ (b : Nat → Int32) (n q : Nat), t_TM b n q gi → t_I14 b n q y5_2 y5_3) → y5_2.toInt + 1 ≤ y5_3.toInt → (138 - y5_3.toInt).toNat = m5 → x_Ev X (d + 5) n_X12_inWords 14 [(3, .int y5_3), (2, .int y5_2), (0, .ref 69), (1, .retAddr 28)] [] (sh, gi, gl, gr) (t_PI wl_n_inWords sh gi gl gr (-1) 137 (Q_n_inWords gi gl gr)) := by
      intro m5
      induction m5 using Nat.strongRecOn with
      | _ m5 ih5 =>
      intro y5_3 y5_2 l5_3 u5_3 l5_2 u5_2 j5_0 j5_1 hm5
      refine ev_loc f_X12_inWords (nx := 15) rfl rfl rfl rfl ?_
      refine ev_loc f_X12_inWords (nx := 16) rfl rfl rfl rfl ?_
      refine ev_qI0 f_X12_inWords (nx := 19) (r := [.int y5_3]) rfl rfl rfl rfl rfl rfl rfl (t_P_PI (c_m_length hI )) rfl (fun w6 l6 u6 q6 => ?_)
      refine ev_if f_X12_inWords (t1 := 133) (t2 := 22) rfl rfl rfl (fun h7 => ?_) (fun h7 => ?_)
      · have r8 : w6.toInt ≤ y5_3.toInt := Int32.le_iff_toInt_le.mp h7
        have l9 : 138 ≤ y5_3.toInt := t_lel h7 l6
        refine ev_ic f_X12_inWords (nx := 134) (v := -1) rfl (by decide) rfl ?_
        exact ev_ret f_X12_inWords rfl rfl rfl ⟨_, _, _, rfl, hI, hX, ⟨_, rfl, (by decide : ((-1):Int) ≤ ((-1):Int32).toInt), (Int.le_trans (by decide : ((-1):Int32).toInt ≤ ((-1):Int)) (by decide : ((-1):Int) ≤ 137)), (show (∀ (b : Nat → Int32) (n q : Nat), t_TM b n q gi → ((-1) : Int) = s_mi (s_W b n q)) ∧ (0 ≤ ((-1) : Int) → (gi 69 12).toInt = 2) from ⟨fun b n q h => t_I14_e (j5_0 b n q h) (by omega), fun hh => absurd hh (by decide)⟩)⟩⟩
      · have r10 : y5_3.toInt < w6.toInt := Int32.lt_iff_toInt_lt.mp (t_nle h7)
        have u11 : y5_3.toInt ≤ 137 := t_ltu (t_nle h7) u6 rfl
        refine ev_loc f_X12_inWords (nx := 23) rfl rfl rfl rfl ?_
        refine ev_loc f_X12_inWords (nx := 25) (lo' := [(4, .int y5_3), (3, .int y5_3), (2, .int y5_2), (0, .ref 69), (1, .retAddr 28)]) rfl rfl rfl rfl ?_
        have L12 : ∀ (m12 : Nat) (y12_4 : Int32), 1 ≤ y12_4.toInt → y12_4.toInt ≤ 137 → (∀ (b : Nat → Int32) (n q : Nat), t_TM b n q gi → t_I25 b n q y5_2 y5_3 y12_4) → y5_3.toInt ≤ y12_4.toInt → y5_2.toInt + 1 ≤ y5_3.toInt → (138 - y12_4.toInt).toNat = m12 → x_Ev X (d + 5) n_X12_inWords 25 [(4, .int y12_4), (3, .int y5_3), (2, .int y5_2), (0, .ref 69), (1, .retAddr 28)] [] (sh, gi, gl, gr) (t_PI wl_n_inWords sh gi gl gr (-1) 137 (Q_n_inWords gi gl gr)) := by
          intro m12
          induction m12 using Nat.strongRecOn with
          | _ m12 ih12 =>
          intro y12_4 l12_4 u12_4 j12_0 j12_1 j12_2 hm12
          refine ev_loc f_X12_inWords (nx := 26) rfl rfl rfl rfl ?_
          refine ev_loc f_X12_inWords (nx := 28) rfl rfl rfl rfl ?_
          refine ev_qI0 f_X12_inWords (nx := 31) (r := []) rfl rfl rfl rfl rfl rfl rfl (c_m_charAt hI (y12_4) (Int.le_trans (by decide : (0:Int) ≤ 1) l12_4) u12_4) rfl (fun w13 l13 u13 q13 => ?_)
          have q13 : (w13 = x_kc y12_4.toNatClampNeg) ∧ (w13.toInt ≠ 32 → y12_4.toInt + 1 ≤ 137) ∧ 0 ≤ w13.toInt ∧ w13.toInt ≤ 127 := q13
          refine ev_bp f_X12_inWords (nx := 33) (v := 32) rfl (by decide) rfl ?_
          refine ev_if f_X12_inWords (t1 := 42) (t2 := 36) rfl rfl rfl (fun h14 => ?_) (fun h14 => ?_)
          · have u15 : w13.toInt ≤ 32 := t_equ h14 (by decide : (32:Int32).toInt ≤ (32:Int))
            have l16 : 32 ≤ w13.toInt := t_eql h14 (by decide : (32:Int) ≤ (32:Int32).toInt)
            refine ev_loc f_X12_inWords (nx := 44) rfl rfl rfl rfl ?_
            refine ev_loc f_X12_inWords (nx := 45) rfl rfl rfl rfl ?_
            refine ev_subR f_X12_inWords (nx := 46) (l := (-136)) (u := 136) rfl l12_4 u12_4 l5_3 u11 rfl rfl (by decide) (by decide) rfl (fun z17 e17 l17 u17 => ?_)
            refine ev_loc f_X12_inWords (nx := 47) rfl rfl rfl rfl ?_
            refine ev_getI f_X12_inWords (nx := 50) rfl (hI.wf.s rfl) rfl rfl rfl ?_
            obtain ⟨l18, u18⟩ := hI.b (hI.wf.s (k := 69) rfl) (t_bdK rfl : t_bd 11 14 = some (0, 900))
            refine ev_loc f_X12_inWords (nx := 51) rfl rfl rfl rfl ?_
            refine ev_getI f_X12_inWords (nx := 54) rfl (hI.wf.s rfl) rfl rfl rfl ?_
            obtain ⟨l19, u19⟩ := hI.b (hI.wf.s (k := 69) rfl) (t_bdK rfl : t_bd 11 13 = some (0, 900))
            refine ev_subR f_X12_inWords (nx := 55) (l := (-900)) (u := 900) rfl l18 u18 l19 u19 rfl rfl (by decide) (by decide) rfl (fun z20 e20 l20 u20 => ?_)
            refine ev_if f_X12_inWords (t1 := 58) (t2 := 62) rfl rfl rfl (fun h21 => ?_) (fun h21 => ?_)
            · have r22 : z17.toInt = z20.toInt := t_eqi h21
              have u23 : z20.toInt ≤ 136 := t_equ (Eq.symm h21) u17
              have l24 : (-136) ≤ z20.toInt := t_eql (Eq.symm h21) l17
              refine ev_ic f_X12_inWords (nx := 59) (v := 1) rfl (by decide) rfl ?_
              refine ev_jmp f_X12_inWords (nx := 63) rfl rfl rfl ?_
              refine ev_loc f_X12_inWords (nx := 65) (lo' := [(5, .int 1), (4, .int y12_4), (3, .int y5_3), (2, .int y5_2), (0, .ref 69), (1, .retAddr 28)]) rfl rfl rfl rfl ?_
              refine ev_loc f_X12_inWords (nx := 66) rfl rfl rfl rfl ?_
              refine ev_loc f_X12_inWords (nx := 68) (lo' := [(6, .int y5_3), (5, .int 1), (4, .int y12_4), (3, .int y5_3), (2, .int y5_2), (0, .ref 69), (1, .retAddr 28)]) rfl rfl rfl rfl ?_
              have L25 : ∀ (m25 : Nat) (y25_6 : Int32) (y25_5 : Int32), 1 ≤ y25_6.toInt → y25_6.toInt ≤ 137 → 0 ≤ y25_5.toInt → y25_5.toInt ≤ 1 → (∀ (b : Nat → Int32) (n q : Nat), t_TM b n q gi → t_I68 b n q y5_2 y5_3 y12_4 y25_5 y25_6) → y5_3.toInt ≤ y12_4.toInt → y5_3.toInt ≤ y25_6.toInt → y5_2.toInt + 1 ≤ y5_3.toInt → (138 - y25_6.toInt).toNat = m25 → x_Ev X (d + 5) n_X12_inWords 68 [(6, .int y25_6), (5, .int y25_5), (4, .int y12_4), (3, .int y5_3), (2, .int y5_2), (0, .ref 69), (1, .retAddr 28)] [] (sh, gi, gl, gr) (t_PI wl_n_inWords sh gi gl gr (-1) 137 (Q_n_inWords gi gl gr)) := by
                intro m25
                induction m25 using Nat.strongRecOn with
                | _ m25 ih25 =>
                intro y25_6 y25_5 l25_6 u25_6 l25_5 u25_5 j25_0 j25_1 j25_2 j25_3 hm25
                refine ev_loc f_X12_inWords (nx := 70) rfl rfl rfl rfl ?_
                refine ev_loc f_X12_inWords (nx := 72) rfl rfl rfl rfl ?_
                refine ev_if f_X12_inWords (t1 := 115) (t2 := 75) rfl rfl rfl (fun h26 => ?_) (fun h26 => ?_)
                · have r27 : y12_4.toInt ≤ y25_6.toInt := Int32.le_iff_toInt_le.mp h26
                  refine ev_loc f_X12_inWords (nx := 117) rfl rfl rfl rfl ?_
                  refine ev_if f_X12_inWords (t1 := 122) (t2 := 120) rfl rfl rfl (fun h28 => ?_) (fun h28 => ?_)
                  · have u29 : y25_5.toInt ≤ 0 := t_equ h28 (by decide : (0:Int32).toInt ≤ (0:Int))
                    refine ev_incR f_X12_inWords (nx := 125) (c := 1) (l := 1) (u := 138) rfl rfl (by decide) (by decide) l5_2 u5_2 rfl rfl (by decide) (by decide) rfl (fun z30 e30 l30 u30 => ?_)
                    refine ev_loc f_X12_inWords (nx := 127) rfl rfl rfl rfl ?_
                    refine ev_ic f_X12_inWords (nx := 128) (v := 1) rfl (by decide) rfl ?_
                    refine ev_addC f_X12_inWords (nx := 129) (c := 1) (l := 2) (u := 138) rfl (by decide) l12_4 u12_4 rfl rfl (by decide) (by decide) rfl (fun z31 e31 l31 u31 => ?_)
                    refine ev_loc f_X12_inWords (nx := 130) (lo' := [(3, .int z31), (2, .int z30), (6, .int y25_6), (5, .int y25_5), (4, .int y12_4), (0, .ref 69), (1, .retAddr 28)]) rfl rfl rfl rfl ?_
                    refine ev_jmp f_X12_inWords (nx := 14) rfl rfl rfl ?_
                    refine ev_sub (lo := [(3, .int z31), (2, .int z30), (0, .ref 69), (1, .retAddr 28)]) rfl (t_sc rfl (t_sc rfl (t_sc rfl (t_sc rfl t_sn)))) ?_
                    exact ih5 _ (by omega) (z31) (z30) (Int.le_trans (by decide : (1:Int) ≤ 2) l31) u31 (Int.le_trans (by decide : (0:Int) ≤ 1) l30) (by omega : z30.toInt ≤ (137:Int)) (fun b n q h => t_I14_s (j25_0 b n q h) (by omega) (by omega) (by omega)) (by omega) rfl
                  · have r32 : y25_5.toInt ≠ 0 := fun e => h28 (Int32.toInt_inj.mp (e.trans (by decide : (0:Int) = (0 : Int32).toInt)))
                    have l33 : 1 ≤ y25_5.toInt := t_nel h28 l25_5 rfl rfl
                    refine ev_loc f_X12_inWords (nx := 121) rfl rfl rfl rfl ?_
                    exact ev_ret f_X12_inWords rfl rfl rfl ⟨_, _, _, rfl, hI, hX, ⟨_, rfl, (Int.le_trans (by decide : ((-1):Int) ≤ 0) l5_2), u5_2, (show (∀ (b : Nat → Int32) (n q : Nat), t_TM b n q gi → y5_2.toInt = s_mi (s_W b n q)) ∧ (0 ≤ y5_2.toInt → (gi 69 12).toInt = 2) from ⟨fun b n q h => t_I68_r (j25_0 b n q h) (by omega) (by omega) (by have h3 := h.2.2.2.1; omega), fun _ => by omega⟩)⟩⟩
                · have r34 : y25_6.toInt < y12_4.toInt := Int32.lt_iff_toInt_lt.mp (t_nle h26)
                  have u35 : y25_6.toInt ≤ 136 := t_ltu (t_nle h26) u12_4 rfl
                  have l36 : 2 ≤ y12_4.toInt := t_ltl (t_nle h26) l25_6 rfl
                  refine ev_loc f_X12_inWords (nx := 77) rfl rfl rfl rfl ?_
                  refine ev_if f_X12_inWords (t1 := 115) (t2 := 80) rfl rfl rfl (fun h37 => ?_) (fun h37 => ?_)
                  · have u38 : y25_5.toInt ≤ 0 := t_equ h37 (by decide : (0:Int32).toInt ≤ (0:Int))
                    refine ev_loc f_X12_inWords (nx := 117) rfl rfl rfl rfl ?_
                    refine ev_t f_X12_inWords (t1 := 122) (t2 := 120) rfl rfl rfl (t_eqT u38 l25_5 (by decide : (0:Int32).toInt ≤ (0:Int)) (by decide : (0:Int) ≤ (0:Int32).toInt)) ?_
                    refine ev_incR f_X12_inWords (nx := 125) (c := 1) (l := 1) (u := 138) rfl rfl (by decide) (by decide) l5_2 u5_2 rfl rfl (by decide) (by decide) rfl (fun z39 e39 l39 u39 => ?_)
                    refine ev_loc f_X12_inWords (nx := 127) rfl rfl rfl rfl ?_
                    refine ev_ic f_X12_inWords (nx := 128) (v := 1) rfl (by decide) rfl ?_
                    refine ev_addC f_X12_inWords (nx := 129) (c := 1) (l := 3) (u := 138) rfl (by decide) l36 u12_4 rfl rfl (by decide) (by decide) rfl (fun z40 e40 l40 u40 => ?_)
                    refine ev_loc f_X12_inWords (nx := 130) (lo' := [(3, .int z40), (2, .int z39), (6, .int y25_6), (5, .int y25_5), (4, .int y12_4), (0, .ref 69), (1, .retAddr 28)]) rfl rfl rfl rfl ?_
                    refine ev_jmp f_X12_inWords (nx := 14) rfl rfl rfl ?_
                    refine ev_sub (lo := [(3, .int z40), (2, .int z39), (0, .ref 69), (1, .retAddr 28)]) rfl (t_sc rfl (t_sc rfl (t_sc rfl (t_sc rfl t_sn)))) ?_
                    exact ih5 _ (by omega) (z40) (z39) (Int.le_trans (by decide : (1:Int) ≤ 3) l40) u40 (Int.le_trans (by decide : (0:Int) ≤ 1) l39) (by omega : z39.toInt ≤ (137:Int)) (fun b n q h => t_I14_s (j25_0 b n q h) (by omega) (by omega) (by omega)) (by omega) rfl
                  · have r41 : y25_5.toInt ≠ 0 := fun e => h37 (Int32.toInt_inj.mp (e.trans (by decide : (0:Int) = (0 : Int32).toInt)))
                    have l42 : 1 ≤ y25_5.toInt := t_nel h37 l25_5 rfl rfl
                    refine ev_loc f_X12_inWords (nx := 81) rfl rfl rfl rfl ?_
                    refine ev_loc f_X12_inWords (nx := 83) rfl rfl rfl rfl ?_
                    refine ev_qI0 f_X12_inWords (nx := 86) (r := []) rfl rfl rfl rfl rfl rfl rfl (c_m_charAt hI (y25_6) (Int.le_trans (by decide : (0:Int) ≤ 1) l25_6) (Int.le_trans u35 (by decide : (136:Int) ≤ 137))) rfl (fun w43 l43 u43 q43 => ?_)
                    have q43 : (w43 = x_kc y25_6.toNatClampNeg) ∧ (w43.toInt ≠ 32 → y25_6.toInt + 1 ≤ 137) ∧ 0 ≤ w43.toInt ∧ w43.toInt ≤ 127 := q43
                    refine ev_loc f_X12_inWords (nx := 87) rfl rfl rfl rfl ?_
                    refine ev_loc f_X12_inWords (nx := 88) rfl rfl rfl rfl ?_
                    refine ev_gvI f_X12_inWords (nx := 91) (w := (gi 69 13)) rfl (hI.wf.s rfl) rfl rfl rfl rfl ?_
                    refine ev_loc f_X12_inWords (nx := 93) rfl rfl rfl rfl ?_
                    refine ev_addR f_X12_inWords (nx := 94) (l := 1) (u := 1036) rfl l19 u19 l25_6 u35 rfl rfl (by decide) (by decide) rfl (fun z44 e44 l44 u44 => ?_)
                    refine ev_loc f_X12_inWords (nx := 95) rfl rfl rfl rfl ?_
                    refine ev_subR f_X12_inWords (nx := 96) (l := (-136)) (u := 1035) rfl l44 u44 l5_3 u11 rfl rfl (by decide) (by decide) rfl (fun z45 e45 l45 u45 => ?_)
                    refine ev_inV2 f_X12_inWords (nx := 99) (lo2 := [(0, .ref 69), (1, .int z45)]) rfl rfl rfl rfl f_X12_byteAt (hI.wf.s rfl) rfl rfl rfl rfl rfl ?_
                    refine ev_loc f_X12_byteAt (nx := 1) rfl rfl rfl rfl ?_
                    refine ev_loc f_X12_byteAt (nx := 2) rfl rfl rfl rfl ?_
                    refine ev_getI f_X12_byteAt (nx := 5) rfl (hI.wf.s rfl) rfl rfl rfl ?_
                    obtain ⟨l46, u46⟩ := hI.b (hI.wf.s (k := 69) rfl) (t_bdK rfl : t_bd 11 11 = some (0, 900))
                    refine ev_if f_X12_byteAt (t1 := 21) (t2 := 8) rfl rfl rfl (fun h47 => ?_) (fun h47 => ?_)
                    · have r48 : (gi 69 11).toInt ≤ z45.toInt := Int32.le_iff_toInt_le.mp h47
                      have l49 : 0 ≤ z45.toInt := t_lel h47 l46
                      refine ev_ic f_X12_byteAt (nx := 22) (v := -1) rfl (by decide) rfl ?_
                      refine ev_retK1 f_X12_byteAt rfl rfl rfl ?_
                      refine ev_if f_X12_inWords (t1 := 102) (t2 := 106) rfl rfl rfl (fun h50 => ?_) (fun h50 => ?_)
                      · have u51 : w43.toInt ≤ (-1) := t_equ h50 (by decide : ((-1):Int32).toInt ≤ ((-1):Int))
                        have l52 : (-1) ≤ w43.toInt := t_eql h50 (by decide : ((-1):Int) ≤ ((-1):Int32).toInt)
                        refine ev_ic f_X12_inWords (nx := 103) (v := 1) rfl (by decide) rfl ?_
                        refine ev_jmp f_X12_inWords (nx := 107) rfl rfl rfl ?_
                        refine ev_loc f_X12_inWords (nx := 109) (lo' := [(5, .int 1), (6, .int y25_6), (4, .int y12_4), (3, .int y5_3), (2, .int y5_2), (0, .ref 69), (1, .retAddr 28)]) rfl rfl rfl rfl ?_
                        refine ev_incR f_X12_inWords (nx := 112) (c := 1) (l := 2) (u := 137) rfl rfl (by decide) (by decide) l25_6 u35 rfl rfl (by decide) (by decide) rfl (fun z53 e53 l53 u53 => ?_)
                        refine ev_jmp f_X12_inWords (nx := 68) rfl rfl rfl ?_
                        refine ev_sub (lo := [(6, .int z53), (5, .int 1), (4, .int y12_4), (3, .int y5_3), (2, .int y5_2), (0, .ref 69), (1, .retAddr 28)]) rfl (t_sc rfl (t_sc rfl (t_sc rfl (t_sc rfl (t_sc rfl (t_sc rfl (t_sc rfl t_sn))))))) ?_
                        exact ih25 _ (by omega) (z53) (1) (Int.le_trans (by decide : (1:Int) ≤ 2) l53) u53 (Int.le_trans (by decide : (0:Int) ≤ 1) (by decide : (1:Int) ≤ (1:Int32).toInt)) (by decide : (1:Int32).toInt ≤ (1:Int)) (fun b n q h => t_I68_y (idx := z45) (w := ((-1) : Int32)) (j25_0 b n q h) h.1.1.1.2 (by omega) (by omega) (by have h2 := h.2.2.1; omega) (s_E_b h.1.2).2 q43.1 (h.1.1.no (x := z45) (by have h2 := h.2.2.1; omega) (by omega)) h50 (by decide) (by omega)) (by omega) (by omega) (by omega) rfl
                      · have r54 : w43.toInt ≠ (-1) := fun e => h50 (Int32.toInt_inj.mp (e.trans (by decide : ((-1):Int) = ((-1) : Int32).toInt)))
                        refine ev_ic f_X12_inWords (nx := 107) (v := 0) rfl (by decide) rfl ?_
                        refine ev_loc f_X12_inWords (nx := 109) (lo' := [(5, .int 0), (6, .int y25_6), (4, .int y12_4), (3, .int y5_3), (2, .int y5_2), (0, .ref 69), (1, .retAddr 28)]) rfl rfl rfl rfl ?_
                        refine ev_incR f_X12_inWords (nx := 112) (c := 1) (l := 2) (u := 137) rfl rfl (by decide) (by decide) l25_6 u35 rfl rfl (by decide) (by decide) rfl (fun z55 e55 l55 u55 => ?_)
                        refine ev_jmp f_X12_inWords (nx := 68) rfl rfl rfl ?_
                        refine ev_sub (lo := [(6, .int z55), (5, .int 0), (4, .int y12_4), (3, .int y5_3), (2, .int y5_2), (0, .ref 69), (1, .retAddr 28)]) rfl (t_sc rfl (t_sc rfl (t_sc rfl (t_sc rfl (t_sc rfl (t_sc rfl (t_sc rfl t_sn))))))) ?_
                        exact ih25 _ (by omega) (z55) (0) (Int.le_trans (by decide : (1:Int) ≤ 2) l55) u55 (by decide : (0:Int) ≤ (0:Int32).toInt) (Int.le_trans (by decide : (0:Int32).toInt ≤ (0:Int)) (by decide : (0:Int) ≤ 1)) (fun b n q h => t_I68_n (idx := z45) (w := ((-1) : Int32)) (j25_0 b n q h) h.1.1.1.2 (by omega) (by omega) (by have h2 := h.2.2.1; omega) (s_E_b h.1.2).2 q43.1 (h.1.1.no (x := z45) (by have h2 := h.2.2.1; omega) (by omega)) (by have kk : (-1 : Int32).toInt = -1 := rfl; omega) (by decide) (by omega)) (by omega) (by omega) (by omega) rfl
                    · have r56 : z45.toInt < (gi 69 11).toInt := Int32.lt_iff_toInt_lt.mp (t_nle h47)
                      have u57 : z45.toInt ≤ 899 := t_ltu (t_nle h47) u46 rfl
                      refine ev_loc f_X12_byteAt (nx := 9) rfl rfl rfl rfl ?_
                      refine ev_getR f_X12_byteAt (nx := 12) rfl (hI.wf.s rfl) rfl rfl (hI.wf.r rfl) rfl rfl ?_
                      refine ev_loc f_X12_byteAt (nx := 13) rfl rfl rfl rfl ?_
                      have l59 : (0:Int) ≤ z45.toInt := (by omega)
                      refine ev_baldT f_X12_byteAt (nx := 14) rfl (hI.wf.s rfl) rfl l59 (by decide) u57 (by decide) rfl (fun w58 e58 => ?_)
                      refine ev_sp f_X12_byteAt (nx := 17) (v := 255) rfl (by decide) rfl ?_
                      refine ev_andE f_X12_byteAt (nx := 18) (c := 255) rfl (by decide) (by decide) rfl (fun z60 e60 l60 u60 => ?_)
                      refine ev_jmp f_X12_byteAt (nx := 22) rfl rfl rfl ?_
                      refine ev_retK1 f_X12_byteAt rfl rfl rfl ?_
                      refine ev_if f_X12_inWords (t1 := 102) (t2 := 106) rfl rfl rfl (fun h61 => ?_) (fun h61 => ?_)
                      · have r62 : w43.toInt = z60.toInt := t_eqi h61
                        have u63 : w43.toInt ≤ 255 := t_equ h61 u60
                        have l64 : 0 ≤ w43.toInt := t_eql h61 l60
                        refine ev_ic f_X12_inWords (nx := 103) (v := 1) rfl (by decide) rfl ?_
                        refine ev_jmp f_X12_inWords (nx := 107) rfl rfl rfl ?_
                        refine ev_loc f_X12_inWords (nx := 109) (lo' := [(5, .int 1), (6, .int y25_6), (4, .int y12_4), (3, .int y5_3), (2, .int y5_2), (0, .ref 69), (1, .retAddr 28)]) rfl rfl rfl rfl ?_
                        refine ev_incR f_X12_inWords (nx := 112) (c := 1) (l := 2) (u := 137) rfl rfl (by decide) (by decide) l25_6 u35 rfl rfl (by decide) (by decide) rfl (fun z65 e65 l65 u65 => ?_)
                        refine ev_jmp f_X12_inWords (nx := 68) rfl rfl rfl ?_
                        refine ev_sub (lo := [(6, .int z65), (5, .int 1), (4, .int y12_4), (3, .int y5_3), (2, .int y5_2), (0, .ref 69), (1, .retAddr 28)]) rfl (t_sc rfl (t_sc rfl (t_sc rfl (t_sc rfl (t_sc rfl (t_sc rfl (t_sc rfl t_sn))))))) ?_
                        exact ih25 _ (by omega) (z65) (1) (Int.le_trans (by decide : (1:Int) ≤ 2) l65) u65 (Int.le_trans (by decide : (0:Int) ≤ 1) (by decide : (1:Int) ≤ (1:Int32).toInt)) (by decide : (1:Int32).toInt ≤ (1:Int)) (fun b n q h => t_I68_y (idx := z45) (w := z60) (j25_0 b n q h) h.1.1.1.2 (by omega) (by omega) (by have h2 := h.2.2.1; omega) (s_E_b h.1.2).2 q43.1 (h.1.1.at (x := z45) (by omega) (by omega) e58 e60) h61 (by decide) (by omega)) (by omega) (by omega) (by omega) rfl
                      · have r66 : w43.toInt ≠ z60.toInt := t_nei h61
                        refine ev_ic f_X12_inWords (nx := 107) (v := 0) rfl (by decide) rfl ?_
                        refine ev_loc f_X12_inWords (nx := 109) (lo' := [(5, .int 0), (6, .int y25_6), (4, .int y12_4), (3, .int y5_3), (2, .int y5_2), (0, .ref 69), (1, .retAddr 28)]) rfl rfl rfl rfl ?_
                        refine ev_incR f_X12_inWords (nx := 112) (c := 1) (l := 2) (u := 137) rfl rfl (by decide) (by decide) l25_6 u35 rfl rfl (by decide) (by decide) rfl (fun z67 e67 l67 u67 => ?_)
                        refine ev_jmp f_X12_inWords (nx := 68) rfl rfl rfl ?_
                        refine ev_sub (lo := [(6, .int z67), (5, .int 0), (4, .int y12_4), (3, .int y5_3), (2, .int y5_2), (0, .ref 69), (1, .retAddr 28)]) rfl (t_sc rfl (t_sc rfl (t_sc rfl (t_sc rfl (t_sc rfl (t_sc rfl (t_sc rfl t_sn))))))) ?_
                        exact ih25 _ (by omega) (z67) (0) (Int.le_trans (by decide : (1:Int) ≤ 2) l67) u67 (by decide : (0:Int) ≤ (0:Int32).toInt) (Int.le_trans (by decide : (0:Int32).toInt ≤ (0:Int)) (by decide : (0:Int) ≤ 1)) (fun b n q h => t_I68_n (idx := z45) (w := z60) (j25_0 b n q h) h.1.1.1.2 (by omega) (by omega) (by have h2 := h.2.2.1; omega) (s_E_b h.1.2).2 q43.1 (h.1.1.at (x := z45) (by omega) (by omega) e58 e60) (by omega) (by decide) (by omega)) (by omega) (by omega) (by omega) rfl
              refine ev_sub (lo := [(6, .int y5_3), (5, .int 1), (4, .int y12_4), (3, .int y5_3), (2, .int y5_2), (0, .ref 69), (1, .retAddr 28)]) rfl (t_sc rfl (t_sc rfl (t_sc rfl (t_sc rfl (t_sc rfl (t_sc rfl (t_sc rfl t_sn))))))) ?_
              exact L25 _ (y5_3) (1) l5_3 u11 (Int.le_trans (by decide : (0:Int) ≤ 1) (by decide : (1:Int) ≤ (1:Int32).toInt)) (by decide : (1:Int32).toInt ≤ (1:Int)) (fun b n q h => t_I68_0 (j12_0 b n q h) q13.1 (by omega) (Or.inl ⟨by decide, by have h1 := h.2.1; have h2 := h.2.2.1; omega⟩) (s_E_b h.1.2).1) (by omega) (by omega) (by omega) rfl
            · have r68 : z17.toInt ≠ z20.toInt := t_nei h21
              refine ev_ic f_X12_inWords (nx := 63) (v := 0) rfl (by decide) rfl ?_
              refine ev_loc f_X12_inWords (nx := 65) (lo' := [(5, .int 0), (4, .int y12_4), (3, .int y5_3), (2, .int y5_2), (0, .ref 69), (1, .retAddr 28)]) rfl rfl rfl rfl ?_
              refine ev_loc f_X12_inWords (nx := 66) rfl rfl rfl rfl ?_
              refine ev_loc f_X12_inWords (nx := 68) (lo' := [(6, .int y5_3), (5, .int 0), (4, .int y12_4), (3, .int y5_3), (2, .int y5_2), (0, .ref 69), (1, .retAddr 28)]) rfl rfl rfl rfl ?_
              have L69 : ∀ (m69 : Nat) (y69_6 : Int32) (y69_5 : Int32), 1 ≤ y69_6.toInt → y69_6.toInt ≤ 137 → 0 ≤ y69_5.toInt → y69_5.toInt ≤ 1 → (∀ (b : Nat → Int32) (n q : Nat), t_TM b n q gi → t_I68 b n q y5_2 y5_3 y12_4 y69_5 y69_6) → y5_3.toInt ≤ y12_4.toInt → y5_3.toInt ≤ y69_6.toInt → y5_2.toInt + 1 ≤ y5_3.toInt → (138 - y69_6.toInt).toNat = m69 → x_Ev X (d + 5) n_X12_inWords 68 [(6, .int y69_6), (5, .int y69_5), (4, .int y12_4), (3, .int y5_3), (2, .int y5_2), (0, .ref 69), (1, .retAddr 28)] [] (sh, gi, gl, gr) (t_PI wl_n_inWords sh gi gl gr (-1) 137 (Q_n_inWords gi gl gr)) := by
                intro m69
                induction m69 using Nat.strongRecOn with
                | _ m69 ih69 =>
                intro y69_6 y69_5 l69_6 u69_6 l69_5 u69_5 j69_0 j69_1 j69_2 j69_3 hm69
                refine ev_loc f_X12_inWords (nx := 70) rfl rfl rfl rfl ?_
                refine ev_loc f_X12_inWords (nx := 72) rfl rfl rfl rfl ?_
                refine ev_if f_X12_inWords (t1 := 115) (t2 := 75) rfl rfl rfl (fun h70 => ?_) (fun h70 => ?_)
                · have r71 : y12_4.toInt ≤ y69_6.toInt := Int32.le_iff_toInt_le.mp h70
                  refine ev_loc f_X12_inWords (nx := 117) rfl rfl rfl rfl ?_
                  refine ev_if f_X12_inWords (t1 := 122) (t2 := 120) rfl rfl rfl (fun h72 => ?_) (fun h72 => ?_)
                  · have u73 : y69_5.toInt ≤ 0 := t_equ h72 (by decide : (0:Int32).toInt ≤ (0:Int))
                    refine ev_incR f_X12_inWords (nx := 125) (c := 1) (l := 1) (u := 138) rfl rfl (by decide) (by decide) l5_2 u5_2 rfl rfl (by decide) (by decide) rfl (fun z74 e74 l74 u74 => ?_)
                    refine ev_loc f_X12_inWords (nx := 127) rfl rfl rfl rfl ?_
                    refine ev_ic f_X12_inWords (nx := 128) (v := 1) rfl (by decide) rfl ?_
                    refine ev_addC f_X12_inWords (nx := 129) (c := 1) (l := 2) (u := 138) rfl (by decide) l12_4 u12_4 rfl rfl (by decide) (by decide) rfl (fun z75 e75 l75 u75 => ?_)
                    refine ev_loc f_X12_inWords (nx := 130) (lo' := [(3, .int z75), (2, .int z74), (6, .int y69_6), (5, .int y69_5), (4, .int y12_4), (0, .ref 69), (1, .retAddr 28)]) rfl rfl rfl rfl ?_
                    refine ev_jmp f_X12_inWords (nx := 14) rfl rfl rfl ?_
                    refine ev_sub (lo := [(3, .int z75), (2, .int z74), (0, .ref 69), (1, .retAddr 28)]) rfl (t_sc rfl (t_sc rfl (t_sc rfl (t_sc rfl t_sn)))) ?_
                    exact ih5 _ (by omega) (z75) (z74) (Int.le_trans (by decide : (1:Int) ≤ 2) l75) u75 (Int.le_trans (by decide : (0:Int) ≤ 1) l74) (by omega : z74.toInt ≤ (137:Int)) (fun b n q h => t_I14_s (j69_0 b n q h) (by omega) (by omega) (by omega)) (by omega) rfl
                  · have r76 : y69_5.toInt ≠ 0 := fun e => h72 (Int32.toInt_inj.mp (e.trans (by decide : (0:Int) = (0 : Int32).toInt)))
                    have l77 : 1 ≤ y69_5.toInt := t_nel h72 l69_5 rfl rfl
                    refine ev_loc f_X12_inWords (nx := 121) rfl rfl rfl rfl ?_
                    exact ev_ret f_X12_inWords rfl rfl rfl ⟨_, _, _, rfl, hI, hX, ⟨_, rfl, (Int.le_trans (by decide : ((-1):Int) ≤ 0) l5_2), u5_2, (show (∀ (b : Nat → Int32) (n q : Nat), t_TM b n q gi → y5_2.toInt = s_mi (s_W b n q)) ∧ (0 ≤ y5_2.toInt → (gi 69 12).toInt = 2) from ⟨fun b n q h => t_I68_r (j69_0 b n q h) (by omega) (by omega) (by have h3 := h.2.2.2.1; omega), fun _ => by omega⟩)⟩⟩
                · have r78 : y69_6.toInt < y12_4.toInt := Int32.lt_iff_toInt_lt.mp (t_nle h70)
                  have u79 : y69_6.toInt ≤ 136 := t_ltu (t_nle h70) u12_4 rfl
                  have l80 : 2 ≤ y12_4.toInt := t_ltl (t_nle h70) l69_6 rfl
                  refine ev_loc f_X12_inWords (nx := 77) rfl rfl rfl rfl ?_
                  refine ev_if f_X12_inWords (t1 := 115) (t2 := 80) rfl rfl rfl (fun h81 => ?_) (fun h81 => ?_)
                  · have u82 : y69_5.toInt ≤ 0 := t_equ h81 (by decide : (0:Int32).toInt ≤ (0:Int))
                    refine ev_loc f_X12_inWords (nx := 117) rfl rfl rfl rfl ?_
                    refine ev_t f_X12_inWords (t1 := 122) (t2 := 120) rfl rfl rfl (t_eqT u82 l69_5 (by decide : (0:Int32).toInt ≤ (0:Int)) (by decide : (0:Int) ≤ (0:Int32).toInt)) ?_
                    refine ev_incR f_X12_inWords (nx := 125) (c := 1) (l := 1) (u := 138) rfl rfl (by decide) (by decide) l5_2 u5_2 rfl rfl (by decide) (by decide) rfl (fun z83 e83 l83 u83 => ?_)
                    refine ev_loc f_X12_inWords (nx := 127) rfl rfl rfl rfl ?_
                    refine ev_ic f_X12_inWords (nx := 128) (v := 1) rfl (by decide) rfl ?_
                    refine ev_addC f_X12_inWords (nx := 129) (c := 1) (l := 3) (u := 138) rfl (by decide) l80 u12_4 rfl rfl (by decide) (by decide) rfl (fun z84 e84 l84 u84 => ?_)
                    refine ev_loc f_X12_inWords (nx := 130) (lo' := [(3, .int z84), (2, .int z83), (6, .int y69_6), (5, .int y69_5), (4, .int y12_4), (0, .ref 69), (1, .retAddr 28)]) rfl rfl rfl rfl ?_
                    refine ev_jmp f_X12_inWords (nx := 14) rfl rfl rfl ?_
                    refine ev_sub (lo := [(3, .int z84), (2, .int z83), (0, .ref 69), (1, .retAddr 28)]) rfl (t_sc rfl (t_sc rfl (t_sc rfl (t_sc rfl t_sn)))) ?_
                    exact ih5 _ (by omega) (z84) (z83) (Int.le_trans (by decide : (1:Int) ≤ 3) l84) u84 (Int.le_trans (by decide : (0:Int) ≤ 1) l83) (by omega : z83.toInt ≤ (137:Int)) (fun b n q h => t_I14_s (j69_0 b n q h) (by omega) (by omega) (by omega)) (by omega) rfl
                  · have r85 : y69_5.toInt ≠ 0 := fun e => h81 (Int32.toInt_inj.mp (e.trans (by decide : (0:Int) = (0 : Int32).toInt)))
                    have l86 : 1 ≤ y69_5.toInt := t_nel h81 l69_5 rfl rfl
                    refine ev_loc f_X12_inWords (nx := 81) rfl rfl rfl rfl ?_
                    refine ev_loc f_X12_inWords (nx := 83) rfl rfl rfl rfl ?_
                    refine ev_qI0 f_X12_inWords (nx := 86) (r := []) rfl rfl rfl rfl rfl rfl rfl (c_m_charAt hI (y69_6) (Int.le_trans (by decide : (0:Int) ≤ 1) l69_6) (Int.le_trans u79 (by decide : (136:Int) ≤ 137))) rfl (fun w87 l87 u87 q87 => ?_)
                    have q87 : (w87 = x_kc y69_6.toNatClampNeg) ∧ (w87.toInt ≠ 32 → y69_6.toInt + 1 ≤ 137) ∧ 0 ≤ w87.toInt ∧ w87.toInt ≤ 127 := q87
                    refine ev_loc f_X12_inWords (nx := 87) rfl rfl rfl rfl ?_
                    refine ev_loc f_X12_inWords (nx := 88) rfl rfl rfl rfl ?_
                    refine ev_gvI f_X12_inWords (nx := 91) (w := (gi 69 13)) rfl (hI.wf.s rfl) rfl rfl rfl rfl ?_
                    refine ev_loc f_X12_inWords (nx := 93) rfl rfl rfl rfl ?_
                    refine ev_addR f_X12_inWords (nx := 94) (l := 1) (u := 1036) rfl l19 u19 l69_6 u79 rfl rfl (by decide) (by decide) rfl (fun z88 e88 l88 u88 => ?_)
                    refine ev_loc f_X12_inWords (nx := 95) rfl rfl rfl rfl ?_
                    refine ev_subR f_X12_inWords (nx := 96) (l := (-136)) (u := 1035) rfl l88 u88 l5_3 u11 rfl rfl (by decide) (by decide) rfl (fun z89 e89 l89 u89 => ?_)
                    refine ev_inV2 f_X12_inWords (nx := 99) (lo2 := [(0, .ref 69), (1, .int z89)]) rfl rfl rfl rfl f_X12_byteAt (hI.wf.s rfl) rfl rfl rfl rfl rfl ?_
                    refine ev_loc f_X12_byteAt (nx := 1) rfl rfl rfl rfl ?_
                    refine ev_loc f_X12_byteAt (nx := 2) rfl rfl rfl rfl ?_
                    refine ev_getI f_X12_byteAt (nx := 5) rfl (hI.wf.s rfl) rfl rfl rfl ?_
                    obtain ⟨l90, u90⟩ := hI.b (hI.wf.s (k := 69) rfl) (t_bdK rfl : t_bd 11 11 = some (0, 900))
                    refine ev_if f_X12_byteAt (t1 := 21) (t2 := 8) rfl rfl rfl (fun h91 => ?_) (fun h91 => ?_)
                    · have r92 : (gi 69 11).toInt ≤ z89.toInt := Int32.le_iff_toInt_le.mp h91
                      have l93 : 0 ≤ z89.toInt := t_lel h91 l90
                      refine ev_ic f_X12_byteAt (nx := 22) (v := -1) rfl (by decide) rfl ?_
                      refine ev_retK1 f_X12_byteAt rfl rfl rfl ?_
                      refine ev_if f_X12_inWords (t1 := 102) (t2 := 106) rfl rfl rfl (fun h94 => ?_) (fun h94 => ?_)
                      · have u95 : w87.toInt ≤ (-1) := t_equ h94 (by decide : ((-1):Int32).toInt ≤ ((-1):Int))
                        have l96 : (-1) ≤ w87.toInt := t_eql h94 (by decide : ((-1):Int) ≤ ((-1):Int32).toInt)
                        refine ev_ic f_X12_inWords (nx := 103) (v := 1) rfl (by decide) rfl ?_
                        refine ev_jmp f_X12_inWords (nx := 107) rfl rfl rfl ?_
                        refine ev_loc f_X12_inWords (nx := 109) (lo' := [(5, .int 1), (6, .int y69_6), (4, .int y12_4), (3, .int y5_3), (2, .int y5_2), (0, .ref 69), (1, .retAddr 28)]) rfl rfl rfl rfl ?_
                        refine ev_incR f_X12_inWords (nx := 112) (c := 1) (l := 2) (u := 137) rfl rfl (by decide) (by decide) l69_6 u79 rfl rfl (by decide) (by decide) rfl (fun z97 e97 l97 u97 => ?_)
                        refine ev_jmp f_X12_inWords (nx := 68) rfl rfl rfl ?_
                        refine ev_sub (lo := [(6, .int z97), (5, .int 1), (4, .int y12_4), (3, .int y5_3), (2, .int y5_2), (0, .ref 69), (1, .retAddr 28)]) rfl (t_sc rfl (t_sc rfl (t_sc rfl (t_sc rfl (t_sc rfl (t_sc rfl (t_sc rfl t_sn))))))) ?_
                        exact ih69 _ (by omega) (z97) (1) (Int.le_trans (by decide : (1:Int) ≤ 2) l97) u97 (Int.le_trans (by decide : (0:Int) ≤ 1) (by decide : (1:Int) ≤ (1:Int32).toInt)) (by decide : (1:Int32).toInt ≤ (1:Int)) (fun b n q h => t_I68_y (idx := z89) (w := ((-1) : Int32)) (j69_0 b n q h) h.1.1.1.2 (by omega) (by omega) (by have h2 := h.2.2.1; omega) (s_E_b h.1.2).2 q87.1 (h.1.1.no (x := z89) (by have h2 := h.2.2.1; omega) (by omega)) h94 (by decide) (by omega)) (by omega) (by omega) (by omega) rfl
                      · have r98 : w87.toInt ≠ (-1) := fun e => h94 (Int32.toInt_inj.mp (e.trans (by decide : ((-1):Int) = ((-1) : Int32).toInt)))
                        refine ev_ic f_X12_inWords (nx := 107) (v := 0) rfl (by decide) rfl ?_
                        refine ev_loc f_X12_inWords (nx := 109) (lo' := [(5, .int 0), (6, .int y69_6), (4, .int y12_4), (3, .int y5_3), (2, .int y5_2), (0, .ref 69), (1, .retAddr 28)]) rfl rfl rfl rfl ?_
                        refine ev_incR f_X12_inWords (nx := 112) (c := 1) (l := 2) (u := 137) rfl rfl (by decide) (by decide) l69_6 u79 rfl rfl (by decide) (by decide) rfl (fun z99 e99 l99 u99 => ?_)
                        refine ev_jmp f_X12_inWords (nx := 68) rfl rfl rfl ?_
                        refine ev_sub (lo := [(6, .int z99), (5, .int 0), (4, .int y12_4), (3, .int y5_3), (2, .int y5_2), (0, .ref 69), (1, .retAddr 28)]) rfl (t_sc rfl (t_sc rfl (t_sc rfl (t_sc rfl (t_sc rfl (t_sc rfl (t_sc rfl t_sn))))))) ?_
                        exact ih69 _ (by omega) (z99) (0) (Int.le_trans (by decide : (1:Int) ≤ 2) l99) u99 (by decide : (0:Int) ≤ (0:Int32).toInt) (Int.le_trans (by decide : (0:Int32).toInt ≤ (0:Int)) (by decide : (0:Int) ≤ 1)) (fun b n q h => t_I68_n (idx := z89) (w := ((-1) : Int32)) (j69_0 b n q h) h.1.1.1.2 (by omega) (by omega) (by have h2 := h.2.2.1; omega) (s_E_b h.1.2).2 q87.1 (h.1.1.no (x := z89) (by have h2 := h.2.2.1; omega) (by omega)) (by have kk : (-1 : Int32).toInt = -1 := rfl; omega) (by decide) (by omega)) (by omega) (by omega) (by omega) rfl
                    · have r100 : z89.toInt < (gi 69 11).toInt := Int32.lt_iff_toInt_lt.mp (t_nle h91)
                      have u101 : z89.toInt ≤ 899 := t_ltu (t_nle h91) u90 rfl
                      refine ev_loc f_X12_byteAt (nx := 9) rfl rfl rfl rfl ?_
                      refine ev_getR f_X12_byteAt (nx := 12) rfl (hI.wf.s rfl) rfl rfl (hI.wf.r rfl) rfl rfl ?_
                      refine ev_loc f_X12_byteAt (nx := 13) rfl rfl rfl rfl ?_
                      have l103 : (0:Int) ≤ z89.toInt := (by omega)
                      refine ev_baldT f_X12_byteAt (nx := 14) rfl (hI.wf.s rfl) rfl l103 (by decide) u101 (by decide) rfl (fun w102 e102 => ?_)
                      refine ev_sp f_X12_byteAt (nx := 17) (v := 255) rfl (by decide) rfl ?_
                      refine ev_andE f_X12_byteAt (nx := 18) (c := 255) rfl (by decide) (by decide) rfl (fun z104 e104 l104 u104 => ?_)
                      refine ev_jmp f_X12_byteAt (nx := 22) rfl rfl rfl ?_
                      refine ev_retK1 f_X12_byteAt rfl rfl rfl ?_
                      refine ev_if f_X12_inWords (t1 := 102) (t2 := 106) rfl rfl rfl (fun h105 => ?_) (fun h105 => ?_)
                      · have r106 : w87.toInt = z104.toInt := t_eqi h105
                        have u107 : w87.toInt ≤ 255 := t_equ h105 u104
                        have l108 : 0 ≤ w87.toInt := t_eql h105 l104
                        refine ev_ic f_X12_inWords (nx := 103) (v := 1) rfl (by decide) rfl ?_
                        refine ev_jmp f_X12_inWords (nx := 107) rfl rfl rfl ?_
                        refine ev_loc f_X12_inWords (nx := 109) (lo' := [(5, .int 1), (6, .int y69_6), (4, .int y12_4), (3, .int y5_3), (2, .int y5_2), (0, .ref 69), (1, .retAddr 28)]) rfl rfl rfl rfl ?_
                        refine ev_incR f_X12_inWords (nx := 112) (c := 1) (l := 2) (u := 137) rfl rfl (by decide) (by decide) l69_6 u79 rfl rfl (by decide) (by decide) rfl (fun z109 e109 l109 u109 => ?_)
                        refine ev_jmp f_X12_inWords (nx := 68) rfl rfl rfl ?_
                        refine ev_sub (lo := [(6, .int z109), (5, .int 1), (4, .int y12_4), (3, .int y5_3), (2, .int y5_2), (0, .ref 69), (1, .retAddr 28)]) rfl (t_sc rfl (t_sc rfl (t_sc rfl (t_sc rfl (t_sc rfl (t_sc rfl (t_sc rfl t_sn))))))) ?_
                        exact ih69 _ (by omega) (z109) (1) (Int.le_trans (by decide : (1:Int) ≤ 2) l109) u109 (Int.le_trans (by decide : (0:Int) ≤ 1) (by decide : (1:Int) ≤ (1:Int32).toInt)) (by decide : (1:Int32).toInt ≤ (1:Int)) (fun b n q h => t_I68_y (idx := z89) (w := z104) (j69_0 b n q h) h.1.1.1.2 (by omega) (by omega) (by have h2 := h.2.2.1; omega) (s_E_b h.1.2).2 q87.1 (h.1.1.at (x := z89) (by omega) (by omega) e102 e104) h105 (by decide) (by omega)) (by omega) (by omega) (by omega) rfl
                      · have r110 : w87.toInt ≠ z104.toInt := t_nei h105
                        refine ev_ic f_X12_inWords (nx := 107) (v := 0) rfl (by decide) rfl ?_
                        refine ev_loc f_X12_inWords (nx := 109) (lo' := [(5, .int 0), (6, .int y69_6), (4, .int y12_4), (3, .int y5_3), (2, .int y5_2), (0, .ref 69), (1, .retAddr 28)]) rfl rfl rfl rfl ?_
                        refine ev_incR f_X12_inWords (nx := 112) (c := 1) (l := 2) (u := 137) rfl rfl (by decide) (by decide) l69_6 u79 rfl rfl (by decide) (by decide) rfl (fun z111 e111 l111 u111 => ?_)
                        refine ev_jmp f_X12_inWords (nx := 68) rfl rfl rfl ?_
                        refine ev_sub (lo := [(6, .int z111), (5, .int 0), (4, .int y12_4), (3, .int y5_3), (2, .int y5_2), (0, .ref 69), (1, .retAddr 28)]) rfl (t_sc rfl (t_sc rfl (t_sc rfl (t_sc rfl (t_sc rfl (t_sc rfl (t_sc rfl t_sn))))))) ?_
                        exact ih69 _ (by omega) (z111) (0) (Int.le_trans (by decide : (1:Int) ≤ 2) l111) u111 (by decide : (0:Int) ≤ (0:Int32).toInt) (Int.le_trans (by decide : (0:Int32).toInt ≤ (0:Int)) (by decide : (0:Int) ≤ 1)) (fun b n q h => t_I68_n (idx := z89) (w := z104) (j69_0 b n q h) h.1.1.1.2 (by omega) (by omega) (by have h2 := h.2.2.1; omega) (s_E_b h.1.2).2 q87.1 (h.1.1.at (x := z89) (by omega) (by omega) e102 e104) (by omega) (by decide) (by omega)) (by omega) (by omega) (by omega) rfl
              refine ev_sub (lo := [(6, .int y5_3), (5, .int 0), (4, .int y12_4), (3, .int y5_3), (2, .int y5_2), (0, .ref 69), (1, .retAddr 28)]) rfl (t_sc rfl (t_sc rfl (t_sc rfl (t_sc rfl (t_sc rfl (t_sc rfl (t_sc rfl t_sn))))))) ?_
              exact L69 _ (y5_3) (0) l5_3 u11 (by decide : (0:Int) ≤ (0:Int32).toInt) (Int.le_trans (by decide : (0:Int32).toInt ≤ (0:Int)) (by decide : (0:Int) ≤ 1)) (fun b n q h => t_I68_0 (j12_0 b n q h) q13.1 (by omega) (Or.inr ⟨by decide, by have h1 := h.2.1; have h2 := h.2.2.1; omega⟩) (s_E_b h.1.2).1) (by omega) (by omega) (by omega) rfl
          · have r112 : w13.toInt ≠ 32 := fun e => h14 (Int32.toInt_inj.mp (e.trans (by decide : (32:Int) = (32 : Int32).toInt)))
            refine ev_incR f_X12_inWords (nx := 39) (c := 1) (l := 2) (u := 138) rfl rfl (by decide) (by decide) l12_4 u12_4 rfl rfl (by decide) (by decide) rfl (fun z113 e113 l113 u113 => ?_)
            refine ev_jmp f_X12_inWords (nx := 25) rfl rfl rfl ?_
            refine ev_sub (lo := [(4, .int z113), (3, .int y5_3), (2, .int y5_2), (0, .ref 69), (1, .retAddr 28)]) rfl (t_sc rfl (t_sc rfl (t_sc rfl (t_sc rfl (t_sc rfl t_sn))))) ?_
            exact ih12 _ (by omega) (z113) (Int.le_trans (by decide : (1:Int) ≤ 2) l113) (by omega : z113.toInt ≤ (137:Int)) (fun b n q h => t_I25_s (j12_0 b n q h) q13.1 (by omega) (by omega)) (by omega) (by omega) rfl
        refine ev_sub (lo := [(4, .int y5_3), (3, .int y5_3), (2, .int y5_2), (0, .ref 69), (1, .retAddr 28)]) rfl (t_sc rfl (t_sc rfl (t_sc rfl (t_sc rfl (t_sc rfl t_sn))))) ?_
        exact L12 _ (y5_3) l5_3 u11 (fun b n q h => t_I25_0 (j5_0 b n q h) (by omega)) (by omega) (by omega) rfl
    refine ev_sub (lo := [(3, .int 1), (2, .int 0), (0, .ref 69), (1, .retAddr 28)]) rfl (t_sc rfl (t_sc rfl (t_sc rfl (t_sc rfl t_sn)))) ?_
    exact L5 _ (1) (0) (by decide : (1:Int) ≤ (1:Int32).toInt) (Int.le_trans (by decide : (1:Int32).toInt ≤ (1:Int)) (by decide : (1:Int) ≤ 138)) (by decide : (0:Int) ≤ (0:Int32).toInt) (Int.le_trans (by decide : (0:Int32).toInt ≤ (0:Int)) (by decide : (0:Int) ≤ 137)) (fun b n q h => t_I14_0) (by have kf114 : (0 : Int32).toInt = 0 := (by decide); have kf115 : (1 : Int32).toInt = 1 := (by decide); omega) rfl
  · have r116 : (gi 69 12).toInt ≠ 2 := fun e => h2 (Int32.toInt_inj.mp (e.trans (by decide : (2:Int) = (2 : Int32).toInt)))
    refine ev_ic f_X12_inWords (nx := 9) (v := -1) rfl (by decide) rfl ?_
    exact ev_ret f_X12_inWords rfl rfl rfl ⟨_, _, _, rfl, hI, hX, ⟨_, rfl, (by decide : ((-1):Int) ≤ ((-1):Int32).toInt), (Int.le_trans (by decide : ((-1):Int32).toInt ≤ ((-1):Int)) (by decide : ((-1):Int) ≤ 137)), (show (∀ (b : Nat → Int32) (n q : Nat), t_TM b n q gi → ((-1) : Int) = s_mi (s_W b n q)) ∧ (0 ≤ ((-1) : Int) → (gi 69 12).toInt = 2) from ⟨fun b n q h => by rw [s_K_W (fun hh => by have h3 := h.2.2.2.1; omega)]; rfl, fun hh => absurd hh (by decide)⟩)⟩⟩
noncomputable def wl_n_fails : List (Nat × Nat) := [(69, 17), (69, 18)]
noncomputable def Q_n_fails (gi : Nat → Nat → Int32) (gl : Nat → Nat → Int64) (gr : Nat → Nat → Value) (ar1 : Int32) : Int32 → (Nat → Nat → Int32) → (Nat → Nat → Int64) → (Nat → Nat → Value) → Prop := fun (v : Int32) (gi2 : Nat → Nat → Int32) (gl2 : Nat → Nat → Int64) (gr2 : Nat → Nat → Value) => (∀ (b : Nat → Int32) (n q : Nat), t_TM b n q gi → (gi 69 18).toInt = 0 → t_MF gi2 (s_fk b n q ar1.toInt) (s_F b n q)) ∧ v.toInt = 0
theorem c_n_fails {X : x_Ext} {d : Nat} {sh : List (Nat ⊕ (Nat × Nat))} {gi : Nat → Nat → Int32} {gl : Nat → Nat → Int64} {gr : Nat → Nat → Value} (hI : t_I sh gi gr) (ar1 : Int32) (l_a1 : 2 ≤ ar1.toInt) (u_a1 : ar1.toInt ≤ 7) : x_Me X (d + 1) n_X12_fails [.ref 69, .int ar1] (sh, gi, gl, gr) (t_PI wl_n_fails sh gi gl gr 0 0 (Q_n_fails gi gl gr ar1)) := by
  have hX : t_X wl_n_fails sh gi gl gr gi gl gr := t_X.rf
  refine me_i f_X12_fails (hI.wf.s rfl) rfl rfl rfl ?_
  refine ev_loc f_X12_fails (nx := 1) rfl rfl rfl rfl ?_
  refine ev_gvI f_X12_fails (nx := 4) (w := (gi 69 18)) rfl (hI.wf.s rfl) rfl rfl rfl rfl ?_
  refine ev_if f_X12_fails (t1 := 7) (t2 := 32) rfl rfl rfl (fun h2 => ?_) (fun h2 => ?_)
  · have u3 : (gi 69 18).toInt ≤ 0 := t_equ h2 (by decide : (0:Int32).toInt ≤ (0:Int))
    have l4 : 0 ≤ (gi 69 18).toInt := t_eql h2 (by decide : (0:Int) ≤ (0:Int32).toInt)
    refine ev_loc f_X12_fails (nx := 8) rfl rfl rfl rfl ?_
    refine ev_loc f_X12_fails (nx := 9) rfl rfl rfl rfl ?_
    refine ev_getI f_X12_fails (nx := 12) rfl (hI.wf.s rfl) rfl rfl rfl ?_
    obtain ⟨l5, u5⟩ := hI.b (hI.wf.s (k := 69) rfl) (t_bdK rfl : t_bd 11 12 = some (0, 4))
    refine ev_ic f_X12_fails (nx := 13) (v := 1) rfl (by decide) rfl ?_
    refine ev_if f_X12_fails (t1 := 16) (t2 := 20) rfl rfl rfl (fun h6 => ?_) (fun h6 => ?_)
    · have u7 : (gi 69 12).toInt ≤ 1 := t_equ h6 (by decide : (1:Int32).toInt ≤ (1:Int))
      have l8 : 1 ≤ (gi 69 12).toInt := t_eql h6 (by decide : (1:Int) ≤ (1:Int32).toInt)
      refine ev_ic f_X12_fails (nx := 17) (v := 1) rfl (by decide) rfl ?_
      refine ev_jmp f_X12_fails (nx := 21) rfl rfl rfl ?_
      refine ev_putIT f_X12_fails (nx := 24) rfl (hI.wf.s rfl) rfl rfl rfl (hI.put0 (hI.wf.s rfl) rfl rfl) (hX.upI rfl) (fun g9 e9 hI hX => ?_)
      refine ev_loc f_X12_fails (nx := 25) rfl rfl rfl rfl ?_
      refine ev_loc f_X12_fails (nx := 26) rfl rfl rfl rfl ?_
      refine ev_getI f_X12_fails (nx := 29) rfl (hI.wf.s rfl) rfl rfl rfl ?_
      obtain ⟨l10, u10⟩ := hI.b (hI.wf.s (k := 69) rfl) (t_bdK rfl : t_bd 11 13 = some (0, 900))
      refine ev_putIT f_X12_fails (nx := 32) rfl (hI.wf.s rfl) rfl rfl rfl (hI.put0 (hI.wf.s rfl) rfl rfl) (hX.upI rfl) (fun g11 e11 hI hX => ?_)
      refine ev_ic f_X12_fails (nx := 33) (v := 0) rfl (by decide) rfl ?_
      exact ev_ret f_X12_fails rfl rfl rfl ⟨_, _, _, rfl, hI, hX, ⟨_, rfl, (by decide : (0:Int) ≤ (0:Int32).toInt), (by decide : (0:Int32).toInt ≤ (0:Int)), (show (∀ (b : Nat → Int32) (n q : Nat), t_TM b n q gi → (gi 69 18).toInt = 0 → t_MF g11 (s_fk b n q ar1.toInt) (s_F b n q)) ∧ (0 : Int) = 0 from ⟨fun b n q h h0 => h.fl e9 e11 (Or.inl ⟨by omega, rfl⟩), rfl⟩)⟩⟩
    · have r12 : (gi 69 12).toInt ≠ 1 := fun e => h6 (Int32.toInt_inj.mp (e.trans (by decide : (1:Int) = (1 : Int32).toInt)))
      refine ev_loc f_X12_fails (nx := 21) rfl rfl rfl rfl ?_
      refine ev_putIT f_X12_fails (nx := 24) rfl (hI.wf.s rfl) rfl rfl rfl (hI.put0 (hI.wf.s rfl) rfl rfl) (hX.upI rfl) (fun g13 e13 hI hX => ?_)
      refine ev_loc f_X12_fails (nx := 25) rfl rfl rfl rfl ?_
      refine ev_loc f_X12_fails (nx := 26) rfl rfl rfl rfl ?_
      refine ev_getI f_X12_fails (nx := 29) rfl (hI.wf.s rfl) rfl rfl rfl ?_
      obtain ⟨l14, u14⟩ := hI.b (hI.wf.s (k := 69) rfl) (t_bdK rfl : t_bd 11 13 = some (0, 900))
      refine ev_putIT f_X12_fails (nx := 32) rfl (hI.wf.s rfl) rfl rfl rfl (hI.put0 (hI.wf.s rfl) rfl rfl) (hX.upI rfl) (fun g15 e15 hI hX => ?_)
      refine ev_ic f_X12_fails (nx := 33) (v := 0) rfl (by decide) rfl ?_
      exact ev_ret f_X12_fails rfl rfl rfl ⟨_, _, _, rfl, hI, hX, ⟨_, rfl, (by decide : (0:Int) ≤ (0:Int32).toInt), (by decide : (0:Int32).toInt ≤ (0:Int)), (show (∀ (b : Nat → Int32) (n q : Nat), t_TM b n q gi → (gi 69 18).toInt = 0 → t_MF g15 (s_fk b n q ar1.toInt) (s_F b n q)) ∧ (0 : Int) = 0 from ⟨fun b n q h h0 => h.fl e13 e15 (Or.inr ⟨by omega, rfl⟩), rfl⟩)⟩⟩
  · have r16 : (gi 69 18).toInt ≠ 0 := fun e => h2 (Int32.toInt_inj.mp (e.trans (by decide : (0:Int) = (0 : Int32).toInt)))
    refine ev_ic f_X12_fails (nx := 33) (v := 0) rfl (by decide) rfl ?_
    exact ev_ret f_X12_fails rfl rfl rfl ⟨_, _, _, rfl, hI, hX, ⟨_, rfl, (by decide : (0:Int) ≤ (0:Int32).toInt), (by decide : (0:Int32).toInt ≤ (0:Int)), (show (∀ (b : Nat → Int32) (n q : Nat), t_TM b n q gi → (gi 69 18).toInt = 0 → t_MF gi (s_fk b n q ar1.toInt) (s_F b n q)) ∧ (0 : Int) = 0 from ⟨fun b n q h h0 => absurd h0 (by omega), rfl⟩)⟩⟩
noncomputable def wl_n_isName : List (Nat × Nat) := []
noncomputable def Q_n_isName (gi : Nat → Nat → Int32) (gl : Nat → Nat → Int64) (gr : Nat → Nat → Value) : Int32 → (Nat → Nat → Int32) → (Nat → Nat → Int64) → (Nat → Nat → Value) → Prop := fun (v : Int32) (gi2 : Nat → Nat → Int32) (gl2 : Nat → Nat → Int64) (gr2 : Nat → Nat → Value) => ∀ (b : Nat → Int32) (n q : Nat), t_TM b n q gi → (v.toInt = 1 ↔ s_isN b n q)
theorem c_n_isName {X : x_Ext} {d : Nat} {sh : List (Nat ⊕ (Nat × Nat))} {gi : Nat → Nat → Int32} {gl : Nat → Nat → Int64} {gr : Nat → Nat → Value} (hI : t_I sh gi gr) : x_Me X (d + 6) n_X12_isName [.ref 69, .retAddr 28] (sh, gi, gl, gr) (t_PI wl_n_isName sh gi gl gr 0 1 (Q_n_isName gi gl gr)) := by
  have hX : t_X wl_n_isName sh gi gl gr gi gl gr := t_X.rf
  refine me_i f_X12_isName (hI.wf.s rfl) rfl rfl rfl ?_
  refine ev_loc f_X12_isName (nx := 1) rfl rfl rfl rfl ?_
  refine ev_getI f_X12_isName (nx := 4) rfl (hI.wf.s rfl) rfl rfl rfl ?_
  obtain ⟨l1, u1⟩ := hI.b (hI.wf.s (k := 69) rfl) (t_bdK rfl : t_bd 11 12 = some (0, 4))
  refine ev_ic f_X12_isName (nx := 5) (v := 2) rfl (by decide) rfl ?_
  refine ev_if f_X12_isName (t1 := 8) (t2 := 35) rfl rfl rfl (fun h2 => ?_) (fun h2 => ?_)
  · have u3 : (gi 69 12).toInt ≤ 2 := t_equ h2 (by decide : (2:Int32).toInt ≤ (2:Int))
    have l4 : 2 ≤ (gi 69 12).toInt := t_eql h2 (by decide : (2:Int) ≤ (2:Int32).toInt)
    refine ev_loc f_X12_isName (nx := 9) rfl rfl rfl rfl ?_
    refine ev_getI f_X12_isName (nx := 12) rfl (hI.wf.s rfl) rfl rfl rfl ?_
    obtain ⟨l5, u5⟩ := hI.b (hI.wf.s (k := 69) rfl) (t_bdK rfl : t_bd 11 14 = some (0, 900))
    refine ev_loc f_X12_isName (nx := 13) rfl rfl rfl rfl ?_
    refine ev_getI f_X12_isName (nx := 16) rfl (hI.wf.s rfl) rfl rfl rfl ?_
    obtain ⟨l6, u6⟩ := hI.b (hI.wf.s (k := 69) rfl) (t_bdK rfl : t_bd 11 13 = some (0, 900))
    refine ev_subR f_X12_isName (nx := 17) (l := (-900)) (u := 900) rfl l5 u5 l6 u6 rfl rfl (by decide) (by decide) rfl (fun z7 e7 l7 u7 => ?_)
    refine ev_bp f_X12_isName (nx := 19) (v := 8) rfl (by decide) rfl ?_
    refine ev_if f_X12_isName (t1 := 35) (t2 := 22) rfl rfl rfl (fun h8 => ?_) (fun h8 => ?_)
    · have l9 : 9 ≤ z7.toInt := t_ltl h8 (by decide : (8:Int) ≤ (8:Int32).toInt) rfl
      have u10 : (gi 69 13).toInt ≤ 891 := by have := u5; omega
      refine ev_ic f_X12_isName (nx := 36) (v := 0) rfl (by decide) rfl ?_
      exact ev_ret f_X12_isName rfl rfl rfl ⟨_, _, _, rfl, hI, hX, ⟨_, rfl, (by decide : (0:Int) ≤ (0:Int32).toInt), (Int.le_trans (by decide : (0:Int32).toInt ≤ (0:Int)) (by decide : (0:Int) ≤ 1)), (show ∀ (b : Nat → Int32) (n q : Nat), t_TM b n q gi → ((0 : Int) = 1 ↔ s_isN b n q) from (fun b n q h => ⟨fun hh => absurd hh (by decide), fun hh => absurd ((h.isN).mpr hh) (by rintro ⟨ha, hb, hc⟩; omega)⟩))⟩⟩
    · have u11 : z7.toInt ≤ 8 := t_leu (t_nlt h8) (by decide : (8:Int32).toInt ≤ (8:Int))
      refine ev_loc f_X12_isName (nx := 23) rfl rfl rfl rfl ?_
      refine ev_loc f_X12_isName (nx := 24) rfl rfl rfl rfl ?_
      refine ev_qI0 f_X12_isName (nx := 27) (r := []) rfl rfl rfl rfl rfl rfl rfl (c_n_inWords hI ) rfl (fun w12 l12 u12 q12 => ?_)
      have q12 : (∀ (b : Nat → Int32) (n q : Nat), t_TM b n q gi → w12.toInt = s_mi (s_W b n q)) ∧ (0 ≤ w12.toInt → (gi 69 12).toInt = 2) := q12
      refine ev_ic f_X12_isName (nx := 28) (v := -1) rfl (by decide) rfl ?_
      refine ev_if f_X12_isName (t1 := 31) (t2 := 35) rfl rfl rfl (fun h13 => ?_) (fun h13 => ?_)
      · have u14 : w12.toInt ≤ (-1) := t_equ h13 (by decide : ((-1):Int32).toInt ≤ ((-1):Int))
        refine ev_ic f_X12_isName (nx := 32) (v := 1) rfl (by decide) rfl ?_
        refine ev_jmp f_X12_isName (nx := 36) rfl rfl rfl ?_
        exact ev_ret f_X12_isName rfl rfl rfl ⟨_, _, _, rfl, hI, hX, ⟨_, rfl, (Int.le_trans (by decide : (0:Int) ≤ 1) (by decide : (1:Int) ≤ (1:Int32).toInt)), (by decide : (1:Int32).toInt ≤ (1:Int)), (show ∀ (b : Nat → Int32) (n q : Nat), t_TM b n q gi → ((1 : Int) = 1 ↔ s_isN b n q) from (fun b n q h => ⟨fun _ => (h.isN).mp ⟨by omega, by omega, by rw [← q12.1 b n q h]; omega⟩, fun _ => rfl⟩))⟩⟩
      · have r15 : w12.toInt ≠ (-1) := fun e => h13 (Int32.toInt_inj.mp (e.trans (by decide : ((-1):Int) = ((-1) : Int32).toInt)))
        have l16 : 0 ≤ w12.toInt := t_nel h13 l12 rfl rfl
        refine ev_ic f_X12_isName (nx := 36) (v := 0) rfl (by decide) rfl ?_
        exact ev_ret f_X12_isName rfl rfl rfl ⟨_, _, _, rfl, hI, hX, ⟨_, rfl, (by decide : (0:Int) ≤ (0:Int32).toInt), (Int.le_trans (by decide : (0:Int32).toInt ≤ (0:Int)) (by decide : (0:Int) ≤ 1)), (show ∀ (b : Nat → Int32) (n q : Nat), t_TM b n q gi → ((0 : Int) = 1 ↔ s_isN b n q) from (fun b n q h => ⟨fun hh => absurd hh (by decide), fun hh => absurd ((h.isN).mpr hh).2.2 (by rw [← q12.1 b n q h]; omega)⟩))⟩⟩
  · have r17 : (gi 69 12).toInt ≠ 2 := fun e => h2 (Int32.toInt_inj.mp (e.trans (by decide : (2:Int) = (2 : Int32).toInt)))
    refine ev_ic f_X12_isName (nx := 36) (v := 0) rfl (by decide) rfl ?_
    exact ev_ret f_X12_isName rfl rfl rfl ⟨_, _, _, rfl, hI, hX, ⟨_, rfl, (by decide : (0:Int) ≤ (0:Int32).toInt), (Int.le_trans (by decide : (0:Int32).toInt ≤ (0:Int)) (by decide : (0:Int) ≤ 1)), (show ∀ (b : Nat → Int32) (n q : Nat), t_TM b n q gi → ((0 : Int) = 1 ↔ s_isN b n q) from (fun b n q h => ⟨fun hh => absurd hh (by decide), fun hh => absurd ((h.isN).mpr hh) (by rintro ⟨ha, hb, hc⟩; omega)⟩))⟩⟩
noncomputable def wl_n_isSign : List (Nat × Nat) := []
noncomputable def Q_n_isSign (gi : Nat → Nat → Int32) (gl : Nat → Nat → Int64) (gr : Nat → Nat → Value) (ar1 : Int32) : Int32 → (Nat → Nat → Int32) → (Nat → Nat → Int64) → (Nat → Nat → Value) → Prop := fun (v : Int32) (gi2 : Nat → Nat → Int32) (gl2 : Nat → Nat → Int64) (gr2 : Nat → Nat → Value) => ∀ (b : Nat → Int32) (n q : Nat), t_TM b n q gi → (v.toInt = 1 ↔ s_isS b n q ar1.toInt)
theorem c_n_isSign {X : x_Ext} {d : Nat} {sh : List (Nat ⊕ (Nat × Nat))} {gi : Nat → Nat → Int32} {gl : Nat → Nat → Int64} {gr : Nat → Nat → Value} (hI : t_I sh gi gr) (ar1 : Int32) : x_Me X (d + 1) n_X12_isSign [.ref 69, .int ar1] (sh, gi, gl, gr) (t_PI wl_n_isSign sh gi gl gr 0 1 (Q_n_isSign gi gl gr ar1)) := by
  have hX : t_X wl_n_isSign sh gi gl gr gi gl gr := t_X.rf
  refine me_i f_X12_isSign (hI.wf.s rfl) rfl rfl rfl ?_
  refine ev_loc f_X12_isSign (nx := 1) rfl rfl rfl rfl ?_
  refine ev_getI f_X12_isSign (nx := 4) rfl (hI.wf.s rfl) rfl rfl rfl ?_
  obtain ⟨l1, u1⟩ := hI.b (hI.wf.s (k := 69) rfl) (t_bdK rfl : t_bd 11 12 = some (0, 4))
  refine ev_ic f_X12_isSign (nx := 5) (v := 4) rfl (by decide) rfl ?_
  refine ev_if f_X12_isSign (t1 := 8) (t2 := 20) rfl rfl rfl (fun h2 => ?_) (fun h2 => ?_)
  · have l3 : 4 ≤ (gi 69 12).toInt := t_eql h2 (by decide : (4:Int) ≤ (4:Int32).toInt)
    refine ev_loc f_X12_isSign (nx := 9) rfl rfl rfl rfl ?_
    refine ev_getI f_X12_isSign (nx := 12) rfl (hI.wf.s rfl) rfl rfl rfl ?_
    refine ev_loc f_X12_isSign (nx := 13) rfl rfl rfl rfl ?_
    refine ev_if f_X12_isSign (t1 := 16) (t2 := 20) rfl rfl rfl (fun h4 => ?_) (fun h4 => ?_)
    · have r5 : (gi 69 15).toInt = ar1.toInt := t_eqi h4
      refine ev_ic f_X12_isSign (nx := 17) (v := 1) rfl (by decide) rfl ?_
      refine ev_jmp f_X12_isSign (nx := 21) rfl rfl rfl ?_
      exact ev_ret f_X12_isSign rfl rfl rfl ⟨_, _, _, rfl, hI, hX, ⟨_, rfl, (Int.le_trans (by decide : (0:Int) ≤ 1) (by decide : (1:Int) ≤ (1:Int32).toInt)), (by decide : (1:Int32).toInt ≤ (1:Int)), (show ∀ (b : Nat → Int32) (n q : Nat), t_TM b n q gi → ((1 : Int) = 1 ↔ s_isS b n q ar1.toInt) from (fun b n q h => ⟨fun _ => (h.isS).mp ⟨by omega, by omega⟩, fun _ => rfl⟩))⟩⟩
    · have r6 : (gi 69 15).toInt ≠ ar1.toInt := t_nei h4
      refine ev_ic f_X12_isSign (nx := 21) (v := 0) rfl (by decide) rfl ?_
      exact ev_ret f_X12_isSign rfl rfl rfl ⟨_, _, _, rfl, hI, hX, ⟨_, rfl, (by decide : (0:Int) ≤ (0:Int32).toInt), (Int.le_trans (by decide : (0:Int32).toInt ≤ (0:Int)) (by decide : (0:Int) ≤ 1)), (show ∀ (b : Nat → Int32) (n q : Nat), t_TM b n q gi → ((0 : Int) = 1 ↔ s_isS b n q ar1.toInt) from (fun b n q h => ⟨fun hh => absurd hh (by decide), fun hh => absurd ((h.isS).mpr hh) (by rintro ⟨ha, hb⟩; omega)⟩))⟩⟩
  · have r7 : (gi 69 12).toInt ≠ 4 := fun e => h2 (Int32.toInt_inj.mp (e.trans (by decide : (4:Int) = (4 : Int32).toInt)))
    have u8 : (gi 69 12).toInt ≤ 3 := t_neu h2 u1 rfl rfl
    refine ev_ic f_X12_isSign (nx := 21) (v := 0) rfl (by decide) rfl ?_
    exact ev_ret f_X12_isSign rfl rfl rfl ⟨_, _, _, rfl, hI, hX, ⟨_, rfl, (by decide : (0:Int) ≤ (0:Int32).toInt), (Int.le_trans (by decide : (0:Int32).toInt ≤ (0:Int)) (by decide : (0:Int) ≤ 1)), (show ∀ (b : Nat → Int32) (n q : Nat), t_TM b n q gi → ((0 : Int) = 1 ↔ s_isS b n q ar1.toInt) from (fun b n q h => ⟨fun hh => absurd hh (by decide), fun hh => absurd ((h.isS).mpr hh) (by rintro ⟨ha, hb⟩; omega)⟩))⟩⟩
noncomputable def wl_n_areBlasts : List (Nat × Nat) := []
noncomputable def Q_n_areBlasts (gi : Nat → Nat → Int32) (gl : Nat → Nat → Int64) (gr : Nat → Nat → Value) : Int32 → (Nat → Nat → Int32) → (Nat → Nat → Int64) → (Nat → Nat → Value) → Prop := fun (v : Int32) (gi2 : Nat → Nat → Int32) (gl2 : Nat → Nat → Int64) (gr2 : Nat → Nat → Value) => (∀ (b : Nat → Int32) (n q : Nat), t_TM b n q gi → (v.toInt = 1 ↔ s_isB b n q)) ∧ (v.toInt = 1 → (gi 69 14).toInt - (gi 69 13).toInt ≤ 6)
theorem c_n_areBlasts {X : x_Ext} {d : Nat} {sh : List (Nat ⊕ (Nat × Nat))} {gi : Nat → Nat → Int32} {gl : Nat → Nat → Int64} {gr : Nat → Nat → Value} (hI : t_I sh gi gr) : x_Me X (d + 2) n_X12_areBlasts [.ref 69] (sh, gi, gl, gr) (t_PI wl_n_areBlasts sh gi gl gr 0 1 (Q_n_areBlasts gi gl gr)) := by
  have hX : t_X wl_n_areBlasts sh gi gl gr gi gl gr := t_X.rf
  refine me_i f_X12_areBlasts (hI.wf.s rfl) rfl rfl rfl ?_
  obtain ⟨l1, u1⟩ := hI.b (hI.wf.s (k := 69) rfl) (t_bdK rfl : t_bd 11 13 = some (0, 900))
  obtain ⟨l2, u2⟩ := hI.b (hI.wf.s (k := 69) rfl) (t_bdK rfl : t_bd 11 14 = some (0, 900))
  refine ev_loc f_X12_areBlasts (nx := 1) rfl rfl rfl rfl ?_
  refine ev_getI f_X12_areBlasts (nx := 4) rfl (hI.wf.s rfl) rfl rfl rfl ?_
  obtain ⟨l3, u3⟩ := hI.b (hI.wf.s (k := 69) rfl) (t_bdK rfl : t_bd 11 12 = some (0, 4))
  refine ev_ic f_X12_areBlasts (nx := 5) (v := 2) rfl (by decide) rfl ?_
  refine ev_if f_X12_areBlasts (t1 := 8) (t2 := 22) rfl rfl rfl (fun h4 => ?_) (fun h4 => ?_)
  · have u5 : (gi 69 12).toInt ≤ 2 := t_equ h4 (by decide : (2:Int32).toInt ≤ (2:Int))
    have l6 : 2 ≤ (gi 69 12).toInt := t_eql h4 (by decide : (2:Int) ≤ (2:Int32).toInt)
    refine ev_loc f_X12_areBlasts (nx := 9) rfl rfl rfl rfl ?_
    refine ev_gvI f_X12_areBlasts (nx := 12) (w := (gi 69 14)) rfl (hI.wf.s rfl) rfl rfl rfl rfl ?_
    refine ev_loc f_X12_areBlasts (nx := 13) rfl rfl rfl rfl ?_
    refine ev_gvI f_X12_areBlasts (nx := 16) (w := (gi 69 13)) rfl (hI.wf.s rfl) rfl rfl rfl rfl ?_
    refine ev_subR f_X12_areBlasts (nx := 17) (l := (-900)) (u := 900) rfl l2 u2 l1 u1 rfl rfl (by decide) (by decide) rfl (fun z7 e7 l7 u7 => ?_)
    refine ev_bp f_X12_areBlasts (nx := 19) (v := 6) rfl (by decide) rfl ?_
    refine ev_if f_X12_areBlasts (t1 := 24) (t2 := 22) rfl rfl rfl (fun h8 => ?_) (fun h8 => ?_)
    · have u9 : z7.toInt ≤ 6 := t_leu h8 (by decide : (6:Int32).toInt ≤ (6:Int))
      refine ev_loc f_X12_areBlasts (nx := 25) rfl rfl rfl rfl ?_
      refine ev_gvI f_X12_areBlasts (nx := 28) (w := (gi 69 13)) rfl (hI.wf.s rfl) rfl rfl rfl rfl ?_
      refine ev_loc f_X12_areBlasts (nx := 29) (lo' := [(1, .int (gi 69 13)), (0, .ref 69)]) rfl rfl rfl rfl ?_
      have L10 : ∀ (m10 : Nat) (y10_1 : Int32), 0 ≤ y10_1.toInt → y10_1.toInt ≤ 900 → (∀ (b : Nat → Int32) (n q : Nat), t_TM b n q gi → t_BL b n q y10_1) → (900 - y10_1.toInt).toNat = m10 → x_Ev X (d + 2) n_X12_areBlasts 29 [(1, .int y10_1), (0, .ref 69)] [] (sh, gi, gl, gr) (t_PI wl_n_areBlasts sh gi gl gr 0 1 (Q_n_areBlasts gi gl gr)) := by
        intro m10
        induction m10 using Nat.strongRecOn with
        | _ m10 ih10 =>
        intro y10_1 l10_1 u10_1 j10_0 hm10
        refine ev_loc f_X12_areBlasts (nx := 30) rfl rfl rfl rfl ?_
        refine ev_loc f_X12_areBlasts (nx := 31) rfl rfl rfl rfl ?_
        refine ev_gvI f_X12_areBlasts (nx := 34) (w := (gi 69 14)) rfl (hI.wf.s rfl) rfl rfl rfl rfl ?_
        refine ev_if f_X12_areBlasts (t1 := 65) (t2 := 37) rfl rfl rfl (fun h11 => ?_) (fun h11 => ?_)
        · have r12 : (gi 69 14).toInt ≤ y10_1.toInt := Int32.le_iff_toInt_le.mp h11
          refine ev_ic f_X12_areBlasts (nx := 66) (v := 1) rfl (by decide) rfl ?_
          exact ev_ret f_X12_areBlasts rfl rfl rfl ⟨_, _, _, rfl, hI, hX, ⟨_, rfl, (Int.le_trans (by decide : (0:Int) ≤ 1) (by decide : (1:Int) ≤ (1:Int32).toInt)), (by decide : (1:Int32).toInt ≤ (1:Int)), (show (∀ (b : Nat → Int32) (n q : Nat), t_TM b n q gi → ((1 : Int) = 1 ↔ s_isB b n q)) ∧ ((1 : Int) = 1 → (gi 69 14).toInt - (gi 69 13).toInt ≤ 6) from ⟨(fun b n q h => ⟨fun _ => h.isB2 (j10_0 b n q h) (by omega), fun _ => rfl⟩), fun hh => by omega⟩)⟩⟩
        · have r13 : y10_1.toInt < (gi 69 14).toInt := Int32.lt_iff_toInt_lt.mp (t_nle h11)
          have u14 : y10_1.toInt ≤ 899 := t_ltu (t_nle h11) u2 rfl
          have l15 : 1 ≤ (gi 69 14).toInt := t_ltl (t_nle h11) l10_1 rfl
          refine ev_loc f_X12_areBlasts (nx := 38) rfl rfl rfl rfl ?_
          refine ev_loc f_X12_areBlasts (nx := 39) rfl rfl rfl rfl ?_
          refine ev_qI0 f_X12_areBlasts (nx := 42) (r := []) rfl rfl rfl rfl rfl rfl rfl (c_n_byteAt hI (y10_1) l10_1) rfl (fun w16 l16 u16 q16 => ?_)
          have q16 : (∀ (b : Nat → Int32) (n : Nat), t_Tx b n gi → w16.toInt = s_at b n y10_1.toNatClampNeg) ∧ (w16.toInt ≠ -1 → y10_1.toInt < (gi 69 11).toInt) ∧ (w16.toInt = -1 → (gi 69 11).toInt ≤ y10_1.toInt) := q16
          refine ev_bp f_X12_areBlasts (nx := 44) (v := 108) rfl (by decide) rfl ?_
          refine ev_if f_X12_areBlasts (t1 := 59) (t2 := 47) rfl rfl rfl (fun h17 => ?_) (fun h17 => ?_)
          · have u18 : w16.toInt ≤ 108 := t_equ h17 (by decide : (108:Int32).toInt ≤ (108:Int))
            have l19 : 108 ≤ w16.toInt := t_eql h17 (by decide : (108:Int) ≤ (108:Int32).toInt)
            refine ev_incR f_X12_areBlasts (nx := 62) (c := 1) (l := 1) (u := 900) rfl rfl (by decide) (by decide) l10_1 u14 rfl rfl (by decide) (by decide) rfl (fun z20 e20 l20 u20 => ?_)
            refine ev_jmp f_X12_areBlasts (nx := 29) rfl rfl rfl ?_
            refine ev_sub (lo := [(1, .int z20), (0, .ref 69)]) rfl (t_sc rfl (t_sc rfl t_sn)) ?_
            exact ih10 _ (by omega) (z20) (Int.le_trans (by decide : (0:Int) ≤ 1) l20) u20 (fun b n q h => h.isB1 (j10_0 b n q h) (q16.1 b n h.1.1) (by omega) (by omega)) rfl
          · have r21 : w16.toInt ≠ 108 := fun e => h17 (Int32.toInt_inj.mp (e.trans (by decide : (108:Int) = (108 : Int32).toInt)))
            refine ev_loc f_X12_areBlasts (nx := 48) rfl rfl rfl rfl ?_
            refine ev_loc f_X12_areBlasts (nx := 49) rfl rfl rfl rfl ?_
            refine ev_qI0 f_X12_areBlasts (nx := 52) (r := []) rfl rfl rfl rfl rfl rfl rfl (c_n_byteAt hI (y10_1) l10_1) rfl (fun w22 l22 u22 q22 => ?_)
            have q22 : (∀ (b : Nat → Int32) (n : Nat), t_Tx b n gi → w22.toInt = s_at b n y10_1.toNatClampNeg) ∧ (w22.toInt ≠ -1 → y10_1.toInt < (gi 69 11).toInt) ∧ (w22.toInt = -1 → (gi 69 11).toInt ≤ y10_1.toInt) := q22
            refine ev_bp f_X12_areBlasts (nx := 54) (v := 115) rfl (by decide) rfl ?_
            refine ev_if f_X12_areBlasts (t1 := 59) (t2 := 57) rfl rfl rfl (fun h23 => ?_) (fun h23 => ?_)
            · have u24 : w22.toInt ≤ 115 := t_equ h23 (by decide : (115:Int32).toInt ≤ (115:Int))
              have l25 : 115 ≤ w22.toInt := t_eql h23 (by decide : (115:Int) ≤ (115:Int32).toInt)
              refine ev_incR f_X12_areBlasts (nx := 62) (c := 1) (l := 1) (u := 900) rfl rfl (by decide) (by decide) l10_1 u14 rfl rfl (by decide) (by decide) rfl (fun z26 e26 l26 u26 => ?_)
              refine ev_jmp f_X12_areBlasts (nx := 29) rfl rfl rfl ?_
              refine ev_sub (lo := [(1, .int z26), (0, .ref 69)]) rfl (t_sc rfl (t_sc rfl t_sn)) ?_
              exact ih10 _ (by omega) (z26) (Int.le_trans (by decide : (0:Int) ≤ 1) l26) u26 (fun b n q h => h.isB1 (j10_0 b n q h) (q22.1 b n h.1.1) (by omega) (by omega)) rfl
            · have r27 : w22.toInt ≠ 115 := fun e => h23 (Int32.toInt_inj.mp (e.trans (by decide : (115:Int) = (115 : Int32).toInt)))
              refine ev_ic f_X12_areBlasts (nx := 58) (v := 0) rfl (by decide) rfl ?_
              exact ev_ret f_X12_areBlasts rfl rfl rfl ⟨_, _, _, rfl, hI, hX, ⟨_, rfl, (by decide : (0:Int) ≤ (0:Int32).toInt), (Int.le_trans (by decide : (0:Int32).toInt ≤ (0:Int)) (by decide : (0:Int) ≤ 1)), (show (∀ (b : Nat → Int32) (n q : Nat), t_TM b n q gi → ((0 : Int) = 1 ↔ s_isB b n q)) ∧ ((0 : Int) = 1 → (gi 69 14).toInt - (gi 69 13).toInt ≤ 6) from ⟨(fun b n q h => ⟨fun hh => absurd hh (by decide), fun hh => h.isB4 (j10_0 b n q h) hh (by omega) (q16.1 b n h.1.1) (q22.1 b n h.1.1) (by omega) (by omega)⟩), fun hh => absurd hh (by decide)⟩)⟩⟩
      refine ev_sub (lo := [(1, .int (gi 69 13)), (0, .ref 69)]) rfl (t_sc rfl (t_sc rfl t_sn)) ?_
      exact L10 _ ((gi 69 13)) l1 u1 (fun b n q h => h.isB0 (by omega) (by omega)) rfl
    · have l28 : 7 ≤ z7.toInt := t_ltl (t_nle h8) (by decide : (6:Int) ≤ (6:Int32).toInt) rfl
      have u29 : (gi 69 13).toInt ≤ 893 := by have := u2; omega
      refine ev_ic f_X12_areBlasts (nx := 23) (v := 0) rfl (by decide) rfl ?_
      exact ev_ret f_X12_areBlasts rfl rfl rfl ⟨_, _, _, rfl, hI, hX, ⟨_, rfl, (by decide : (0:Int) ≤ (0:Int32).toInt), (Int.le_trans (by decide : (0:Int32).toInt ≤ (0:Int)) (by decide : (0:Int) ≤ 1)), (show (∀ (b : Nat → Int32) (n q : Nat), t_TM b n q gi → ((0 : Int) = 1 ↔ s_isB b n q)) ∧ ((0 : Int) = 1 → (gi 69 14).toInt - (gi 69 13).toInt ≤ 6) from ⟨(fun b n q h => ⟨fun hh => absurd hh (by decide), fun hh => h.isB3 hh (by omega)⟩), fun hh => absurd hh (by decide)⟩)⟩⟩
  · have r30 : (gi 69 12).toInt ≠ 2 := fun e => h4 (Int32.toInt_inj.mp (e.trans (by decide : (2:Int) = (2 : Int32).toInt)))
    refine ev_ic f_X12_areBlasts (nx := 23) (v := 0) rfl (by decide) rfl ?_
    exact ev_ret f_X12_areBlasts rfl rfl rfl ⟨_, _, _, rfl, hI, hX, ⟨_, rfl, (by decide : (0:Int) ≤ (0:Int32).toInt), (Int.le_trans (by decide : (0:Int32).toInt ≤ (0:Int)) (by decide : (0:Int) ≤ 1)), (show (∀ (b : Nat → Int32) (n q : Nat), t_TM b n q gi → ((0 : Int) = 1 ↔ s_isB b n q)) ∧ ((0 : Int) = 1 → (gi 69 14).toInt - (gi 69 13).toInt ≤ 6) from ⟨(fun b n q h => ⟨fun hh => absurd hh (by decide), fun hh => h.isB3 hh (by omega)⟩), fun hh => absurd hh (by decide)⟩)⟩⟩
noncomputable def wl_n_wantSign : List (Nat × Nat) := [(69, 12), (69, 13), (69, 14), (69, 15), (69, 17), (69, 18)]
noncomputable def Q_n_wantSign (gi : Nat → Nat → Int32) (gl : Nat → Nat → Int64) (gr : Nat → Nat → Value) (ar1 : Int32) : Int32 → (Nat → Nat → Int32) → (Nat → Nat → Int64) → (Nat → Nat → Value) → Prop := fun (v : Int32) (gi2 : Nat → Nat → Int32) (gl2 : Nat → Nat → Int64) (gr2 : Nat → Nat → Value) => ∀ (b : Nat → Int32) (n q : Nat), t_TM b n q gi → (v.toInt = 1 ∧ s_isS b n q ar1.toInt ∧ t_TM b n (s_E b n q) gi2 ∧ t_mf gi gi2) ∨ (v.toInt = 0 ∧ ¬ s_isS b n q ar1.toInt ∧ ((gi 69 18).toInt = 0 → t_MF gi2 (s_fk b n q 2) (s_F b n q)))
theorem c_n_wantSign {X : x_Ext} {d : Nat} {sh : List (Nat ⊕ (Nat × Nat))} {gi : Nat → Nat → Int32} {gl : Nat → Nat → Int64} {gr : Nat → Nat → Value} (hI : t_I sh gi gr) (ar1 : Int32) : x_Me X (d + 3) n_X12_wantSign [.ref 69, .int ar1] (sh, gi, gl, gr) (t_PI wl_n_wantSign sh gi gl gr 0 1 (Q_n_wantSign gi gl gr ar1)) := by
  have hX : t_X wl_n_wantSign sh gi gl gr gi gl gr := t_X.rf
  refine me_i f_X12_wantSign (hI.wf.s rfl) rfl rfl rfl ?_
  refine ev_loc f_X12_wantSign (nx := 1) rfl rfl rfl rfl ?_
  refine ev_loc f_X12_wantSign (nx := 2) rfl rfl rfl rfl ?_
  refine ev_qI0 f_X12_wantSign (nx := 5) (r := []) rfl rfl rfl rfl rfl rfl rfl (c_n_isSign hI (ar1)) rfl (fun w2 l2 u2 q2 => ?_)
  have q2 : ∀ (b : Nat → Int32) (n q : Nat), t_TM b n q gi → (w2.toInt = 1 ↔ s_isS b n q ar1.toInt) := q2
  refine ev_if f_X12_wantSign (t1 := 8) (t2 := 14) rfl rfl rfl (fun h3 => ?_) (fun h3 => ?_)
  · have u4 : w2.toInt ≤ 0 := t_equ h3 (by decide : (0:Int32).toInt ≤ (0:Int))
    refine ev_loc f_X12_wantSign (nx := 9) rfl rfl rfl rfl ?_
    refine ev_ic f_X12_wantSign (nx := 10) (v := 2) rfl (by decide) rfl ?_
    refine ev_qI f_X12_wantSign (nx := 13) (r := []) rfl rfl rfl rfl rfl rfl rfl (c_n_fails hI (2) (by decide : (2:Int) ≤ (2:Int32).toInt) (Int.le_trans (by decide : (2:Int32).toInt ≤ (2:Int)) (by decide : (2:Int) ≤ 7))) rfl hX rfl (fun w5 gi5 gl5 gr5 l5 u5 hI hX hC5 q5 => ?_)
    have q5 : (∀ (b : Nat → Int32) (n q : Nat), t_TM b n q gi → (gi 69 18).toInt = 0 → t_MF gi5 (s_fk b n q 2) (s_F b n q)) ∧ w5.toInt = 0 := q5
    exact ev_retZ f_X12_wantSign rfl l5 (Int.le_trans u5 (by decide : (0:Int) ≤ 1)) ⟨_, _, _, rfl, hI, hX, ⟨_, rfl, l5, (Int.le_trans u5 (by decide : (0:Int) ≤ 1)), (show ∀ (b : Nat → Int32) (n q : Nat), t_TM b n q gi → (w5.toInt = 1 ∧ s_isS b n q ar1.toInt ∧ t_TM b n (s_E b n q) gi5 ∧ t_mf gi gi5) ∨ (w5.toInt = 0 ∧ ¬ s_isS b n q ar1.toInt ∧ ((gi 69 18).toInt = 0 → t_MF gi5 (s_fk b n q 2) (s_F b n q))) from (fun b n q h => Or.inr ⟨q5.2, (fun hh => absurd ((q2 b n q h).mpr hh) (by omega)), fun h0 => q5.1 b n q h h0⟩))⟩⟩
  · have r7 : w2.toInt ≠ 0 := fun e => h3 (Int32.toInt_inj.mp (e.trans (by decide : (0:Int) = (0 : Int32).toInt)))
    have l8 : 1 ≤ w2.toInt := t_nel h3 l2 rfl rfl
    refine ev_loc f_X12_wantSign (nx := 15) rfl rfl rfl rfl ?_
    refine ev_qN f_X12_wantSign (nx := 18) (r := []) rfl rfl rfl rfl rfl rfl rfl (c_n_ahead hI ) rfl hX rfl (fun gi9 gl9 gr9 hI hX hC9 q9 => ?_)
    have q9 : ∀ (b : Nat → Int32) (n q : Nat), t_Sm b n q gi → t_TM b n q gi9 := q9
    refine ev_ic f_X12_wantSign (nx := 19) (v := 1) rfl (by decide) rfl ?_
    exact ev_ret f_X12_wantSign rfl rfl rfl ⟨_, _, _, rfl, hI, hX, ⟨_, rfl, (Int.le_trans (by decide : (0:Int) ≤ 1) (by decide : (1:Int) ≤ (1:Int32).toInt)), (by decide : (1:Int32).toInt ≤ (1:Int)), (show ∀ (b : Nat → Int32) (n q : Nat), t_TM b n q gi → ((1 : Int) = 1 ∧ s_isS b n q ar1.toInt ∧ t_TM b n (s_E b n q) gi9 ∧ t_mf gi gi9) ∨ ((1 : Int) = 0 ∧ ¬ s_isS b n q ar1.toInt ∧ ((gi 69 18).toInt = 0 → t_MF gi9 (s_fk b n q 2) (s_F b n q))) from (fun b n q h => Or.inl ⟨rfl, (q2 b n q h).mp (by omega), q9 b n _ h.S, ⟨(hC9.1 69 18 rfl).1, (hC9.1 69 17 rfl).1⟩⟩))⟩⟩
noncomputable def wl_n_wantWord : List (Nat × Nat) := [(69, 12), (69, 13), (69, 14), (69, 15), (69, 17), (69, 18)]
noncomputable def Q_n_wantWord (gi : Nat → Nat → Int32) (gl : Nat → Nat → Int64) (gr : Nat → Nat → Value) (ar2 : Int32) : Int32 → (Nat → Nat → Int32) → (Nat → Nat → Int64) → (Nat → Nat → Value) → Prop := fun (v : Int32) (gi2 : Nat → Nat → Int32) (gl2 : Nat → Nat → Int64) (gr2 : Nat → Nat → Value) => ∀ (b : Nat → Int32) (n q : Nat), t_TM b n q gi → (v.toInt = 1 ∧ s_mi (s_W b n q) = ar2.toInt ∧ t_TM b n (s_E b n q) gi2 ∧ t_mf gi gi2) ∨ (v.toInt = 0 ∧ ¬ s_mi (s_W b n q) = ar2.toInt ∧ ((gi 69 18).toInt = 0 → t_MF gi2 (s_fk b n q 2) (s_F b n q)))
theorem c_n_wantWord {X : x_Ext} {d : Nat} {sh : List (Nat ⊕ (Nat × Nat))} {gi : Nat → Nat → Int32} {gl : Nat → Nat → Int64} {gr : Nat → Nat → Value} (hI : t_I sh gi gr) (ar2 : Int32) : x_Me X (d + 6) n_X12_wantWord [.ref 69, .retAddr 28, .int ar2] (sh, gi, gl, gr) (t_PI wl_n_wantWord sh gi gl gr 0 1 (Q_n_wantWord gi gl gr ar2)) := by
  have hX : t_X wl_n_wantWord sh gi gl gr gi gl gr := t_X.rf
  refine me_i f_X12_wantWord (hI.wf.s rfl) rfl rfl rfl ?_
  refine ev_loc f_X12_wantWord (nx := 1) rfl rfl rfl rfl ?_
  refine ev_loc f_X12_wantWord (nx := 2) rfl rfl rfl rfl ?_
  refine ev_qI0 f_X12_wantWord (nx := 5) (r := []) rfl rfl rfl rfl rfl rfl rfl (c_n_inWords hI ) rfl (fun w2 l2 u2 q2 => ?_)
  have q2 : (∀ (b : Nat → Int32) (n q : Nat), t_TM b n q gi → w2.toInt = s_mi (s_W b n q)) ∧ (0 ≤ w2.toInt → (gi 69 12).toInt = 2) := q2
  refine ev_loc f_X12_wantWord (nx := 6) rfl rfl rfl rfl ?_
  refine ev_if f_X12_wantWord (t1 := 15) (t2 := 9) rfl rfl rfl (fun h3 => ?_) (fun h3 => ?_)
  · have r4 : w2.toInt = ar2.toInt := t_eqi h3
    have u5 : ar2.toInt ≤ 137 := t_equ (Eq.symm h3) u2
    have l6 : (-1) ≤ ar2.toInt := t_eql (Eq.symm h3) l2
    refine ev_loc f_X12_wantWord (nx := 16) rfl rfl rfl rfl ?_
    refine ev_qN f_X12_wantWord (nx := 19) (r := []) rfl rfl rfl rfl rfl rfl rfl (c_n_ahead hI ) rfl hX rfl (fun gi7 gl7 gr7 hI hX hC7 q7 => ?_)
    have q7 : ∀ (b : Nat → Int32) (n q : Nat), t_Sm b n q gi → t_TM b n q gi7 := q7
    refine ev_ic f_X12_wantWord (nx := 20) (v := 1) rfl (by decide) rfl ?_
    exact ev_ret f_X12_wantWord rfl rfl rfl ⟨_, _, _, rfl, hI, hX, ⟨_, rfl, (Int.le_trans (by decide : (0:Int) ≤ 1) (by decide : (1:Int) ≤ (1:Int32).toInt)), (by decide : (1:Int32).toInt ≤ (1:Int)), (show ∀ (b : Nat → Int32) (n q : Nat), t_TM b n q gi → ((1 : Int) = 1 ∧ s_mi (s_W b n q) = ar2.toInt ∧ t_TM b n (s_E b n q) gi7 ∧ t_mf gi gi7) ∨ ((1 : Int) = 0 ∧ ¬ s_mi (s_W b n q) = ar2.toInt ∧ ((gi 69 18).toInt = 0 → t_MF gi7 (s_fk b n q 2) (s_F b n q))) from (fun b n q h => Or.inl ⟨rfl, by rw [← q2.1 b n q h]; omega, q7 b n _ h.S, ⟨(hC7.1 69 18 rfl).1, (hC7.1 69 17 rfl).1⟩⟩))⟩⟩
  · have r8 : w2.toInt ≠ ar2.toInt := t_nei h3
    refine ev_loc f_X12_wantWord (nx := 10) rfl rfl rfl rfl ?_
    refine ev_ic f_X12_wantWord (nx := 11) (v := 2) rfl (by decide) rfl ?_
    refine ev_qI f_X12_wantWord (nx := 14) (r := []) rfl rfl rfl rfl rfl rfl rfl (c_n_fails hI (2) (by decide : (2:Int) ≤ (2:Int32).toInt) (Int.le_trans (by decide : (2:Int32).toInt ≤ (2:Int)) (by decide : (2:Int) ≤ 7))) rfl hX rfl (fun w9 gi9 gl9 gr9 l9 u9 hI hX hC9 q9 => ?_)
    have q9 : (∀ (b : Nat → Int32) (n q : Nat), t_TM b n q gi → (gi 69 18).toInt = 0 → t_MF gi9 (s_fk b n q 2) (s_F b n q)) ∧ w9.toInt = 0 := q9
    exact ev_retZ f_X12_wantWord rfl l9 (Int.le_trans u9 (by decide : (0:Int) ≤ 1)) ⟨_, _, _, rfl, hI, hX, ⟨_, rfl, l9, (Int.le_trans u9 (by decide : (0:Int) ≤ 1)), (show ∀ (b : Nat → Int32) (n q : Nat), t_TM b n q gi → (w9.toInt = 1 ∧ s_mi (s_W b n q) = ar2.toInt ∧ t_TM b n (s_E b n q) gi9 ∧ t_mf gi gi9) ∨ (w9.toInt = 0 ∧ ¬ s_mi (s_W b n q) = ar2.toInt ∧ ((gi 69 18).toInt = 0 → t_MF gi9 (s_fk b n q 2) (s_F b n q))) from (fun b n q h => Or.inr ⟨q9.2, by rw [← q2.1 b n q h]; omega, fun h0 => q9.1 b n q h h0⟩))⟩⟩
noncomputable def wl_n_nameHere : List (Nat × Nat) := []
noncomputable def Q_n_nameHere (gi : Nat → Nat → Int32) (gl : Nat → Nat → Int64) (gr : Nat → Nat → Value) : Int64 → (Nat → Nat → Int32) → (Nat → Nat → Int64) → (Nat → Nat → Value) → Prop := fun (v : Int64) (gi2 : Nat → Nat → Int32) (gl2 : Nat → Nat → Int64) (gr2 : Nat → Nat → Value) => ∀ (b : Nat → Int32) (n q : Nat), t_TM b n q gi → s_K b n q = 2 → v = s_m8 b (s_F b n q) (s_E b n q - s_F b n q)
theorem c_n_nameHere {X : x_Ext} {d : Nat} {sh : List (Nat ⊕ (Nat × Nat))} {gi : Nat → Nat → Int32} {gl : Nat → Nat → Int64} {gr : Nat → Nat → Value} (hI : t_I sh gi gr) : x_Me X (d + 2) n_X12_nameHere [.ref 69] (sh, gi, gl, gr) (t_PL wl_n_nameHere sh gi gl gr (Q_n_nameHere gi gl gr)) := by
  have hX : t_X wl_n_nameHere sh gi gl gr gi gl gr := t_X.rf
  refine me_i f_X12_nameHere (hI.wf.s rfl) rfl rfl rfl ?_
  refine ev_lc f_X12_nameHere (nx := 1) (v := 0) rfl (by decide) rfl ?_
  refine ev_loc f_X12_nameHere (nx := 2) (lo' := [(1, .long 0), (0, .ref 69)]) rfl rfl rfl rfl ?_
  refine ev_loc f_X12_nameHere (nx := 3) rfl rfl rfl rfl ?_
  refine ev_getI f_X12_nameHere (nx := 6) rfl (hI.wf.s rfl) rfl rfl rfl ?_
  obtain ⟨l1, u1⟩ := hI.b (hI.wf.s (k := 69) rfl) (t_bdK rfl : t_bd 11 13 = some (0, 900))
  refine ev_loc f_X12_nameHere (nx := 7) (lo' := [(3, .int (gi 69 13)), (1, .long 0), (0, .ref 69)]) rfl rfl rfl rfl ?_
  have L2 : ∀ (m2 : Nat) (y2_3 : Int32) (y2_1 : Int64), 0 ≤ y2_3.toInt → y2_3.toInt ≤ 900 → (∀ (b : Nat → Int32) (n q : Nat), t_TM b n q gi → s_K b n q = 2 → t_NH b n q y2_1 y2_3) → (900 - y2_3.toInt).toNat = m2 → x_Ev X (d + 2) n_X12_nameHere 7 [(3, .int y2_3), (1, .long y2_1), (0, .ref 69)] [] (sh, gi, gl, gr) (t_PL wl_n_nameHere sh gi gl gr (Q_n_nameHere gi gl gr)) := by
    intro m2
    induction m2 using Nat.strongRecOn with
    | _ m2 ih2 =>
    intro y2_3 y2_1 l2_3 u2_3 j2_0 hm2
    refine ev_loc f_X12_nameHere (nx := 8) rfl rfl rfl rfl ?_
    refine ev_loc f_X12_nameHere (nx := 9) rfl rfl rfl rfl ?_
    refine ev_getI f_X12_nameHere (nx := 12) rfl (hI.wf.s rfl) rfl rfl rfl ?_
    obtain ⟨l3, u3⟩ := hI.b (hI.wf.s (k := 69) rfl) (t_bdK rfl : t_bd 11 14 = some (0, 900))
    refine ev_if f_X12_nameHere (t1 := 33) (t2 := 15) rfl rfl rfl (fun h4 => ?_) (fun h4 => ?_)
    · have r5 : (gi 69 14).toInt ≤ y2_3.toInt := Int32.le_iff_toInt_le.mp h4
      refine ev_loc f_X12_nameHere (nx := 34) rfl rfl rfl rfl ?_
      exact ev_ret f_X12_nameHere rfl rfl rfl ⟨_, _, _, rfl, hI, hX, ⟨_, rfl, (show ∀ (b : Nat → Int32) (n q : Nat), t_TM b n q gi → s_K b n q = 2 → y2_1 = s_m8 b (s_F b n q) (s_E b n q - s_F b n q) from (fun b n q h hK => t_NH_e h (j2_0 b n q h hK) (by omega)))⟩⟩
    · have r6 : y2_3.toInt < (gi 69 14).toInt := Int32.lt_iff_toInt_lt.mp (t_nle h4)
      have u7 : y2_3.toInt ≤ 899 := t_ltu (t_nle h4) u3 rfl
      have l8 : 1 ≤ (gi 69 14).toInt := t_ltl (t_nle h4) l2_3 rfl
      refine ev_loc f_X12_nameHere (nx := 16) rfl rfl rfl rfl ?_
      refine ev_bp f_X12_nameHere (nx := 18) (v := 8) rfl (by decide) rfl ?_
      refine ev_anyLE f_X12_nameHere (nx := 19) rfl rfl rfl rfl (fun z9 e9 => ?_)
      refine ev_loc f_X12_nameHere (nx := 20) rfl rfl rfl rfl ?_
      refine ev_loc f_X12_nameHere (nx := 21) rfl rfl rfl rfl ?_
      refine ev_qI0 f_X12_nameHere (nx := 24) (r := [.long z9]) rfl rfl rfl rfl rfl rfl rfl (c_n_byteAt hI (y2_3) l2_3) rfl (fun w10 l10 u10 q10 => ?_)
      have q10 : (∀ (b : Nat → Int32) (n : Nat), t_Tx b n gi → w10.toInt = s_at b n y2_3.toNatClampNeg) ∧ (w10.toInt ≠ -1 → y2_3.toInt < (gi 69 11).toInt) ∧ (w10.toInt = -1 → (gi 69 11).toInt ≤ y2_3.toInt) := q10
      refine ev_anyLE f_X12_nameHere (nx := 25) rfl rfl rfl rfl (fun z11 e11 => ?_)
      have i11 : z11.toInt = w10.toInt := by rw [e11]; exact Int32.toInt_toInt64 _
      refine ev_anyLE f_X12_nameHere (nx := 26) rfl rfl rfl rfl (fun z12 e12 => ?_)
      refine ev_loc f_X12_nameHere (nx := 27) (lo' := [(1, .long z12), (3, .int y2_3), (0, .ref 69)]) rfl rfl rfl rfl ?_
      refine ev_incR f_X12_nameHere (nx := 30) (c := 1) (l := 1) (u := 900) rfl rfl (by decide) (by decide) l2_3 u7 rfl rfl (by decide) (by decide) rfl (fun z13 e13 l13 u13 => ?_)
      refine ev_jmp f_X12_nameHere (nx := 7) rfl rfl rfl ?_
      refine ev_sub (lo := [(3, .int z13), (1, .long z12), (0, .ref 69)]) rfl (t_sc rfl (t_sc rfl (t_sc rfl t_sn))) ?_
      exact ih2 _ (by omega) (z13) (z12) (Int.le_trans (by decide : (0:Int) ≤ 1) l13) u13 (fun b n q h hK => t_NH_s h hK (j2_0 b n q h hK) (by omega) (q10.1 b n h.1.1) e9 e11 e12 (by omega)) rfl
  refine ev_sub (lo := [(3, .int (gi 69 13)), (1, .long 0), (0, .ref 69)]) rfl (t_sc rfl (t_sc rfl (t_sc rfl t_sn))) ?_
  exact L2 _ ((gi 69 13)) (0) l1 u1 (fun b n q h hK => t_NH_0 h) rfl
noncomputable def wl_n_findHere : List (Nat × Nat) := []
noncomputable def Q_n_findHere (gi : Nat → Nat → Int32) (gl : Nat → Nat → Int64) (gr : Nat → Nat → Value) (ar1 : Int32) (ar2 : Int32) : Int32 → (Nat → Nat → Int32) → (Nat → Nat → Int64) → (Nat → Nat → Value) → Prop := fun (v : Int32) (gi2 : Nat → Nat → Int32) (gl2 : Nat → Nat → Int64) (gr2 : Nat → Nat → Value) => (∀ (b : Nat → Int32) (n q : Nat) (f : Nat → Int) (x : Int), t_TM b n q gi → s_isN b n q → (∀ i : Nat, i < ar2.toNatClampNeg → (gl 71 (ar1.toNatClampNeg + i) = s_m8 b (s_F b n q) (s_E b n q - s_F b n q) ↔ f i = x)) → v.toInt = s_fst f x ar2.toNatClampNeg 0) ∧ (v.toInt = -1 ∨ v.toInt < ar2.toInt)
theorem c_n_findHere {X : x_Ext} {d : Nat} {sh : List (Nat ⊕ (Nat × Nat))} {gi : Nat → Nat → Int32} {gl : Nat → Nat → Int64} {gr : Nat → Nat → Value} (hI : t_I sh gi gr) (ar1 : Int32) (l_a1 : 72 ≤ ar1.toInt) (u_a1 : ar1.toInt ≤ 84) (ar2 : Int32) (l_a2 : 0 ≤ ar2.toInt) (u_a2 : ar2.toInt ≤ 6) : x_Me X (d + 3) n_X12_findHere [.ref 69, .int ar1, .int ar2] (sh, gi, gl, gr) (t_PI wl_n_findHere sh gi gl gr (-1) 5 (Q_n_findHere gi gl gr ar1 ar2)) := by
  have hX : t_X wl_n_findHere sh gi gl gr gi gl gr := t_X.rf
  refine me_i f_X12_findHere (hI.wf.s rfl) rfl rfl rfl ?_
  refine ev_ic f_X12_findHere (nx := 1) (v := 0) rfl (by decide) rfl ?_
  refine ev_loc f_X12_findHere (nx := 2) (lo' := [(3, .int 0), (0, .ref 69), (1, .int ar1), (2, .int ar2)]) rfl rfl rfl rfl ?_
  have L1 : ∀ (m1 : Nat) (y1_3 : Int32), 0 ≤ y1_3.toInt → y1_3.toInt ≤ 6 → (∀ (b : Nat → Int32) (n q : Nat) (f : Nat → Int) (x : Int), t_TM b n q gi → s_isN b n q → (∀ i : Nat, i < ar2.toNatClampNeg → (gl 71 (ar1.toNatClampNeg + i) = s_m8 b (s_F b n q) (s_E b n q - s_F b n q) ↔ f i = x)) → s_fst f x ar2.toNatClampNeg 0 = s_fst f x (ar2.toNatClampNeg - y1_3.toNatClampNeg) y1_3.toNatClampNeg) → (6 - y1_3.toInt).toNat = m1 → x_Ev X (d + 3) n_X12_findHere 2 [(3, .int y1_3), (0, .ref 69), (1, .int ar1), (2, .int ar2)] [] (sh, gi, gl, gr) (t_PI wl_n_findHere sh gi gl gr (-1) 5 (Q_n_findHere gi gl gr ar1 ar2)) := by
    intro m1
    induction m1 using Nat.strongRecOn with
    | _ m1 ih1 =>
    intro y1_3 l1_3 u1_3 j1_0 hm1
    refine ev_loc f_X12_findHere (nx := 3) rfl rfl rfl rfl ?_
    refine ev_loc f_X12_findHere (nx := 4) rfl rfl rfl rfl ?_
    refine ev_if f_X12_findHere (t1 := 31) (t2 := 7) rfl rfl rfl (fun h2 => ?_) (fun h2 => ?_)
    · have r3 : ar2.toInt ≤ y1_3.toInt := Int32.le_iff_toInt_le.mp h2
      refine ev_ic f_X12_findHere (nx := 32) (v := -1) rfl (by decide) rfl ?_
      exact ev_ret f_X12_findHere rfl rfl rfl ⟨_, _, _, rfl, hI, hX, ⟨_, rfl, (by decide : ((-1):Int) ≤ ((-1):Int32).toInt), (Int.le_trans (by decide : ((-1):Int32).toInt ≤ ((-1):Int)) (by decide : ((-1):Int) ≤ 5)), (show (∀ (b : Nat → Int32) (n q : Nat) (f : Nat → Int) (x : Int), t_TM b n q gi → s_isN b n q → (∀ i : Nat, i < ar2.toNatClampNeg → (gl 71 (ar1.toNatClampNeg + i) = s_m8 b (s_F b n q) (s_E b n q - s_F b n q) ↔ f i = x)) → ((-1) : Int) = s_fst f x ar2.toNatClampNeg 0) ∧ (((-1) : Int) = -1 ∨ ((-1) : Int) < ar2.toInt) from ⟨fun b n q f x h hN hf => (by
                                                            have h1 := t_clamp (i := y1_3) (by omega)
                                                            have h3 := t_clamp (i := ar2) (by omega)
                                                            rw [j1_0 b n q f x h hN hf, show ar2.toNatClampNeg - y1_3.toNatClampNeg = 0 from (by omega)]; rfl), by omega⟩)⟩⟩
    · have r4 : y1_3.toInt < ar2.toInt := Int32.lt_iff_toInt_lt.mp (t_nle h2)
      have u5 : y1_3.toInt ≤ 5 := t_ltu (t_nle h2) u_a2 rfl
      have l6 : 1 ≤ ar2.toInt := t_ltl (t_nle h2) l1_3 rfl
      refine ev_loc f_X12_findHere (nx := 8) rfl rfl rfl rfl ?_
      refine ev_getR f_X12_findHere (nx := 11) rfl (hI.wf.s rfl) rfl rfl (hI.wf.r rfl) rfl rfl ?_
      refine ev_loc f_X12_findHere (nx := 12) rfl rfl rfl rfl ?_
      refine ev_loc f_X12_findHere (nx := 13) rfl rfl rfl rfl ?_
      refine ev_addR f_X12_findHere (nx := 14) (l := 72) (u := 89) rfl l_a1 u_a1 l1_3 u5 rfl rfl (by decide) (by decide) rfl (fun z7 e7 l7 u7 => ?_)
      refine ev_laldT f_X12_findHere (nx := 15) rfl (hI.wf.s rfl) l7 (by decide) u7 (by decide) rfl (fun w8 e8 => ?_)
      refine ev_loc f_X12_findHere (nx := 16) rfl rfl rfl rfl ?_
      refine ev_qL0 f_X12_findHere (nx := 19) (r := [.long w8]) rfl rfl rfl rfl rfl rfl rfl (c_n_nameHere hI ) rfl (fun w9 q9 => ?_)
      have q9 : ∀ (b : Nat → Int32) (n q : Nat), t_TM b n q gi → s_K b n q = 2 → w9 = s_m8 b (s_F b n q) (s_E b n q - s_F b n q) := q9
      refine ev_anyIE f_X12_findHere (nx := 20) rfl rfl rfl rfl (fun z10 e10 => ?_)
      refine ev_if f_X12_findHere (t1 := 23) (t2 := 25) rfl rfl rfl (fun h11 => ?_) (fun h11 => ?_)
      · have u12 : z10.toInt ≤ 0 := t_equ h11 (by decide : (0:Int32).toInt ≤ (0:Int))
        have l13 : 0 ≤ z10.toInt := t_eql h11 (by decide : (0:Int) ≤ (0:Int32).toInt)
        refine ev_loc f_X12_findHere (nx := 24) rfl rfl rfl rfl ?_
        exact ev_ret f_X12_findHere rfl rfl rfl ⟨_, _, _, rfl, hI, hX, ⟨_, rfl, (Int.le_trans (by decide : ((-1):Int) ≤ 0) l1_3), u5, (show (∀ (b : Nat → Int32) (n q : Nat) (f : Nat → Int) (x : Int), t_TM b n q gi → s_isN b n q → (∀ i : Nat, i < ar2.toNatClampNeg → (gl 71 (ar1.toNatClampNeg + i) = s_m8 b (s_F b n q) (s_E b n q - s_F b n q) ↔ f i = x)) → y1_3.toInt = s_fst f x ar2.toNatClampNeg 0) ∧ (y1_3.toInt = -1 ∨ y1_3.toInt < ar2.toInt) from ⟨fun b n q f x h hN hf => (by
                                                            have h1 := t_clamp (i := y1_3) (by omega)
                                                            have h3 := t_clamp (i := ar2) (by omega)
                                                            have h4 := t_clamp (i := ar1) (by omega)
                                                            have h5 := t_clamp (i := z7) (by omega)
                                                            rw [j1_0 b n q f x h hN hf, show ar2.toNatClampNeg - y1_3.toNatClampNeg = (ar2.toNatClampNeg - (y1_3.toNatClampNeg + 1)) + 1 from (by omega), s_fst_y ((hf _ (by omega)).mp ?_)]
                                                            · omega
                                                            · rw [show ar1.toNatClampNeg + y1_3.toNatClampNeg = z7.toNatClampNeg from (by omega), ← e8, ← q9 b n q h hN.1]; exact (lg_cmp_eq _ _).mp (e10.symm.trans h11)), by omega⟩)⟩⟩
      · have r14 : z10.toInt ≠ 0 := fun e => h11 (Int32.toInt_inj.mp (e.trans (by decide : (0:Int) = (0 : Int32).toInt)))
        refine ev_incR f_X12_findHere (nx := 28) (c := 1) (l := 1) (u := 6) rfl rfl (by decide) (by decide) l1_3 u5 rfl rfl (by decide) (by decide) rfl (fun z15 e15 l15 u15 => ?_)
        refine ev_jmp f_X12_findHere (nx := 2) rfl rfl rfl ?_
        refine ev_sub (lo := [(3, .int z15), (0, .ref 69), (1, .int ar1), (2, .int ar2)]) rfl (t_sc rfl (t_sc rfl (t_sc rfl (t_sc rfl t_sn)))) ?_
        exact ih1 _ (by omega) (z15) (Int.le_trans (by decide : (0:Int) ≤ 1) l15) u15 (fun b n q f x h hN hf => (by
                                                            have h1 := t_clamp (i := y1_3) (by omega)
                                                            have h2 := t_clamp (i := z15) (by omega)
                                                            have h3 := t_clamp (i := ar2) (by omega)
                                                            have h4 := t_clamp (i := ar1) (by omega)
                                                            have h5 := t_clamp (i := z7) (by omega)
                                                            rw [j1_0 b n q f x h hN hf, show ar2.toNatClampNeg - y1_3.toNatClampNeg = (ar2.toNatClampNeg - z15.toNatClampNeg) + 1 from (by omega), show z15.toNatClampNeg = y1_3.toNatClampNeg + 1 from (by omega)]
                                                            refine s_fst_n (fun hx => h11 (e10.trans ((lg_cmp_eq _ _).mpr ?_)))
                                                            rw [e8, q9 b n q h hN.1, show z7.toNatClampNeg = ar1.toNatClampNeg + y1_3.toNatClampNeg from (by omega)]
                                                            exact (hf _ (by omega)).mpr hx)) rfl
  refine ev_sub (lo := [(3, .int 0), (0, .ref 69), (1, .int ar1), (2, .int ar2)]) rfl (t_sc rfl (t_sc rfl (t_sc rfl (t_sc rfl t_sn)))) ?_
  exact L1 _ (0) (by decide : (0:Int) ≤ (0:Int32).toInt) (Int.le_trans (by decide : (0:Int32).toInt ≤ (0:Int)) (by decide : (0:Int) ≤ 6)) (fun b n q f x h hN hf => rfl) rfl
/-! ===== printed by riv.py: the RIVER of the other side ===== -/
noncomputable def wl_n_aNewName : List (Nat × Nat) := [(69, 12), (69, 13), (69, 14), (69, 15), (69, 17), (69, 18), (71, 7210089)]
noncomputable def Q_n_aNewName (gi : Nat → Nat → Int32) (gl : Nat → Nat → Int64) (gr : Nat → Nat → Value) (ar1 : Int32) : Int32 → (Nat → Nat → Int32) → (Nat → Nat → Int64) → (Nat → Nat → Value) → Prop := fun (v : Int32) (gi2 : Nat → Nat → Int32) (gl2 : Nat → Nat → Int64) (gr2 : Nat → Nat → Value) => ∀ (b : Nat → Int32) (n q : Nat) (D : s_D), t_MS b n q D gi gl → (v.toInt = 1 ∧ s_isN b n (s_E b n q) ∧ ¬ s_used D (s_L b n (s_E b n q)).toInt ∧ t_TM b n (s_E b n (s_E b n q)) gi2 ∧ t_mf gi gi2 ∧ ∀ j : Nat, gl2 71 j = if j = 72 + ar1.toNatClampNeg then s_m8 b (s_F b n (s_E b n q)) (s_E b n (s_E b n q) - s_F b n (s_E b n q)) else gl 71 j) ∨ (v.toInt = 0 ∧ ¬ s_isN b n (s_E b n q) ∧ t_MF gi2 (s_fk b n (s_E b n q) 2) (s_F b n (s_E b n q))) ∨ (v.toInt = 0 ∧ s_isN b n (s_E b n q) ∧ s_used D (s_L b n (s_E b n q)).toInt ∧ t_MF gi2 (s_fk b n (s_E b n q) 3) (s_F b n (s_E b n q)))
theorem c_n_aNewName {X : x_Ext} {d : Nat} {sh : List (Nat ⊕ (Nat × Nat))} {gi : Nat → Nat → Int32} {gl : Nat → Nat → Int64} {gr : Nat → Nat → Value} (hI : t_I sh gi gr) (ar1 : Int32) (l_a1 : 0 ≤ ar1.toInt) (u_a1 : ar1.toInt ≤ 17) : x_Me X (d + 7) n_X12_aNewName [.ref 69, .int ar1] (sh, gi, gl, gr) (t_PI wl_n_aNewName sh gi gl gr 0 1 (Q_n_aNewName gi gl gr ar1)) := by
  have hX : t_X wl_n_aNewName sh gi gl gr gi gl gr := t_X.rf
  refine me_i f_X12_aNewName (hI.wf.s rfl) rfl rfl rfl ?_
  refine ev_loc f_X12_aNewName (nx := 1) rfl rfl rfl rfl ?_
  refine ev_qN f_X12_aNewName (nx := 4) (r := []) rfl rfl rfl rfl rfl rfl rfl (c_n_ahead hI ) rfl hX rfl (fun gi1 gl1 gr1 hI hX hC1 q1 => ?_)
  have q1 : ∀ (b : Nat → Int32) (n q : Nat), t_Sm b n q gi → t_TM b n q gi1 := q1
  refine ev_loc f_X12_aNewName (nx := 5) rfl rfl rfl rfl ?_
  refine ev_heap f_X12_aNewName (nx := 7) rfl rfl rfl rfl ?_
  refine ev_qI0 f_X12_aNewName (nx := 10) (r := []) rfl rfl rfl rfl rfl rfl rfl (c_n_isName hI ) rfl (fun w2 l2 u2 q2 => ?_)
  have q2 : ∀ (b : Nat → Int32) (n q : Nat), t_TM b n q gi1 → (w2.toInt = 1 ↔ s_isN b n q) := q2
  refine ev_if f_X12_aNewName (t1 := 13) (t2 := 19) rfl rfl rfl (fun h3 => ?_) (fun h3 => ?_)
  · have u4 : w2.toInt ≤ 0 := t_equ h3 (by decide : (0:Int32).toInt ≤ (0:Int))
    refine ev_loc f_X12_aNewName (nx := 14) rfl rfl rfl rfl ?_
    refine ev_ic f_X12_aNewName (nx := 15) (v := 2) rfl (by decide) rfl ?_
    refine ev_qI f_X12_aNewName (nx := 18) (r := []) rfl rfl rfl rfl rfl rfl rfl (c_n_fails hI (2) (by decide : (2:Int) ≤ (2:Int32).toInt) (Int.le_trans (by decide : (2:Int32).toInt ≤ (2:Int)) (by decide : (2:Int) ≤ 7))) rfl hX rfl (fun w5 gi5 gl5 gr5 l5 u5 hI hX hC5 q5 => ?_)
    have q5 : (∀ (b : Nat → Int32) (n q : Nat), t_TM b n q gi1 → (gi1 69 18).toInt = 0 → t_MF gi5 (s_fk b n q 2) (s_F b n q)) ∧ w5.toInt = 0 := q5
    exact ev_retZ f_X12_aNewName rfl l5 (Int.le_trans u5 (by decide : (0:Int) ≤ 1)) ⟨_, _, _, rfl, hI, hX, ⟨_, rfl, l5, (Int.le_trans u5 (by decide : (0:Int) ≤ 1)), (show ∀ (b : Nat → Int32) (n q : Nat) (D : s_D), t_MS b n q D gi gl → (w5.toInt = 1 ∧ s_isN b n (s_E b n q) ∧ ¬ s_used D (s_L b n (s_E b n q)).toInt ∧ t_TM b n (s_E b n (s_E b n q)) gi5 ∧ t_mf gi gi5 ∧ ∀ j : Nat, gl5 71 j = if j = 72 + ar1.toNatClampNeg then s_m8 b (s_F b n (s_E b n q)) (s_E b n (s_E b n q) - s_F b n (s_E b n q)) else gl 71 j) ∨ (w5.toInt = 0 ∧ ¬ s_isN b n (s_E b n q) ∧ t_MF gi5 (s_fk b n (s_E b n q) 2) (s_F b n (s_E b n q))) ∨ (w5.toInt = 0 ∧ s_isN b n (s_E b n q) ∧ s_used D (s_L b n (s_E b n q)).toInt ∧ t_MF gi5 (s_fk b n (s_E b n q) 3) (s_F b n (s_E b n q))) from (by
                                                            intro b n q D h
                                                            have th1 := q1 b n _ h.1.S
                                                            have h1 := h.tk th1 ⟨(hC1.1 69 18 rfl).1, (hC1.1 69 17 rfl).1⟩ (fun j => (hC1.1 70 j rfl).1) (fun j => (hC1.1 71 j rfl).2.1) (hC1.1 69 20 rfl).1
                                                            exact Or.inr (Or.inl ⟨q5.2, fun hh => absurd ((q2 b n _ h1.1).mpr hh) (by omega), q5.1 b n _ h1.1 h1.2.2.1⟩)))⟩⟩
  · have r6 : w2.toInt ≠ 0 := fun e => h3 (Int32.toInt_inj.mp (e.trans (by decide : (0:Int) = (0 : Int32).toInt)))
    have l7 : 1 ≤ w2.toInt := t_nel h3 l2 rfl rfl
    refine ev_loc f_X12_aNewName (nx := 20) rfl rfl rfl rfl ?_
    refine ev_bp f_X12_aNewName (nx := 22) (v := 72) rfl (by decide) rfl ?_
    refine ev_loc f_X12_aNewName (nx := 23) rfl rfl rfl rfl ?_
    refine ev_getR f_X12_aNewName (nx := 26) rfl (hI.wf.s rfl) rfl rfl (hI.wf.r rfl) rfl rfl ?_
    refine ev_sp f_X12_aNewName (nx := 29) (v := 1400) rfl (by decide) rfl ?_
    obtain ⟨l8, u8⟩ := hI.ab (by decide +kernel : t_abr 70 1400 1400 0 6 = true) (Nat.le_refl _) (Nat.le_refl _)
    refine ev_ialdv f_X12_aNewName (nx := 30) (w := (gi1 70 1400)) rfl (hI.wf.s rfl) (by decide) (rfl : (1400 : Int32).toNatClampNeg = 1400) (by decide) rfl rfl ?_
    refine ev_qI0 f_X12_aNewName (nx := 33) (r := []) rfl rfl rfl rfl rfl rfl rfl (c_n_findHere hI (72) (by decide : (72:Int) ≤ (72:Int32).toInt) (Int.le_trans (by decide : (72:Int32).toInt ≤ (72:Int)) (by decide : (72:Int) ≤ 84)) ((gi1 70 1400)) l8 u8) rfl (fun w9 l9 u9 q9 => ?_)
    have q9 : (∀ (b : Nat → Int32) (n q : Nat) (f : Nat → Int) (x : Int), t_TM b n q gi1 → s_isN b n q → (∀ i : Nat, i < (gi1 70 1400).toNatClampNeg → (gl1 71 ((72 : Int32).toNatClampNeg + i) = s_m8 b (s_F b n q) (s_E b n q - s_F b n q) ↔ f i = x)) → w9.toInt = s_fst f x (gi1 70 1400).toNatClampNeg 0) ∧ (w9.toInt = -1 ∨ w9.toInt < (gi1 70 1400).toInt) := q9
    refine ev_ic f_X12_aNewName (nx := 34) (v := -1) rfl (by decide) rfl ?_
    refine ev_if f_X12_aNewName (t1 := 37) (t2 := 73) rfl rfl rfl (fun h10 => ?_) (fun h10 => ?_)
    · have u11 : w9.toInt ≤ (-1) := t_equ h10 (by decide : ((-1):Int32).toInt ≤ ((-1):Int))
      refine ev_loc f_X12_aNewName (nx := 38) rfl rfl rfl rfl ?_
      refine ev_bp f_X12_aNewName (nx := 40) (v := 78) rfl (by decide) rfl ?_
      refine ev_loc f_X12_aNewName (nx := 41) rfl rfl rfl rfl ?_
      refine ev_getR f_X12_aNewName (nx := 44) rfl (hI.wf.s rfl) rfl rfl (hI.wf.r rfl) rfl rfl ?_
      refine ev_sp f_X12_aNewName (nx := 47) (v := 1401) rfl (by decide) rfl ?_
      obtain ⟨l12, u12⟩ := hI.ab (by decide +kernel : t_abr 70 1401 1401 0 6 = true) (Nat.le_refl _) (Nat.le_refl _)
      refine ev_ialdv f_X12_aNewName (nx := 48) (w := (gi1 70 1401)) rfl (hI.wf.s rfl) (by decide) (rfl : (1401 : Int32).toNatClampNeg = 1401) (by decide) rfl rfl ?_
      refine ev_qI0 f_X12_aNewName (nx := 51) (r := []) rfl rfl rfl rfl rfl rfl rfl (c_n_findHere hI (78) (Int.le_trans (by decide : (72:Int) ≤ 78) (by decide : (78:Int) ≤ (78:Int32).toInt)) (Int.le_trans (by decide : (78:Int32).toInt ≤ (78:Int)) (by decide : (78:Int) ≤ 84)) ((gi1 70 1401)) l12 u12) rfl (fun w13 l13 u13 q13 => ?_)
      have q13 : (∀ (b : Nat → Int32) (n q : Nat) (f : Nat → Int) (x : Int), t_TM b n q gi1 → s_isN b n q → (∀ i : Nat, i < (gi1 70 1401).toNatClampNeg → (gl1 71 ((78 : Int32).toNatClampNeg + i) = s_m8 b (s_F b n q) (s_E b n q - s_F b n q) ↔ f i = x)) → w13.toInt = s_fst f x (gi1 70 1401).toNatClampNeg 0) ∧ (w13.toInt = -1 ∨ w13.toInt < (gi1 70 1401).toInt) := q13
      refine ev_ic f_X12_aNewName (nx := 52) (v := -1) rfl (by decide) rfl ?_
      refine ev_if f_X12_aNewName (t1 := 55) (t2 := 73) rfl rfl rfl (fun h14 => ?_) (fun h14 => ?_)
      · have u15 : w13.toInt ≤ (-1) := t_equ h14 (by decide : ((-1):Int32).toInt ≤ ((-1):Int))
        refine ev_loc f_X12_aNewName (nx := 56) rfl rfl rfl rfl ?_
        refine ev_bp f_X12_aNewName (nx := 58) (v := 84) rfl (by decide) rfl ?_
        refine ev_loc f_X12_aNewName (nx := 59) rfl rfl rfl rfl ?_
        refine ev_getR f_X12_aNewName (nx := 62) rfl (hI.wf.s rfl) rfl rfl (hI.wf.r rfl) rfl rfl ?_
        refine ev_sp f_X12_aNewName (nx := 65) (v := 1402) rfl (by decide) rfl ?_
        obtain ⟨l16, u16⟩ := hI.ab (by decide +kernel : t_abr 70 1402 1402 0 6 = true) (Nat.le_refl _) (Nat.le_refl _)
        refine ev_ialdv f_X12_aNewName (nx := 66) (w := (gi1 70 1402)) rfl (hI.wf.s rfl) (by decide) (rfl : (1402 : Int32).toNatClampNeg = 1402) (by decide) rfl rfl ?_
        refine ev_qI0 f_X12_aNewName (nx := 69) (r := []) rfl rfl rfl rfl rfl rfl rfl (c_n_findHere hI (84) (Int.le_trans (by decide : (72:Int) ≤ 84) (by decide : (84:Int) ≤ (84:Int32).toInt)) (by decide : (84:Int32).toInt ≤ (84:Int)) ((gi1 70 1402)) l16 u16) rfl (fun w17 l17 u17 q17 => ?_)
        have q17 : (∀ (b : Nat → Int32) (n q : Nat) (f : Nat → Int) (x : Int), t_TM b n q gi1 → s_isN b n q → (∀ i : Nat, i < (gi1 70 1402).toNatClampNeg → (gl1 71 ((84 : Int32).toNatClampNeg + i) = s_m8 b (s_F b n q) (s_E b n q - s_F b n q) ↔ f i = x)) → w17.toInt = s_fst f x (gi1 70 1402).toNatClampNeg 0) ∧ (w17.toInt = -1 ∨ w17.toInt < (gi1 70 1402).toInt) := q17
        refine ev_ic f_X12_aNewName (nx := 70) (v := -1) rfl (by decide) rfl ?_
        refine ev_if f_X12_aNewName (t1 := 79) (t2 := 73) rfl rfl rfl (fun h18 => ?_) (fun h18 => ?_)
        · have u19 : w17.toInt ≤ (-1) := t_equ h18 (by decide : ((-1):Int32).toInt ≤ ((-1):Int))
          refine ev_loc f_X12_aNewName (nx := 80) rfl rfl rfl rfl ?_
          refine ev_getR f_X12_aNewName (nx := 83) rfl (hI.wf.s rfl) rfl rfl (hI.wf.r rfl) rfl rfl ?_
          refine ev_bp f_X12_aNewName (nx := 85) (v := 72) rfl (by decide) rfl ?_
          refine ev_loc f_X12_aNewName (nx := 86) rfl rfl rfl rfl ?_
          refine ev_addK f_X12_aNewName (nx := 87) (c := 72) (l := 72) (u := 89) rfl (by decide) l_a1 u_a1 rfl rfl (by decide) (by decide) rfl (fun z20 e20 l20 u20 => ?_)
          refine ev_loc f_X12_aNewName (nx := 88) rfl rfl rfl rfl ?_
          refine ev_qL0 f_X12_aNewName (nx := 91) (r := [.int z20, .ref 71]) rfl rfl rfl rfl rfl rfl rfl (c_n_nameHere hI ) rfl (fun w21 q21 => ?_)
          have q21 : ∀ (b : Nat → Int32) (n q : Nat), t_TM b n q gi1 → s_K b n q = 2 → w21 = s_m8 b (s_F b n q) (s_E b n q - s_F b n q) := q21
          refine ev_lastT f_X12_aNewName (nx := 92) rfl (hI.wf.s rfl) l20 (by decide) u20 (by decide) rfl (hX.upL (t_inR (p := 72) (m := 89) rfl l20 (by decide) u20 (by decide) (by decide))) (fun g22 e22 hX => ?_)
          refine ev_loc f_X12_aNewName (nx := 93) rfl rfl rfl rfl ?_
          refine ev_qN f_X12_aNewName (nx := 96) (r := []) rfl rfl rfl rfl rfl rfl rfl (c_n_ahead hI ) rfl hX rfl (fun gi23 gl23 gr23 hI hX hC23 q23 => ?_)
          have q23 : ∀ (b : Nat → Int32) (n q : Nat), t_Sm b n q gi1 → t_TM b n q gi23 := q23
          refine ev_ic f_X12_aNewName (nx := 97) (v := 1) rfl (by decide) rfl ?_
          exact ev_ret f_X12_aNewName rfl rfl rfl ⟨_, _, _, rfl, hI, hX, ⟨_, rfl, (Int.le_trans (by decide : (0:Int) ≤ 1) (by decide : (1:Int) ≤ (1:Int32).toInt)), (by decide : (1:Int32).toInt ≤ (1:Int)), (show ∀ (b : Nat → Int32) (n q : Nat) (D : s_D), t_MS b n q D gi gl → ((1 : Int) = 1 ∧ s_isN b n (s_E b n q) ∧ ¬ s_used D (s_L b n (s_E b n q)).toInt ∧ t_TM b n (s_E b n (s_E b n q)) gi23 ∧ t_mf gi gi23 ∧ ∀ j : Nat, gl23 71 j = if j = 72 + ar1.toNatClampNeg then s_m8 b (s_F b n (s_E b n q)) (s_E b n (s_E b n q) - s_F b n (s_E b n q)) else gl 71 j) ∨ ((1 : Int) = 0 ∧ ¬ s_isN b n (s_E b n q) ∧ t_MF gi23 (s_fk b n (s_E b n q) 2) (s_F b n (s_E b n q))) ∨ ((1 : Int) = 0 ∧ s_isN b n (s_E b n q) ∧ s_used D (s_L b n (s_E b n q)).toInt ∧ t_MF gi23 (s_fk b n (s_E b n q) 3) (s_F b n (s_E b n q))) from (by
                                                            intro b n q D h
                                                            have th1 := q1 b n _ h.1.S
                                                            have h1 := h.tk th1 ⟨(hC1.1 69 18 rfl).1, (hC1.1 69 17 rfl).1⟩ (fun j => (hC1.1 70 j rfl).1) (fun j => (hC1.1 71 j rfl).2.1) (hC1.1 69 20 rfl).1
                                                            have hN := (q2 b n _ h1.1).mp (by omega)
                                                            have hu := s_used_f (D := D) h.2.1.1 (x := (s_L b n (s_E b n q)).toInt)
                                                            have d0 : (gi1 70 1400).toInt = D 0 := h1.2.1.2.1.1.1.1
                                                            have l0_ := h.2.1.1.1.1
                                                            have c0_ := t_clamp (i := gi1 70 1400) (by omega)
                                                            have f0 : w9.toInt = s_fst (fun i => D (200 + i)) (s_L b n (s_E b n q)).toInt (D 0).toNat 0 := by
                                                              rw [show (D 0).toNat = (gi1 70 1400).toNatClampNeg from (by omega)]
                                                              exact q9.1 b n _ _ _ h1.1 hN (t_nr_f (base := 72) h1.2.1.2.2.1.1 (by omega) hN)
                                                            have d1 : (gi1 70 1401).toInt = D 1 := h1.2.1.2.1.1.1.2.1
                                                            have l1_ := h.2.1.1.2.1.1
                                                            have c1_ := t_clamp (i := gi1 70 1401) (by omega)
                                                            have f1 : w13.toInt = s_fst (fun i => D (206 + i)) (s_L b n (s_E b n q)).toInt (D 1).toNat 0 := by
                                                              rw [show (D 1).toNat = (gi1 70 1401).toNatClampNeg from (by omega)]
                                                              exact q13.1 b n _ _ _ h1.1 hN (t_nr_f (base := 78) h1.2.1.2.2.1.2.1 (by omega) hN)
                                                            have d2 : (gi1 70 1402).toInt = D 2 := h1.2.1.2.1.1.1.2.2
                                                            have l2_ := h.2.1.1.2.2.1
                                                            have c2_ := t_clamp (i := gi1 70 1402) (by omega)
                                                            have f2 : w17.toInt = s_fst (fun i => D (212 + i)) (s_L b n (s_E b n q)).toInt (D 2).toNat 0 := by
                                                              rw [show (D 2).toNat = (gi1 70 1402).toNatClampNeg from (by omega)]
                                                              exact q17.1 b n _ _ _ h1.1 hN (t_nr_f (base := 84) h1.2.1.2.2.1.2.2 (by omega) hN)
                                                            have hU : ¬ s_used D (s_L b n (s_E b n q)).toInt := fun hh => by
                                                              rcases hu.mp hh with hh | hh | hh
                                                              · rw [← f0] at hh; exact hh (by omega)
                                                              · rw [← f1] at hh; exact hh (by omega)
                                                              · rw [← f2] at hh; exact hh (by omega)
                                                            have hm := q21 b n _ h1.1 hN.1
                                                            have t2 := q23 b n _ h1.1.S
                                                            have ha := t_clamp (i := ar1) l_a1
                                                            have hi := t_clamp (i := z20) (by omega)
                                                            refine Or.inl ⟨rfl, hN, hU, t2, ⟨(hC23.1 69 18 rfl).1.trans (hC1.1 69 18 rfl).1, (hC23.1 69 17 rfl).1.trans (hC1.1 69 17 rfl).1⟩, fun j => ?_⟩
                                                            rw [(hC23.1 71 j rfl).2.1, e22]
                                                            by_cases hj : j = 72 + ar1.toNatClampNeg
                                                            · rw [if_pos hj, show j = z20.toNatClampNeg from (by omega), x_up2_at]; exact hm
                                                            · rw [if_neg hj, x_up2_off (Or.inr (by omega))]; exact (hC1.1 71 j rfl).2.1))⟩⟩
        · have r24 : w17.toInt ≠ (-1) := fun e => h18 (Int32.toInt_inj.mp (e.trans (by decide : ((-1):Int) = ((-1) : Int32).toInt)))
          have l25 : 0 ≤ w17.toInt := t_nel h18 l17 rfl rfl
          refine ev_loc f_X12_aNewName (nx := 74) rfl rfl rfl rfl ?_
          refine ev_ic f_X12_aNewName (nx := 75) (v := 3) rfl (by decide) rfl ?_
          refine ev_qI f_X12_aNewName (nx := 78) (r := []) rfl rfl rfl rfl rfl rfl rfl (c_n_fails hI (3) (Int.le_trans (by decide : (2:Int) ≤ 3) (by decide : (3:Int) ≤ (3:Int32).toInt)) (Int.le_trans (by decide : (3:Int32).toInt ≤ (3:Int)) (by decide : (3:Int) ≤ 7))) rfl hX rfl (fun w26 gi26 gl26 gr26 l26 u26 hI hX hC26 q26 => ?_)
          have q26 : (∀ (b : Nat → Int32) (n q : Nat), t_TM b n q gi1 → (gi1 69 18).toInt = 0 → t_MF gi26 (s_fk b n q 3) (s_F b n q)) ∧ w26.toInt = 0 := q26
          exact ev_retZ f_X12_aNewName rfl l26 (Int.le_trans u26 (by decide : (0:Int) ≤ 1)) ⟨_, _, _, rfl, hI, hX, ⟨_, rfl, l26, (Int.le_trans u26 (by decide : (0:Int) ≤ 1)), (show ∀ (b : Nat → Int32) (n q : Nat) (D : s_D), t_MS b n q D gi gl → (w26.toInt = 1 ∧ s_isN b n (s_E b n q) ∧ ¬ s_used D (s_L b n (s_E b n q)).toInt ∧ t_TM b n (s_E b n (s_E b n q)) gi26 ∧ t_mf gi gi26 ∧ ∀ j : Nat, gl26 71 j = if j = 72 + ar1.toNatClampNeg then s_m8 b (s_F b n (s_E b n q)) (s_E b n (s_E b n q) - s_F b n (s_E b n q)) else gl 71 j) ∨ (w26.toInt = 0 ∧ ¬ s_isN b n (s_E b n q) ∧ t_MF gi26 (s_fk b n (s_E b n q) 2) (s_F b n (s_E b n q))) ∨ (w26.toInt = 0 ∧ s_isN b n (s_E b n q) ∧ s_used D (s_L b n (s_E b n q)).toInt ∧ t_MF gi26 (s_fk b n (s_E b n q) 3) (s_F b n (s_E b n q))) from (by
                                                            intro b n q D h
                                                            have th1 := q1 b n _ h.1.S
                                                            have h1 := h.tk th1 ⟨(hC1.1 69 18 rfl).1, (hC1.1 69 17 rfl).1⟩ (fun j => (hC1.1 70 j rfl).1) (fun j => (hC1.1 71 j rfl).2.1) (hC1.1 69 20 rfl).1
                                                            have hN := (q2 b n _ h1.1).mp (by omega)
                                                            have hu := s_used_f (D := D) h.2.1.1 (x := (s_L b n (s_E b n q)).toInt)
                                                            have d0 : (gi1 70 1400).toInt = D 0 := h1.2.1.2.1.1.1.1
                                                            have l0_ := h.2.1.1.1.1
                                                            have c0_ := t_clamp (i := gi1 70 1400) (by omega)
                                                            have f0 : w9.toInt = s_fst (fun i => D (200 + i)) (s_L b n (s_E b n q)).toInt (D 0).toNat 0 := by
                                                              rw [show (D 0).toNat = (gi1 70 1400).toNatClampNeg from (by omega)]
                                                              exact q9.1 b n _ _ _ h1.1 hN (t_nr_f (base := 72) h1.2.1.2.2.1.1 (by omega) hN)
                                                            have d1 : (gi1 70 1401).toInt = D 1 := h1.2.1.2.1.1.1.2.1
                                                            have l1_ := h.2.1.1.2.1.1
                                                            have c1_ := t_clamp (i := gi1 70 1401) (by omega)
                                                            have f1 : w13.toInt = s_fst (fun i => D (206 + i)) (s_L b n (s_E b n q)).toInt (D 1).toNat 0 := by
                                                              rw [show (D 1).toNat = (gi1 70 1401).toNatClampNeg from (by omega)]
                                                              exact q13.1 b n _ _ _ h1.1 hN (t_nr_f (base := 78) h1.2.1.2.2.1.2.1 (by omega) hN)
                                                            have d2 : (gi1 70 1402).toInt = D 2 := h1.2.1.2.1.1.1.2.2
                                                            have l2_ := h.2.1.1.2.2.1
                                                            have c2_ := t_clamp (i := gi1 70 1402) (by omega)
                                                            have f2 : w17.toInt = s_fst (fun i => D (212 + i)) (s_L b n (s_E b n q)).toInt (D 2).toNat 0 := by
                                                              rw [show (D 2).toNat = (gi1 70 1402).toNatClampNeg from (by omega)]
                                                              exact q17.1 b n _ _ _ h1.1 hN (t_nr_f (base := 84) h1.2.1.2.2.1.2.2 (by omega) hN)
                                                            refine Or.inr (Or.inr ⟨q26.2, hN, hu.mpr (Or.inr (Or.inr ?_)), q26.1 b n _ h1.1 h1.2.2.1⟩)
                                                            rw [← f2]; omega))⟩⟩
      · have r27 : w13.toInt ≠ (-1) := fun e => h14 (Int32.toInt_inj.mp (e.trans (by decide : ((-1):Int) = ((-1) : Int32).toInt)))
        have l28 : 0 ≤ w13.toInt := t_nel h14 l13 rfl rfl
        refine ev_loc f_X12_aNewName (nx := 74) rfl rfl rfl rfl ?_
        refine ev_ic f_X12_aNewName (nx := 75) (v := 3) rfl (by decide) rfl ?_
        refine ev_qI f_X12_aNewName (nx := 78) (r := []) rfl rfl rfl rfl rfl rfl rfl (c_n_fails hI (3) (Int.le_trans (by decide : (2:Int) ≤ 3) (by decide : (3:Int) ≤ (3:Int32).toInt)) (Int.le_trans (by decide : (3:Int32).toInt ≤ (3:Int)) (by decide : (3:Int) ≤ 7))) rfl hX rfl (fun w29 gi29 gl29 gr29 l29 u29 hI hX hC29 q29 => ?_)
        have q29 : (∀ (b : Nat → Int32) (n q : Nat), t_TM b n q gi1 → (gi1 69 18).toInt = 0 → t_MF gi29 (s_fk b n q 3) (s_F b n q)) ∧ w29.toInt = 0 := q29
        exact ev_retZ f_X12_aNewName rfl l29 (Int.le_trans u29 (by decide : (0:Int) ≤ 1)) ⟨_, _, _, rfl, hI, hX, ⟨_, rfl, l29, (Int.le_trans u29 (by decide : (0:Int) ≤ 1)), (show ∀ (b : Nat → Int32) (n q : Nat) (D : s_D), t_MS b n q D gi gl → (w29.toInt = 1 ∧ s_isN b n (s_E b n q) ∧ ¬ s_used D (s_L b n (s_E b n q)).toInt ∧ t_TM b n (s_E b n (s_E b n q)) gi29 ∧ t_mf gi gi29 ∧ ∀ j : Nat, gl29 71 j = if j = 72 + ar1.toNatClampNeg then s_m8 b (s_F b n (s_E b n q)) (s_E b n (s_E b n q) - s_F b n (s_E b n q)) else gl 71 j) ∨ (w29.toInt = 0 ∧ ¬ s_isN b n (s_E b n q) ∧ t_MF gi29 (s_fk b n (s_E b n q) 2) (s_F b n (s_E b n q))) ∨ (w29.toInt = 0 ∧ s_isN b n (s_E b n q) ∧ s_used D (s_L b n (s_E b n q)).toInt ∧ t_MF gi29 (s_fk b n (s_E b n q) 3) (s_F b n (s_E b n q))) from (by
                                                            intro b n q D h
                                                            have th1 := q1 b n _ h.1.S
                                                            have h1 := h.tk th1 ⟨(hC1.1 69 18 rfl).1, (hC1.1 69 17 rfl).1⟩ (fun j => (hC1.1 70 j rfl).1) (fun j => (hC1.1 71 j rfl).2.1) (hC1.1 69 20 rfl).1
                                                            have hN := (q2 b n _ h1.1).mp (by omega)
                                                            have hu := s_used_f (D := D) h.2.1.1 (x := (s_L b n (s_E b n q)).toInt)
                                                            have d0 : (gi1 70 1400).toInt = D 0 := h1.2.1.2.1.1.1.1
                                                            have l0_ := h.2.1.1.1.1
                                                            have c0_ := t_clamp (i := gi1 70 1400) (by omega)
                                                            have f0 : w9.toInt = s_fst (fun i => D (200 + i)) (s_L b n (s_E b n q)).toInt (D 0).toNat 0 := by
                                                              rw [show (D 0).toNat = (gi1 70 1400).toNatClampNeg from (by omega)]
                                                              exact q9.1 b n _ _ _ h1.1 hN (t_nr_f (base := 72) h1.2.1.2.2.1.1 (by omega) hN)
                                                            have d1 : (gi1 70 1401).toInt = D 1 := h1.2.1.2.1.1.1.2.1
                                                            have l1_ := h.2.1.1.2.1.1
                                                            have c1_ := t_clamp (i := gi1 70 1401) (by omega)
                                                            have f1 : w13.toInt = s_fst (fun i => D (206 + i)) (s_L b n (s_E b n q)).toInt (D 1).toNat 0 := by
                                                              rw [show (D 1).toNat = (gi1 70 1401).toNatClampNeg from (by omega)]
                                                              exact q13.1 b n _ _ _ h1.1 hN (t_nr_f (base := 78) h1.2.1.2.2.1.2.1 (by omega) hN)
                                                            refine Or.inr (Or.inr ⟨q29.2, hN, hu.mpr (Or.inr (Or.inl ?_)), q29.1 b n _ h1.1 h1.2.2.1⟩)
                                                            rw [← f1]; omega))⟩⟩
    · have r30 : w9.toInt ≠ (-1) := fun e => h10 (Int32.toInt_inj.mp (e.trans (by decide : ((-1):Int) = ((-1) : Int32).toInt)))
      have l31 : 0 ≤ w9.toInt := t_nel h10 l9 rfl rfl
      refine ev_loc f_X12_aNewName (nx := 74) rfl rfl rfl rfl ?_
      refine ev_ic f_X12_aNewName (nx := 75) (v := 3) rfl (by decide) rfl ?_
      refine ev_qI f_X12_aNewName (nx := 78) (r := []) rfl rfl rfl rfl rfl rfl rfl (c_n_fails hI (3) (Int.le_trans (by decide : (2:Int) ≤ 3) (by decide : (3:Int) ≤ (3:Int32).toInt)) (Int.le_trans (by decide : (3:Int32).toInt ≤ (3:Int)) (by decide : (3:Int) ≤ 7))) rfl hX rfl (fun w32 gi32 gl32 gr32 l32 u32 hI hX hC32 q32 => ?_)
      have q32 : (∀ (b : Nat → Int32) (n q : Nat), t_TM b n q gi1 → (gi1 69 18).toInt = 0 → t_MF gi32 (s_fk b n q 3) (s_F b n q)) ∧ w32.toInt = 0 := q32
      exact ev_retZ f_X12_aNewName rfl l32 (Int.le_trans u32 (by decide : (0:Int) ≤ 1)) ⟨_, _, _, rfl, hI, hX, ⟨_, rfl, l32, (Int.le_trans u32 (by decide : (0:Int) ≤ 1)), (show ∀ (b : Nat → Int32) (n q : Nat) (D : s_D), t_MS b n q D gi gl → (w32.toInt = 1 ∧ s_isN b n (s_E b n q) ∧ ¬ s_used D (s_L b n (s_E b n q)).toInt ∧ t_TM b n (s_E b n (s_E b n q)) gi32 ∧ t_mf gi gi32 ∧ ∀ j : Nat, gl32 71 j = if j = 72 + ar1.toNatClampNeg then s_m8 b (s_F b n (s_E b n q)) (s_E b n (s_E b n q) - s_F b n (s_E b n q)) else gl 71 j) ∨ (w32.toInt = 0 ∧ ¬ s_isN b n (s_E b n q) ∧ t_MF gi32 (s_fk b n (s_E b n q) 2) (s_F b n (s_E b n q))) ∨ (w32.toInt = 0 ∧ s_isN b n (s_E b n q) ∧ s_used D (s_L b n (s_E b n q)).toInt ∧ t_MF gi32 (s_fk b n (s_E b n q) 3) (s_F b n (s_E b n q))) from (by
                                                            intro b n q D h
                                                            have th1 := q1 b n _ h.1.S
                                                            have h1 := h.tk th1 ⟨(hC1.1 69 18 rfl).1, (hC1.1 69 17 rfl).1⟩ (fun j => (hC1.1 70 j rfl).1) (fun j => (hC1.1 71 j rfl).2.1) (hC1.1 69 20 rfl).1
                                                            have hN := (q2 b n _ h1.1).mp (by omega)
                                                            have hu := s_used_f (D := D) h.2.1.1 (x := (s_L b n (s_E b n q)).toInt)
                                                            have d0 : (gi1 70 1400).toInt = D 0 := h1.2.1.2.1.1.1.1
                                                            have l0_ := h.2.1.1.1.1
                                                            have c0_ := t_clamp (i := gi1 70 1400) (by omega)
                                                            have f0 : w9.toInt = s_fst (fun i => D (200 + i)) (s_L b n (s_E b n q)).toInt (D 0).toNat 0 := by
                                                              rw [show (D 0).toNat = (gi1 70 1400).toNatClampNeg from (by omega)]
                                                              exact q9.1 b n _ _ _ h1.1 hN (t_nr_f (base := 72) h1.2.1.2.2.1.1 (by omega) hN)
                                                            refine Or.inr (Or.inr ⟨q32.2, hN, hu.mpr (Or.inl ?_), q32.1 b n _ h1.1 h1.2.2.1⟩)
                                                            rw [← f0]; omega))⟩⟩
noncomputable def wl_n_aPort : List (Nat × Nat) := [(69, 12), (69, 13), (69, 14), (69, 15), (69, 17), (69, 18), (70, 140011400), (70, 141011452), (70, 141111458), (71, 7210089)]
noncomputable def Q_n_aPort (gi : Nat → Nat → Int32) (gl : Nat → Nat → Int64) (gr : Nat → Nat → Value) : Int32 → (Nat → Nat → Int32) → (Nat → Nat → Int64) → (Nat → Nat → Value) → Prop := fun (v : Int32) (gi2 : Nat → Nat → Int32) (gl2 : Nat → Nat → Int64) (gr2 : Nat → Nat → Value) => ∀ (b : Nat → Int32) (n q : Nat) (D : s_D), t_MS b n q D gi gl → (v.toInt = 1 ∧ ∃ q2 D2, s_port b n q D = s_ok q2 D2 ∧ t_MS b n q2 D2 gi2 gl2) ∨ (v.toInt = 0 ∧ ∃ p x D2, x ≠ 0 ∧ s_port b n q D = s_bad b n p x D2 ∧ t_MF gi2 (s_fk b n p x) (s_F b n p))
theorem c_n_aPort {X : x_Ext} {d : Nat} {sh : List (Nat ⊕ (Nat × Nat))} {gi : Nat → Nat → Int32} {gl : Nat → Nat → Int64} {gr : Nat → Nat → Value} (hI : t_I sh gi gr) : x_Me X (d + 8) n_X12_aPort [.ref 69] (sh, gi, gl, gr) (t_PI wl_n_aPort sh gi gl gr 0 1 (Q_n_aPort gi gl gr)) := by
  have hX : t_X wl_n_aPort sh gi gl gr gi gl gr := t_X.rf
  refine me_i f_X12_aPort (hI.wf.s rfl) rfl rfl rfl ?_
  obtain ⟨l1, u1⟩ := hI.b (hI.wf.s (k := 69) rfl) (t_bdK rfl : t_bd 11 13 = some (0, 900))
  obtain ⟨l2, u2⟩ := hI.b (hI.wf.s (k := 69) rfl) (t_bdK rfl : t_bd 11 14 = some (0, 900))
  refine ev_loc f_X12_aPort (nx := 1) rfl rfl rfl rfl ?_
  refine ev_getR f_X12_aPort (nx := 4) rfl (hI.wf.s rfl) rfl rfl (hI.wf.r rfl) rfl rfl ?_
  refine ev_sp f_X12_aPort (nx := 7) (v := 1400) rfl (by decide) rfl ?_
  obtain ⟨l3, u3⟩ := hI.ab (by decide +kernel : t_abr 70 1400 1400 0 6 = true) (Nat.le_refl _) (Nat.le_refl _)
  refine ev_ialdv f_X12_aPort (nx := 8) (w := (gi 70 1400)) rfl (hI.wf.s rfl) (by decide) (rfl : (1400 : Int32).toNatClampNeg = 1400) (by decide) rfl rfl ?_
  refine ev_loc f_X12_aPort (nx := 9) (lo' := [(1, .int (gi 70 1400)), (0, .ref 69)]) rfl rfl rfl rfl ?_
  refine ev_sp f_X12_aPort (nx := 12) (v := 1410) rfl (by decide) rfl ?_
  refine ev_bp f_X12_aPort (nx := 14) (v := 7) rfl (by decide) rfl ?_
  refine ev_loc f_X12_aPort (nx := 15) rfl rfl rfl rfl ?_
  refine ev_mulL f_X12_aPort (nx := 16) (c := 7) (l := 0) (u := 42) rfl (by decide) (by decide) l3 u3 rfl rfl (by decide) (by decide) rfl (fun z4 e4 l4 u4 => ?_)
  refine ev_addK f_X12_aPort (nx := 17) (c := 1410) (l := 1410) (u := 1452) rfl (by decide) l4 u4 rfl rfl (by decide) (by decide) rfl (fun z5 e5 l5 u5 => ?_)
  refine ev_loc f_X12_aPort (nx := 18) (lo' := [(2, .int z5), (1, .int (gi 70 1400)), (0, .ref 69)]) rfl rfl rfl rfl ?_
  refine ev_loc f_X12_aPort (nx := 19) rfl rfl rfl rfl ?_
  refine ev_bp f_X12_aPort (nx := 21) (v := 6) rfl (by decide) rfl ?_
  refine ev_if f_X12_aPort (t1 := 24) (t2 := 31) rfl rfl rfl (fun h6 => ?_) (fun h6 => ?_)
  · have l7 : 6 ≤ (gi 70 1400).toInt := t_eql h6 (by decide : (6:Int) ≤ (6:Int32).toInt)
    refine ev_loc f_X12_aPort (nx := 25) rfl rfl rfl rfl ?_
    refine ev_bp f_X12_aPort (nx := 27) (v := 6) rfl (by decide) rfl ?_
    refine ev_qI f_X12_aPort (nx := 30) (r := []) rfl rfl rfl rfl rfl rfl rfl (c_n_fails hI (6) (Int.le_trans (by decide : (2:Int) ≤ 6) (by decide : (6:Int) ≤ (6:Int32).toInt)) (Int.le_trans (by decide : (6:Int32).toInt ≤ (6:Int)) (by decide : (6:Int) ≤ 7))) rfl hX rfl (fun w8 gi8 gl8 gr8 l8 u8 hI hX hC8 q8 => ?_)
    have q8 : (∀ (b : Nat → Int32) (n q : Nat), t_TM b n q gi → (gi 69 18).toInt = 0 → t_MF gi8 (s_fk b n q 6) (s_F b n q)) ∧ w8.toInt = 0 := q8
    exact ev_retZ f_X12_aPort rfl l8 (Int.le_trans u8 (by decide : (0:Int) ≤ 1)) ⟨_, _, _, rfl, hI, hX, ⟨_, rfl, l8, (Int.le_trans u8 (by decide : (0:Int) ≤ 1)), (show ∀ (b : Nat → Int32) (n q : Nat) (D : s_D), t_MS b n q D gi gl → (w8.toInt = 1 ∧ ∃ q2 D2, s_port b n q D = s_ok q2 D2 ∧ t_MS b n q2 D2 gi8 gl8) ∨ (w8.toInt = 0 ∧ ∃ p x D2, x ≠ 0 ∧ s_port b n q D = s_bad b n p x D2 ∧ t_MF gi8 (s_fk b n p x) (s_F b n p)) from (by
                                                            intro b n q D h
                                                            have d0 : (gi 70 1400).toInt = D 0 := h.2.1.2.1.1.1.1
                                                            exact Or.inr ⟨q8.2, q, 6, D, by decide, by simp only [s_port, s_ifT (show D 0 = 6 by omega)], q8.1 b n q h.1 h.2.2.1⟩))⟩⟩
  · have r9 : (gi 70 1400).toInt ≠ 6 := fun e => h6 (Int32.toInt_inj.mp (e.trans (by decide : (6:Int) = (6 : Int32).toInt)))
    have u10 : (gi 70 1400).toInt ≤ 5 := t_neu h6 u3 rfl rfl
    refine ev_loc f_X12_aPort (nx := 32) rfl rfl rfl rfl ?_
    refine ev_loc f_X12_aPort (nx := 33) rfl rfl rfl rfl ?_
    refine ev_qI f_X12_aPort (nx := 36) (r := []) rfl rfl rfl rfl rfl rfl rfl (c_n_aNewName hI ((gi 70 1400)) l3 (Int.le_trans u10 (by decide : (5:Int) ≤ 17))) rfl hX rfl (fun w11 gi11 gl11 gr11 l11 u11 hI hX hC11 q11 => ?_)
    have q11 : ∀ (b : Nat → Int32) (n q : Nat) (D : s_D), t_MS b n q D gi gl → (w11.toInt = 1 ∧ s_isN b n (s_E b n q) ∧ ¬ s_used D (s_L b n (s_E b n q)).toInt ∧ t_TM b n (s_E b n (s_E b n q)) gi11 ∧ t_mf gi gi11 ∧ ∀ j : Nat, gl11 71 j = if j = 72 + (gi 70 1400).toNatClampNeg then s_m8 b (s_F b n (s_E b n q)) (s_E b n (s_E b n q) - s_F b n (s_E b n q)) else gl 71 j) ∨ (w11.toInt = 0 ∧ ¬ s_isN b n (s_E b n q) ∧ t_MF gi11 (s_fk b n (s_E b n q) 2) (s_F b n (s_E b n q))) ∨ (w11.toInt = 0 ∧ s_isN b n (s_E b n q) ∧ s_used D (s_L b n (s_E b n q)).toInt ∧ t_MF gi11 (s_fk b n (s_E b n q) 3) (s_F b n (s_E b n q))) := q11
    obtain ⟨l12, u12⟩ := hI.b (hI.wf.s (k := 69) rfl) (t_bdK rfl : t_bd 11 13 = some (0, 900))
    obtain ⟨l13, u13⟩ := hI.b (hI.wf.s (k := 69) rfl) (t_bdK rfl : t_bd 11 14 = some (0, 900))
    refine ev_if f_X12_aPort (t1 := 50) (t2 := 39) rfl rfl rfl (fun h14 => ?_) (fun h14 => ?_)
    · have u15 : w11.toInt ≤ 0 := t_equ h14 (by decide : (0:Int32).toInt ≤ (0:Int))
      refine ev_ic f_X12_aPort (nx := 51) (v := 0) rfl (by decide) rfl ?_
      exact ev_ret f_X12_aPort rfl rfl rfl ⟨_, _, _, rfl, hI, hX, ⟨_, rfl, (by decide : (0:Int) ≤ (0:Int32).toInt), (Int.le_trans (by decide : (0:Int32).toInt ≤ (0:Int)) (by decide : (0:Int) ≤ 1)), (show ∀ (b : Nat → Int32) (n q : Nat) (D : s_D), t_MS b n q D gi gl → ((0 : Int) = 1 ∧ ∃ q2 D2, s_port b n q D = s_ok q2 D2 ∧ t_MS b n q2 D2 gi11 gl11) ∨ ((0 : Int) = 0 ∧ ∃ p x D2, x ≠ 0 ∧ s_port b n q D = s_bad b n p x D2 ∧ t_MF gi11 (s_fk b n p x) (s_F b n p)) from (by
                                                            intro b n q D h
                                                            have d0 : (gi 70 1400).toInt = D 0 := h.2.1.2.1.1.1.1
                                                            rcases q11 b n q D h with hh | hh | hh
                                                            · exact absurd hh.1 (by omega)
                                                            · exact Or.inr ⟨rfl, _, 2, D, by decide, by simp only [s_port, s_name, s_kw, s_ifF (show ¬ D 0 = 6 by omega), s_ifF hh.2.1], hh.2.2⟩
                                                            · exact Or.inr ⟨rfl, _, 3, D, by decide, by simp only [s_port, s_name, s_kw, s_ifF (show ¬ D 0 = 6 by omega), s_ifT hh.2.1, s_ifT hh.2.2.1], hh.2.2.2⟩))⟩⟩
    · have r16 : w11.toInt ≠ 0 := fun e => h14 (Int32.toInt_inj.mp (e.trans (by decide : (0:Int) = (0 : Int32).toInt)))
      have l17 : 1 ≤ w11.toInt := t_nel h14 l11 rfl rfl
      refine ev_loc f_X12_aPort (nx := 40) rfl rfl rfl rfl ?_
      refine ev_heap f_X12_aPort (nx := 42) rfl rfl rfl rfl ?_
      refine ev_bp f_X12_aPort (nx := 44) (v := 6) rfl (by decide) rfl ?_
      refine ev_qI f_X12_aPort (nx := 47) (r := []) rfl rfl rfl rfl rfl rfl rfl (c_n_wantWord hI (6)) rfl hX rfl (fun w18 gi18 gl18 gr18 l18 u18 hI hX hC18 q18 => ?_)
      have q18 : ∀ (b : Nat → Int32) (n q : Nat), t_TM b n q gi11 → (w18.toInt = 1 ∧ s_mi (s_W b n q) = 6 ∧ t_TM b n (s_E b n q) gi18 ∧ t_mf gi11 gi18) ∨ (w18.toInt = 0 ∧ ¬ s_mi (s_W b n q) = 6 ∧ ((gi11 69 18).toInt = 0 → t_MF gi18 (s_fk b n q 2) (s_F b n q))) := q18
      obtain ⟨l19, u19⟩ := hI.b (hI.wf.s (k := 69) rfl) (t_bdK rfl : t_bd 11 13 = some (0, 900))
      obtain ⟨l20, u20⟩ := hI.b (hI.wf.s (k := 69) rfl) (t_bdK rfl : t_bd 11 14 = some (0, 900))
      refine ev_if f_X12_aPort (t1 := 50) (t2 := 52) rfl rfl rfl (fun h21 => ?_) (fun h21 => ?_)
      · have u22 : w18.toInt ≤ 0 := t_equ h21 (by decide : (0:Int32).toInt ≤ (0:Int))
        refine ev_ic f_X12_aPort (nx := 51) (v := 0) rfl (by decide) rfl ?_
        exact ev_ret f_X12_aPort rfl rfl rfl ⟨_, _, _, rfl, hI, hX, ⟨_, rfl, (by decide : (0:Int) ≤ (0:Int32).toInt), (Int.le_trans (by decide : (0:Int32).toInt ≤ (0:Int)) (by decide : (0:Int) ≤ 1)), (show ∀ (b : Nat → Int32) (n q : Nat) (D : s_D), t_MS b n q D gi gl → ((0 : Int) = 1 ∧ ∃ q2 D2, s_port b n q D = s_ok q2 D2 ∧ t_MS b n q2 D2 gi18 gl18) ∨ ((0 : Int) = 0 ∧ ∃ p x D2, x ≠ 0 ∧ s_port b n q D = s_bad b n p x D2 ∧ t_MF gi18 (s_fk b n p x) (s_F b n p)) from (by
                                                            intro b n q D h
                                                            have d0 : (gi 70 1400).toInt = D 0 := h.2.1.2.1.1.1.1
                                                            obtain ⟨_, hN, hU, t1, m1, n1⟩ := (q11 b n q D h).resolve_right (fun hh => by rcases hh with hh | hh <;> exact absurd hh.1 (by omega))
                                                            rcases q18 b n _ t1 with hh | hh
                                                            · exact absurd hh.1 (by omega)
                                                            · exact Or.inr ⟨rfl, _, 2, D, by decide, by simp only [s_port, s_name, s_kw, s_ifF (show ¬ D 0 = 6 by omega), s_ifT hN, s_ifF hU, s_ifF (fun hw => hh.2.1 ((s_mi_W (i := 1) (by decide)).mpr hw))], hh.2.2 (by rw [m1.1]; exact h.2.2.1)⟩))⟩⟩
      · have r23 : w18.toInt ≠ 0 := fun e => h21 (Int32.toInt_inj.mp (e.trans (by decide : (0:Int) = (0 : Int32).toInt)))
        have l24 : 1 ≤ w18.toInt := t_nel h21 l18 rfl rfl
        refine ev_loc f_X12_aPort (nx := 53) rfl rfl rfl rfl ?_
        refine ev_qI0 f_X12_aPort (nx := 56) (r := []) rfl rfl rfl rfl rfl rfl rfl (c_n_areBlasts hI ) rfl (fun w25 l25 u25 q25 => ?_)
        have q25 : (∀ (b : Nat → Int32) (n q : Nat), t_TM b n q gi18 → (w25.toInt = 1 ↔ s_isB b n q)) ∧ (w25.toInt = 1 → (gi18 69 14).toInt - (gi18 69 13).toInt ≤ 6) := q25
        refine ev_if f_X12_aPort (t1 := 59) (t2 := 65) rfl rfl rfl (fun h26 => ?_) (fun h26 => ?_)
        · have u27 : w25.toInt ≤ 0 := t_equ h26 (by decide : (0:Int32).toInt ≤ (0:Int))
          refine ev_loc f_X12_aPort (nx := 60) rfl rfl rfl rfl ?_
          refine ev_ic f_X12_aPort (nx := 61) (v := 2) rfl (by decide) rfl ?_
          refine ev_qI f_X12_aPort (nx := 64) (r := []) rfl rfl rfl rfl rfl rfl rfl (c_n_fails hI (2) (by decide : (2:Int) ≤ (2:Int32).toInt) (Int.le_trans (by decide : (2:Int32).toInt ≤ (2:Int)) (by decide : (2:Int) ≤ 7))) rfl hX rfl (fun w28 gi28 gl28 gr28 l28 u28 hI hX hC28 q28 => ?_)
          have q28 : (∀ (b : Nat → Int32) (n q : Nat), t_TM b n q gi18 → (gi18 69 18).toInt = 0 → t_MF gi28 (s_fk b n q 2) (s_F b n q)) ∧ w28.toInt = 0 := q28
          exact ev_retZ f_X12_aPort rfl l28 (Int.le_trans u28 (by decide : (0:Int) ≤ 1)) ⟨_, _, _, rfl, hI, hX, ⟨_, rfl, l28, (Int.le_trans u28 (by decide : (0:Int) ≤ 1)), (show ∀ (b : Nat → Int32) (n q : Nat) (D : s_D), t_MS b n q D gi gl → (w28.toInt = 1 ∧ ∃ q2 D2, s_port b n q D = s_ok q2 D2 ∧ t_MS b n q2 D2 gi28 gl28) ∨ (w28.toInt = 0 ∧ ∃ p x D2, x ≠ 0 ∧ s_port b n q D = s_bad b n p x D2 ∧ t_MF gi28 (s_fk b n p x) (s_F b n p)) from (by
                                                            intro b n q D h
                                                            have d0 : (gi 70 1400).toInt = D 0 := h.2.1.2.1.1.1.1
                                                            obtain ⟨_, hN, hU, t1, m1, n1⟩ := (q11 b n q D h).resolve_right (fun hh => by rcases hh with hh | hh <;> exact absurd hh.1 (by omega))
                                                            obtain ⟨_, w2, t2, m2⟩ := (q18 b n _ t1).resolve_right (fun hh => absurd hh.1 (by omega))
                                                            have hW := (s_mi_W (i := 1) (by decide)).mp w2
                                                            have hB : ¬ s_isB b n _ := fun hh => absurd ((q25.1 b n _ t2).mpr hh) (by omega)
                                                            exact Or.inr ⟨q28.2, _, 2, D, by decide, by simp only [s_port, s_name, s_kw, s_ifF (show ¬ D 0 = 6 by omega), s_ifT hN, s_ifF hU, s_ifT hW, s_ifF hB], q28.1 b n _ t2 (by rw [m2.1, m1.1]; exact h.2.2.1)⟩))⟩⟩
        · have r29 : w25.toInt ≠ 0 := fun e => h26 (Int32.toInt_inj.mp (e.trans (by decide : (0:Int) = (0 : Int32).toInt)))
          have l30 : 1 ≤ w25.toInt := t_nel h26 l25 rfl rfl
          refine ev_loc f_X12_aPort (nx := 66) rfl rfl rfl rfl ?_
          refine ev_getR f_X12_aPort (nx := 69) rfl (hI.wf.s rfl) rfl rfl (hI.wf.r rfl) rfl rfl ?_
          refine ev_loc f_X12_aPort (nx := 70) rfl rfl rfl rfl ?_
          refine ev_loc f_X12_aPort (nx := 71) rfl rfl rfl rfl ?_
          refine ev_gvI f_X12_aPort (nx := 74) (w := (gi18 69 14)) rfl (hI.wf.s rfl) rfl rfl rfl rfl ?_
          refine ev_loc f_X12_aPort (nx := 75) rfl rfl rfl rfl ?_
          refine ev_gvI f_X12_aPort (nx := 78) (w := (gi18 69 13)) rfl (hI.wf.s rfl) rfl rfl rfl rfl ?_
          refine ev_subR f_X12_aPort (nx := 79) (l := (-900)) (u := 900) rfl l20 u20 l19 u19 rfl rfl (by decide) (by decide) rfl (fun z31 e31 l31 u31 => ?_)
          have u33 : z31.toInt ≤ (6:Int) := (by omega)
          refine ev_iastT f_X12_aPort (nx := 80) rfl (hI.wf.s rfl) l5 (by decide) u5 (by decide) rfl (hI.astA (x := (gi 70 1400)) (hI.wf.s rfl) (by decide +kernel : t_abwa 70 1410 7 0 5 (-900) 6 = true) (by omega) (by omega) (by omega) l31 u33 rfl) (hX.upI (t_inR (p := 1410) (m := 1452) rfl l5 (by decide) u5 (by decide) (by decide))) (fun g32 e32 hI hX => ?_)
          refine ev_ic f_X12_aPort (nx := 81) (v := 0) rfl (by decide) rfl ?_
          refine ev_loc f_X12_aPort (nx := 82) (lo' := [(3, .int 0), (2, .int z5), (1, .int (gi 70 1400)), (0, .ref 69)]) rfl rfl rfl rfl ?_
          have L34 : ∀ (m34 : Nat) (gi34 : Nat → Nat → Int32) (gl34 : Nat → Nat → Int64) (gr34 : Nat → Nat → Value) (y34_3 : Int32), t_I sh gi34 gr34 → t_X wl_n_aPort sh gi gl gr gi34 gl34 gr34 → 0 ≤ y34_3.toInt → y34_3.toInt ≤ 6 → gi34 69 13 = (gi18 69 13) → gi34 69 14 = (gi18 69 14) → gi34 70 1400 = (gi 70 1400) → (∀ (b : Nat → Int32) (n q : Nat) (D : s_D), t_MS b n q D gi gl → t_PB b n q D gi34 gl34 ∧ t_PC b n q D y34_3 gi34) → (6 - y34_3.toInt).toNat = m34 → x_Ev X (d + 8) n_X12_aPort 82 [(3, .int y34_3), (2, .int z5), (1, .int (gi 70 1400)), (0, .ref 69)] [] (sh, gi34, gl34, gr34) (t_PI wl_n_aPort sh gi gl gr 0 1 (Q_n_aPort gi gl gr)) := by
            intro m34
            induction m34 using Nat.strongRecOn with
            | _ m34 ih34 =>
            intro gi34 gl34 gr34 y34_3 hI hX l34_3 u34_3 c34_0 c34_1 c34_2 j34_0 hm34
            refine ev_loc f_X12_aPort (nx := 83) rfl rfl rfl rfl ?_
            refine ev_bp f_X12_aPort (nx := 85) (v := 6) rfl (by decide) rfl ?_
            refine ev_if f_X12_aPort (t1 := 128) (t2 := 88) rfl rfl rfl (fun h35 => ?_) (fun h35 => ?_)
            · have l36 : 6 ≤ y34_3.toInt := t_lel h35 (by decide : (6:Int) ≤ (6:Int32).toInt)
              refine ev_sp f_X12_aPort (nx := 131) (v := 1410) rfl (by decide) rfl ?_
              refine ev_loc f_X12_aPort (nx := 132) (lo' := [(3, .int 1410), (2, .int z5), (1, .int (gi 70 1400)), (0, .ref 69)]) rfl rfl rfl rfl ?_
              have L37 : ∀ (m37 : Nat) (y37_3 : Int32), 1410 ≤ y37_3.toInt → y37_3.toInt ≤ 1452 → (∀ (b : Nat → Int32) (n q : Nat) (D : s_D), t_MS b n q D gi gl → ∃ i : Nat, (y37_3.toInt = 1410 + 7 * (i : Int) ∧ (i : Int) ≤ D 0) ∧ ∀ t : Nat, t < i → D (10 + t) ≠ (s_L b n (s_p3 b n q)).toInt) → (1452 - y37_3.toInt).toNat = m37 → x_Ev X (d + 8) n_X12_aPort 132 [(3, .int y37_3), (2, .int z5), (1, .int (gi 70 1400)), (0, .ref 69)] [] (sh, gi34, gl34, gr34) (t_PI wl_n_aPort sh gi gl gr 0 1 (Q_n_aPort gi gl gr)) := by
                intro m37
                induction m37 using Nat.strongRecOn with
                | _ m37 ih37 =>
                intro y37_3 l37_3 u37_3 j37_0 hm37
                refine ev_loc f_X12_aPort (nx := 133) rfl rfl rfl rfl ?_
                refine ev_loc f_X12_aPort (nx := 134) rfl rfl rfl rfl ?_
                refine ev_if f_X12_aPort (t1 := 206) (t2 := 137) rfl rfl rfl (fun h38 => ?_) (fun h38 => ?_)
                · have r39 : z5.toInt ≤ y37_3.toInt := Int32.le_iff_toInt_le.mp h38
                  refine ev_loc f_X12_aPort (nx := 207) rfl rfl rfl rfl ?_
                  refine ev_qN f_X12_aPort (nx := 210) (r := []) rfl rfl rfl rfl rfl rfl rfl (c_n_ahead hI ) rfl hX rfl (fun gi40 gl40 gr40 hI hX hC40 q40 => ?_)
                  have q40 : ∀ (b : Nat → Int32) (n q : Nat), t_Sm b n q gi34 → t_TM b n q gi40 := q40
                  obtain ⟨l41, u41⟩ := hI.b (hI.wf.s (k := 69) rfl) (t_bdK rfl : t_bd 11 13 = some (0, 900))
                  obtain ⟨l42, u42⟩ := hI.b (hI.wf.s (k := 69) rfl) (t_bdK rfl : t_bd 11 14 = some (0, 900))
                  refine ev_loc f_X12_aPort (nx := 211) rfl rfl rfl rfl ?_
                  refine ev_getR f_X12_aPort (nx := 214) rfl (hI.wf.s rfl) rfl rfl (hI.wf.r rfl) rfl rfl ?_
                  refine ev_sp f_X12_aPort (nx := 217) (v := 1400) rfl (by decide) rfl ?_
                  refine ev_alu f_X12_aPort (nx := 218) rfl rfl rfl rfl ?_
                  refine ev_ialdv f_X12_aPort (nx := 219) (w := (gi 70 1400)) rfl (hI.wf.s rfl) (by decide) (rfl : (1400 : Int32).toNatClampNeg = 1400) (by decide) ((hC40.1 70 1400 rfl).1.trans c34_2) rfl ?_
                  refine ev_ic f_X12_aPort (nx := 220) (v := 1) rfl (by decide) rfl ?_
                  refine ev_addC f_X12_aPort (nx := 221) (c := 1) (l := 1) (u := 6) rfl (by decide) l3 u10 rfl rfl (by decide) (by decide) rfl (fun z44 e44 l44 u44 => ?_)
                  refine ev_iastT f_X12_aPort (nx := 222) rfl (hI.wf.s rfl) (by decide : (1400:Int) ≤ (1400:Int32).toInt) (by decide) (by decide : (1400:Int32).toInt ≤ (1400:Int)) (by decide) rfl (hI.astL (hI.wf.s rfl) (by decide +kernel : t_abw 70 1400 1400 1 6 = true) (t_cl1 (by decide : (1400:Int) ≤ (1400:Int32).toInt) (by decide)) (t_cl2 (by decide : (1400:Int) ≤ (1400:Int32).toInt) (by decide : (1400:Int32).toInt ≤ (1400:Int)) (by decide) (by decide)) l44 u44 rfl) (hX.upI (t_inR (p := 1400) (m := 1400) rfl (by decide : (1400:Int) ≤ (1400:Int32).toInt) (by decide) (by decide : (1400:Int32).toInt ≤ (1400:Int)) (by decide) (by decide))) (fun g45 e45 hI hX => ?_)
                  refine ev_ic f_X12_aPort (nx := 223) (v := 1) rfl (by decide) rfl ?_
                  exact ev_ret f_X12_aPort rfl rfl rfl ⟨_, _, _, rfl, hI, hX, ⟨_, rfl, (Int.le_trans (by decide : (0:Int) ≤ 1) (by decide : (1:Int) ≤ (1:Int32).toInt)), (by decide : (1:Int32).toInt ≤ (1:Int)), (show ∀ (b : Nat → Int32) (n q : Nat) (D : s_D), t_MS b n q D gi gl → ((1 : Int) = 1 ∧ ∃ q2 D2, s_port b n q D = s_ok q2 D2 ∧ t_MS b n q2 D2 g45 gl40) ∨ ((1 : Int) = 0 ∧ ∃ p x D2, x ≠ 0 ∧ s_port b n q D = s_bad b n p x D2 ∧ t_MF g45 (s_fk b n p x) (s_F b n p)) from (by
                                                            intro b n q D h
                                                            obtain ⟨hP, hc⟩ := j34_0 b n q D h
                                                            obtain ⟨i, ⟨hi1, hi2⟩, hi3⟩ := j37_0 b n q D h
                                                            have d0 : (gi 70 1400).toInt = D 0 := h.2.1.2.1.1.1.1
                                                            have h6 := hP.1.1
                                                            have hx : ¬ ∃ i : Nat, (i : Int) < D 0 ∧ D (10 + i) = (s_L b n (s_p3 b n q)).toInt := fun ⟨u, hu, hh⟩ => hi3 u (by omega) hh
                                                            have hpn := t_PC_p hc hP.1.2.2.2.2 (by omega)
                                                            have d40 := congrArg Int32.toInt ((hC40.1 70 1400 rfl).1.trans c34_2)
                                                            exact Or.inl ⟨rfl, _, _, by simp only [s_port, s_name, s_kw, s_ifF (show ¬ D 0 = 6 by omega), s_ifT hP.1.2.1, s_ifF hP.1.2.2.1, s_ifT hP.1.2.2.2.1, s_ifT hP.1.2.2.2.2, s_ifF hx], t_MS_port hP hpn (q40 b n _ hP.2.1.S) ⟨(hC40.1 69 18 rfl).1, (hC40.1 69 17 rfl).1⟩ (fun j => (hC40.1 70 j rfl).1) (fun j => (hC40.1 71 j rfl).2.1) (hC40.1 69 20 rfl).1 (by omega) e45⟩))⟩⟩
                · have r46 : y37_3.toInt < z5.toInt := Int32.lt_iff_toInt_lt.mp (t_nle h38)
                  have u47 : y37_3.toInt ≤ 1451 := t_ltu (t_nle h38) u5 rfl
                  have l48 : 1411 ≤ z5.toInt := t_ltl (t_nle h38) l37_3 rfl
                  refine ev_ic f_X12_aPort (nx := 138) (v := 1) rfl (by decide) rfl ?_
                  refine ev_loc f_X12_aPort (nx := 140) (lo' := [(4, .int 1), (3, .int y37_3), (2, .int z5), (1, .int (gi 70 1400)), (0, .ref 69)]) rfl rfl rfl rfl ?_
                  refine ev_ic f_X12_aPort (nx := 141) (v := 0) rfl (by decide) rfl ?_
                  refine ev_loc f_X12_aPort (nx := 143) (lo' := [(5, .int 0), (4, .int 1), (3, .int y37_3), (2, .int z5), (1, .int (gi 70 1400)), (0, .ref 69)]) rfl rfl rfl rfl ?_
                  have L49 : ∀ (m49 : Nat) (y49_5 : Int32) (y49_4 : Int32), 0 ≤ y49_5.toInt → y49_5.toInt ≤ 7 → 0 ≤ y49_4.toInt → y49_4.toInt ≤ 1 → (∀ (b : Nat → Int32) (n q : Nat) (D : s_D), t_MS b n q D gi gl → (y49_4.toInt ≠ 0 ∧ ∀ t : Nat, (t : Int) < y49_5.toInt → gi34 70 (y37_3.toNatClampNeg + t) = gi34 70 (z5.toNatClampNeg + t)) ∨ (y49_4.toInt = 0 ∧ ∃ t : Nat, t < 7 ∧ gi34 70 (y37_3.toNatClampNeg + t) ≠ gi34 70 (z5.toNatClampNeg + t))) → (7 - y49_5.toInt).toNat = m49 → x_Ev X (d + 8) n_X12_aPort 143 [(5, .int y49_5), (4, .int y49_4), (3, .int y37_3), (2, .int z5), (1, .int (gi 70 1400)), (0, .ref 69)] [] (sh, gi34, gl34, gr34) (t_PI wl_n_aPort sh gi gl gr 0 1 (Q_n_aPort gi gl gr)) := by
                    intro m49
                    induction m49 using Nat.strongRecOn with
                    | _ m49 ih49 =>
                    intro y49_5 y49_4 l49_5 u49_5 l49_4 u49_4 j49_0 hm49
                    refine ev_loc f_X12_aPort (nx := 145) rfl rfl rfl rfl ?_
                    refine ev_bp f_X12_aPort (nx := 147) (v := 7) rfl (by decide) rfl ?_
                    refine ev_if f_X12_aPort (t1 := 189) (t2 := 150) rfl rfl rfl (fun h50 => ?_) (fun h50 => ?_)
                    · have l51 : 7 ≤ y49_5.toInt := t_lel h50 (by decide : (7:Int) ≤ (7:Int32).toInt)
                      refine ev_loc f_X12_aPort (nx := 191) rfl rfl rfl rfl ?_
                      refine ev_if f_X12_aPort (t1 := 200) (t2 := 194) rfl rfl rfl (fun h52 => ?_) (fun h52 => ?_)
                      · have u53 : y49_4.toInt ≤ 0 := t_equ h52 (by decide : (0:Int32).toInt ≤ (0:Int))
                        refine ev_incR f_X12_aPort (nx := 203) (c := 7) (l := 1417) (u := 1458) rfl rfl (by decide) (by decide) l37_3 u47 rfl rfl (by decide) (by decide) rfl (fun z54 e54 l54 u54 => ?_)
                        refine ev_jmp f_X12_aPort (nx := 132) rfl rfl rfl ?_
                        refine ev_sub (lo := [(3, .int z54), (2, .int z5), (1, .int (gi 70 1400)), (0, .ref 69)]) rfl (t_sc rfl (t_sc rfl (t_sc rfl (t_sc rfl t_sn)))) ?_
                        exact ih37 _ (by omega) (z54) (Int.le_trans (by decide : (1410:Int) ≤ 1417) l54) (by omega : z54.toInt ≤ (1452:Int)) (fun b n q D h => (by
                                                            obtain ⟨hP, hc⟩ := j34_0 b n q D h
                                                            obtain ⟨i, ⟨hi1, hi2⟩, hi3⟩ := j37_0 b n q D h
                                                            have d0 : (gi 70 1400).toInt = D 0 := h.2.1.2.1.1.1.1
                                                            have b0 := h.2.1.1.1
                                                            have h6 := hP.1.1
                                                            have hcp := t_clamp (i := z5) (by omega)
                                                            have hca := t_clamp (i := y37_3) (by omega)
                                                            have hlt : (i : Int) < D 0 := by omega
                                                            have hpn := t_PC_p hc hP.1.2.2.2.2 (by omega)
                                                            have hpi := hP.2.2.1.2.1.2.1 i hlt
                                                            have hpa : ∀ t : Nat, gi34 70 (1400 + 10 + 7 * i + t) = gi34 70 (y37_3.toNatClampNeg + t) := fun t => by rw [show 1400 + 10 + 7 * i + t = y37_3.toNatClampNeg + t from (by omega)]
                                                            have hpp : ∀ t : Nat, gi34 70 (1410 + 7 * (D 0).toNat + t) = gi34 70 (z5.toNatClampNeg + t) := fun t => by rw [show 1410 + 7 * (D 0).toNat + t = z5.toNatClampNeg + t from (by omega)]
                                                            rcases j49_0 b n q D h with hh | hh
                                                            · exact absurd hh.1 (by omega)
                                                            · obtain ⟨_, u, hu, hne⟩ := hh
                                                              have hx : D (10 + i) ≠ (s_L b n (s_p3 b n q)).toInt := fun e => hne (by rw [← hpa u, ← hpp u]; exact (t_pr_eq hpi hpn).mpr e u hu)
                                                              exact ⟨i + 1, ⟨by omega, by omega⟩, fun t ht => by by_cases hti : t = i; (rw [hti]; exact hx); (exact hi3 t (by omega))⟩)) rfl
                      · have r55 : y49_4.toInt ≠ 0 := fun e => h52 (Int32.toInt_inj.mp (e.trans (by decide : (0:Int) = (0 : Int32).toInt)))
                        have l56 : 1 ≤ y49_4.toInt := t_nel h52 l49_4 rfl rfl
                        refine ev_loc f_X12_aPort (nx := 195) rfl rfl rfl rfl ?_
                        refine ev_ic f_X12_aPort (nx := 196) (v := 5) rfl (by decide) rfl ?_
                        refine ev_qI f_X12_aPort (nx := 199) (r := []) rfl rfl rfl rfl rfl rfl rfl (c_n_fails hI (5) (Int.le_trans (by decide : (2:Int) ≤ 5) (by decide : (5:Int) ≤ (5:Int32).toInt)) (Int.le_trans (by decide : (5:Int32).toInt ≤ (5:Int)) (by decide : (5:Int) ≤ 7))) rfl hX rfl (fun w57 gi57 gl57 gr57 l57 u57 hI hX hC57 q57 => ?_)
                        have q57 : (∀ (b : Nat → Int32) (n q : Nat), t_TM b n q gi34 → (gi34 69 18).toInt = 0 → t_MF gi57 (s_fk b n q 5) (s_F b n q)) ∧ w57.toInt = 0 := q57
                        exact ev_retZ f_X12_aPort rfl l57 (Int.le_trans u57 (by decide : (0:Int) ≤ 1)) ⟨_, _, _, rfl, hI, hX, ⟨_, rfl, l57, (Int.le_trans u57 (by decide : (0:Int) ≤ 1)), (show ∀ (b : Nat → Int32) (n q : Nat) (D : s_D), t_MS b n q D gi gl → (w57.toInt = 1 ∧ ∃ q2 D2, s_port b n q D = s_ok q2 D2 ∧ t_MS b n q2 D2 gi57 gl57) ∨ (w57.toInt = 0 ∧ ∃ p x D2, x ≠ 0 ∧ s_port b n q D = s_bad b n p x D2 ∧ t_MF gi57 (s_fk b n p x) (s_F b n p)) from (by
                                                            intro b n q D h
                                                            obtain ⟨hP, hc⟩ := j34_0 b n q D h
                                                            obtain ⟨i, ⟨hi1, hi2⟩, hi3⟩ := j37_0 b n q D h
                                                            have d0 : (gi 70 1400).toInt = D 0 := h.2.1.2.1.1.1.1
                                                            have b0 := h.2.1.1.1
                                                            have h6 := hP.1.1
                                                            have hcp := t_clamp (i := z5) (by omega)
                                                            have hca := t_clamp (i := y37_3) (by omega)
                                                            have hlt : (i : Int) < D 0 := by omega
                                                            have hpn := t_PC_p hc hP.1.2.2.2.2 (by omega)
                                                            have hpi := hP.2.2.1.2.1.2.1 i hlt
                                                            have hpa : ∀ t : Nat, gi34 70 (1400 + 10 + 7 * i + t) = gi34 70 (y37_3.toNatClampNeg + t) := fun t => by rw [show 1400 + 10 + 7 * i + t = y37_3.toNatClampNeg + t from (by omega)]
                                                            have hpp : ∀ t : Nat, gi34 70 (1410 + 7 * (D 0).toNat + t) = gi34 70 (z5.toNatClampNeg + t) := fun t => by rw [show 1410 + 7 * (D 0).toNat + t = z5.toNatClampNeg + t from (by omega)]
                                                            rcases j49_0 b n q D h with hh | hh
                                                            rotate_left
                                                            · exact absurd hh.1 (by omega)
                                                            have hx : ∃ i : Nat, (i : Int) < D 0 ∧ D (10 + i) = (s_L b n (s_p3 b n q)).toInt := ⟨i, hlt, (t_pr_eq hpi hpn).mp (fun u hu => by show gi34 70 (1400 + 10 + 7 * i + u) = gi34 70 (1410 + 7 * (D 0).toNat + u); rw [hpa u, hpp u]; exact hh.2 u (by omega))⟩
                                                            exact Or.inr ⟨q57.2, (s_p3 b n q), 5, D, by decide, by simp only [s_port, s_name, s_kw, s_ifF (show ¬ D 0 = 6 by omega), s_ifT hP.1.2.1, s_ifF hP.1.2.2.1, s_ifT hP.1.2.2.2.1, s_ifT hP.1.2.2.2.2, s_ifT hx], q57.1 b n _ hP.2.1 hP.2.2.2.1⟩))⟩⟩
                    · have u58 : y49_5.toInt ≤ 6 := t_ltu (t_nle h50) (by decide : (7:Int32).toInt ≤ (7:Int)) rfl
                      refine ev_loc f_X12_aPort (nx := 152) rfl rfl rfl rfl ?_
                      refine ev_if f_X12_aPort (t1 := 180) (t2 := 155) rfl rfl rfl (fun h59 => ?_) (fun h59 => ?_)
                      · have u60 : y49_4.toInt ≤ 0 := t_equ h59 (by decide : (0:Int32).toInt ≤ (0:Int))
                        refine ev_ic f_X12_aPort (nx := 181) (v := 0) rfl (by decide) rfl ?_
                        refine ev_loc f_X12_aPort (nx := 183) (lo' := [(4, .int 0), (5, .int y49_5), (3, .int y37_3), (2, .int z5), (1, .int (gi 70 1400)), (0, .ref 69)]) rfl rfl rfl rfl ?_
                        refine ev_incR f_X12_aPort (nx := 186) (c := 1) (l := 1) (u := 7) rfl rfl (by decide) (by decide) l49_5 u58 rfl rfl (by decide) (by decide) rfl (fun z61 e61 l61 u61 => ?_)
                        refine ev_jmp f_X12_aPort (nx := 143) rfl rfl rfl ?_
                        refine ev_sub (lo := [(5, .int z61), (4, .int 0), (3, .int y37_3), (2, .int z5), (1, .int (gi 70 1400)), (0, .ref 69)]) rfl (t_sc rfl (t_sc rfl (t_sc rfl (t_sc rfl (t_sc rfl (t_sc rfl t_sn)))))) ?_
                        exact ih49 _ (by omega) (z61) (0) (Int.le_trans (by decide : (0:Int) ≤ 1) l61) u61 (by decide : (0:Int) ≤ (0:Int32).toInt) (Int.le_trans (by decide : (0:Int32).toInt ≤ (0:Int)) (by decide : (0:Int) ≤ 1)) (fun b n q D h => (by
                                                            rcases j49_0 b n q D h with hh | hh
                                                            · exact absurd hh.1 (by omega)
                                                            · exact Or.inr ⟨rfl, hh.2⟩)) rfl
                      · have r62 : y49_4.toInt ≠ 0 := fun e => h59 (Int32.toInt_inj.mp (e.trans (by decide : (0:Int) = (0 : Int32).toInt)))
                        have l63 : 1 ≤ y49_4.toInt := t_nel h59 l49_4 rfl rfl
                        refine ev_loc f_X12_aPort (nx := 156) rfl rfl rfl rfl ?_
                        refine ev_getR f_X12_aPort (nx := 159) rfl (hI.wf.s rfl) rfl rfl (hI.wf.r rfl) rfl rfl ?_
                        refine ev_loc f_X12_aPort (nx := 160) rfl rfl rfl rfl ?_
                        refine ev_loc f_X12_aPort (nx := 162) rfl rfl rfl rfl ?_
                        refine ev_addR f_X12_aPort (nx := 163) (l := 1410) (u := 1457) rfl l37_3 u47 l49_5 u58 rfl rfl (by decide) (by decide) rfl (fun z64 e64 l64 u64 => ?_)
                        refine ev_ialdT f_X12_aPort (nx := 164) rfl (hI.wf.s rfl) l64 (by decide) u64 (by decide) rfl (fun w65 e65 => ?_)
                        obtain ⟨l65, u65⟩ := hI.abi e65 (by decide +kernel : t_abr 70 1410 1457 (-900) 255 = true) l64 (by decide) u64 (by decide)
                        refine ev_loc f_X12_aPort (nx := 165) rfl rfl rfl rfl ?_
                        refine ev_getR f_X12_aPort (nx := 168) rfl (hI.wf.s rfl) rfl rfl (hI.wf.r rfl) rfl rfl ?_
                        refine ev_loc f_X12_aPort (nx := 169) rfl rfl rfl rfl ?_
                        refine ev_loc f_X12_aPort (nx := 171) rfl rfl rfl rfl ?_
                        refine ev_addR f_X12_aPort (nx := 172) (l := 1411) (u := 1458) rfl l48 u5 l49_5 u58 rfl rfl (by decide) (by decide) rfl (fun z66 e66 l66 u66 => ?_)
                        refine ev_ialdT f_X12_aPort (nx := 173) rfl (hI.wf.s rfl) l66 (by decide) u66 (by decide) rfl (fun w67 e67 => ?_)
                        obtain ⟨l67, u67⟩ := hI.abi e67 (by decide +kernel : t_abr 70 1411 1458 (-900) 255 = true) l66 (by decide) u66 (by decide)
                        refine ev_if f_X12_aPort (t1 := 176) (t2 := 180) rfl rfl rfl (fun h68 => ?_) (fun h68 => ?_)
                        · have r69 : w65.toInt = w67.toInt := t_eqi h68
                          refine ev_ic f_X12_aPort (nx := 177) (v := 1) rfl (by decide) rfl ?_
                          refine ev_jmp f_X12_aPort (nx := 181) rfl rfl rfl ?_
                          refine ev_loc f_X12_aPort (nx := 183) (lo' := [(4, .int 1), (5, .int y49_5), (3, .int y37_3), (2, .int z5), (1, .int (gi 70 1400)), (0, .ref 69)]) rfl rfl rfl rfl ?_
                          refine ev_incR f_X12_aPort (nx := 186) (c := 1) (l := 1) (u := 7) rfl rfl (by decide) (by decide) l49_5 u58 rfl rfl (by decide) (by decide) rfl (fun z70 e70 l70 u70 => ?_)
                          refine ev_jmp f_X12_aPort (nx := 143) rfl rfl rfl ?_
                          refine ev_sub (lo := [(5, .int z70), (4, .int 1), (3, .int y37_3), (2, .int z5), (1, .int (gi 70 1400)), (0, .ref 69)]) rfl (t_sc rfl (t_sc rfl (t_sc rfl (t_sc rfl (t_sc rfl (t_sc rfl t_sn)))))) ?_
                          exact ih49 _ (by omega) (z70) (1) (Int.le_trans (by decide : (0:Int) ≤ 1) l70) u70 (Int.le_trans (by decide : (0:Int) ≤ 1) (by decide : (1:Int) ≤ (1:Int32).toInt)) (by decide : (1:Int32).toInt ≤ (1:Int)) (fun b n q D h => (by
                                                            have c1_ := t_clamp (i := y37_3) (by omega)
                                                            have c2_ := t_clamp (i := z5) (by omega)
                                                            have c3_ := t_clamp (i := y49_5) (by omega)
                                                            have c4_ := t_clamp (i := z64) (by omega)
                                                            have c5_ := t_clamp (i := z66) (by omega)
                                                            rcases j49_0 b n q D h with hh | hh
                                                            · refine Or.inl ⟨by decide, fun t ht => ?_⟩
                                                              by_cases ht5 : t = y49_5.toNatClampNeg
                                                              · rw [ht5, show y37_3.toNatClampNeg + y49_5.toNatClampNeg = z64.toNatClampNeg from (by omega), show z5.toNatClampNeg + y49_5.toNatClampNeg = z66.toNatClampNeg from (by omega), ← e65, ← e67]; exact h68
                                                              · exact hh.2 t (by omega)
                                                            · exact absurd hh.1 (by omega))) rfl
                        · have r71 : w65.toInt ≠ w67.toInt := t_nei h68
                          refine ev_ic f_X12_aPort (nx := 181) (v := 0) rfl (by decide) rfl ?_
                          refine ev_loc f_X12_aPort (nx := 183) (lo' := [(4, .int 0), (5, .int y49_5), (3, .int y37_3), (2, .int z5), (1, .int (gi 70 1400)), (0, .ref 69)]) rfl rfl rfl rfl ?_
                          refine ev_incR f_X12_aPort (nx := 186) (c := 1) (l := 1) (u := 7) rfl rfl (by decide) (by decide) l49_5 u58 rfl rfl (by decide) (by decide) rfl (fun z72 e72 l72 u72 => ?_)
                          refine ev_jmp f_X12_aPort (nx := 143) rfl rfl rfl ?_
                          refine ev_sub (lo := [(5, .int z72), (4, .int 0), (3, .int y37_3), (2, .int z5), (1, .int (gi 70 1400)), (0, .ref 69)]) rfl (t_sc rfl (t_sc rfl (t_sc rfl (t_sc rfl (t_sc rfl (t_sc rfl t_sn)))))) ?_
                          exact ih49 _ (by omega) (z72) (0) (Int.le_trans (by decide : (0:Int) ≤ 1) l72) u72 (by decide : (0:Int) ≤ (0:Int32).toInt) (Int.le_trans (by decide : (0:Int32).toInt ≤ (0:Int)) (by decide : (0:Int) ≤ 1)) (fun b n q D h => (by
                                                            have c1_ := t_clamp (i := y37_3) (by omega)
                                                            have c2_ := t_clamp (i := z5) (by omega)
                                                            have c3_ := t_clamp (i := y49_5) (by omega)
                                                            have c4_ := t_clamp (i := z64) (by omega)
                                                            have c5_ := t_clamp (i := z66) (by omega)
                                                            refine Or.inr ⟨rfl, y49_5.toNatClampNeg, by omega, fun e => h68 ?_⟩
                                                            rw [e65, e67, show z64.toNatClampNeg = y37_3.toNatClampNeg + y49_5.toNatClampNeg from (by omega), show z66.toNatClampNeg = z5.toNatClampNeg + y49_5.toNatClampNeg from (by omega)]; exact e)) rfl
                  refine ev_sub (lo := [(5, .int 0), (4, .int 1), (3, .int y37_3), (2, .int z5), (1, .int (gi 70 1400)), (0, .ref 69)]) rfl (t_sc rfl (t_sc rfl (t_sc rfl (t_sc rfl (t_sc rfl (t_sc rfl t_sn)))))) ?_
                  exact L49 _ (0) (1) (by decide : (0:Int) ≤ (0:Int32).toInt) (Int.le_trans (by decide : (0:Int32).toInt ≤ (0:Int)) (by decide : (0:Int) ≤ 7)) (Int.le_trans (by decide : (0:Int) ≤ 1) (by decide : (1:Int) ≤ (1:Int32).toInt)) (by decide : (1:Int32).toInt ≤ (1:Int)) (fun b n q D h => Or.inl ⟨by decide, fun t ht => absurd ht (by have : (0 : Int32).toInt = 0 := rfl; omega)⟩) rfl
              refine ev_sub (lo := [(3, .int 1410), (2, .int z5), (1, .int (gi 70 1400)), (0, .ref 69)]) rfl (t_sc rfl (t_sc rfl (t_sc rfl (t_sc rfl t_sn)))) ?_
              exact L37 _ (1410) (by decide : (1410:Int) ≤ (1410:Int32).toInt) (Int.le_trans (by decide : (1410:Int32).toInt ≤ (1410:Int)) (by decide : (1410:Int) ≤ 1452)) (fun b n q D h => ⟨0, ⟨by have : (1410 : Int32).toInt = 1410 := rfl; omega, h.2.1.1.1.1⟩, fun t ht => absurd ht (Nat.not_lt_zero t)⟩) rfl
            · have u73 : y34_3.toInt ≤ 5 := t_ltu (t_nle h35) (by decide : (6:Int32).toInt ≤ (6:Int)) rfl
              refine ev_loc f_X12_aPort (nx := 89) rfl rfl rfl rfl ?_
              refine ev_getR f_X12_aPort (nx := 92) rfl (hI.wf.s rfl) rfl rfl (hI.wf.r rfl) rfl rfl ?_
              refine ev_loc f_X12_aPort (nx := 93) rfl rfl rfl rfl ?_
              refine ev_ic f_X12_aPort (nx := 94) (v := 1) rfl (by decide) rfl ?_
              refine ev_addC f_X12_aPort (nx := 95) (c := 1) (l := 1411) (u := 1453) rfl (by decide) l5 u5 rfl rfl (by decide) (by decide) rfl (fun z74 e74 l74 u74 => ?_)
              refine ev_loc f_X12_aPort (nx := 96) rfl rfl rfl rfl ?_
              refine ev_addR f_X12_aPort (nx := 97) (l := 1411) (u := 1458) rfl l74 u74 l34_3 u73 rfl rfl (by decide) (by decide) rfl (fun z75 e75 l75 u75 => ?_)
              refine ev_loc f_X12_aPort (nx := 98) rfl rfl rfl rfl ?_
              refine ev_loc f_X12_aPort (nx := 99) rfl rfl rfl rfl ?_
              refine ev_getR f_X12_aPort (nx := 102) rfl (hI.wf.s rfl) rfl rfl (hI.wf.r rfl) rfl rfl ?_
              refine ev_loc f_X12_aPort (nx := 103) rfl rfl rfl rfl ?_
              refine ev_ialdT f_X12_aPort (nx := 104) rfl (hI.wf.s rfl) l5 (by decide) u5 (by decide) rfl (fun w76 e76 => ?_)
              obtain ⟨l76, u76⟩ := hI.abA (x := (gi 70 1400)) e76 (by decide +kernel : t_aba 70 1410 7 0 5 (-900) 6 = true) (by omega) (by omega) (by omega)
              refine ev_if f_X12_aPort (t1 := 120) (t2 := 107) rfl rfl rfl (fun h77 => ?_) (fun h77 => ?_)
              · have r78 : w76.toInt ≤ y34_3.toInt := Int32.le_iff_toInt_le.mp h77
                have u79 : w76.toInt ≤ 5 := t_leu h77 u73
                refine ev_ic f_X12_aPort (nx := 121) (v := 0) rfl (by decide) rfl ?_
                refine ev_iastT f_X12_aPort (nx := 122) rfl (hI.wf.s rfl) l75 (by decide) u75 (by decide) rfl (hI.astB (x := (gi 70 1400)) (y := y34_3) (hI.wf.s rfl) (by decide +kernel : t_abwb 70 1411 7 5 5 0 0 = true) (by omega) (by omega) (by omega) (by omega) (by omega) (by decide : (0:Int) ≤ (0:Int32).toInt) (by decide : (0:Int32).toInt ≤ (0:Int)) rfl) (hX.upI (t_inR (p := 1411) (m := 1458) rfl l75 (by decide) u75 (by decide) (by decide))) (fun g80 e80 hI hX => ?_)
                refine ev_incR f_X12_aPort (nx := 125) (c := 1) (l := 1) (u := 6) rfl rfl (by decide) (by decide) l34_3 u73 rfl rfl (by decide) (by decide) rfl (fun z81 e81 l81 u81 => ?_)
                refine ev_jmp f_X12_aPort (nx := 82) rfl rfl rfl ?_
                refine ev_sub (lo := [(3, .int z81), (2, .int z5), (1, .int (gi 70 1400)), (0, .ref 69)]) rfl (t_sc rfl (t_sc rfl (t_sc rfl (t_sc rfl t_sn)))) ?_
                exact ih34 _ (by omega) g80 gl34 gr34 (z81) hI hX  (Int.le_trans (by decide : (0:Int) ≤ 1) l81) u81 ((by rw [e80]; exact x_up2_off (Or.inl (by decide)) : g80 69 13 = gi34 69 13).trans c34_0) ((by rw [e80]; exact x_up2_off (Or.inl (by decide)) : g80 69 14 = gi34 69 14).trans c34_1) ((by rw [e80]; exact x_up2_off (Or.inr (t_neCl l75 (by decide))) : g80 70 1400 = gi34 70 1400).trans c34_2) (fun b n q D h => (by
                                                            obtain ⟨hP, hc⟩ := j34_0 b n q D h
                                                            have d0 : (gi 70 1400).toInt = D 0 := h.2.1.2.1.1.1.1
                                                            have b0 := h.2.1.1.1
                                                            have h6 := hP.1.1
                                                            have ht := hP.2.1
                                                            have hE := (s_E_b (b := b) ht.1.2)
                                                            have hF := ht.2.2.1
                                                            have hE2 := ht.2.1
                                                            have hci := t_clamp (i := z75) (by omega)
                                                            have hcy := t_clamp (i := y34_3) (by omega)
                                                            have hcp := t_clamp (i := z5) (by omega)
                                                            have hlen : (gi34 70 z5.toNatClampNeg).toInt = ((s_E b n (s_p3 b n q) : Nat) : Int) - (s_F b n (s_p3 b n q) : Nat) := by rw [show z5.toNatClampNeg = 1410 + 7 * (D 0).toNat from (by omega)]; exact hc.1
                                                            rw [← e76] at hlen
                                                            exact ⟨hP.up (by omega) (by omega) e80, t_PC_s hc (by omega) (by omega) (by omega) (m := z75.toNatClampNeg) (by omega) (by omega) (by rw [if_neg (by omega)]; rfl) e80⟩)) rfl
              · have r82 : y34_3.toInt < w76.toInt := Int32.lt_iff_toInt_lt.mp (t_nle h77)
                have l83 : 1 ≤ w76.toInt := t_ltl (t_nle h77) l34_3 rfl
                refine ev_loc f_X12_aPort (nx := 108) rfl rfl rfl rfl ?_
                refine ev_loc f_X12_aPort (nx := 109) rfl rfl rfl rfl ?_
                refine ev_gvI f_X12_aPort (nx := 112) (w := (gi18 69 13)) rfl (hI.wf.s rfl) rfl rfl c34_0 rfl ?_
                refine ev_loc f_X12_aPort (nx := 113) rfl rfl rfl rfl ?_
                refine ev_addR f_X12_aPort (nx := 114) (l := 0) (u := 905) rfl l19 u19 l34_3 u73 rfl rfl (by decide) (by decide) rfl (fun z84 e84 l84 u84 => ?_)
                refine ev_qI0 f_X12_aPort (nx := 117) (r := [.int z75, .ref 70]) rfl rfl rfl rfl rfl rfl rfl (c_n_byteAt hI (z84) l84) rfl (fun w85 l85 u85 q85 => ?_)
                have q85 : (∀ (b : Nat → Int32) (n : Nat), t_Tx b n gi34 → w85.toInt = s_at b n z84.toNatClampNeg) ∧ (w85.toInt ≠ -1 → z84.toInt < (gi34 69 11).toInt) ∧ (w85.toInt = -1 → (gi34 69 11).toInt ≤ z84.toInt) := q85
                refine ev_jmp f_X12_aPort (nx := 121) rfl rfl rfl ?_
                refine ev_iastT f_X12_aPort (nx := 122) rfl (hI.wf.s rfl) l75 (by decide) u75 (by decide) rfl (hI.astB (x := (gi 70 1400)) (y := y34_3) (hI.wf.s rfl) (by decide +kernel : t_abwb 70 1411 7 5 5 (-1) 255 = true) (by omega) (by omega) (by omega) (by omega) (by omega) l85 u85 rfl) (hX.upI (t_inR (p := 1411) (m := 1458) rfl l75 (by decide) u75 (by decide) (by decide))) (fun g86 e86 hI hX => ?_)
                refine ev_incR f_X12_aPort (nx := 125) (c := 1) (l := 1) (u := 6) rfl rfl (by decide) (by decide) l34_3 u73 rfl rfl (by decide) (by decide) rfl (fun z87 e87 l87 u87 => ?_)
                refine ev_jmp f_X12_aPort (nx := 82) rfl rfl rfl ?_
                refine ev_sub (lo := [(3, .int z87), (2, .int z5), (1, .int (gi 70 1400)), (0, .ref 69)]) rfl (t_sc rfl (t_sc rfl (t_sc rfl (t_sc rfl t_sn)))) ?_
                exact ih34 _ (by omega) g86 gl34 gr34 (z87) hI hX  (Int.le_trans (by decide : (0:Int) ≤ 1) l87) u87 ((by rw [e86]; exact x_up2_off (Or.inl (by decide)) : g86 69 13 = gi34 69 13).trans c34_0) ((by rw [e86]; exact x_up2_off (Or.inl (by decide)) : g86 69 14 = gi34 69 14).trans c34_1) ((by rw [e86]; exact x_up2_off (Or.inr (t_neCl l75 (by decide))) : g86 70 1400 = gi34 70 1400).trans c34_2) (fun b n q D h => (by
                                                            obtain ⟨hP, hc⟩ := j34_0 b n q D h
                                                            have d0 : (gi 70 1400).toInt = D 0 := h.2.1.2.1.1.1.1
                                                            have b0 := h.2.1.1.1
                                                            have h6 := hP.1.1
                                                            have ht := hP.2.1
                                                            have hE := (s_E_b (b := b) ht.1.2)
                                                            have hF := ht.2.2.1
                                                            have hE2 := ht.2.1
                                                            have hci := t_clamp (i := z75) (by omega)
                                                            have hcy := t_clamp (i := y34_3) (by omega)
                                                            have hcp := t_clamp (i := z5) (by omega)
                                                            have hlen : (gi34 70 z5.toNatClampNeg).toInt = ((s_E b n (s_p3 b n q) : Nat) : Int) - (s_F b n (s_p3 b n q) : Nat) := by rw [show z5.toNatClampNeg = 1410 + 7 * (D 0).toNat from (by omega)]; exact hc.1
                                                            rw [← e76] at hlen
                                                            have hcb := t_clamp (i := z84) (by omega)
                                                            have hlw := s_K2_wd hP.1.2.2.2.2.1.1 (y34_3.toNatClampNeg) (by omega)
                                                            have hk0 := congrArg Int32.toInt c34_0
                                                            have hkb : z84.toNatClampNeg = s_F b n (s_p3 b n q) + y34_3.toNatClampNeg := by omega
                                                            have hb := (s_at_c (i := s_F b n (s_p3 b n q) + y34_3.toNatClampNeg) ht.1.1.1.2 (c := (b (s_F b n (s_p3 b n q) + y34_3.toNatClampNeg)).toInt) (by omega) (by omega)).mpr ⟨by omega, rfl⟩
                                                            have hv : w85.toInt = (b (s_F b n (s_p3 b n q) + y34_3.toNatClampNeg)).toInt := by rw [q85.1 b n ht.1.1, hkb]; exact hb
                                                            exact ⟨hP.up (by omega) (by omega) e86, t_PC_s hc (by omega) (by omega) (by omega) (m := z75.toNatClampNeg) (by omega) (by omega) (by rw [if_pos (by omega)]; exact hv) e86⟩)) rfl
          refine ev_sub (lo := [(3, .int 0), (2, .int z5), (1, .int (gi 70 1400)), (0, .ref 69)]) rfl (t_sc rfl (t_sc rfl (t_sc rfl (t_sc rfl t_sn)))) ?_
          exact L34 _ g32 gl18 gr18 (0) hI hX  (by decide : (0:Int) ≤ (0:Int32).toInt) (Int.le_trans (by decide : (0:Int32).toInt ≤ (0:Int)) (by decide : (0:Int) ≤ 6)) ((by rw [e32]; exact x_up2_off (Or.inl (by decide)) : g32 69 13 = gi18 69 13).trans rfl) ((by rw [e32]; exact x_up2_off (Or.inl (by decide)) : g32 69 14 = gi18 69 14).trans rfl) ((by rw [e32]; exact x_up2_off (Or.inr (t_neCl l5 (by decide))) : g32 70 1400 = gi18 70 1400).trans ((hC18.1 70 1400 rfl).1.trans ((hC11.1 70 1400 rfl).1.trans rfl))) (fun b n q D h => (by
                                                            have d0 : (gi 70 1400).toInt = D 0 := h.2.1.2.1.1.1.1
                                                            have b0 := h.2.1.1.1
                                                            obtain ⟨_, hN, hU, t1, m1, n1⟩ := (q11 b n q D h).resolve_right (fun hh => by rcases hh with hh | hh <;> exact absurd hh.1 (by omega))
                                                            obtain ⟨_, w2, t2, m2⟩ := (q18 b n _ t1).resolve_right (fun hh => absurd hh.1 (by omega))
                                                            have hW := (s_mi_W (i := 1) (by decide)).mp w2
                                                            have hB := (q25.1 b n _ t2).mp (by omega)
                                                            have hc0 := t_clamp (i := gi 70 1400) (by omega)
                                                            have hPB : t_PB b n q D gi18 gl18 := by
                                                              refine ⟨⟨by omega, hN, hU, hW, hB⟩, t2, ⟨h.2.1.1, (h.2.1.2.1.eq (fun j => (hC11.1 70 j rfl).1)).eq (fun j => (hC18.1 70 j rfl).1), ⟨?_, ?_⟩, ?_⟩, ?_⟩
                                                              · have hl : ∀ j, j ≠ 72 + (gi 70 1400).toNatClampNeg → gl18 71 j = gl 71 j := fun j hj => by rw [(hC18.1 71 j rfl).2.1, n1 j, if_neg hj]
                                                                obtain ⟨x0, x1, x2⟩ := h.2.1.2.2.1
                                                                exact ⟨fun i hi => by rw [hl _ (by omega)]; exact x0 i hi, fun i hi => by rw [hl _ (by omega)]; exact x1 i hi, fun i hi => by rw [hl _ (by omega)]; exact x2 i hi⟩
                                                              · rw [(hC18.1 71 _ rfl).2.1, n1, if_pos (by omega)]; exact t_nr_of hN
                                                              · unfold t_Mt; rw [(hC18.1 69 20 rfl).1, (hC11.1 69 20 rfl).1]; exact h.2.1.2.2.2
                                                              · unfold t_MF; rw [m2.1, m2.2, m1.1, m1.2]; exact h.2.2
                                                            have hci := t_clamp (i := z5) (by omega)
                                                            exact ⟨hPB.up (by omega) (by omega) e32, t_PC_0 t2 (m := z5.toNatClampNeg) (by omega) (by omega) (by omega) e32⟩)) rfl
