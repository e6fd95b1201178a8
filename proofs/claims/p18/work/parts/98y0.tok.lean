/-! ===== TOKENS of a text: what both readers see ===== -/
/-- the end of a run of bytes with a property -/
noncomputable def s_run (P : Int → Bool) (b : Nat → Int32) : Nat → Nat → Nat
  | 0, i => i
  | m + 1, i => if P (b i).toInt = true then s_run P b m (i + 1) else i
noncomputable def s_rn (P : Int → Bool) (b : Nat → Int32) (n i : Nat) : Nat := s_run P b (n - i) i
noncomputable def s_bl (x : Int) : Bool := decide (x = 32) || decide (x = 10)
noncomputable def s_sm (x : Int) : Bool := decide (97 ≤ x) && decide (x ≤ 122)
noncomputable def s_dg (x : Int) : Bool := decide (48 ≤ x) && decide (x ≤ 57)
noncomputable def s_sg (x : Int) : Bool := decide (x = 59) || (decide (x = 60) || (decide (x = 62) || (decide (x = 61) || (decide (x = 40) || decide (x = 41)))))
section SRN
variable {P : Int → Bool} {b : Nat → Int32} {n i : Nat}
theorem s_rn_t (hi : i < n) (h : P (b i).toInt = true) : s_rn P b n (i + 1) = s_rn P b n i := by
  unfold s_rn
  rw [show n - i = (n - (i + 1)) + 1 by omega]
  show _ = (if P (b i).toInt = true then _ else _)
  rw [if_pos h]
theorem s_rn_f (h : i < n → P (b i).toInt = false) : s_rn P b n i = i := by
  unfold s_rn
  by_cases hi : i < n
  · rw [show n - i = (n - (i + 1)) + 1 by omega]
    show (if P (b i).toInt = true then _ else _) = _
    rw [if_neg (by rw [h hi]; decide)]
  · rw [show n - i = 0 by omega]; rfl
theorem s_run_b : ∀ (m i : Nat), i ≤ s_run P b m i ∧ s_run P b m i ≤ i + m ∧ ∀ k, i ≤ k → k < s_run P b m i → P (b k).toInt = true
  | 0, i => ⟨Nat.le_refl _, Nat.le_refl _, fun k h1 h2 => by have h2 : k < i := h2; omega⟩
  | m + 1, i => by
    obtain ⟨h1, h2, h3⟩ := s_run_b m (i + 1)
    by_cases h : P (b i).toInt = true
    · have e : s_run P b (m + 1) i = s_run P b m (i + 1) := by
        show (if P (b i).toInt = true then _ else _) = _
        rw [if_pos h]
      rw [e]
      refine ⟨by omega, by omega, fun k hk hk2 => ?_⟩
      by_cases hki : k = i
      · rw [hki]; exact h
      · exact h3 k (by omega) hk2
    · have e : s_run P b (m + 1) i = i := by
        show (if P (b i).toInt = true then _ else _) = _
        rw [if_neg h]
      rw [e]
      exact ⟨Nat.le_refl _, by omega, fun k h1 h2 => by omega⟩
theorem s_rn_b : i ≤ s_rn P b n i ∧ (i ≤ n → s_rn P b n i ≤ n) ∧ ∀ k, i ≤ k → k < s_rn P b n i → P (b k).toInt = true := by
  obtain ⟨h1, h2, h3⟩ := s_run_b (P := P) (b := b) (n - i) i
  exact ⟨h1, fun _ => by unfold s_rn; omega, h3⟩
/-- a run of one byte and more goes on behind it -/
theorem s_rn_lt (hi : i < n) (h : P (b i).toInt = true) : i < s_rn P b n i := by
  have h1 := (s_rn_b (P := P) (b := b) (n := n) (i := i + 1)).1
  rw [s_rn_t hi h] at h1; omega
end SRN
/-- behind what was read to p: where the next TOKEN begins, its kind (0 the end, 1 none, 2 a WORD, 3 a NUMBER, 4 a SIGN), its end -/
noncomputable def s_F (b : Nat → Int32) (n p : Nat) : Nat := s_rn s_bl b n p
noncomputable def s_K (b : Nat → Int32) (n p : Nat) : Nat := if n ≤ s_F b n p then 0 else if s_sm (b (s_F b n p)).toInt = true then 2 else if s_dg (b (s_F b n p)).toInt = true then (if 4 < s_rn s_dg b n (s_F b n p) - s_F b n p then 1 else 3) else if s_sg (b (s_F b n p)).toInt = true then 4 else 1
noncomputable def s_E (b : Nat → Int32) (n p : Nat) : Nat := if n ≤ s_F b n p then s_F b n p else if s_sm (b (s_F b n p)).toInt = true then s_rn s_sm b n (s_F b n p) else if s_dg (b (s_F b n p)).toInt = true then s_rn s_dg b n (s_F b n p) else s_F b n p + 1
theorem s_F_b {b : Nat → Int32} {n p : Nat} (h : p ≤ n) : p ≤ s_F b n p ∧ s_F b n p ≤ n := ⟨s_rn_b.1, s_rn_b.2.1 h⟩
theorem s_E_b {b : Nat → Int32} {n p : Nat} (h : p ≤ n) : s_F b n p ≤ s_E b n p ∧ s_E b n p ≤ n := by
  have h1 := s_F_b (b := b) h
  unfold s_E
  split
  · exact ⟨Nat.le_refl _, h1.2⟩
  split
  · exact ⟨s_rn_b.1, s_rn_b.2.1 h1.2⟩
  split
  · exact ⟨s_rn_b.1, s_rn_b.2.1 h1.2⟩
  · exact ⟨by omega, by omega⟩
/-- letters by 32 as a long, digits by 10 as an int -/
noncomputable def s_ll (b : Nat → Int32) (q : Nat) : Nat → Int64
  | 0 => 0
  | k + 1 => s_ll b q k * 32 + Int64.ofInt ((b (q + k)).toInt - 96)
noncomputable def s_nn (b : Nat → Int32) (q : Nat) : Nat → Int32
  | 0 => 0
  | k + 1 => s_nn b q k * 10 + (b (q + k) - 48)
/-- which of the first keywords has these letters: the last such -/
noncomputable def s_kwm (x : Int64) : Nat → Option Nat
  | 0 => none
  | m + 1 => if x_kwl.getD m 0 = x then some m else s_kwm x m
noncomputable def s_W (b : Nat → Int32) (n p : Nat) : Option Nat := if s_K b n p = 2 ∧ s_E b n p - s_F b n p ≤ 8 then s_kwm (s_ll b (s_F b n p) (s_E b n p - s_F b n p)) 27 else none
noncomputable def s_kv : Option Nat → Value
  | none => .null
  | some i => .retAddr i
noncomputable def s_kc : Nat → Int
  | 0 => 3
  | 1 => 4
  | 2 => 0
  | 3 => 1
  | _ => 2
/-- the reader's TOKEN is the one behind p -/
noncomputable def t_TC (b : Nat → Int32) (n p : Nat) (gi : Nat → Nat → Int32) (gl : Nat → Nat → Int64) (gr : Nat → Nat → Value) (k : Nat) : Prop := (gi 2 = b ∧ (gi k 1).toInt = (n : Int) ∧ p ≤ n) ∧ (gi k 2).toInt = (s_E b n p : Nat) ∧ (gi k 4).toInt = (s_F b n p : Nat) ∧ (gi k 3).toInt = s_kc (s_K b n p) ∧ gr k 7 = s_kv (s_W b n p) ∧ (s_K b n p = 2 → (gi k 5).toInt = ((s_E b n p - s_F b n p : Nat) : Int) ∧ gl k 6 = s_ll b (s_F b n p) (s_E b n p - s_F b n p)) ∧ (s_K b n p = 3 → gi k 8 = s_nn b (s_F b n p) (s_E b n p - s_F b n p)) ∧ (s_K b n p = 4 → gi k 9 = b (s_F b n p))
/-- a step begins behind q -/
noncomputable def t_Sp (b : Nat → Int32) (n q : Nat) (gi : Nat → Nat → Int32) (k : Nat) : Prop := gi 2 = b ∧ (gi k 1).toInt = (n : Int) ∧ (gi k 2).toInt = (q : Int) ∧ q ≤ n
noncomputable def t_S0 (b : Nat → Int32) (n q : Nat) (gi : Nat → Nat → Int32) (gr : Nat → Nat → Value) (k : Nat) : Prop := t_Sp b n q gi k ∧ (gi k 4).toInt = (q : Int) ∧ gr k 7 = .null
/-- within a WORD: to i -/
noncomputable def t_SW (b : Nat → Int32) (n q i : Nat) (gi : Nat → Nat → Int32) (gl : Nat → Nat → Int64) (gr : Nat → Nat → Value) (k : Nat) : Prop := (t_Sp b n i gi k ∧ (gi k 4).toInt = (q : Int) ∧ gr k 7 = .null) ∧ (gi k 3).toInt = 0 ∧ q ≤ i ∧ s_rn s_sm b n i = s_rn s_sm b n q ∧ gl k 6 = s_ll b q (i - q)
section TOK
variable {b : Nat → Int32} {n q i k : Nat} {gi g1 g2 : Nat → Nat → Int32} {gl l1 : Nat → Nat → Int64} {gr r1 : Nat → Nat → Value}
theorem t_S_up (h : t_Sp b n q gi k) (hk : k ≠ 2) {j : Nat} {v : Int32} (hj : j ≠ 1 ∧ j ≠ 2) (e : g1 = x_up2 gi k j v) : t_Sp b n q g1 k := by
  obtain ⟨h1, h2, h3, h4⟩ := h
  subst e
  exact ⟨by rw [x_up2_ne hk.symm]; exact h1, by rw [x_up2_off (Or.inr hj.1.symm)]; exact h2, by rw [x_up2_off (Or.inr hj.2.symm)]; exact h3, h4⟩
theorem t_S_nx (h : t_Sp b n i gi k) (hk : k ≠ 2) {v : Int32} (hv : v.toInt = (i : Int) + 1) (hi : i < n) (e : g1 = x_up2 gi k 2 v) : t_Sp b n (i + 1) g1 k := by
  obtain ⟨h1, h2, h3, h4⟩ := h
  subst e
  exact ⟨by rw [x_up2_ne hk.symm]; exact h1, by rw [x_up2_off (Or.inr (by decide))]; exact h2, by rw [x_up2_at]; omega, hi⟩
/-- the byte that is looked at -/
theorem t_S_w (h : t_Sp b n i gi k) {w x : Int32} (hx : x.toInt = (i : Int)) (ew : w = gi 2 x.toNatClampNeg) : b i = w := by
  have hc := t_clamp (i := x) (by omega)
  rw [ew, h.1, show x.toNatClampNeg = i by omega]
theorem t_SW_0 (h : t_S0 b n q gi gr k) (hk : k ≠ 2) (e1 : g1 = x_up2 gi k 3 0) (e2 : l1 = x_up2 gl k 6 0) : t_SW b n q q g1 l1 gr k := by
  obtain ⟨h1, h4, h5⟩ := h
  refine ⟨⟨t_S_up h1 hk (by decide) e1, ?_, h5⟩, ?_, Nat.le_refl _, rfl, ?_⟩
  · rw [e1, x_up2_off (Or.inr (by decide))]; exact h4
  · rw [e1, x_up2_at]; rfl
  · rw [e2, x_up2_at, Nat.sub_self]; rfl
theorem t_SW_s (h : t_SW b n q i gi gl gr k) (hk : k ≠ 2) (hlt : (gi k 2).toInt < (gi k 1).toInt) {w z : Int32} {zl y : Int64} (ew : w = gi 2 (gi k 2).toNatClampNeg) (lw : 97 ≤ w.toInt) (uw : w.toInt ≤ 122) (ez : z.toInt = (gi k 2).toInt + 1) (el : zl = gl k 6 * 32 + y) (ey : y.toInt = w.toInt - 96) (e2 : l1 = x_up2 gl k 6 zl) (e1 : g1 = x_up2 gi k 2 z) : t_SW b n q (i + 1) g1 l1 gr k := by
  obtain ⟨⟨h1, h4, h5⟩, h3, h6, h7, h8⟩ := h
  have hb := t_S_w h1 h1.2.2.1 ew
  have hn : i < n := by have := h1.2.1; have := h1.2.2.1; omega
  refine ⟨⟨t_S_nx h1 hk (by rw [ez, h1.2.2.1]) hn e1, ?_, h5⟩, ?_, by omega, ?_, ?_⟩
  · rw [e1, x_up2_off (Or.inr (by decide))]; exact h4
  · rw [e1, x_up2_off (Or.inr (by decide))]; exact h3
  · rw [s_rn_t hn (by rw [hb]; unfold s_sm; rw [Bool.and_eq_true, decide_eq_true_eq, decide_eq_true_eq]; exact ⟨lw, uw⟩)]; exact h7
  · rw [e2, x_up2_at, el, h8, show i + 1 - q = (i - q) + 1 by omega]
    show _ = s_ll b q (i - q) * 32 + Int64.ofInt ((b (q + (i - q))).toInt - 96)
    rw [show q + (i - q) = i by omega, hb]
    congr 1
    exact Int64.toInt_inj.mp (by rw [ey, Int64.toInt_ofInt_of_le (by omega) (by omega)])
/-- the WORD is over -/
theorem t_SW_e (h : t_SW b n q i gi gl gr k) (hx : (gi k 1).toInt ≤ (gi k 2).toInt ∨ ∀ w : Int32, w = gi 2 (gi k 2).toNatClampNeg → w.toInt < 97 ∨ 122 < w.toInt) : i = s_rn s_sm b n q := by
  obtain ⟨⟨h1, h4, h5⟩, h3, h6, h7, h8⟩ := h
  rw [← h7]
  refine (s_rn_f (fun hi => ?_)).symm
  have hn := h1.2.1
  have hm := h1.2.2.1
  rcases hx with hx | hx
  · omega
  · have hw := hx _ rfl
    rw [← t_S_w h1 h1.2.2.1 rfl] at hw
    unfold s_sm
    cases hc : (decide (97 ≤ (b i).toInt) && decide ((b i).toInt ≤ 122)) with
    | false => rfl
    | true =>
      rw [Bool.and_eq_true, decide_eq_true_eq, decide_eq_true_eq] at hc
      omega
/-- the WORD's size told, the keywords looked at to i -/
noncomputable def t_SX (b : Nat → Int32) (n q i : Nat) (gi : Nat → Nat → Int32) (gl : Nat → Nat → Int64) (gr : Nat → Nat → Value) (k : Nat) : Prop := (t_Sp b n (s_rn s_sm b n q) gi k ∧ (gi k 4).toInt = (q : Int)) ∧ (gi k 3).toInt = 0 ∧ (gi k 5).toInt = ((s_rn s_sm b n q - q : Nat) : Int) ∧ gl k 6 = s_ll b q (s_rn s_sm b n q - q) ∧ gr k 7 = s_kv (if s_rn s_sm b n q - q ≤ 8 then s_kwm (s_ll b q (s_rn s_sm b n q - q)) i else none)
theorem t_SX_0 (h : t_SW b n q i gi gl gr k) (hk : k ≠ 2) (he : i = s_rn s_sm b n q) {z : Int32} (ez : z.toInt = (gi k 2).toInt - (gi k 4).toInt) (e : g1 = x_up2 gi k 5 z) : t_SX b n q 0 g1 gl gr k := by
  obtain ⟨⟨h1, h4, h5⟩, h3, h6, h7, h8⟩ := h
  subst he
  refine ⟨⟨t_S_up h1 hk (by decide) e, ?_⟩, ?_, ?_, h8, ?_⟩
  · rw [e, x_up2_off (Or.inr (by decide))]; exact h4
  · rw [e, x_up2_off (Or.inr (by decide))]; exact h3
  · rw [e, x_up2_at, ez, h1.2.2.1, h4]; omega
  · rw [h5]; split <;> rfl
theorem t_SX_y (h : t_SX b n q i gi gl gr k) (h8 : (gi k 5).toInt ≤ 8) (hw : x_kwl.getD i 0 = gl k 6) (e : r1 = x_up2 gr k 7 (.retAddr i)) : t_SX b n q (i + 1) gi gl r1 k := by
  obtain ⟨h1, h3, h5, h6, h7⟩ := h
  refine ⟨h1, h3, h5, h6, ?_⟩
  rw [e, x_up2_at, if_pos (by omega)]
  show _ = s_kv (if x_kwl.getD i 0 = _ then some i else _)
  rw [if_pos (by rw [hw, h6])]; rfl
theorem t_SX_n (h : t_SX b n q i gi gl gr k) (h8 : (gi k 5).toInt ≤ 8) (hw : x_kwl.getD i 0 ≠ gl k 6) : t_SX b n q (i + 1) gi gl gr k := by
  obtain ⟨h1, h3, h5, h6, h7⟩ := h
  refine ⟨h1, h3, h5, h6, ?_⟩
  rw [h7, if_pos (by omega), if_pos (by omega)]
  show _ = s_kv (if x_kwl.getD i 0 = _ then some i else _)
  rw [if_neg (fun hh => hw (by rw [hh, h6]))]
theorem t_SX_e (h : t_SX b n q i gi gl gr k) (h8 : 27 ≤ i ∨ 8 < (gi k 5).toInt) (hi : i ≤ 27) : t_SX b n q 27 gi gl gr k := by
  obtain ⟨h1, h3, h5, h6, h7⟩ := h
  refine ⟨h1, h3, h5, h6, ?_⟩
  rw [h7]
  rcases h8 with h8 | h8
  · rw [show i = 27 by omega]
  · rw [if_neg (by omega), if_neg (by omega)]
/-- within a NUMBER -/
noncomputable def t_SN (b : Nat → Int32) (n q i : Nat) (gi : Nat → Nat → Int32) (gr : Nat → Nat → Value) (k : Nat) : Prop := (t_Sp b n i gi k ∧ (gi k 4).toInt = (q : Int) ∧ gr k 7 = .null) ∧ q ≤ i ∧ s_rn s_dg b n i = s_rn s_dg b n q ∧ gi k 8 = s_nn b q (i - q)
theorem t_SN_0 (h : t_S0 b n q gi gr k) (hk : k ≠ 2) (e1 : g1 = x_up2 gi k 8 0) : t_SN b n q q g1 gr k := by
  obtain ⟨h1, h4, h5⟩ := h
  refine ⟨⟨t_S_up h1 hk (by decide) e1, ?_, h5⟩, Nat.le_refl _, rfl, ?_⟩
  · rw [e1, x_up2_off (Or.inr (by decide))]; exact h4
  · rw [e1, x_up2_at, Nat.sub_self]; rfl
theorem t_SN_s (h : t_SN b n q i gi gr k) (hk : k ≠ 2) (hlt : (gi k 2).toInt < (gi k 1).toInt) {w z v y : Int32} (ew : w = gi 2 (gi k 2).toNatClampNeg) (lw : 48 ≤ w.toInt) (uw : w.toInt ≤ 57) (ez : z.toInt = (gi k 2).toInt + 1) (ev : v = gi k 8 * 10 + y) (ey : y.toInt = w.toInt - 48) (e2 : g1 = x_up2 gi k 8 v) (e1 : g2 = x_up2 g1 k 2 z) : t_SN b n q (i + 1) g2 gr k := by
  obtain ⟨⟨h1, h4, h5⟩, h6, h7, h8⟩ := h
  have hb := t_S_w h1 h1.2.2.1 ew
  have hn : i < n := by have := h1.2.1; have := h1.2.2.1; omega
  have h1' := t_S_up h1 hk (j := 8) (by decide) e2
  refine ⟨⟨t_S_nx h1' hk (by rw [ez, h1.2.2.1]) hn e1, ?_, h5⟩, by omega, ?_, ?_⟩
  · rw [e1, x_up2_off (Or.inr (by decide)), e2, x_up2_off (Or.inr (by decide))]; exact h4
  · rw [s_rn_t hn (by rw [hb]; unfold s_dg; rw [Bool.and_eq_true, decide_eq_true_eq, decide_eq_true_eq]; exact ⟨lw, uw⟩)]; exact h7
  · rw [e1, x_up2_off (Or.inr (by decide)), e2, x_up2_at, ev, h8, show i + 1 - q = (i - q) + 1 by omega]
    show _ = s_nn b q (i - q) * 10 + (b (q + (i - q)) - 48)
    rw [show q + (i - q) = i by omega, hb]
    congr 1
    have h48 : (48 : Int32).toInt = 48 := rfl
    exact Int32.toInt_inj.mp (by rw [ey, Int32.toInt_sub, h48, Int.bmod_eq_of_le] <;> omega)
theorem t_SN_e (h : t_SN b n q i gi gr k) (hx : (gi k 1).toInt ≤ (gi k 2).toInt ∨ ∀ w : Int32, w = gi 2 (gi k 2).toNatClampNeg → w.toInt < 48 ∨ 57 < w.toInt) : i = s_rn s_dg b n q := by
  obtain ⟨⟨h1, h4, h5⟩, h6, h7, h8⟩ := h
  rw [← h7]
  refine (s_rn_f (fun hi => ?_)).symm
  have hn := h1.2.1
  have hm := h1.2.2.1
  rcases hx with hx | hx
  · omega
  · have hw := hx _ rfl
    rw [← t_S_w h1 h1.2.2.1 rfl] at hw
    unfold s_dg
    cases hc : (decide (48 ≤ (b i).toInt) && decide ((b i).toInt ≤ 57)) with
    | false => rfl
    | true =>
      rw [Bool.and_eq_true, decide_eq_true_eq, decide_eq_true_eq] at hc
      omega
/-- a NUMBER read -/
noncomputable def t_SM (b : Nat → Int32) (n q : Nat) (gi : Nat → Nat → Int32) (gr : Nat → Nat → Value) (k : Nat) : Prop := (t_Sp b n (s_rn s_dg b n q) gi k ∧ (gi k 4).toInt = (q : Int) ∧ gr k 7 = .null) ∧ (gi k 3).toInt = (if 4 < s_rn s_dg b n q - q then 4 else 1) ∧ gi k 8 = s_nn b q (s_rn s_dg b n q - q)
theorem t_SM_0 (h : t_SN b n q i gi gr k) (hk : k ≠ 2) (he : i = s_rn s_dg b n q) {z : Int32} (ez : z.toInt = if 4 < (gi k 2).toInt - (gi k 4).toInt then 4 else 1) (e : g1 = x_up2 gi k 3 z) : t_SM b n q g1 gr k := by
  obtain ⟨⟨h1, h4, h5⟩, h6, h7, h8⟩ := h
  subst he
  refine ⟨⟨t_S_up h1 hk (by decide) e, ?_, h5⟩, ?_, ?_⟩
  · rw [e, x_up2_off (Or.inr (by decide))]; exact h4
  · rw [e, x_up2_at, ez, h1.2.2.1, h4]
    by_cases hh : 4 < s_rn s_dg b n q - q
    · rw [if_pos hh, if_pos (by omega)]
    · rw [if_neg hh, if_neg (by omega)]
  · rw [e, x_up2_off (Or.inr (by decide))]; exact h8
/-- blanks passed -/
theorem s_blk (h : t_Sp b n i gi k) (hx : (gi k 1).toInt ≤ (gi k 2).toInt ∨ ∀ w : Int32, w = gi 2 (gi k 2).toNatClampNeg → w.toInt ≠ 32 ∧ w.toInt ≠ 10) : s_F b n i = i := by
  refine s_rn_f (fun hi => ?_)
  have hn := h.2.1
  have hm := h.2.2.1
  rcases hx with hx | hx
  · omega
  · have hw := hx _ rfl
    rw [← t_S_w h h.2.2.1 rfl] at hw
    unfold s_bl
    rw [Bool.or_eq_false_iff, decide_eq_false_iff_not, decide_eq_false_iff_not]
    exact hw
theorem s_blk1 (h : t_Sp b n i gi k) (hlt : (gi k 2).toInt < (gi k 1).toInt) {w : Int32} (ew : w = gi 2 (gi k 2).toNatClampNeg) (hw : w.toInt = 32 ∨ w.toInt = 10) : s_F b n (i + 1) = s_F b n i := by
  have hn := h.2.1
  have hm := h.2.2.1
  refine s_rn_t (by omega) ?_
  rw [t_S_w h h.2.2.1 ew]
  unfold s_bl
  rw [Bool.or_eq_true, decide_eq_true_eq, decide_eq_true_eq]
  exact hw
end TOK
section TOK2
variable {b : Nat → Int32} {n p q i k : Nat} {gi g1 g2 : Nat → Nat → Int32} {gl l1 l2 : Nat → Nat → Int64} {gr r1 r2 : Nat → Nat → Value}
theorem t_TC_end (hF : s_F b n p = i) (hp : p ≤ n) (h : t_Sp b n i gi k) (hni : n ≤ i) (h4 : (gi k 4).toInt = (i : Int)) (h7 : gr k 7 = .null) (h3 : (gi k 3).toInt = 3) : t_TC b n p gi gl gr k := by
  have hni : n ≤ s_F b n p := by omega
  have hK : s_K b n p = 0 := by unfold s_K; rw [if_pos hni]
  have hE : s_E b n p = i := by unfold s_E; rw [if_pos hni, hF]
  refine ⟨⟨h.1, h.2.1, hp⟩, ?_, ?_, ?_, ?_, fun hh => ?_, fun hh => ?_, fun hh => ?_⟩
  · rw [hE]; exact h.2.2.1
  · rw [hF]; exact h4
  · rw [hK]; exact h3
  · unfold s_W; rw [if_neg (fun hh => by rw [hK] at hh; exact absurd hh.1 (by decide))]; exact h7
  · rw [hK] at hh; exact absurd hh (by decide)
  · rw [hK] at hh; exact absurd hh (by decide)
  · rw [hK] at hh; exact absurd hh (by decide)
theorem t_TC_w (hF : s_F b n p = i) (hp : p ≤ n) (hi : i < n) (l : 97 ≤ (b i).toInt) (u : (b i).toInt ≤ 122) (h : t_SX b n i 27 gi gl gr k) : t_TC b n p gi gl gr k := by
  obtain ⟨⟨h1, h4⟩, h3, h5, h6, h7⟩ := h
  have hni : ¬ n ≤ s_F b n p := by omega
  have hs : s_sm (b (s_F b n p)).toInt = true := by rw [hF]; unfold s_sm; rw [Bool.and_eq_true, decide_eq_true_eq, decide_eq_true_eq]; exact ⟨l, u⟩
  have hK : s_K b n p = 2 := by unfold s_K; rw [if_neg hni, if_pos hs]
  have hE : s_E b n p = s_rn s_sm b n i := by unfold s_E; rw [if_neg hni, if_pos hs, hF]
  refine ⟨⟨h1.1, h1.2.1, hp⟩, ?_, ?_, ?_, ?_, fun _ => ⟨?_, ?_⟩, fun hh => ?_, fun hh => ?_⟩
  · rw [hE]; exact h1.2.2.1
  · rw [hF]; exact h4
  · rw [hK]; exact h3
  · rw [h7]
    unfold s_W
    rw [hK, hE, hF]
    by_cases h8 : s_rn s_sm b n i - i ≤ 8
    · rw [if_pos h8, if_pos ⟨rfl, h8⟩]
    · rw [if_neg h8, if_neg (fun hh => h8 hh.2)]
  · rw [hE, hF]; exact h5
  · rw [hE, hF]; exact h6
  · rw [hK] at hh; exact absurd hh (by decide)
  · rw [hK] at hh; exact absurd hh (by decide)
theorem s_smF {x : Int} (h : x < 97 ∨ 122 < x) : ¬ s_sm x = true := by
  unfold s_sm; rw [Bool.and_eq_true, decide_eq_true_eq, decide_eq_true_eq]; omega
theorem t_TC_n (hF : s_F b n p = i) (hp : p ≤ n) (hi : i < n) (l : 48 ≤ (b i).toInt) (u : (b i).toInt ≤ 57) (h : t_SM b n i gi gr k) : t_TC b n p gi gl gr k := by
  obtain ⟨⟨h1, h4, h7⟩, h3, h8⟩ := h
  have hni : ¬ n ≤ s_F b n p := by omega
  have hs : ¬ s_sm (b (s_F b n p)).toInt = true := by rw [hF]; exact s_smF (by omega)
  have hd : s_dg (b (s_F b n p)).toInt = true := by rw [hF]; unfold s_dg; rw [Bool.and_eq_true, decide_eq_true_eq, decide_eq_true_eq]; exact ⟨l, u⟩
  have hK : s_K b n p = if 4 < s_rn s_dg b n i - i then 1 else 3 := by unfold s_K; rw [if_neg hni, if_neg hs, if_pos hd, hF]
  have hE : s_E b n p = s_rn s_dg b n i := by unfold s_E; rw [if_neg hni, if_neg hs, if_pos hd, hF]
  have hK2 : s_K b n p ≠ 2 := by rw [hK]; split <;> decide
  have hK4 : s_K b n p ≠ 4 := by rw [hK]; split <;> decide
  refine ⟨⟨h1.1, h1.2.1, hp⟩, ?_, ?_, ?_, ?_, fun hh => absurd hh hK2, fun hh => ?_, fun hh => absurd hh hK4⟩
  · rw [hE]; exact h1.2.2.1
  · rw [hF]; exact h4
  · rw [hK, h3]; split <;> rfl
  · unfold s_W; rw [if_neg (fun hh => hK2 hh.1)]; exact h7
  · rw [hE, hF]; exact h8
theorem t_TC_s (hF : s_F b n p = i) (hp : p ≤ n) (h : t_Sp b n i gi k) (hk : k ≠ 2) (hi : i < n) {w v z x : Int32} (hx : x.toInt = (i : Int)) (ew : w = gi 2 x.toNatClampNeg) (l : w.toInt < 97 ∨ 122 < w.toInt) (u : w.toInt < 48 ∨ 57 < w.toInt) (h4 : (gi k 4).toInt = (i : Int)) (h7 : gr k 7 = .null) (hv : v.toInt = if s_sg w.toInt = true then 2 else 4) (hz : z.toInt = (i : Int) + 1) {g3 : Nat → Nat → Int32} (e1 : g1 = x_up2 gi k 3 v) (e2 : g2 = x_up2 g1 k 9 w) (e3 : g3 = x_up2 g2 k 2 z) : t_TC b n p g3 gl gr k := by
  have hb := t_S_w h hx ew
  have hni : ¬ n ≤ s_F b n p := by omega
  have hs : ¬ s_sm (b (s_F b n p)).toInt = true := by rw [hF, hb]; exact s_smF l
  have hd : ¬ s_dg (b (s_F b n p)).toInt = true := by rw [hF, hb]; unfold s_dg; rw [Bool.and_eq_true, decide_eq_true_eq, decide_eq_true_eq]; omega
  have hK : s_K b n p = if s_sg w.toInt = true then 4 else 1 := by unfold s_K; rw [if_neg hni, if_neg hs, if_neg hd, hF, hb]
  have hE : s_E b n p = i + 1 := by unfold s_E; rw [if_neg hni, if_neg hs, if_neg hd, hF]
  have hK2 : s_K b n p ≠ 2 := by rw [hK]; split <;> decide
  have hK3 : s_K b n p ≠ 3 := by rw [hK]; split <;> decide
  have hS := t_S_nx (t_S_up (t_S_up h hk (j := 3) (by decide) e1) hk (j := 9) (by decide) e2) hk hz hi e3
  refine ⟨⟨hS.1, hS.2.1, hp⟩, ?_, ?_, ?_, ?_, fun hh => absurd hh hK2, fun hh => absurd hh hK3, fun hh => ?_⟩
  · rw [hE]; exact hS.2.2.1
  · rw [hF, e3, x_up2_off (Or.inr (by decide)), e2, x_up2_off (Or.inr (by decide)), e1, x_up2_off (Or.inr (by decide))]; exact h4
  · rw [hK, e3, x_up2_off (Or.inr (by decide)), e2, x_up2_off (Or.inr (by decide)), e1, x_up2_at, hv]; split <;> rfl
  · unfold s_W; rw [if_neg (fun hh => hK2 hh.1)]; exact h7
  · rw [hF, hb, e3, x_up2_off (Or.inr (by decide)), e2, x_up2_at]
/-- behind a TOKEN the next one -/
theorem t_TC_S (h : t_TC b n p gi gl gr k) : t_Sp b n (s_E b n p) gi k := ⟨h.1.1, h.1.2.1, h.2.1, (s_E_b h.1.2.2).2⟩
/-- no other cell was written -/
noncomputable def t_on (k : Nat) (gi : Nat → Nat → Int32) (gl : Nat → Nat → Int64) (gr : Nat → Nat → Value) (g1 : Nat → Nat → Int32) (l1 : Nat → Nat → Int64) (r1 : Nat → Nat → Value) : Prop := ∀ K, K ≠ k → g1 K = gi K ∧ l1 K = gl K ∧ r1 K = gr K
theorem t_on.rf : t_on k gi gl gr gi gl gr := fun _ _ => ⟨rfl, rfl, rfl⟩
theorem t_on.tr (h : t_on k gi gl gr g1 l1 r1) (h' : t_on k g1 l1 r1 g2 l2 r2) : t_on k gi gl gr g2 l2 r2 := fun K hK => ⟨(h' K hK).1.trans (h K hK).1, (h' K hK).2.1.trans (h K hK).2.1, (h' K hK).2.2.trans (h K hK).2.2⟩
theorem t_on.I {j : Nat} {v : Int32} (h : t_on k gi gl gr g1 l1 r1) (e : g2 = x_up2 g1 k j v) : t_on k gi gl gr g2 l1 r1 := fun K hK => ⟨by rw [e, x_up2_ne hK]; exact (h K hK).1, (h K hK).2⟩
theorem t_on.L {j : Nat} {v : Int64} (h : t_on k gi gl gr g1 l1 r1) (e : l2 = x_up2 l1 k j v) : t_on k gi gl gr g1 l2 r1 := fun K hK => ⟨(h K hK).1, by rw [e, x_up2_ne hK]; exact (h K hK).2.1, (h K hK).2.2⟩
theorem t_on.R {j : Nat} {v : Value} (h : t_on k gi gl gr g1 l1 r1) (e : r2 = x_up2 r1 k j v) : t_on k gi gl gr g1 l1 r2 := fun K hK => ⟨(h K hK).1, (h K hK).2.1, by rw [e, x_up2_ne hK]; exact (h K hK).2.2⟩
end TOK2
theorem s_sgT {x : Int} (h : x = 59 ∨ x = 60 ∨ x = 62 ∨ x = 61 ∨ x = 40 ∨ x = 41) : s_sg x = true := by
  unfold s_sg; simp only [Bool.or_eq_true, decide_eq_true_eq]; exact h
theorem s_sgF {x : Int} (h : x ≠ 59 ∧ x ≠ 60 ∧ x ≠ 62 ∧ x ≠ 61 ∧ x ≠ 40 ∧ x ≠ 41) : ¬ s_sg x = true := by
  unfold s_sg; simp only [Bool.or_eq_true, decide_eq_true_eq]; omega
/-- a NAME, BLASTS, a NUMBER's value, the FAULT of a TOKEN -/
noncomputable def s_isN (b : Nat → Int32) (n p : Nat) : Prop := s_K b n p = 2 ∧ s_W b n p = none ∧ s_E b n p - s_F b n p ≤ 8
noncomputable def s_isB (b : Nat → Int32) (n p : Nat) : Prop := (s_K b n p = 2 ∧ s_E b n p - s_F b n p ≤ 6) ∧ ∀ k, s_F b n p ≤ k → k < s_E b n p → (b k).toInt = 108 ∨ (b k).toInt = 115
noncomputable def s_isS (b : Nat → Int32) (n p : Nat) (c : Int) : Prop := s_K b n p = 4 ∧ (b (s_F b n p)).toInt = c
noncomputable def s_L (b : Nat → Int32) (n p : Nat) : Int64 := s_ll b (s_F b n p) (s_E b n p - s_F b n p)
noncomputable def s_V (b : Nat → Int32) (n p : Nat) : Int := (s_nn b (s_F b n p) (s_E b n p - s_F b n p)).toInt
noncomputable def s_isV (b : Nat → Int32) (n p : Nat) (lo hi : Int) : Prop := s_K b n p = 3 ∧ lo ≤ s_V b n p ∧ s_V b n p ≤ hi
noncomputable def s_fk (b : Nat → Int32) (n p : Nat) (x : Int) : Int := if s_K b n p = 1 then 1 else x
noncomputable def t_FL (gi : Nat → Nat → Int32) (k : Nat) (f q : Int) : Prop := (gi k 10).toInt = f ∧ (gi k 11).toInt = q
noncomputable def t_nf (gi g1 : Nat → Nat → Int32) (k : Nat) : Prop := g1 k 10 = gi k 10 ∧ g1 k 11 = gi k 11
/-- rules that tell more -/
theorem t_kwlE {X : x_Ext} {d mi pc nx len ml q : Nat} {z : Int} {lo : x_Lo} {r : List Value} {G : x_G} {P : Option Value → x_G → Prop} {T : List (Nat × x_Row)} {rt : Option FieldType} {i0 : Nat} {k : Nat} (F : x_F mi T ml rt) (hr : x_lk T pc = some (.getfield i0, len, 200, 0, q, z)) (hk : k < 27) (hn : pc + len = nx) (kk : ∀ w : Int64, w = x_kwl.getD k 0 → x_Ev X d mi nx lo (.long w :: r) G P) : x_Ev X d mi pc lo (.retAddr k :: r) G P := by
  refine ev_heap F hr rfl ?_ hn (kk (x_kwl.getD k 0) rfl)
  show (if (200 : Nat) = 200 then (match x_xf 0 k with | some v => some (v :: r, G) | none => none) else none) = _
  rw [if_pos rfl]
  have h : x_xf 0 k = some (.long (x_kwl.getD k 0)) := by show (if k < 27 then _ else none) = _; rw [if_pos hk]
  rw [h]
theorem t_kwaE {X : x_Ext} {d mi pc nx a b len ml q : Nat} {z : Int} {lo : x_Lo} {r : List Value} {G : x_G} {P : Option Value → x_G → Prop} {T : List (Nat × x_Row)} {rt : Option FieldType} {i : Int32} {l u : Int} (F : x_F mi T ml rt) (hr : x_lk T pc = some (.aaload, len, a, b, q, z)) (a1 : l ≤ i.toInt) (h1 : decide (0 ≤ l) = true) (a2 : i.toInt ≤ u) (h2 : decide (u < 27) = true) (hn : pc + len = nx) (kk : ∀ k, k = i.toNatClampNeg → k < 27 → x_Ev X d mi nx lo (.retAddr k :: r) G P) : x_Ev X d mi pc lo (.int i :: .retAddr 27 :: r) G P := by
  have h := t_idx (n := 27) a1 h1 a2 h2
  refine ev_heap F hr rfl ?_ hn (kk i.toNatClampNeg rfl h.2)
  show (match x_ldX x_isObj X 27 i with | some v => some (v :: r, G) | none => none) = _
  have h3 : x_ldX x_isObj X 27 i = some (.retAddr i.toNatClampNeg) := by
    show (if x_isObj (.object "HornBridge$Keyword") = true ∧ ¬ (i < 0 ∨ 27 ≤ i.toNatClampNeg) then some (Value.retAddr i.toNatClampNeg) else none) = _
    rw [if_pos ⟨rfl, x_ix h.1 h.2⟩]
  rw [h3]
section QL0
variable {X : x_Ext} {d mi pc nx a b len ml q : Nat} {z : Int} {ins : Instr} {lo : x_Lo} {st r : List Value} {P : Option Value → x_G → Prop} {T : List (Nat × x_Row)} {rt : Option FieldType} {sh : List (Nat ⊕ (Nat × Nat))} {gi : Nat → Nat → Int32} {gl : Nat → Nat → Int64} {gr : Nat → Nat → Value}
theorem ev_qL0 {as : List Value} {Q : Int64 → (Nat → Nat → Int32) → (Nat → Nat → Int64) → (Nat → Nat → Value) → Prop} (F : x_F mi T ml rt) (hr : x_lk T pc = some (ins, len, a, b, q, z)) (hc : x_cat ins = 4) (ha : Nat.blt a 1000 = true) (hb : Nat.ble b st.length = true) (has : (st.take b).reverse = as) (hrest : st.drop b = r) (h8 : Nat.ble (x_words r) 8 = true) (hM : x_Me X d a as (sh, gi, gl, gr) (t_PL [] sh gi gl gr Q)) (hn : pc + 3 = nx) (kk : ∀ (w : Int64), Q w gi gl gr → x_Ev X (d + 1) mi nx lo (.long w :: r) (sh, gi, gl, gr) P) : x_Ev X (d + 1) mi pc lo st (sh, gi, gl, gr) P := by
  subst has; subst hrest
  refine ev_call F hr hc (decide_eq_true (Nat.le_of_ble_eq_true ha)) (Nat.le_of_ble_eq_true hb) (Nat.le_of_ble_eq_true h8) hM hn ?_
  rintro _ _ ⟨gi2, gl2, gr2, rfl, h1, h2, w, rfl, h5⟩
  obtain ⟨e1, e2, e3⟩ := t_X0 h2
  rw [e1, e2, e3]
  rw [e1, e2, e3] at h5
  exact kk _ h5
/-- a truth stored is the truth -/
theorem ev_zastV {x i : Int32} {k n : Nat} {l u : Int} {gi0 : Nat → Nat → Int32} {gl0 : Nat → Nat → Int64} {gr0 : Nat → Nat → Value} {wl : List (Nat × Nat)} (F : x_F mi T ml rt) (hr : x_lk T pc = some (.bastore, len, a, b, q, z)) (hk : sh[k]? = some (.inr (3, n))) (a1 : l ≤ i.toInt) (h1 : decide (0 ≤ l) = true) (a2 : i.toInt ≤ u) (h2 : decide (u < (n : Int)) = true) (v0 : 0 ≤ x.toInt) (v1 : x.toInt ≤ 1) (hn : pc + len = nx) (hI : ∀ x' : Int32, 0 ≤ x'.toInt → x'.toInt ≤ 1 → t_I sh (x_up2 gi k i.toNatClampNeg x') gr) (hX : ∀ x', t_X wl sh gi0 gl0 gr0 (x_up2 gi k i.toNatClampNeg x') gl gr) (kk : ∀ g2, g2 = x_up2 gi k i.toNatClampNeg x → t_I sh g2 gr → t_X wl sh gi0 gl0 gr0 g2 gl gr → x_Ev X d mi nx lo r (sh, g2, gl, gr) P) : x_Ev X d mi pc lo (.int x :: .int i :: .ref k :: r) (sh, gi, gl, gr) P := by
  have hx : x &&& 1 = x := by
    have h : x.toInt = 0 ∨ x.toInt = 1 := by omega
    rcases h with h | h
    · rw [show x = 0 from Int32.toInt_inj.mp h]; rfl
    · rw [show x = 1 from Int32.toInt_inj.mp h]; rfl
  exact ev_zast F hr hk (t_idx a1 h1 a2 h2).1 (t_idx a1 h1 a2 h2).2 hn (by rw [hx]; exact kk _ rfl (hI x v0 v1) (hX x))
/-- a byte stored -/
theorem ev_bastE {x i : Int32} {k n : Nat} {l u : Int} {gi0 : Nat → Nat → Int32} {gl0 : Nat → Nat → Int64} {gr0 : Nat → Nat → Value} {wl : List (Nat × Nat)} (F : x_F mi T ml rt) (hr : x_lk T pc = some (.bastore, len, a, b, q, z)) (hk : sh[k]? = some (.inr (2, n))) (a1 : l ≤ i.toInt) (h1 : decide (0 ≤ l) = true) (a2 : i.toInt ≤ u) (h2 : decide (u < (n : Int)) = true) (hn : pc + len = nx) (hI : ∀ x', t_I sh (x_up2 gi k i.toNatClampNeg x') gr) (hX : ∀ x', t_X wl sh gi0 gl0 gr0 (x_up2 gi k i.toNatClampNeg x') gl gr) (kk : ∀ g2 x', x' = x.toInt8.toInt32 → g2 = x_up2 gi k i.toNatClampNeg x' → t_I sh g2 gr → t_X wl sh gi0 gl0 gr0 g2 gl gr → x_Ev X d mi nx lo r (sh, g2, gl, gr) P) : x_Ev X d mi pc lo (.int x :: .int i :: .ref k :: r) (sh, gi, gl, gr) P :=
  ev_bast F hr hk (t_idx a1 h1 a2 h2).1 (t_idx a1 h1 a2 h2).2 hn (kk _ _ rfl rfl (hI _) (hX _))
end QL0
