/-! ===== TOKENS of a text: what both readers see ===== -/
/-- the end of a run of bytes with a property -/
noncomputable def s_run (P : Int → Bool) (b : Nat → Int32) : Nat → Nat → Nat
  | 0, i => i
  | m + 1, i => if P (b i).toInt = true then s_run P b m (i + 1) else i
noncomputable def s_rn (P : Int → Bool) (b : Nat → Int32) (n i : Nat) : Nat := s_run P b (n - i) i
noncomputable def s_bl (x : Int) : Bool := decide (x = 32) || decide (x = 10)
noncomputable def s_sm (x : Int) : Bool := decide (97 ≤ x) && decide (x ≤ 122)
noncomputable def s_dg (x : Int) : Bool := decide (48 ≤ x) && decide (x ≤ 57)
noncomputable def s_sg (x : Int) : Bool := decide (x = 59) || (decide (x = 60) || (decide (x = 62) || (decide (x = 61) || (decide (x = 40) || decide (x = 41)))))
section SRN
variable {P : Int → Bool} {b : Nat → Int32} {n i : Nat}
theorem s_rn_t (hi : i < n) (h : P (b i).toInt = true) : s_rn P b n (i + 1) = s_rn P b n i := by
  unfold s_rn
  rw [show n - i = (n - (i + 1)) + 1 by omega]
  show _ = (if P (b i).toInt = true then _ else _)
  rw [if_pos h]
theorem s_rn_f (h : i < n → P (b i).toInt = false) : s_rn P b n i = i := by
  unfold s_rn
  by_cases hi : i < n
  · rw [show n - i = (n - (i + 1)) + 1 by omega]
    show (if P (b i).toInt = true then _ else _) = _
    rw [if_neg (by rw [h hi]; decide)]
  · rw [show n - i = 0 by omega]; rfl
theorem s_run_b : ∀ (m i : Nat), i ≤ s_run P b m i ∧ s_run P b m i ≤ i + m ∧ ∀ k, i ≤ k → k < s_run P b m i → P (b k).toInt = true
  | 0, i => ⟨Nat.le_refl _, Nat.le_refl _, fun k h1 h2 => by have h2 : k < i := h2; omega⟩
  | m + 1, i => by
    obtain ⟨h1, h2, h3⟩ := s_run_b m (i + 1)
    by_cases h : P (b i).toInt = true
    · have e : s_run P b (m + 1) i = s_run P b m (i + 1) := by
        show (if P (b i).toInt = true then _ else _) = _
        rw [if_pos h]
      rw [e]
      refine ⟨by omega, by omega, fun k hk hk2 => ?_⟩
      by_cases hki : k = i
      · rw [hki]; exact h
      · exact h3 k (by omega) hk2
    · have e : s_run P b (m + 1) i = i := by
        show (if P (b i).toInt = true then _ else _) = _
        rw [if_neg h]
      rw [e]
      exact ⟨Nat.le_refl _, by omega, fun k h1 h2 => by omega⟩
theorem s_rn_b : i ≤ s_rn P b n i ∧ (i ≤ n → s_rn P b n i ≤ n) ∧ ∀ k, i ≤ k → k < s_rn P b n i → P (b k).toInt = true := by
  obtain ⟨h1, h2, h3⟩ := s_run_b (P := P) (b := b) (n - i) i
  exact ⟨h1, fun _ => by unfold s_rn; omega, h3⟩
/-- a run of one byte and more goes on behind it -/
theorem s_rn_lt (hi : i < n) (h : P (b i).toInt = true) : i < s_rn P b n i := by
  have h1 := (s_rn_b (P := P) (b := b) (n := n) (i := i + 1)).1
  rw [s_rn_t hi h] at h1; omega
end SRN
/-- behind what was read to p: where the next TOKEN begins, its kind (0 the end, 1 none, 2 a WORD, 3 a NUMBER, 4 a SIGN), its end -/
noncomputable def s_F (b : Nat → Int32) (n p : Nat) : Nat := s_rn s_bl b n p
noncomputable def s_K (b : Nat → Int32) (n p : Nat) : Nat := if n ≤ s_F b n p then 0 else if s_sm (b (s_F b n p)).toInt = true then 2 else if s_dg (b (s_F b n p)).toInt = true then (if 4 < s_rn s_dg b n (s_F b n p) - s_F b n p then 1 else 3) else if s_sg (b (s_F b n p)).toInt = true then 4 else 1
noncomputable def s_E (b : Nat → Int32) (n p : Nat) : Nat := if n ≤ s_F b n p then s_F b n p else if s_sm (b (s_F b n p)).toInt = true then s_rn s_sm b n (s_F b n p) else if s_dg (b (s_F b n p)).toInt = true then s_rn s_dg b n (s_F b n p) else s_F b n p + 1
theorem s_F_b {b : Nat → Int32} {n p : Nat} (h : p ≤ n) : p ≤ s_F b n p ∧ s_F b n p ≤ n := ⟨s_rn_b.1, s_rn_b.2.1 h⟩
theorem s_E_b {b : Nat → Int32} {n p : Nat} (h : p ≤ n) : s_F b n p ≤ s_E b n p ∧ s_E b n p ≤ n := by
  have h1 := s_F_b (b := b) h
  unfold s_E
  split
  · exact ⟨Nat.le_refl _, h1.2⟩
  split
  · exact ⟨s_rn_b.1, s_rn_b.2.1 h1.2⟩
  split
  · exact ⟨s_rn_b.1, s_rn_b.2.1 h1.2⟩
  · exact ⟨by omega, by omega⟩
/-- letters by 32 as a long, digits by 10 as an int -/
noncomputable def s_ll (b : Nat → Int32) (q : Nat) : Nat → Int64
  | 0 => 0
  | k + 1 => s_ll b q k * 32 + Int64.ofInt ((b (q + k)).toInt - 96)
noncomputable def s_nn (b : Nat → Int32) (q : Nat) : Nat → Int32
  | 0 => 0
  | k + 1 => s_nn b q k * 10 + (b (q + k) - 48)
/-- which of the first keywords has these letters: the last such -/
noncomputable def s_kwm (x : Int64) : Nat → Option Nat
  | 0 => none
  | m + 1 => if x_kwl.getD m 0 = x then some m else s_kwm x m
noncomputable def s_W (b : Nat → Int32) (n p : Nat) : Option Nat := if s_K b n p = 2 ∧ s_E b n p - s_F b n p ≤ 8 then s_kwm (s_ll b (s_F b n p) (s_E b n p - s_F b n p)) 27 else none
noncomputable def s_kv : Option Nat → Value
  | none => .null
  | some i => .retAddr i
noncomputable def s_kc : Nat → Int
  | 0 => 3
  | 1 => 4
  | 2 => 0
  | 3 => 1
  | _ => 2
/-- the reader's TOKEN is the one behind p -/
noncomputable def t_TC (b : Nat → Int32) (n p : Nat) (gi : Nat → Nat → Int32) (gl : Nat → Nat → Int64) (gr : Nat → Nat → Value) (k : Nat) : Prop := (gi 2 = b ∧ (gi k 1).toInt = (n : Int) ∧ p ≤ n) ∧ (gi k 2).toInt = (s_E b n p : Nat) ∧ (gi k 4).toInt = (s_F b n p : Nat) ∧ (gi k 3).toInt = s_kc (s_K b n p) ∧ gr k 7 = s_kv (s_W b n p) ∧ (s_K b n p = 2 → (gi k 5).toInt = ((s_E b n p - s_F b n p : Nat) : Int) ∧ gl k 6 = s_ll b (s_F b n p) (s_E b n p - s_F b n p)) ∧ (s_K b n p = 3 → gi k 8 = s_nn b (s_F b n p) (s_E b n p - s_F b n p)) ∧ (s_K b n p = 4 → gi k 9 = b (s_F b n p))
/-- a step begins behind q -/
noncomputable def t_Sp (b : Nat → Int32) (n q : Nat) (gi : Nat → Nat → Int32) (k : Nat) : Prop := gi 2 = b ∧ (gi k 1).toInt = (n : Int) ∧ (gi k 2).toInt = (q : Int) ∧ q ≤ n
noncomputable def t_S0 (b : Nat → Int32) (n q : Nat) (gi : Nat → Nat → Int32) (gr : Nat → Nat → Value) (k : Nat) : Prop := t_Sp b n q gi k ∧ (gi k 4).toInt = (q : Int) ∧ gr k 7 = .null
/-- within a WORD: to i -/
noncomputable def t_SW (b : Nat → Int32) (n q i : Nat) (gi : Nat → Nat → Int32) (gl : Nat → Nat → Int64) (gr : Nat → Nat → Value) (k : Nat) : Prop := (t_Sp b n i gi k ∧ (gi k 4).toInt = (q : Int) ∧ gr k 7 = .null) ∧ (gi k 3).toInt = 0 ∧ q ≤ i ∧ s_rn s_sm b n i = s_rn s_sm b n q ∧ gl k 6 = s_ll b q (i - q)
section TOK
variable {b : Nat → Int32} {n q i k : Nat} {gi g1 g2 : Nat → Nat → Int32} {gl l1 : Nat → Nat → Int64} {gr r1 : Nat → Nat → Value}
theorem t_S_up (h : t_Sp b n q gi k) (hk : k ≠ 2) {j : Nat} {v : Int32} (hj : j ≠ 1 ∧ j ≠ 2) (e : g1 = x_up2 gi k j v) : t_Sp b n q g1 k := by
  obtain ⟨h1, h2, h3, h4⟩ := h
  subst e
  exact ⟨by rw [x_up2_ne hk.symm]; exact h1, by rw [x_up2_off (Or.inr hj.1.symm)]; exact h2, by rw [x_up2_off (Or.inr hj.2.symm)]; exact h3, h4⟩
theorem t_S_nx (h : t_Sp b n i gi k) (hk : k ≠ 2) {v : Int32} (hv : v.toInt = (i : Int) + 1) (hi : i < n) (e : g1 = x_up2 gi k 2 v) : t_Sp b n (i + 1) g1 k := by
  obtain ⟨h1, h2, h3, h4⟩ := h
  subst e
  exact ⟨by rw [x_up2_ne hk.symm]; exact h1, by rw [x_up2_off (Or.inr (by decide))]; exact h2, by rw [x_up2_at]; omega, hi⟩
/-- the byte that is looked at -/
theorem t_S_w (h : t_Sp b n i gi k) {w x : Int32} (hx : x.toInt = (i : Int)) (ew : w = gi 2 x.toNatClampNeg) : b i = w := by
  have hc := t_clamp (i := x) (by omega)
  rw [ew, h.1, show x.toNatClampNeg = i by omega]
theorem t_SW_0 (h : t_S0 b n q gi gr k) (hk : k ≠ 2) (e1 : g1 = x_up2 gi k 3 0) (e2 : l1 = x_up2 gl k 6 0) : t_SW b n q q g1 l1 gr k := by
  obtain ⟨h1, h4, h5⟩ := h
  refine ⟨⟨t_S_up h1 hk (by decide) e1, ?_, h5⟩, ?_, Nat.le_refl _, rfl, ?_⟩
  · rw [e1, x_up2_off (Or.inr (by decide))]; exact h4
  · rw [e1, x_up2_at]; rfl
  · rw [e2, x_up2_at, Nat.sub_self]; rfl
theorem t_SW_s (h : t_SW b n q i gi gl gr k) (hk : k ≠ 2) (hlt : (gi k 2).toInt < (gi k 1).toInt) {w z : Int32} {zl y : Int64} (ew : w = gi 2 (gi k 2).toNatClampNeg) (lw : 97 ≤ w.toInt) (uw : w.toInt ≤ 122) (ez : z.toInt = (gi k 2).toInt + 1) (el : zl = gl k 6 * 32 + y) (ey : y.toInt = w.toInt - 96) (e2 : l1 = x_up2 gl k 6 zl) (e1 : g1 = x_up2 gi k 2 z) : t_SW b n q (i + 1) g1 l1 gr k := by
  obtain ⟨⟨h1, h4, h5⟩, h3, h6, h7, h8⟩ := h
  have hb := t_S_w h1 h1.2.2.1 ew
  have hn : i < n := by have := h1.2.1; have := h1.2.2.1; omega
  refine ⟨⟨t_S_nx h1 hk (by rw [ez, h1.2.2.1]) hn e1, ?_, h5⟩, ?_, by omega, ?_, ?_⟩
  · rw [e1, x_up2_off (Or.inr (by decide))]; exact h4
  · rw [e1, x_up2_off (Or.inr (by decide))]; exact h3
  · rw [s_rn_t hn (by rw [hb]; unfold s_sm; rw [Bool.and_eq_true, decide_eq_true_eq, decide_eq_true_eq]; exact ⟨lw, uw⟩)]; exact h7
  · rw [e2, x_up2_at, el, h8, show i + 1 - q = (i - q) + 1 by omega]
    show _ = s_ll b q (i - q) * 32 + Int64.ofInt ((b (q + (i - q))).toInt - 96)
    rw [show q + (i - q) = i by omega, hb]
    congr 1
    exact Int64.toInt_inj.mp (by rw [ey, Int64.toInt_ofInt_of_le (by omega) (by omega)])
/-- the WORD is over -/
theorem t_SW_e (h : t_SW b n q i gi gl gr k) (hx : (gi k 1).toInt ≤ (gi k 2).toInt ∨ ∀ w : Int32, w = gi 2 (gi k 2).toNatClampNeg → w.toInt < 97 ∨ 122 < w.toInt) : i = s_rn s_sm b n q := by
  obtain ⟨⟨h1, h4, h5⟩, h3, h6, h7, h8⟩ := h
  rw [← h7]
  refine (s_rn_f (fun hi => ?_)).symm
  have hn := h1.2.1
  have hm := h1.2.2.1
  rcases hx with hx | hx
  · omega
  · have hw := hx _ rfl
    rw [← t_S_w h1 h1.2.2.1 rfl] at hw
    unfold s_sm
    cases hc : (decide (97 ≤ (b i).toInt) && decide ((b i).toInt ≤ 122)) with
    | false => rfl
    | true =>
      rw [Bool.and_eq_true, decide_eq_true_eq, decide_eq_true_eq] at hc
      omega
/-- the WORD's size told, the keywords looked at to i -/
noncomputable def t_SX (b : Nat → Int32) (n q i : Nat) (gi : Nat → Nat → Int32) (gl : Nat → Nat → Int64) (gr : Nat → Nat → Value) (k : Nat) : Prop := (t_Sp b n (s_rn s_sm b n q) gi k ∧ (gi k 4).toInt = (q : Int)) ∧ (gi k 3).toInt = 0 ∧ (gi k 5).toInt = ((s_rn s_sm b n q - q : Nat) : Int) ∧ gl k 6 = s_ll b q (s_rn s_sm b n q - q) ∧ gr k 7 = s_kv (if s_rn s_sm b n q - q ≤ 8 then s_kwm (s_ll b q (s_rn s_sm b n q - q)) i else none)
theorem t_SX_0 (h : t_SW b n q i gi gl gr k) (hk : k ≠ 2) (he : i = s_rn s_sm b n q) {z : Int32} (ez : z.toInt = (gi k 2).toInt - (gi k 4).toInt) (e : g1 = x_up2 gi k 5 z) : t_SX b n q 0 g1 gl gr k := by
  obtain ⟨⟨h1, h4, h5⟩, h3, h6, h7, h8⟩ := h
  subst he
  refine ⟨⟨t_S_up h1 hk (by decide) e, ?_⟩, ?_, ?_, h8, ?_⟩
  · rw [e, x_up2_off (Or.inr (by decide))]; exact h4
  · rw [e, x_up2_off (Or.inr (by decide))]; exact h3
  · rw [e, x_up2_at, ez, h1.2.2.1, h4]; omega
  · rw [h5]; split <;> rfl
theorem t_SX_y (h : t_SX b n q i gi gl gr k) (h8 : (gi k 5).toInt ≤ 8) (hw : x_kwl.getD i 0 = gl k 6) (e : r1 = x_up2 gr k 7 (.retAddr i)) : t_SX b n q (i + 1) gi gl r1 k := by
  obtain ⟨h1, h3, h5, h6, h7⟩ := h
  refine ⟨h1, h3, h5, h6, ?_⟩
  rw [e, x_up2_at, if_pos (by omega)]
  show _ = s_kv (if x_kwl.getD i 0 = _ then some i else _)
  rw [if_pos (by rw [hw, h6])]; rfl
theorem t_SX_n (h : t_SX b n q i gi gl gr k) (h8 : (gi k 5).toInt ≤ 8) (hw : x_kwl.getD i 0 ≠ gl k 6) : t_SX b n q (i + 1) gi gl gr k := by
  obtain ⟨h1, h3, h5, h6, h7⟩ := h
  refine ⟨h1, h3, h5, h6, ?_⟩
  rw [h7, if_pos (by omega), if_pos (by omega)]
  show _ = s_kv (if x_kwl.getD i 0 = _ then some i else _)
  rw [if_neg (fun hh => hw (by rw [hh, h6]))]
theorem t_SX_e (h : t_SX b n q i gi gl gr k) (h8 : 27 ≤ i ∨ 8 < (gi k 5).toInt) (hi : i ≤ 27) : t_SX b n q 27 gi gl gr k := by
  obtain ⟨h1, h3, h5, h6, h7⟩ := h
  refine ⟨h1, h3, h5, h6, ?_⟩
  rw [h7]
  rcases h8 with h8 | h8
  · rw [show i = 27 by omega]
  · rw [if_neg (by omega), if_neg (by omega)]
/-- within a NUMBER -/
noncomputable def t_SN (b : Nat → Int32) (n q i : Nat) (gi : Nat → Nat → Int32) (gr : Nat → Nat → Value) (k : Nat) : Prop := (t_Sp b n i gi k ∧ (gi k 4).toInt = (q : Int) ∧ gr k 7 = .null) ∧ q ≤ i ∧ s_rn s_dg b n i = s_rn s_dg b n q ∧ gi k 8 = s_nn b q (i - q)
theorem t_SN_0 (h : t_S0 b n q gi gr k) (hk : k ≠ 2) (e1 : g1 = x_up2 gi k 8 0) : t_SN b n q q g1 gr k := by
  obtain ⟨h1, h4, h5⟩ := h
  refine ⟨⟨t_S_up h1 hk (by decide) e1, ?_, h5⟩, Nat.le_refl _, rfl, ?_⟩
  · rw [e1, x_up2_off (Or.inr (by decide))]; exact h4
  · rw [e1, x_up2_at, Nat.sub_self]; rfl
theorem t_SN_s (h : t_SN b n q i gi gr k) (hk : k ≠ 2) (hlt : (gi k 2).toInt < (gi k 1).toInt) {w z v y : Int32} (ew : w = gi 2 (gi k 2).toNatClampNeg) (lw : 48 ≤ w.toInt) (uw : w.toInt ≤ 57) (ez : z.toInt = (gi k 2).toInt + 1) (ev : v = gi k 8 * 10 + y) (ey : y.toInt = w.toInt - 48) (e2 : g1 = x_up2 gi k 8 v) (e1 : g2 = x_up2 g1 k 2 z) : t_SN b n q (i + 1) g2 gr k := by
  obtain ⟨⟨h1, h4, h5⟩, h6, h7, h8⟩ := h
  have hb := t_S_w h1 h1.2.2.1 ew
  have hn : i < n := by have := h1.2.1; have := h1.2.2.1; omega
  have h1' := t_S_up h1 hk (j := 8) (by decide) e2
  refine ⟨⟨t_S_nx h1' hk (by rw [ez, h1.2.2.1]) hn e1, ?_, h5⟩, by omega, ?_, ?_⟩
  · rw [e1, x_up2_off (Or.inr (by decide)), e2, x_up2_off (Or.inr (by decide))]; exact h4
  · rw [s_rn_t hn (by rw [hb]; unfold s_dg; rw [Bool.and_eq_true, decide_eq_true_eq, decide_eq_true_eq]; exact ⟨lw, uw⟩)]; exact h7
  · rw [e1, x_up2_off (Or.inr (by decide)), e2, x_up2_at, ev, h8, show i + 1 - q = (i - q) + 1 by omega]
    show _ = s_nn b q (i - q) * 10 + (b (q + (i - q)) - 48)
    rw [show q + (i - q) = i by omega, hb]
    congr 1
    have h48 : (48 : Int32).toInt = 48 := rfl
    exact Int32.toInt_inj.mp (by rw [ey, Int32.toInt_sub, h48, Int.bmod_eq_of_le] <;> omega)
theorem t_SN_e (h : t_SN b n q i gi gr k) (hx : (gi k 1).toInt ≤ (gi k 2).toInt ∨ ∀ w : Int32, w = gi 2 (gi k 2).toNatClampNeg → w.toInt < 48 ∨ 57 < w.toInt) : i = s_rn s_dg b n q := by
  obtain ⟨⟨h1, h4, h5⟩, h6, h7, h8⟩ := h
  rw [← h7]
  refine (s_rn_f (fun hi => ?_)).symm
  have hn := h1.2.1
  have hm := h1.2.2.1
  rcases hx with hx | hx
  · omega
  · have hw := hx _ rfl
    rw [← t_S_w h1 h1.2.2.1 rfl] at hw
    unfold s_dg
    cases hc : (decide (48 ≤ (b i).toInt) && decide ((b i).toInt ≤ 57)) with
    | false => rfl
    | true =>
      rw [Bool.and_eq_true, decide_eq_true_eq, decide_eq_true_eq] at hc
      omega
/-- a NUMBER read -/
noncomputable def t_SM (b : Nat → Int32) (n q : Nat) (gi : Nat → Nat → Int32) (gr : Nat → Nat → Value) (k : Nat) : Prop := (t_Sp b n (s_rn s_dg b n q) gi k ∧ (gi k 4).toInt = (q : Int) ∧ gr k 7 = .null) ∧ (gi k 3).toInt = (if 4 < s_rn s_dg b n q - q then 4 else 1) ∧ gi k 8 = s_nn b q (s_rn s_dg b n q - q)
theorem t_SM_0 (h : t_SN b n q i gi gr k) (hk : k ≠ 2) (he : i = s_rn s_dg b n q) {z : Int32} (ez : z.toInt = if 4 < (gi k 2).toInt - (gi k 4).toInt then 4 else 1) (e : g1 = x_up2 gi k 3 z) : t_SM b n q g1 gr k := by
  obtain ⟨⟨h1, h4, h5⟩, h6, h7, h8⟩ := h
  subst he
  refine ⟨⟨t_S_up h1 hk (by decide) e, ?_, h5⟩, ?_, ?_⟩
  · rw [e, x_up2_off (Or.inr (by decide))]; exact h4
  · rw [e, x_up2_at, ez, h1.2.2.1, h4]
    by_cases hh : 4 < s_rn s_dg b n q - q
    · rw [if_pos hh, if_pos (by omega)]
    · rw [if_neg hh, if_neg (by omega)]
  · rw [e, x_up2_off (Or.inr (by decide))]; exact h8
/-- blanks passed -/
theorem s_blk (h : t_Sp b n i gi k) (hx : (gi k 1).toInt ≤ (gi k 2).toInt ∨ ∀ w : Int32, w = gi 2 (gi k 2).toNatClampNeg → w.toInt ≠ 32 ∧ w.toInt ≠ 10) : s_F b n i = i := by
  refine s_rn_f (fun hi => ?_)
  have hn := h.2.1
  have hm := h.2.2.1
  rcases hx with hx | hx
  · omega
  · have hw := hx _ rfl
    rw [← t_S_w h h.2.2.1 rfl] at hw
    unfold s_bl
    rw [Bool.or_eq_false_iff, decide_eq_false_iff_not, decide_eq_false_iff_not]
    exact hw
theorem s_blk1 (h : t_Sp b n i gi k) (hlt : (gi k 2).toInt < (gi k 1).toInt) {w : Int32} (ew : w = gi 2 (gi k 2).toNatClampNeg) (hw : w.toInt = 32 ∨ w.toInt = 10) : s_F b n (i + 1) = s_F b n i := by
  have hn := h.2.1
  have hm := h.2.2.1
  refine s_rn_t (by omega) ?_
  rw [t_S_w h h.2.2.1 ew]
  unfold s_bl
  rw [Bool.or_eq_true, decide_eq_true_eq, decide_eq_true_eq]
  exact hw
end TOK
section TOK2
variable {b : Nat → Int32} {n p q i k : Nat} {gi g1 g2 : Nat → Nat → Int32} {gl l1 l2 : Nat → Nat → Int64} {gr r1 r2 : Nat → Nat → Value}
theorem t_TC_end (hF : s_F b n p = i) (hp : p ≤ n) (h : t_Sp b n i gi k) (hni : n ≤ i) (h4 : (gi k 4).toInt = (i : Int)) (h7 : gr k 7 = .null) (h3 : (gi k 3).toInt = 3) : t_TC b n p gi gl gr k := by
  have hni : n ≤ s_F b n p := by omega
  have hK : s_K b n p = 0 := by unfold s_K; rw [if_pos hni]
  have hE : s_E b n p = i := by unfold s_E; rw [if_pos hni, hF]
  refine ⟨⟨h.1, h.2.1, hp⟩, ?_, ?_, ?_, ?_, fun hh => ?_, fun hh => ?_, fun hh => ?_⟩
  · rw [hE]; exact h.2.2.1
  · rw [hF]; exact h4
  · rw [hK]; exact h3
  · unfold s_W; rw [if_neg (fun hh => by rw [hK] at hh; exact absurd hh.1 (by decide))]; exact h7
  · rw [hK] at hh; exact absurd hh (by decide)
  · rw [hK] at hh; exact absurd hh (by decide)
  · rw [hK] at hh; exact absurd hh (by decide)
theorem t_TC_w (hF : s_F b n p = i) (hp : p ≤ n) (hi : i < n) (l : 97 ≤ (b i).toInt) (u : (b i).toInt ≤ 122) (h : t_SX b n i 27 gi gl gr k) : t_TC b n p gi gl gr k := by
  obtain ⟨⟨h1, h4⟩, h3, h5, h6, h7⟩ := h
  have hni : ¬ n ≤ s_F b n p := by omega
  have hs : s_sm (b (s_F b n p)).toInt = true := by rw [hF]; unfold s_sm; rw [Bool.and_eq_true, decide_eq_true_eq, decide_eq_true_eq]; exact ⟨l, u⟩
  have hK : s_K b n p = 2 := by unfold s_K; rw [if_neg hni, if_pos hs]
  have hE : s_E b n p = s_rn s_sm b n i := by unfold s_E; rw [if_neg hni, if_pos hs, hF]
  refine ⟨⟨h1.1, h1.2.1, hp⟩, ?_, ?_, ?_, ?_, fun _ => ⟨?_, ?_⟩, fun hh => ?_, fun hh => ?_⟩
  · rw [hE]; exact h1.2.2.1
  · rw [hF]; exact h4
  · rw [hK]; exact h3
  · rw [h7]
    unfold s_W
    rw [hK, hE, hF]
    by_cases h8 : s_rn s_sm b n i - i ≤ 8
    · rw [if_pos h8, if_pos ⟨rfl, h8⟩]
    · rw [if_neg h8, if_neg (fun hh => h8 hh.2)]
  · rw [hE, hF]; exact h5
  · rw [hE, hF]; exact h6
  · rw [hK] at hh; exact absurd hh (by decide)
  · rw [hK] at hh; exact absurd hh (by decide)
theorem s_smF {x : Int} (h : x < 97 ∨ 122 < x) : ¬ s_sm x = true := by
  unfold s_sm; rw [Bool.and_eq_true, decide_eq_true_eq, decide_eq_true_eq]; omega
theorem t_TC_n (hF : s_F b n p = i) (hp : p ≤ n) (hi : i < n) (l : 48 ≤ (b i).toInt) (u : (b i).toInt ≤ 57) (h : t_SM b n i gi gr k) : t_TC b n p gi gl gr k := by
  obtain ⟨⟨h1, h4, h7⟩, h3, h8⟩ := h
  have hni : ¬ n ≤ s_F b n p := by omega
  have hs : ¬ s_sm (b (s_F b n p)).toInt = true := by rw [hF]; exact s_smF (by omega)
  have hd : s_dg (b (s_F b n p)).toInt = true := by rw [hF]; unfold s_dg; rw [Bool.and_eq_true, decide_eq_true_eq, decide_eq_true_eq]; exact ⟨l, u⟩
  have hK : s_K b n p = if 4 < s_rn s_dg b n i - i then 1 else 3 := by unfold s_K; rw [if_neg hni, if_neg hs, if_pos hd, hF]
  have hE : s_E b n p = s_rn s_dg b n i := by unfold s_E; rw [if_neg hni, if_neg hs, if_pos hd, hF]
  have hK2 : s_K b n p ≠ 2 := by rw [hK]; split <;> decide
  have hK4 : s_K b n p ≠ 4 := by rw [hK]; split <;> decide
  refine ⟨⟨h1.1, h1.2.1, hp⟩, ?_, ?_, ?_, ?_, fun hh => absurd hh hK2, fun hh => ?_, fun hh => absurd hh hK4⟩
  · rw [hE]; exact h1.2.2.1
  · rw [hF]; exact h4
  · rw [hK, h3]; split <;> rfl
  · unfold s_W; rw [if_neg (fun hh => hK2 hh.1)]; exact h7
  · rw [hE, hF]; exact h8
theorem t_TC_s (hF : s_F b n p = i) (hp : p ≤ n) (h : t_Sp b n i gi k) (hk : k ≠ 2) (hi : i < n) {w v z x : Int32} (hx : x.toInt = (i : Int)) (ew : w = gi 2 x.toNatClampNeg) (l : w.toInt < 97 ∨ 122 < w.toInt) (u : w.toInt < 48 ∨ 57 < w.toInt) (h4 : (gi k 4).toInt = (i : Int)) (h7 : gr k 7 = .null) (hv : v.toInt = if s_sg w.toInt = true then 2 else 4) (hz : z.toInt = (i : Int) + 1) {g3 : Nat → Nat → Int32} (e1 : g1 = x_up2 gi k 3 v) (e2 : g2 = x_up2 g1 k 9 w) (e3 : g3 = x_up2 g2 k 2 z) : t_TC b n p g3 gl gr k := by
  have hb := t_S_w h hx ew
  have hni : ¬ n ≤ s_F b n p := by omega
  have hs : ¬ s_sm (b (s_F b n p)).toInt = true := by rw [hF, hb]; exact s_smF l
  have hd : ¬ s_dg (b (s_F b n p)).toInt = true := by rw [hF, hb]; unfold s_dg; rw [Bool.and_eq_true, decide_eq_true_eq, decide_eq_true_eq]; omega
  have hK : s_K b n p = if s_sg w.toInt = true then 4 else 1 := by unfold s_K; rw [if_neg hni, if_neg hs, if_neg hd, hF, hb]
  have hE : s_E b n p = i + 1 := by unfold s_E; rw [if_neg hni, if_neg hs, if_neg hd, hF]
  have hK2 : s_K b n p ≠ 2 := by rw [hK]; split <;> decide
  have hK3 : s_K b n p ≠ 3 := by rw [hK]; split <;> decide
  have hS := t_S_nx (t_S_up (t_S_up h hk (j := 3) (by decide) e1) hk (j := 9) (by decide) e2) hk hz hi e3
  refine ⟨⟨hS.1, hS.2.1, hp⟩, ?_, ?_, ?_, ?_, fun hh => absurd hh hK2, fun hh => absurd hh hK3, fun hh => ?_⟩
  · rw [hE]; exact hS.2.2.1
  · rw [hF, e3, x_up2_off (Or.inr (by decide)), e2, x_up2_off (Or.inr (by decide)), e1, x_up2_off (Or.inr (by decide))]; exact h4
  · rw [hK, e3, x_up2_off (Or.inr (by decide)), e2, x_up2_off (Or.inr (by decide)), e1, x_up2_at, hv]; split <;> rfl
  · unfold s_W; rw [if_neg (fun hh => hK2 hh.1)]; exact h7
  · rw [hF, hb, e3, x_up2_off (Or.inr (by decide)), e2, x_up2_at]
/-- behind a TOKEN the next one -/
theorem t_TC_S (h : t_TC b n p gi gl gr k) : t_Sp b n (s_E b n p) gi k := ⟨h.1.1, h.1.2.1, h.2.1, (s_E_b h.1.2.2).2⟩
/-- no other cell was written -/
noncomputable def t_on (k : Nat) (gi : Nat → Nat → Int32) (gl : Nat → Nat → Int64) (gr : Nat → Nat → Value) (g1 : Nat → Nat → Int32) (l1 : Nat → Nat → Int64) (r1 : Nat → Nat → Value) : Prop := ∀ K, K ≠ k → g1 K = gi K ∧ l1 K = gl K ∧ r1 K = gr K
theorem t_on.rf : t_on k gi gl gr gi gl gr := fun _ _ => ⟨rfl, rfl, rfl⟩
theorem t_on.tr (h : t_on k gi gl gr g1 l1 r1) (h' : t_on k g1 l1 r1 g2 l2 r2) : t_on k gi gl gr g2 l2 r2 := fun K hK => ⟨(h' K hK).1.trans (h K hK).1, (h' K hK).2.1.trans (h K hK).2.1, (h' K hK).2.2.trans (h K hK).2.2⟩
theorem t_on.I {j : Nat} {v : Int32} (h : t_on k gi gl gr g1 l1 r1) (e : g2 = x_up2 g1 k j v) : t_on k gi gl gr g2 l1 r1 := fun K hK => ⟨by rw [e, x_up2_ne hK]; exact (h K hK).1, (h K hK).2⟩
theorem t_on.L {j : Nat} {v : Int64} (h : t_on k gi gl gr g1 l1 r1) (e : l2 = x_up2 l1 k j v) : t_on k gi gl gr g1 l2 r1 := fun K hK => ⟨(h K hK).1, by rw [e, x_up2_ne hK]; exact (h K hK).2.1, (h K hK).2.2⟩
theorem t_on.R {j : Nat} {v : Value} (h : t_on k gi gl gr g1 l1 r1) (e : r2 = x_up2 r1 k j v) : t_on k gi gl gr g1 l1 r2 := fun K hK => ⟨(h K hK).1, (h K hK).2.1, by rw [e, x_up2_ne hK]; exact (h K hK).2.2⟩
end TOK2
theorem s_sgT {x : Int} (h : x = 59 ∨ x = 60 ∨ x = 62 ∨ x = 61 ∨ x = 40 ∨ x = 41) : s_sg x = true := by
  unfold s_sg; simp only [Bool.or_eq_true, decide_eq_true_eq]; exact h
theorem s_sgF {x : Int} (h : x ≠ 59 ∧ x ≠ 60 ∧ x ≠ 62 ∧ x ≠ 61 ∧ x ≠ 40 ∧ x ≠ 41) : ¬ s_sg x = true := by
  unfold s_sg; simp only [Bool.or_eq_true, decide_eq_true_eq]; omega
/-- a NAME, BLASTS, a NUMBER's value, the FAULT of a TOKEN -/
noncomputable def s_isN (b : Nat → Int32) (n p : Nat) : Prop := s_K b n p = 2 ∧ s_W b n p = none ∧ s_E b n p - s_F b n p ≤ 8
noncomputable def s_isB (b : Nat → Int32) (n p : Nat) : Prop := (s_K b n p = 2 ∧ s_E b n p - s_F b n p ≤ 6) ∧ ∀ k, s_F b n p ≤ k → k < s_E b n p → (b k).toInt = 108 ∨ (b k).toInt = 115
noncomputable def s_isS (b : Nat → Int32) (n p : Nat) (c : Int) : Prop := s_K b n p = 4 ∧ (b (s_F b n p)).toInt = c
noncomputable def s_L (b : Nat → Int32) (n p : Nat) : Int64 := s_ll b (s_F b n p) (s_E b n p - s_F b n p)
noncomputable def s_V (b : Nat → Int32) (n p : Nat) : Int := (s_nn b (s_F b n p) (s_E b n p - s_F b n p)).toInt
noncomputable def s_isV (b : Nat → Int32) (n p : Nat) (lo hi : Int) : Prop := s_K b n p = 3 ∧ lo ≤ s_V b n p ∧ s_V b n p ≤ hi
noncomputable def s_fk (b : Nat → Int32) (n p : Nat) (x : Int) : Int := if s_K b n p = 1 then 1 else x
noncomputable def t_FL (gi : Nat → Nat → Int32) (k : Nat) (f q : Int) : Prop := (gi k 10).toInt = f ∧ (gi k 11).toInt = q
noncomputable def t_nf (gi g1 : Nat → Nat → Int32) (k : Nat) : Prop := g1 k 10 = gi k 10 ∧ g1 k 11 = gi k 11
/-- rules that tell more -/
theorem t_kwlE {X : x_Ext} {d mi pc nx len ml q : Nat} {z : Int} {lo : x_Lo} {r : List Value} {G : x_G} {P : Option Value → x_G → Prop} {T : List (Nat × x_Row)} {rt : Option FieldType} {i0 : Nat} {k : Nat} (F : x_F mi T ml rt) (hr : x_lk T pc = some (.getfield i0, len, 200, 0, q, z)) (hk : k < 27) (hn : pc + len = nx) (kk : ∀ w : Int64, w = x_kwl.getD k 0 → x_Ev X d mi nx lo (.long w :: r) G P) : x_Ev X d mi pc lo (.retAddr k :: r) G P := by
  refine ev_heap F hr rfl ?_ hn (kk (x_kwl.getD k 0) rfl)
  show (if (200 : Nat) = 200 then (match x_xf 0 k with | some v => some (v :: r, G) | none => none) else none) = _
  rw [if_pos rfl]
  have h : x_xf 0 k = some (.long (x_kwl.getD k 0)) := by show (if k < 27 then _ else none) = _; rw [if_pos hk]
  rw [h]
theorem t_kwaE {X : x_Ext} {d mi pc nx a b len ml q : Nat} {z : Int} {lo : x_Lo} {r : List Value} {G : x_G} {P : Option Value → x_G → Prop} {T : List (Nat × x_Row)} {rt : Option FieldType} {i : Int32} {l u : Int} (F : x_F mi T ml rt) (hr : x_lk T pc = some (.aaload, len, a, b, q, z)) (a1 : l ≤ i.toInt) (h1 : decide (0 ≤ l) = true) (a2 : i.toInt ≤ u) (h2 : decide (u < 27) = true) (hn : pc + len = nx) (kk : ∀ k, k = i.toNatClampNeg → k < 27 → x_Ev X d mi nx lo (.retAddr k :: r) G P) : x_Ev X d mi pc lo (.int i :: .retAddr 27 :: r) G P := by
  have h := t_idx (n := 27) a1 h1 a2 h2
  refine ev_heap F hr rfl ?_ hn (kk i.toNatClampNeg rfl h.2)
  show (match x_ldX x_isObj X 27 i with | some v => some (v :: r, G) | none => none) = _
  have h3 : x_ldX x_isObj X 27 i = some (.retAddr i.toNatClampNeg) := by
    show (if x_isObj (.object "HornBridge$Keyword") = true ∧ ¬ (i < 0 ∨ 27 ≤ i.toNatClampNeg) then some (Value.retAddr i.toNatClampNeg) else none) = _
    rw [if_pos ⟨rfl, x_ix h.1 h.2⟩]
  rw [h3]
section QL0
variable {X : x_Ext} {d mi pc nx a b len ml q : Nat} {z : Int} {ins : Instr} {lo : x_Lo} {st r : List Value} {P : Option Value → x_G → Prop} {T : List (Nat × x_Row)} {rt : Option FieldType} {sh : List (Nat ⊕ (Nat × Nat))} {gi : Nat → Nat → Int32} {gl : Nat → Nat → Int64} {gr : Nat → Nat → Value}
theorem ev_qL0 {as : List Value} {Q : Int64 → (Nat → Nat → Int32) → (Nat → Nat → Int64) → (Nat → Nat → Value) → Prop} (F : x_F mi T ml rt) (hr : x_lk T pc = some (ins, len, a, b, q, z)) (hc : x_cat ins = 4) (ha : Nat.blt a 1000 = true) (hb : Nat.ble b st.length = true) (has : (st.take b).reverse = as) (hrest : st.drop b = r) (h8 : Nat.ble (x_words r) 8 = true) (hM : x_Me X d a as (sh, gi, gl, gr) (t_PL [] sh gi gl gr Q)) (hn : pc + 3 = nx) (kk : ∀ (w : Int64), Q w gi gl gr → x_Ev X (d + 1) mi nx lo (.long w :: r) (sh, gi, gl, gr) P) : x_Ev X (d + 1) mi pc lo st (sh, gi, gl, gr) P := by
  subst has; subst hrest
  refine ev_call F hr hc (decide_eq_true (Nat.le_of_ble_eq_true ha)) (Nat.le_of_ble_eq_true hb) (Nat.le_of_ble_eq_true h8) hM hn ?_
  rintro _ _ ⟨gi2, gl2, gr2, rfl, h1, h2, w, rfl, h5⟩
  obtain ⟨e1, e2, e3⟩ := t_X0 h2
  rw [e1, e2, e3]
  rw [e1, e2, e3] at h5
  exact kk _ h5
/-- a truth stored is the truth -/
theorem ev_zastV {x i : Int32} {k n : Nat} {l u : Int} {gi0 : Nat → Nat → Int32} {gl0 : Nat → Nat → Int64} {gr0 : Nat → Nat → Value} {wl : List (Nat × Nat)} (F : x_F mi T ml rt) (hr : x_lk T pc = some (.bastore, len, a, b, q, z)) (hk : sh[k]? = some (.inr (3, n))) (a1 : l ≤ i.toInt) (h1 : decide (0 ≤ l) = true) (a2 : i.toInt ≤ u) (h2 : decide (u < (n : Int)) = true) (v0 : 0 ≤ x.toInt) (v1 : x.toInt ≤ 1) (hn : pc + len = nx) (hI : ∀ x' : Int32, 0 ≤ x'.toInt → x'.toInt ≤ 1 → t_I sh (x_up2 gi k i.toNatClampNeg x') gr) (hX : ∀ x', t_X wl sh gi0 gl0 gr0 (x_up2 gi k i.toNatClampNeg x') gl gr) (kk : ∀ g2, g2 = x_up2 gi k i.toNatClampNeg x → t_I sh g2 gr → t_X wl sh gi0 gl0 gr0 g2 gl gr → x_Ev X d mi nx lo r (sh, g2, gl, gr) P) : x_Ev X d mi pc lo (.int x :: .int i :: .ref k :: r) (sh, gi, gl, gr) P := by
  have hx : x &&& 1 = x := by
    have h : x.toInt = 0 ∨ x.toInt = 1 := by omega
    rcases h with h | h
    · rw [show x = 0 from Int32.toInt_inj.mp h]; rfl
    · rw [show x = 1 from Int32.toInt_inj.mp h]; rfl
  exact ev_zast F hr hk (t_idx a1 h1 a2 h2).1 (t_idx a1 h1 a2 h2).2 hn (by rw [hx]; exact kk _ rfl (hI x v0 v1) (hX x))
/-- a byte stored -/
theorem ev_bastE {x i : Int32} {k n : Nat} {l u : Int} {gi0 : Nat → Nat → Int32} {gl0 : Nat → Nat → Int64} {gr0 : Nat → Nat → Value} {wl : List (Nat × Nat)} (F : x_F mi T ml rt) (hr : x_lk T pc = some (.bastore, len, a, b, q, z)) (hk : sh[k]? = some (.inr (2, n))) (a1 : l ≤ i.toInt) (h1 : decide (0 ≤ l) = true) (a2 : i.toInt ≤ u) (h2 : decide (u < (n : Int)) = true) (hn : pc + len = nx) (hI : ∀ x', t_I sh (x_up2 gi k i.toNatClampNeg x') gr) (hX : ∀ x', t_X wl sh gi0 gl0 gr0 (x_up2 gi k i.toNatClampNeg x') gl gr) (kk : ∀ g2 x', x' = x.toInt8.toInt32 → g2 = x_up2 gi k i.toNatClampNeg x' → t_I sh g2 gr → t_X wl sh gi0 gl0 gr0 g2 gl gr → x_Ev X d mi nx lo r (sh, g2, gl, gr) P) : x_Ev X d mi pc lo (.int x :: .int i :: .ref k :: r) (sh, gi, gl, gr) P :=
  ev_bast F hr hk (t_idx a1 h1 a2 h2).1 (t_idx a1 h1 a2 h2).2 hn (kk _ _ rfl rfl (hI _) (hX _))
end QL0
/-! ===== printed by riv.py: TOKENS of the class ===== -/
noncomputable def wl_s_isSign : List (Nat × Nat) := []
noncomputable def Q_s_isSign (gi : Nat → Nat → Int32) (gl : Nat → Nat → Int64) (gr : Nat → Nat → Value) (ar0 : Int32) : Int32 → (Nat → Nat → Int32) → (Nat → Nat → Int64) → (Nat → Nat → Value) → Prop := fun (v : Int32) (gi2 : Nat → Nat → Int32) (gl2 : Nat → Nat → Int64) (gr2 : Nat → Nat → Value) => v.toInt = (if s_sg ar0.toInt = true then 1 else 0)
theorem c_s_isSign {X : x_Ext} {d : Nat} {sh : List (Nat ⊕ (Nat × Nat))} {gi : Nat → Nat → Int32} {gl : Nat → Nat → Int64} {gr : Nat → Nat → Value} (hI : t_I sh gi gr) (ar0 : Int32) : x_Me X (d + 1) n_X9_isSign [.int ar0] (sh, gi, gl, gr) (t_PI wl_s_isSign sh gi gl gr 0 1 (Q_s_isSign gi gl gr ar0)) := by
  have hX : t_X wl_s_isSign sh gi gl gr gi gl gr := t_X.rf
  refine me_s f_X9_isSign rfl rfl ?_
  refine ev_loc f_X9_isSign (nx := 1) rfl rfl rfl rfl ?_
  refine ev_bp f_X9_isSign (nx := 3) (v := 59) rfl (by decide) rfl ?_
  refine ev_if f_X9_isSign (t1 := 36) (t2 := 6) rfl rfl rfl (fun h1 => ?_) (fun h1 => ?_)
  · have u2 : ar0.toInt ≤ 59 := t_equ h1 (by decide : (59:Int32).toInt ≤ (59:Int))
    have l3 : 59 ≤ ar0.toInt := t_eql h1 (by decide : (59:Int) ≤ (59:Int32).toInt)
    refine ev_ic f_X9_isSign (nx := 37) (v := 1) rfl (by decide) rfl ?_
    refine ev_jmp f_X9_isSign (nx := 41) rfl rfl rfl ?_
    exact ev_ret f_X9_isSign rfl rfl rfl ⟨_, _, _, rfl, hI, hX, ⟨_, rfl, (Int.le_trans (by decide : (0:Int) ≤ 1) (by decide : (1:Int) ≤ (1:Int32).toInt)), (by decide : (1:Int32).toInt ≤ (1:Int)), (show (1 : Int) = (if s_sg ar0.toInt = true then 1 else 0) from (by rw [if_pos (s_sgT (by omega))]))⟩⟩
  · have r4 : ar0.toInt ≠ 59 := fun e => h1 (Int32.toInt_inj.mp (e.trans (by decide : (59:Int) = (59 : Int32).toInt)))
    refine ev_loc f_X9_isSign (nx := 7) rfl rfl rfl rfl ?_
    refine ev_bp f_X9_isSign (nx := 9) (v := 60) rfl (by decide) rfl ?_
    refine ev_if f_X9_isSign (t1 := 36) (t2 := 12) rfl rfl rfl (fun h5 => ?_) (fun h5 => ?_)
    · have u6 : ar0.toInt ≤ 60 := t_equ h5 (by decide : (60:Int32).toInt ≤ (60:Int))
      have l7 : 60 ≤ ar0.toInt := t_eql h5 (by decide : (60:Int) ≤ (60:Int32).toInt)
      refine ev_ic f_X9_isSign (nx := 37) (v := 1) rfl (by decide) rfl ?_
      refine ev_jmp f_X9_isSign (nx := 41) rfl rfl rfl ?_
      exact ev_ret f_X9_isSign rfl rfl rfl ⟨_, _, _, rfl, hI, hX, ⟨_, rfl, (Int.le_trans (by decide : (0:Int) ≤ 1) (by decide : (1:Int) ≤ (1:Int32).toInt)), (by decide : (1:Int32).toInt ≤ (1:Int)), (show (1 : Int) = (if s_sg ar0.toInt = true then 1 else 0) from (by rw [if_pos (s_sgT (by omega))]))⟩⟩
    · have r8 : ar0.toInt ≠ 60 := fun e => h5 (Int32.toInt_inj.mp (e.trans (by decide : (60:Int) = (60 : Int32).toInt)))
      refine ev_loc f_X9_isSign (nx := 13) rfl rfl rfl rfl ?_
      refine ev_bp f_X9_isSign (nx := 15) (v := 62) rfl (by decide) rfl ?_
      refine ev_if f_X9_isSign (t1 := 36) (t2 := 18) rfl rfl rfl (fun h9 => ?_) (fun h9 => ?_)
      · have u10 : ar0.toInt ≤ 62 := t_equ h9 (by decide : (62:Int32).toInt ≤ (62:Int))
        have l11 : 62 ≤ ar0.toInt := t_eql h9 (by decide : (62:Int) ≤ (62:Int32).toInt)
        refine ev_ic f_X9_isSign (nx := 37) (v := 1) rfl (by decide) rfl ?_
        refine ev_jmp f_X9_isSign (nx := 41) rfl rfl rfl ?_
        exact ev_ret f_X9_isSign rfl rfl rfl ⟨_, _, _, rfl, hI, hX, ⟨_, rfl, (Int.le_trans (by decide : (0:Int) ≤ 1) (by decide : (1:Int) ≤ (1:Int32).toInt)), (by decide : (1:Int32).toInt ≤ (1:Int)), (show (1 : Int) = (if s_sg ar0.toInt = true then 1 else 0) from (by rw [if_pos (s_sgT (by omega))]))⟩⟩
      · have r12 : ar0.toInt ≠ 62 := fun e => h9 (Int32.toInt_inj.mp (e.trans (by decide : (62:Int) = (62 : Int32).toInt)))
        refine ev_loc f_X9_isSign (nx := 19) rfl rfl rfl rfl ?_
        refine ev_bp f_X9_isSign (nx := 21) (v := 61) rfl (by decide) rfl ?_
        refine ev_if f_X9_isSign (t1 := 36) (t2 := 24) rfl rfl rfl (fun h13 => ?_) (fun h13 => ?_)
        · have u14 : ar0.toInt ≤ 61 := t_equ h13 (by decide : (61:Int32).toInt ≤ (61:Int))
          have l15 : 61 ≤ ar0.toInt := t_eql h13 (by decide : (61:Int) ≤ (61:Int32).toInt)
          refine ev_ic f_X9_isSign (nx := 37) (v := 1) rfl (by decide) rfl ?_
          refine ev_jmp f_X9_isSign (nx := 41) rfl rfl rfl ?_
          exact ev_ret f_X9_isSign rfl rfl rfl ⟨_, _, _, rfl, hI, hX, ⟨_, rfl, (Int.le_trans (by decide : (0:Int) ≤ 1) (by decide : (1:Int) ≤ (1:Int32).toInt)), (by decide : (1:Int32).toInt ≤ (1:Int)), (show (1 : Int) = (if s_sg ar0.toInt = true then 1 else 0) from (by rw [if_pos (s_sgT (by omega))]))⟩⟩
        · have r16 : ar0.toInt ≠ 61 := fun e => h13 (Int32.toInt_inj.mp (e.trans (by decide : (61:Int) = (61 : Int32).toInt)))
          refine ev_loc f_X9_isSign (nx := 25) rfl rfl rfl rfl ?_
          refine ev_bp f_X9_isSign (nx := 27) (v := 40) rfl (by decide) rfl ?_
          refine ev_if f_X9_isSign (t1 := 36) (t2 := 30) rfl rfl rfl (fun h17 => ?_) (fun h17 => ?_)
          · have u18 : ar0.toInt ≤ 40 := t_equ h17 (by decide : (40:Int32).toInt ≤ (40:Int))
            have l19 : 40 ≤ ar0.toInt := t_eql h17 (by decide : (40:Int) ≤ (40:Int32).toInt)
            refine ev_ic f_X9_isSign (nx := 37) (v := 1) rfl (by decide) rfl ?_
            refine ev_jmp f_X9_isSign (nx := 41) rfl rfl rfl ?_
            exact ev_ret f_X9_isSign rfl rfl rfl ⟨_, _, _, rfl, hI, hX, ⟨_, rfl, (Int.le_trans (by decide : (0:Int) ≤ 1) (by decide : (1:Int) ≤ (1:Int32).toInt)), (by decide : (1:Int32).toInt ≤ (1:Int)), (show (1 : Int) = (if s_sg ar0.toInt = true then 1 else 0) from (by rw [if_pos (s_sgT (by omega))]))⟩⟩
          · have r20 : ar0.toInt ≠ 40 := fun e => h17 (Int32.toInt_inj.mp (e.trans (by decide : (40:Int) = (40 : Int32).toInt)))
            refine ev_loc f_X9_isSign (nx := 31) rfl rfl rfl rfl ?_
            refine ev_bp f_X9_isSign (nx := 33) (v := 41) rfl (by decide) rfl ?_
            refine ev_if f_X9_isSign (t1 := 36) (t2 := 40) rfl rfl rfl (fun h21 => ?_) (fun h21 => ?_)
            · have u22 : ar0.toInt ≤ 41 := t_equ h21 (by decide : (41:Int32).toInt ≤ (41:Int))
              have l23 : 41 ≤ ar0.toInt := t_eql h21 (by decide : (41:Int) ≤ (41:Int32).toInt)
              refine ev_ic f_X9_isSign (nx := 37) (v := 1) rfl (by decide) rfl ?_
              refine ev_jmp f_X9_isSign (nx := 41) rfl rfl rfl ?_
              exact ev_ret f_X9_isSign rfl rfl rfl ⟨_, _, _, rfl, hI, hX, ⟨_, rfl, (Int.le_trans (by decide : (0:Int) ≤ 1) (by decide : (1:Int) ≤ (1:Int32).toInt)), (by decide : (1:Int32).toInt ≤ (1:Int)), (show (1 : Int) = (if s_sg ar0.toInt = true then 1 else 0) from (by rw [if_pos (s_sgT (by omega))]))⟩⟩
            · have r24 : ar0.toInt ≠ 41 := fun e => h21 (Int32.toInt_inj.mp (e.trans (by decide : (41:Int) = (41 : Int32).toInt)))
              refine ev_ic f_X9_isSign (nx := 41) (v := 0) rfl (by decide) rfl ?_
              exact ev_ret f_X9_isSign rfl rfl rfl ⟨_, _, _, rfl, hI, hX, ⟨_, rfl, (by decide : (0:Int) ≤ (0:Int32).toInt), (Int.le_trans (by decide : (0:Int32).toInt ≤ (0:Int)) (by decide : (0:Int) ≤ 1)), (show (0 : Int) = (if s_sg ar0.toInt = true then 1 else 0) from (by rw [if_neg (s_sgF (by omega))]))⟩⟩
noncomputable def wl_s_stepWord : List (Nat × Nat) := [(118, 2), (118, 3), (118, 5), (118, 6), (118, 7)]
noncomputable def Q_s_stepWord (gi : Nat → Nat → Int32) (gl : Nat → Nat → Int64) (gr : Nat → Nat → Value) (ar0 : Nat) : (Nat → Nat → Int32) → (Nat → Nat → Int64) → (Nat → Nat → Value) → Prop := fun (gi2 : Nat → Nat → Int32) (gl2 : Nat → Nat → Int64) (gr2 : Nat → Nat → Value) => (∀ (b : Nat → Int32) (n q : Nat), t_S0 b n q gi gr ar0 → t_SX b n q 27 gi2 gl2 gr2 ar0) ∧ t_on ar0 gi gl gr gi2 gl2 gr2
theorem c_s_stepWord {X : x_Ext} {d : Nat} {sh : List (Nat ⊕ (Nat × Nat))} {gi : Nat → Nat → Int32} {gl : Nat → Nat → Int64} {gr : Nat → Nat → Value} (hI : t_I sh gi gr) (ar0 : Nat) (p_a0 : t_Tk sh gr ar0) : x_Me X (d + 1) n_X9_stepWord [.ref ar0] (sh, gi, gl, gr) (t_PN wl_s_stepWord sh gi gl gr (Q_s_stepWord gi gl gr ar0)) := by
  have hX : t_X wl_s_stepWord sh gi gl gr gi gl gr := t_X.rf
  refine me_i f_X9_stepWord p_a0.1 rfl rfl rfl ?_
  have L1 : ∀ (gi1 : Nat → Nat → Int32) (gl1 : Nat → Nat → Int64) (gr1 : Nat → Nat → Value), t_I sh gi1 gr1 → t_X wl_s_stepWord sh gi gl gr gi1 gl1 gr1 → t_Tk sh gr1 ar0 → (∀ (b : Nat → Int32) (n q : Nat), t_S0 b n q gi gr ar0 → ∃ i : Nat, t_SW b n q i gi1 gl1 gr1 ar0 ∧ i = s_rn s_sm b n q) ∧ t_on ar0 gi gl gr gi1 gl1 gr1 → x_Ev X (d + 1) n_X9_stepWord 90 [(0, .ref ar0)] [] (sh, gi1, gl1, gr1) (t_PN wl_s_stepWord sh gi gl gr (Q_s_stepWord gi gl gr ar0)) := by
    intro gi1 gl1 gr1 hI hX p_a0 j1_0
    refine ev_loc f_X9_stepWord (nx := 91) rfl rfl rfl rfl ?_
    refine ev_loc f_X9_stepWord (nx := 92) rfl rfl rfl rfl ?_
    refine ev_getI f_X9_stepWord (nx := 95) rfl p_a0.1 rfl rfl rfl ?_
    obtain ⟨l2, u2⟩ := hI.b p_a0.1 (t_bdK rfl : t_bd 8 2 = some (0, 900))
    refine ev_loc f_X9_stepWord (nx := 96) rfl rfl rfl rfl ?_
    refine ev_getI f_X9_stepWord (nx := 99) rfl p_a0.1 rfl rfl rfl ?_
    obtain ⟨l3, u3⟩ := hI.b p_a0.1 (t_bdK rfl : t_bd 8 4 = some (0, 900))
    refine ev_subR f_X9_stepWord (nx := 100) (l := (-900)) (u := 900) rfl l2 u2 l3 u3 rfl rfl (by decide) (by decide) rfl (fun z4 e4 l4 u4 => ?_)
    refine ev_putIT f_X9_stepWord (nx := 103) rfl p_a0.1 rfl rfl rfl (hI.put0 p_a0.1 rfl rfl) (hX.upI (t_inO hI.wf p_a0.1 (t_outO hI.wf p_a0.1 rfl) rfl)) (fun g5 e5 hI hX => ?_)
    refine ev_ic f_X9_stepWord (nx := 104) (v := 0) rfl (by decide) rfl ?_
    refine ev_loc f_X9_stepWord (nx := 105) (lo' := [(1, .int 0), (0, .ref ar0)]) rfl rfl rfl rfl ?_
    have L6 : ∀ (m6 : Nat) (gi6 : Nat → Nat → Int32) (gl6 : Nat → Nat → Int64) (gr6 : Nat → Nat → Value) (y6_1 : Int32), t_I sh gi6 gr6 → t_X wl_s_stepWord sh gi gl gr gi6 gl6 gr6 → t_Tk sh gr6 ar0 → 0 ≤ y6_1.toInt → y6_1.toInt ≤ 27 → gi6 ar0 2 = (gi1 ar0 2) → gi6 ar0 4 = (gi1 ar0 4) → gi6 ar0 5 = z4 → (∀ (b : Nat → Int32) (n q : Nat), t_S0 b n q gi gr ar0 → t_SX b n q y6_1.toNatClampNeg gi6 gl6 gr6 ar0) ∧ t_on ar0 gi gl gr gi6 gl6 gr6 → (27 - y6_1.toInt).toNat = m6 → x_Ev X (d + 1) n_X9_stepWord 105 [(1, .int y6_1), (0, .ref ar0)] [] (sh, gi6, gl6, gr6) (t_PN wl_s_stepWord sh gi gl gr (Q_s_stepWord gi gl gr ar0)) := by
      intro m6
      induction m6 using Nat.strongRecOn with
      | _ m6 ih6 =>
      intro gi6 gl6 gr6 y6_1 hI hX p_a0 l6_1 u6_1 c6_1 c6_3 c6_4 j6_0 hm6
      refine ev_loc f_X9_stepWord (nx := 106) rfl rfl rfl rfl ?_
      refine ev_heap f_X9_stepWord (nx := 109) rfl rfl rfl rfl ?_
      refine ev_heap f_X9_stepWord (nx := 110) (st' := .int 27 :: [.int y6_1]) rfl rfl rfl rfl ?_
      refine ev_if f_X9_stepWord (t1 := 153) (t2 := 113) rfl rfl rfl (fun h7 => ?_) (fun h7 => ?_)
      · have l8 : 27 ≤ y6_1.toInt := t_lel h7 (by decide : (27:Int) ≤ (27:Int32).toInt)
        exact ev_ret f_X9_stepWord rfl rfl rfl ⟨_, _, _, rfl, hI, hX, ⟨rfl, (show (∀ (b : Nat → Int32) (n q : Nat), t_S0 b n q gi gr ar0 → t_SX b n q 27 gi6 gl6 gr6 ar0) ∧ t_on ar0 gi gl gr gi6 gl6 gr6 from ⟨fun b n q h => t_SX_e (j6_0.1 b n q h) (by have hc := t_clamp (i := y6_1) (by omega); have ff0 : (gi6 ar0 2).toInt = (gi1 ar0 2).toInt := congrArg Int32.toInt c6_1; have ff1 : (gi6 ar0 4).toInt = (gi1 ar0 4).toInt := congrArg Int32.toInt c6_3; have ff2 : (gi6 ar0 5).toInt = z4.toInt := congrArg Int32.toInt c6_4; omega) (by have hc := t_clamp (i := y6_1) (by omega); omega), j6_0.2⟩)⟩⟩
      · have u9 : y6_1.toInt ≤ 26 := t_ltu (t_nle h7) (by decide : (27:Int32).toInt ≤ (27:Int)) rfl
        refine ev_loc f_X9_stepWord (nx := 114) rfl rfl rfl rfl ?_
        refine ev_gvI f_X9_stepWord (nx := 117) (w := z4) rfl p_a0.1 rfl rfl c6_4 rfl ?_
        refine ev_bp f_X9_stepWord (nx := 119) (v := 8) rfl (by decide) rfl ?_
        refine ev_if f_X9_stepWord (t1 := 153) (t2 := 122) rfl rfl rfl (fun h10 => ?_) (fun h10 => ?_)
        · have l11 : 9 ≤ z4.toInt := t_ltl h10 (by decide : (8:Int) ≤ (8:Int32).toInt) rfl
          have u12 : (gi1 ar0 4).toInt ≤ 891 := by have := u2; omega
          exact ev_ret f_X9_stepWord rfl rfl rfl ⟨_, _, _, rfl, hI, hX, ⟨rfl, (show (∀ (b : Nat → Int32) (n q : Nat), t_S0 b n q gi gr ar0 → t_SX b n q 27 gi6 gl6 gr6 ar0) ∧ t_on ar0 gi gl gr gi6 gl6 gr6 from ⟨fun b n q h => t_SX_e (j6_0.1 b n q h) (by have hc := t_clamp (i := y6_1) (by omega); have ff0 : (gi6 ar0 2).toInt = (gi1 ar0 2).toInt := congrArg Int32.toInt c6_1; have ff1 : (gi6 ar0 4).toInt = (gi1 ar0 4).toInt := congrArg Int32.toInt c6_3; have ff2 : (gi6 ar0 5).toInt = z4.toInt := congrArg Int32.toInt c6_4; omega) (by have hc := t_clamp (i := y6_1) (by omega); omega), j6_0.2⟩)⟩⟩
        · have u13 : z4.toInt ≤ 8 := t_leu (t_nlt h10) (by decide : (8:Int32).toInt ≤ (8:Int))
          refine ev_heap f_X9_stepWord (nx := 125) rfl rfl rfl rfl ?_
          refine ev_loc f_X9_stepWord (nx := 126) rfl rfl rfl rfl ?_
          refine t_kwaE f_X9_stepWord (nx := 127) rfl l6_1 (by decide) u9 (by decide) rfl (fun k14 e14 lt14 => ?_)
          refine t_kwlE f_X9_stepWord (nx := 130) rfl lt14 rfl (fun w15 e15 => ?_)
          refine ev_loc f_X9_stepWord (nx := 131) rfl rfl rfl rfl ?_
          refine ev_getL f_X9_stepWord (nx := 134) rfl p_a0.1 rfl rfl rfl ?_
          refine ev_anyIE f_X9_stepWord (nx := 135) rfl rfl rfl rfl (fun z16 e16 => ?_)
          refine ev_if f_X9_stepWord (t1 := 138) (t2 := 147) rfl rfl rfl (fun h17 => ?_) (fun h17 => ?_)
          · have u18 : z16.toInt ≤ 0 := t_equ h17 (by decide : (0:Int32).toInt ≤ (0:Int))
            have l19 : 0 ≤ z16.toInt := t_eql h17 (by decide : (0:Int) ≤ (0:Int32).toInt)
            refine ev_loc f_X9_stepWord (nx := 139) rfl rfl rfl rfl ?_
            refine ev_heap f_X9_stepWord (nx := 142) rfl rfl rfl rfl ?_
            refine ev_loc f_X9_stepWord (nx := 143) rfl rfl rfl rfl ?_
            refine t_kwaE f_X9_stepWord (nx := 144) rfl l6_1 (by decide) u9 (by decide) rfl (fun k20 e20 lt20 => ?_)
            have hE21 := t_eqf_up (gr := gr6) (j := 7) (v := .retAddr k20) p_a0.1 rfl
            have hT21 := t_keyw hI (v := .retAddr k20) p_a0.1 (Or.inr ⟨_, rfl, lt20⟩)
            replace p_a0 := p_a0.ext hE21
            refine ev_putRT f_X9_stepWord (nx := 147) rfl p_a0.1 rfl rfl rfl rfl hT21 (hX.upR (t_inO hI.wf p_a0.1 (t_outO hI.wf p_a0.1 rfl) rfl) hE21) (fun g21 e21 hI hX => ?_)
            rw [← e21] at p_a0
            refine ev_incR f_X9_stepWord (nx := 150) (c := 1) (l := 1) (u := 27) rfl rfl (by decide) (by decide) l6_1 u9 rfl rfl (by decide) (by decide) rfl (fun z22 e22 l22 u22 => ?_)
            refine ev_jmp f_X9_stepWord (nx := 105) rfl rfl rfl ?_
            refine ev_sub (lo := [(1, .int z22), (0, .ref ar0)]) rfl (t_sc rfl (t_sc rfl t_sn)) ?_
            exact ih6 _ (by omega) gi6 gl6 g21 (z22) hI hX p_a0 (Int.le_trans (by decide : (0:Int) ≤ 1) l22) u22 c6_1 c6_3 c6_4 ⟨fun b n q h => (by rw [show z22.toNatClampNeg = y6_1.toNatClampNeg + 1 from (by have h1 := t_clamp (i := z22) (by omega); have h2 := t_clamp (i := y6_1) (by omega); omega)]; exact t_SX_y (j6_0.1 b n q h) (by have ff0 : (gi6 ar0 2).toInt = (gi1 ar0 2).toInt := congrArg Int32.toInt c6_1; have ff1 : (gi6 ar0 4).toInt = (gi1 ar0 4).toInt := congrArg Int32.toInt c6_3; have ff2 : (gi6 ar0 5).toInt = z4.toInt := congrArg Int32.toInt c6_4; omega) (by rw [← e14, ← e15]; exact (lg_cmp_eq _ _).mp (e16.symm.trans h17)) (by rw [← e20]; exact e21)), (t_on.R j6_0.2 e21)⟩ rfl
          · have r23 : z16.toInt ≠ 0 := fun e => h17 (Int32.toInt_inj.mp (e.trans (by decide : (0:Int) = (0 : Int32).toInt)))
            refine ev_incR f_X9_stepWord (nx := 150) (c := 1) (l := 1) (u := 27) rfl rfl (by decide) (by decide) l6_1 u9 rfl rfl (by decide) (by decide) rfl (fun z24 e24 l24 u24 => ?_)
            refine ev_jmp f_X9_stepWord (nx := 105) rfl rfl rfl ?_
            refine ev_sub (lo := [(1, .int z24), (0, .ref ar0)]) rfl (t_sc rfl (t_sc rfl t_sn)) ?_
            exact ih6 _ (by omega) gi6 gl6 gr6 (z24) hI hX p_a0 (Int.le_trans (by decide : (0:Int) ≤ 1) l24) u24 c6_1 c6_3 c6_4 ⟨fun b n q h => (by rw [show z24.toNatClampNeg = y6_1.toNatClampNeg + 1 from (by have h1 := t_clamp (i := z24) (by omega); have h2 := t_clamp (i := y6_1) (by omega); omega)]; exact t_SX_n (j6_0.1 b n q h) (by have ff0 : (gi6 ar0 2).toInt = (gi1 ar0 2).toInt := congrArg Int32.toInt c6_1; have ff1 : (gi6 ar0 4).toInt = (gi1 ar0 4).toInt := congrArg Int32.toInt c6_3; have ff2 : (gi6 ar0 5).toInt = z4.toInt := congrArg Int32.toInt c6_4; omega) (by rw [← e14, ← e15]; exact fun hh => h17 (e16.trans ((lg_cmp_eq _ _).mpr hh)))), j6_0.2⟩ rfl
    refine ev_sub (lo := [(1, .int 0), (0, .ref ar0)]) rfl (t_sc rfl (t_sc rfl t_sn)) ?_
    exact L6 _ g5 gl1 gr1 (0) hI hX p_a0 (by decide : (0:Int) ≤ (0:Int32).toInt) (Int.le_trans (by decide : (0:Int32).toInt ≤ (0:Int)) (by decide : (0:Int) ≤ 27)) ((by rw [e5]; exact x_up2_off (Or.inr (by decide)) : g5 ar0 2 = gi1 ar0 2).trans rfl) ((by rw [e5]; exact x_up2_off (Or.inr (by decide)) : g5 ar0 4 = gi1 ar0 4).trans rfl) (by rw [e5]; exact x_up2_at _ _ _ _ : g5 ar0 5 = z4) ⟨fun b n q h => (j1_0.1 b n q h).elim (fun i hi => t_SX_0 hi.1 (t_noobj (hI.wf.s (k := 2) rfl) p_a0.1) hi.2 (by omega) e5), (t_on.I j1_0.2 e5)⟩ rfl
  refine ev_loc f_X9_stepWord (nx := 1) rfl rfl rfl rfl ?_
  refine ev_ic f_X9_stepWord (nx := 2) (v := 0) rfl (by decide) rfl ?_
  refine ev_putIT f_X9_stepWord (nx := 5) rfl p_a0.1 rfl rfl rfl (hI.put0 p_a0.1 rfl rfl) (hX.upI (t_inO hI.wf p_a0.1 (t_outO hI.wf p_a0.1 rfl) rfl)) (fun g25 e25 hI hX => ?_)
  refine ev_loc f_X9_stepWord (nx := 6) rfl rfl rfl rfl ?_
  refine ev_lc f_X9_stepWord (nx := 7) (v := 0) rfl (by decide) rfl ?_
  refine ev_putLT f_X9_stepWord (nx := 10) rfl p_a0.1 rfl rfl rfl (hX.upL (t_inO hI.wf p_a0.1 (t_outO hI.wf p_a0.1 rfl) rfl)) (fun g26 e26 hX => ?_)
  have L27 : ∀ (m27 : Nat) (gi27 : Nat → Nat → Int32) (gl27 : Nat → Nat → Int64) (gr27 : Nat → Nat → Value), t_I sh gi27 gr27 → t_X wl_s_stepWord sh gi gl gr gi27 gl27 gr27 → t_Tk sh gr27 ar0 → gi27 ar0 3 = 0 → (∀ (b : Nat → Int32) (n q : Nat), t_S0 b n q gi gr ar0 → ∃ i : Nat, t_SW b n q i gi27 gl27 gr27 ar0) ∧ t_on ar0 gi gl gr gi27 gl27 gr27 → (900 - (gi27 ar0 2).toInt).toNat = m27 → x_Ev X (d + 1) n_X9_stepWord 10 [(0, .ref ar0)] [] (sh, gi27, gl27, gr27) (t_PN wl_s_stepWord sh gi gl gr (Q_s_stepWord gi gl gr ar0)) := by
    intro m27
    induction m27 using Nat.strongRecOn with
    | _ m27 ih27 =>
    intro gi27 gl27 gr27 hI hX p_a0 c27_0 j27_0 hm27
    refine ev_loc f_X9_stepWord (nx := 11) rfl rfl rfl rfl ?_
    refine ev_getI f_X9_stepWord (nx := 14) rfl p_a0.1 rfl rfl rfl ?_
    obtain ⟨l28, u28⟩ := hI.b p_a0.1 (t_bdK rfl : t_bd 8 2 = some (0, 900))
    refine ev_loc f_X9_stepWord (nx := 15) rfl rfl rfl rfl ?_
    refine ev_getI f_X9_stepWord (nx := 18) rfl p_a0.1 rfl rfl rfl ?_
    obtain ⟨l29, u29⟩ := hI.b p_a0.1 (t_bdK rfl : t_bd 8 1 = some (0, 900))
    refine ev_if f_X9_stepWord (t1 := 90) (t2 := 21) rfl rfl rfl (fun h30 => ?_) (fun h30 => ?_)
    · have r31 : (gi27 ar0 1).toInt ≤ (gi27 ar0 2).toInt := Int32.le_iff_toInt_le.mp h30
      refine ev_sub (lo := [(0, .ref ar0)]) rfl (t_sc rfl t_sn) ?_
      exact L1 gi27 gl27 gr27  hI hX p_a0 ⟨fun b n q h => (j27_0.1 b n q h).elim (fun i hi => ⟨i, hi, t_SW_e hi (Or.inl (by omega))⟩), j27_0.2⟩
    · have r32 : (gi27 ar0 2).toInt < (gi27 ar0 1).toInt := Int32.lt_iff_toInt_lt.mp (t_nle h30)
      have u33 : (gi27 ar0 2).toInt ≤ 899 := t_ltu (t_nle h30) u29 rfl
      have l34 : 1 ≤ (gi27 ar0 1).toInt := t_ltl (t_nle h30) l28 rfl
      refine ev_loc f_X9_stepWord (nx := 22) rfl rfl rfl rfl ?_
      have e35 := p_a0.2
      refine ev_getR f_X9_stepWord (nx := 25) rfl p_a0.1 rfl rfl e35 rfl rfl ?_
      refine ev_loc f_X9_stepWord (nx := 26) rfl rfl rfl rfl ?_
      refine ev_gvI f_X9_stepWord (nx := 29) (w := (gi27 ar0 2)) rfl p_a0.1 rfl rfl rfl rfl ?_
      refine ev_baldT f_X9_stepWord (nx := 30) rfl (hI.wf.s rfl) rfl l28 (by decide) u33 (by decide) rfl (fun w36 e36 => ?_)
      refine ev_bp f_X9_stepWord (nx := 32) (v := 97) rfl (by decide) rfl ?_
      refine ev_if f_X9_stepWord (t1 := 90) (t2 := 35) rfl rfl rfl (fun h37 => ?_) (fun h37 => ?_)
      · have u38 : w36.toInt ≤ 96 := t_ltu h37 (by decide : (97:Int32).toInt ≤ (97:Int)) rfl
        refine ev_sub (lo := [(0, .ref ar0)]) rfl (t_sc rfl t_sn) ?_
        exact L1 gi27 gl27 gr27  hI hX p_a0 ⟨fun b n q h => (j27_0.1 b n q h).elim (fun i hi => ⟨i, hi, t_SW_e hi (Or.inr (fun w hw => by rw [hw.trans e36.symm]; omega))⟩), j27_0.2⟩
      · have l39 : 97 ≤ w36.toInt := t_lel (t_nlt h37) (by decide : (97:Int) ≤ (97:Int32).toInt)
        refine ev_loc f_X9_stepWord (nx := 36) rfl rfl rfl rfl ?_
        refine ev_getR f_X9_stepWord (nx := 39) (v := .ref 2) rfl p_a0.1 rfl rfl e35 rfl rfl ?_
        refine ev_loc f_X9_stepWord (nx := 40) rfl rfl rfl rfl ?_
        refine ev_gvI f_X9_stepWord (nx := 43) (w := (gi27 ar0 2)) rfl p_a0.1 rfl rfl rfl rfl ?_
        refine ev_baldT f_X9_stepWord (nx := 44) rfl (hI.wf.s rfl) rfl l28 (by decide) u33 (by decide) rfl (fun w40 e40 => ?_)
        rw [e40.trans e36.symm]
        refine ev_bp f_X9_stepWord (nx := 46) (v := 122) rfl (by decide) rfl ?_
        refine ev_if f_X9_stepWord (t1 := 90) (t2 := 49) rfl rfl rfl (fun h41 => ?_) (fun h41 => ?_)
        · have l42 : 123 ≤ w36.toInt := t_ltl h41 (by decide : (122:Int) ≤ (122:Int32).toInt) rfl
          refine ev_sub (lo := [(0, .ref ar0)]) rfl (t_sc rfl t_sn) ?_
          exact L1 gi27 gl27 gr27  hI hX p_a0 ⟨fun b n q h => (j27_0.1 b n q h).elim (fun i hi => ⟨i, hi, t_SW_e hi (Or.inr (fun w hw => by rw [hw.trans e36.symm]; omega))⟩), j27_0.2⟩
        · have u43 : w36.toInt ≤ 122 := t_leu (t_nlt h41) (by decide : (122:Int32).toInt ≤ (122:Int))
          refine ev_loc f_X9_stepWord (nx := 50) rfl rfl rfl rfl ?_
          refine ev_loc f_X9_stepWord (nx := 51) rfl rfl rfl rfl ?_
          refine ev_getL f_X9_stepWord (nx := 54) rfl p_a0.1 rfl rfl rfl ?_
          refine ev_ldL f_X9_stepWord (nx := 57) (v := 32) rfl (by decide) rfl ?_
          refine ev_anyLE f_X9_stepWord (nx := 58) rfl rfl rfl rfl (fun z44 e44 => ?_)
          refine ev_loc f_X9_stepWord (nx := 59) rfl rfl rfl rfl ?_
          refine ev_getR f_X9_stepWord (nx := 62) (v := .ref 2) rfl p_a0.1 rfl rfl e35 rfl rfl ?_
          refine ev_loc f_X9_stepWord (nx := 63) rfl rfl rfl rfl ?_
          refine ev_gvI f_X9_stepWord (nx := 66) (w := (gi27 ar0 2)) rfl p_a0.1 rfl rfl rfl rfl ?_
          refine ev_baldT f_X9_stepWord (nx := 67) rfl (hI.wf.s rfl) rfl l28 (by decide) u33 (by decide) rfl (fun w45 e45 => ?_)
          rw [e45.trans e36.symm]
          refine ev_bp f_X9_stepWord (nx := 69) (v := 97) rfl (by decide) rfl ?_
          refine ev_subC f_X9_stepWord (nx := 70) (c := 97) (l := 0) (u := 25) rfl (by decide) l39 u43 rfl rfl (by decide) (by decide) rfl (fun z46 e46 l46 u46 => ?_)
          refine ev_ic f_X9_stepWord (nx := 71) (v := 1) rfl (by decide) rfl ?_
          refine ev_addC f_X9_stepWord (nx := 72) (c := 1) (l := 1) (u := 26) rfl (by decide) l46 u46 rfl rfl (by decide) (by decide) rfl (fun z47 e47 l47 u47 => ?_)
          refine ev_anyLE f_X9_stepWord (nx := 73) rfl rfl rfl rfl (fun z48 e48 => ?_)
          have i48 : z48.toInt = z47.toInt := by rw [e48]; exact Int32.toInt_toInt64 _
          refine ev_anyLE f_X9_stepWord (nx := 74) rfl rfl rfl rfl (fun z49 e49 => ?_)
          refine ev_putLT f_X9_stepWord (nx := 77) rfl p_a0.1 rfl rfl rfl (hX.upL (t_inO hI.wf p_a0.1 (t_outO hI.wf p_a0.1 rfl) rfl)) (fun g50 e50 hX => ?_)
          refine ev_loc f_X9_stepWord (nx := 78) rfl rfl rfl rfl ?_
          refine ev_alu f_X9_stepWord (nx := 79) rfl rfl rfl rfl ?_
          refine ev_gvI f_X9_stepWord (nx := 82) (w := (gi27 ar0 2)) rfl p_a0.1 rfl rfl rfl rfl ?_
          refine ev_ic f_X9_stepWord (nx := 83) (v := 1) rfl (by decide) rfl ?_
          refine ev_addC f_X9_stepWord (nx := 84) (c := 1) (l := 1) (u := 900) rfl (by decide) l28 u33 rfl rfl (by decide) (by decide) rfl (fun z51 e51 l51 u51 => ?_)
          refine ev_putIT f_X9_stepWord (nx := 87) rfl p_a0.1 rfl rfl rfl (hI.putB p_a0.1 rfl rfl l51 (by decide) u51 (by decide)) (hX.upI (t_inO hI.wf p_a0.1 (t_outO hI.wf p_a0.1 rfl) rfl)) (fun g52 e52 hI hX => ?_)
          refine ev_jmp f_X9_stepWord (nx := 10) rfl rfl rfl ?_
          refine ev_sub (lo := [(0, .ref ar0)]) rfl (t_sc rfl t_sn) ?_
          have hq27 := ((by rw [e52]; exact x_up2_at _ _ _ _ : g52 ar0 2 = z51) : g52 ar0 2 = z51)
          exact ih27 _ (by rw [hq27]; omega) g52 g50 gr27  hI hX p_a0 ((by rw [e52]; exact x_up2_off (Or.inr (by decide)) : g52 ar0 3 = gi27 ar0 3).trans c27_0) ⟨fun b n q h => (j27_0.1 b n q h).elim (fun i hi => ⟨i + 1, t_SW_s hi (t_noobj (hI.wf.s (k := 2) rfl) p_a0.1) (by omega) e36 (by omega) (by omega) (by omega) (by rw [e49, e44]) (by omega) e50 e52⟩), (t_on.I (t_on.L j27_0.2 e50) e52)⟩ rfl
  refine ev_sub (lo := [(0, .ref ar0)]) rfl (t_sc rfl t_sn) ?_
  exact L27 _ g25 g26 gr  hI hX p_a0 (by rw [e25]; exact x_up2_at _ _ _ _ : g25 ar0 3 = 0) ⟨fun b n q h => ⟨q, t_SW_0 h (t_noobj (hI.wf.s (k := 2) rfl) p_a0.1) e25 e26⟩, (t_on.L (t_on.I t_on.rf e25) e26)⟩ rfl
noncomputable def wl_s_stepNumber : List (Nat × Nat) := [(118, 2), (118, 3), (118, 8)]
noncomputable def Q_s_stepNumber (gi : Nat → Nat → Int32) (gl : Nat → Nat → Int64) (gr : Nat → Nat → Value) (ar0 : Nat) : (Nat → Nat → Int32) → (Nat → Nat → Int64) → (Nat → Nat → Value) → Prop := fun (gi2 : Nat → Nat → Int32) (gl2 : Nat → Nat → Int64) (gr2 : Nat → Nat → Value) => (∀ (b : Nat → Int32) (n q : Nat), t_S0 b n q gi gr ar0 → t_SM b n q gi2 gr2 ar0) ∧ t_on ar0 gi gl gr gi2 gl2 gr2
theorem c_s_stepNumber {X : x_Ext} {d : Nat} {sh : List (Nat ⊕ (Nat × Nat))} {gi : Nat → Nat → Int32} {gl : Nat → Nat → Int64} {gr : Nat → Nat → Value} (hI : t_I sh gi gr) (ar0 : Nat) (p_a0 : t_Tk sh gr ar0) : x_Me X (d + 1) n_X9_stepNumber [.ref ar0] (sh, gi, gl, gr) (t_PN wl_s_stepNumber sh gi gl gr (Q_s_stepNumber gi gl gr ar0)) := by
  have hX : t_X wl_s_stepNumber sh gi gl gr gi gl gr := t_X.rf
  refine me_i f_X9_stepNumber p_a0.1 rfl rfl rfl ?_
  have L1 : ∀ (gi1 : Nat → Nat → Int32) (gl1 : Nat → Nat → Int64) (gr1 : Nat → Nat → Value), t_I sh gi1 gr1 → t_X wl_s_stepNumber sh gi gl gr gi1 gl1 gr1 → t_Tk sh gr1 ar0 → (∀ (b : Nat → Int32) (n q : Nat), t_S0 b n q gi gr ar0 → ∃ i : Nat, t_SN b n q i gi1 gr1 ar0 ∧ i = s_rn s_dg b n q) ∧ t_on ar0 gi gl gr gi1 gl1 gr1 → x_Ev X (d + 1) n_X9_stepNumber 81 [(0, .ref ar0)] [] (sh, gi1, gl1, gr1) (t_PN wl_s_stepNumber sh gi gl gr (Q_s_stepNumber gi gl gr ar0)) := by
    intro gi1 gl1 gr1 hI hX p_a0 j1_0
    refine ev_loc f_X9_stepNumber (nx := 82) rfl rfl rfl rfl ?_
    refine ev_loc f_X9_stepNumber (nx := 83) rfl rfl rfl rfl ?_
    refine ev_getI f_X9_stepNumber (nx := 86) rfl p_a0.1 rfl rfl rfl ?_
    obtain ⟨l2, u2⟩ := hI.b p_a0.1 (t_bdK rfl : t_bd 8 2 = some (0, 900))
    refine ev_loc f_X9_stepNumber (nx := 87) rfl rfl rfl rfl ?_
    refine ev_getI f_X9_stepNumber (nx := 90) rfl p_a0.1 rfl rfl rfl ?_
    obtain ⟨l3, u3⟩ := hI.b p_a0.1 (t_bdK rfl : t_bd 8 4 = some (0, 900))
    refine ev_subR f_X9_stepNumber (nx := 91) (l := (-900)) (u := 900) rfl l2 u2 l3 u3 rfl rfl (by decide) (by decide) rfl (fun z4 e4 l4 u4 => ?_)
    refine ev_ic f_X9_stepNumber (nx := 92) (v := 4) rfl (by decide) rfl ?_
    refine ev_if f_X9_stepNumber (t1 := 99) (t2 := 95) rfl rfl rfl (fun h5 => ?_) (fun h5 => ?_)
    · have u6 : z4.toInt ≤ 4 := t_leu h5 (by decide : (4:Int32).toInt ≤ (4:Int))
      refine ev_ic f_X9_stepNumber (nx := 100) (v := 1) rfl (by decide) rfl ?_
      refine ev_putIT f_X9_stepNumber (nx := 103) rfl p_a0.1 rfl rfl rfl (hI.put0 p_a0.1 rfl rfl) (hX.upI (t_inO hI.wf p_a0.1 (t_outO hI.wf p_a0.1 rfl) rfl)) (fun g7 e7 hI hX => ?_)
      exact ev_ret f_X9_stepNumber rfl rfl rfl ⟨_, _, _, rfl, hI, hX, ⟨rfl, (show (∀ (b : Nat → Int32) (n q : Nat), t_S0 b n q gi gr ar0 → t_SM b n q g7 gr1 ar0) ∧ t_on ar0 gi gl gr g7 gl1 gr1 from ⟨fun b n q h => (j1_0.1 b n q h).elim (fun i hi => t_SM_0 hi.1 (t_noobj (hI.wf.s (k := 2) rfl) p_a0.1) hi.2 (by rw [if_neg (by omega)]; rfl) e7), (t_on.I j1_0.2 e7)⟩)⟩⟩
    · have l8 : 5 ≤ z4.toInt := t_ltl (t_nle h5) (by decide : (4:Int) ≤ (4:Int32).toInt) rfl
      have u9 : (gi1 ar0 4).toInt ≤ 895 := by have := u2; omega
      refine ev_ic f_X9_stepNumber (nx := 96) (v := 4) rfl (by decide) rfl ?_
      refine ev_jmp f_X9_stepNumber (nx := 100) rfl rfl rfl ?_
      refine ev_putIT f_X9_stepNumber (nx := 103) rfl p_a0.1 rfl rfl rfl (hI.put0 p_a0.1 rfl rfl) (hX.upI (t_inO hI.wf p_a0.1 (t_outO hI.wf p_a0.1 rfl) rfl)) (fun g10 e10 hI hX => ?_)
      exact ev_ret f_X9_stepNumber rfl rfl rfl ⟨_, _, _, rfl, hI, hX, ⟨rfl, (show (∀ (b : Nat → Int32) (n q : Nat), t_S0 b n q gi gr ar0 → t_SM b n q g10 gr1 ar0) ∧ t_on ar0 gi gl gr g10 gl1 gr1 from ⟨fun b n q h => (j1_0.1 b n q h).elim (fun i hi => t_SM_0 hi.1 (t_noobj (hI.wf.s (k := 2) rfl) p_a0.1) hi.2 (by rw [if_pos (by omega)]; rfl) e10), (t_on.I j1_0.2 e10)⟩)⟩⟩
  refine ev_loc f_X9_stepNumber (nx := 1) rfl rfl rfl rfl ?_
  refine ev_ic f_X9_stepNumber (nx := 2) (v := 0) rfl (by decide) rfl ?_
  refine ev_putIT f_X9_stepNumber (nx := 5) rfl p_a0.1 rfl rfl rfl (hI.put0 p_a0.1 rfl rfl) (hX.upI (t_inO hI.wf p_a0.1 (t_outO hI.wf p_a0.1 rfl) rfl)) (fun g11 e11 hI hX => ?_)
  have L12 : ∀ (m12 : Nat) (gi12 : Nat → Nat → Int32) (gl12 : Nat → Nat → Int64) (gr12 : Nat → Nat → Value), t_I sh gi12 gr12 → t_X wl_s_stepNumber sh gi gl gr gi12 gl12 gr12 → t_Tk sh gr12 ar0 → (∀ (b : Nat → Int32) (n q : Nat), t_S0 b n q gi gr ar0 → ∃ i : Nat, t_SN b n q i gi12 gr12 ar0) ∧ t_on ar0 gi gl gr gi12 gl12 gr12 → (900 - (gi12 ar0 2).toInt).toNat = m12 → x_Ev X (d + 1) n_X9_stepNumber 5 [(0, .ref ar0)] [] (sh, gi12, gl12, gr12) (t_PN wl_s_stepNumber sh gi gl gr (Q_s_stepNumber gi gl gr ar0)) := by
    intro m12
    induction m12 using Nat.strongRecOn with
    | _ m12 ih12 =>
    intro gi12 gl12 gr12 hI hX p_a0 j12_0 hm12
    refine ev_loc f_X9_stepNumber (nx := 6) rfl rfl rfl rfl ?_
    refine ev_getI f_X9_stepNumber (nx := 9) rfl p_a0.1 rfl rfl rfl ?_
    obtain ⟨l13, u13⟩ := hI.b p_a0.1 (t_bdK rfl : t_bd 8 2 = some (0, 900))
    refine ev_loc f_X9_stepNumber (nx := 10) rfl rfl rfl rfl ?_
    refine ev_getI f_X9_stepNumber (nx := 13) rfl p_a0.1 rfl rfl rfl ?_
    obtain ⟨l14, u14⟩ := hI.b p_a0.1 (t_bdK rfl : t_bd 8 1 = some (0, 900))
    refine ev_if f_X9_stepNumber (t1 := 81) (t2 := 16) rfl rfl rfl (fun h15 => ?_) (fun h15 => ?_)
    · have r16 : (gi12 ar0 1).toInt ≤ (gi12 ar0 2).toInt := Int32.le_iff_toInt_le.mp h15
      refine ev_sub (lo := [(0, .ref ar0)]) rfl (t_sc rfl t_sn) ?_
      exact L1 gi12 gl12 gr12  hI hX p_a0 ⟨fun b n q h => (j12_0.1 b n q h).elim (fun i hi => ⟨i, hi, t_SN_e hi (Or.inl (by omega))⟩), j12_0.2⟩
    · have r17 : (gi12 ar0 2).toInt < (gi12 ar0 1).toInt := Int32.lt_iff_toInt_lt.mp (t_nle h15)
      have u18 : (gi12 ar0 2).toInt ≤ 899 := t_ltu (t_nle h15) u14 rfl
      have l19 : 1 ≤ (gi12 ar0 1).toInt := t_ltl (t_nle h15) l13 rfl
      refine ev_loc f_X9_stepNumber (nx := 17) rfl rfl rfl rfl ?_
      have e20 := p_a0.2
      refine ev_getR f_X9_stepNumber (nx := 20) rfl p_a0.1 rfl rfl e20 rfl rfl ?_
      refine ev_loc f_X9_stepNumber (nx := 21) rfl rfl rfl rfl ?_
      refine ev_gvI f_X9_stepNumber (nx := 24) (w := (gi12 ar0 2)) rfl p_a0.1 rfl rfl rfl rfl ?_
      refine ev_baldT f_X9_stepNumber (nx := 25) rfl (hI.wf.s rfl) rfl l13 (by decide) u18 (by decide) rfl (fun w21 e21 => ?_)
      refine ev_bp f_X9_stepNumber (nx := 27) (v := 48) rfl (by decide) rfl ?_
      refine ev_if f_X9_stepNumber (t1 := 81) (t2 := 30) rfl rfl rfl (fun h22 => ?_) (fun h22 => ?_)
      · have u23 : w21.toInt ≤ 47 := t_ltu h22 (by decide : (48:Int32).toInt ≤ (48:Int)) rfl
        refine ev_sub (lo := [(0, .ref ar0)]) rfl (t_sc rfl t_sn) ?_
        exact L1 gi12 gl12 gr12  hI hX p_a0 ⟨fun b n q h => (j12_0.1 b n q h).elim (fun i hi => ⟨i, hi, t_SN_e hi (Or.inr (fun w hw => by rw [hw.trans e21.symm]; omega))⟩), j12_0.2⟩
      · have l24 : 48 ≤ w21.toInt := t_lel (t_nlt h22) (by decide : (48:Int) ≤ (48:Int32).toInt)
        refine ev_loc f_X9_stepNumber (nx := 31) rfl rfl rfl rfl ?_
        refine ev_getR f_X9_stepNumber (nx := 34) (v := .ref 2) rfl p_a0.1 rfl rfl e20 rfl rfl ?_
        refine ev_loc f_X9_stepNumber (nx := 35) rfl rfl rfl rfl ?_
        refine ev_gvI f_X9_stepNumber (nx := 38) (w := (gi12 ar0 2)) rfl p_a0.1 rfl rfl rfl rfl ?_
        refine ev_baldT f_X9_stepNumber (nx := 39) rfl (hI.wf.s rfl) rfl l13 (by decide) u18 (by decide) rfl (fun w25 e25 => ?_)
        rw [e25.trans e21.symm]
        refine ev_bp f_X9_stepNumber (nx := 41) (v := 57) rfl (by decide) rfl ?_
        refine ev_if f_X9_stepNumber (t1 := 81) (t2 := 44) rfl rfl rfl (fun h26 => ?_) (fun h26 => ?_)
        · have l27 : 58 ≤ w21.toInt := t_ltl h26 (by decide : (57:Int) ≤ (57:Int32).toInt) rfl
          refine ev_sub (lo := [(0, .ref ar0)]) rfl (t_sc rfl t_sn) ?_
          exact L1 gi12 gl12 gr12  hI hX p_a0 ⟨fun b n q h => (j12_0.1 b n q h).elim (fun i hi => ⟨i, hi, t_SN_e hi (Or.inr (fun w hw => by rw [hw.trans e21.symm]; omega))⟩), j12_0.2⟩
        · have u28 : w21.toInt ≤ 57 := t_leu (t_nlt h26) (by decide : (57:Int32).toInt ≤ (57:Int))
          refine ev_loc f_X9_stepNumber (nx := 45) rfl rfl rfl rfl ?_
          refine ev_loc f_X9_stepNumber (nx := 46) rfl rfl rfl rfl ?_
          refine ev_getI f_X9_stepNumber (nx := 49) rfl p_a0.1 rfl rfl rfl ?_
          refine ev_bp f_X9_stepNumber (nx := 51) (v := 10) rfl (by decide) rfl ?_
          refine ev_anyIE f_X9_stepNumber (nx := 52) rfl rfl rfl rfl (fun z29 e29 => ?_)
          refine ev_loc f_X9_stepNumber (nx := 53) rfl rfl rfl rfl ?_
          refine ev_getR f_X9_stepNumber (nx := 56) (v := .ref 2) rfl p_a0.1 rfl rfl e20 rfl rfl ?_
          refine ev_loc f_X9_stepNumber (nx := 57) rfl rfl rfl rfl ?_
          refine ev_gvI f_X9_stepNumber (nx := 60) (w := (gi12 ar0 2)) rfl p_a0.1 rfl rfl rfl rfl ?_
          refine ev_baldT f_X9_stepNumber (nx := 61) rfl (hI.wf.s rfl) rfl l13 (by decide) u18 (by decide) rfl (fun w30 e30 => ?_)
          rw [e30.trans e21.symm]
          refine ev_bp f_X9_stepNumber (nx := 63) (v := 48) rfl (by decide) rfl ?_
          refine ev_subC f_X9_stepNumber (nx := 64) (c := 48) (l := 0) (u := 9) rfl (by decide) l24 u28 rfl rfl (by decide) (by decide) rfl (fun z31 e31 l31 u31 => ?_)
          refine ev_anyIE f_X9_stepNumber (nx := 65) rfl rfl rfl rfl (fun z32 e32 => ?_)
          refine ev_putIT f_X9_stepNumber (nx := 68) rfl p_a0.1 rfl rfl rfl (hI.put0 p_a0.1 rfl rfl) (hX.upI (t_inO hI.wf p_a0.1 (t_outO hI.wf p_a0.1 rfl) rfl)) (fun g33 e33 hI hX => ?_)
          refine ev_loc f_X9_stepNumber (nx := 69) rfl rfl rfl rfl ?_
          refine ev_alu f_X9_stepNumber (nx := 70) rfl rfl rfl rfl ?_
          refine ev_gvI f_X9_stepNumber (nx := 73) (w := (gi12 ar0 2)) rfl p_a0.1 rfl rfl ((by rw [e33]; exact x_up2_off (Or.inr (by decide)) : g33 ar0 2 = gi12 ar0 2).trans rfl) rfl ?_
          refine ev_ic f_X9_stepNumber (nx := 74) (v := 1) rfl (by decide) rfl ?_
          refine ev_addC f_X9_stepNumber (nx := 75) (c := 1) (l := 1) (u := 900) rfl (by decide) l13 u18 rfl rfl (by decide) (by decide) rfl (fun z34 e34 l34 u34 => ?_)
          refine ev_putIT f_X9_stepNumber (nx := 78) rfl p_a0.1 rfl rfl rfl (hI.putB p_a0.1 rfl rfl l34 (by decide) u34 (by decide)) (hX.upI (t_inO hI.wf p_a0.1 (t_outO hI.wf p_a0.1 rfl) rfl)) (fun g35 e35 hI hX => ?_)
          refine ev_jmp f_X9_stepNumber (nx := 5) rfl rfl rfl ?_
          refine ev_sub (lo := [(0, .ref ar0)]) rfl (t_sc rfl t_sn) ?_
          have hq12 := ((by rw [e35]; exact x_up2_at _ _ _ _ : g35 ar0 2 = z34) : g35 ar0 2 = z34)
          exact ih12 _ (by rw [hq12]; omega) g35 gl12 gr12  hI hX p_a0 ⟨fun b n q h => (j12_0.1 b n q h).elim (fun i hi => ⟨i + 1, t_SN_s hi (t_noobj (hI.wf.s (k := 2) rfl) p_a0.1) (by omega) e21 (by omega) (by omega) (by omega) (by rw [e32, e29]) (by omega) e33 e35⟩), (t_on.I (t_on.I j12_0.2 e33) e35)⟩ rfl
  refine ev_sub (lo := [(0, .ref ar0)]) rfl (t_sc rfl t_sn) ?_
  exact L12 _ g11 gl gr  hI hX p_a0 ⟨fun b n q h => ⟨q, t_SN_0 h (t_noobj (hI.wf.s (k := 2) rfl) p_a0.1) e11⟩, (t_on.I t_on.rf e11)⟩ rfl
noncomputable def wl_s_step : List (Nat × Nat) := [(118, 2), (118, 3), (118, 4), (118, 5), (118, 6), (118, 7), (118, 8), (118, 9)]
noncomputable def Q_s_step (gi : Nat → Nat → Int32) (gl : Nat → Nat → Int64) (gr : Nat → Nat → Value) (ar0 : Nat) : (Nat → Nat → Int32) → (Nat → Nat → Int64) → (Nat → Nat → Value) → Prop := fun (gi2 : Nat → Nat → Int32) (gl2 : Nat → Nat → Int64) (gr2 : Nat → Nat → Value) => (∀ (b : Nat → Int32) (n q : Nat), t_Sp b n q gi ar0 → t_TC b n q gi2 gl2 gr2 ar0) ∧ t_nf gi gi2 ar0 ∧ t_on ar0 gi gl gr gi2 gl2 gr2
theorem c_s_step {X : x_Ext} {d : Nat} {sh : List (Nat ⊕ (Nat × Nat))} {gi : Nat → Nat → Int32} {gl : Nat → Nat → Int64} {gr : Nat → Nat → Value} (hI : t_I sh gi gr) (ar0 : Nat) (p_a0 : t_Tk sh gr ar0) : x_Me X (d + 2) n_X9_step [.ref ar0] (sh, gi, gl, gr) (t_PN wl_s_step sh gi gl gr (Q_s_step gi gl gr ar0)) := by
  have hX : t_X wl_s_step sh gi gl gr gi gl gr := t_X.rf
  refine me_i f_X9_step p_a0.1 rfl rfl rfl ?_
  have L1 : ∀ (gi1 : Nat → Nat → Int32) (gl1 : Nat → Nat → Int64) (gr1 : Nat → Nat → Value), t_I sh gi1 gr1 → t_X wl_s_step sh gi gl gr gi1 gl1 gr1 → t_Tk sh gr1 ar0 → (∀ (b : Nat → Int32) (n q : Nat), t_Sp b n q gi ar0 → ∃ i : Nat, t_Sp b n i gi1 ar0 ∧ q ≤ n ∧ s_F b n q = i) ∧ t_on ar0 gi gl gr gi1 gl1 gr1 → x_Ev X (d + 2) n_X9_step 52 [(0, .ref ar0)] [] (sh, gi1, gl1, gr1) (t_PN wl_s_step sh gi gl gr (Q_s_step gi gl gr ar0)) := by
    intro gi1 gl1 gr1 hI hX p_a0 j1_0
    refine ev_loc f_X9_step (nx := 53) rfl rfl rfl rfl ?_
    refine ev_loc f_X9_step (nx := 54) rfl rfl rfl rfl ?_
    refine ev_getI f_X9_step (nx := 57) rfl p_a0.1 rfl rfl rfl ?_
    obtain ⟨l2, u2⟩ := hI.b p_a0.1 (t_bdK rfl : t_bd 8 2 = some (0, 900))
    refine ev_putIT f_X9_step (nx := 60) rfl p_a0.1 rfl rfl rfl (hI.putB p_a0.1 rfl rfl l2 (by decide) u2 (by decide)) (hX.upI (t_inO hI.wf p_a0.1 (t_outO hI.wf p_a0.1 rfl) rfl)) (fun g3 e3 hI hX => ?_)
    refine ev_loc f_X9_step (nx := 61) rfl rfl rfl rfl ?_
    refine ev_alu f_X9_step (nx := 62) rfl rfl rfl rfl ?_
    have hE4 := t_eqf_up (gr := gr1) (j := 7) (v := .null) p_a0.1 rfl
    have hT4 := t_keyw hI (v := .null) p_a0.1 (Or.inl rfl)
    replace p_a0 := p_a0.ext hE4
    refine ev_putRT f_X9_step (nx := 65) rfl p_a0.1 rfl rfl rfl rfl hT4 (hX.upR (t_inO hI.wf p_a0.1 (t_outO hI.wf p_a0.1 rfl) rfl) hE4) (fun g4 e4 hI hX => ?_)
    rw [← e4] at p_a0
    refine ev_loc f_X9_step (nx := 66) rfl rfl rfl rfl ?_
    refine ev_gvI f_X9_step (nx := 69) (w := (gi1 ar0 2)) rfl p_a0.1 rfl rfl ((by rw [e3]; exact x_up2_off (Or.inr (by decide)) : g3 ar0 2 = gi1 ar0 2).trans rfl) rfl ?_
    refine ev_loc f_X9_step (nx := 70) rfl rfl rfl rfl ?_
    refine ev_getI f_X9_step (nx := 73) rfl p_a0.1 rfl rfl rfl ?_
    obtain ⟨l5, u5⟩ := hI.b p_a0.1 (t_bdK rfl : t_bd 8 1 = some (0, 900))
    refine ev_if f_X9_step (t1 := 82) (t2 := 76) rfl rfl rfl (fun h6 => ?_) (fun h6 => ?_)
    · have r7 : (gi1 ar0 2).toInt < (g3 ar0 1).toInt := Int32.lt_iff_toInt_lt.mp h6
      have u8 : (gi1 ar0 2).toInt ≤ 899 := t_ltu h6 u5 rfl
      have l9 : 1 ≤ (g3 ar0 1).toInt := t_ltl h6 l2 rfl
      refine ev_loc f_X9_step (nx := 83) rfl rfl rfl rfl ?_
      have e10 := p_a0.2
      refine ev_getR f_X9_step (nx := 86) rfl p_a0.1 rfl rfl e10 rfl rfl ?_
      refine ev_loc f_X9_step (nx := 87) rfl rfl rfl rfl ?_
      refine ev_gvI f_X9_step (nx := 90) (w := (gi1 ar0 2)) rfl p_a0.1 rfl rfl ((by rw [e3]; exact x_up2_off (Or.inr (by decide)) : g3 ar0 2 = gi1 ar0 2).trans rfl) rfl ?_
      refine ev_baldT f_X9_step (nx := 91) rfl (hI.wf.s rfl) rfl l2 (by decide) u8 (by decide) rfl (fun w11 e11 => ?_)
      refine ev_loc f_X9_step (nx := 92) (lo' := [(1, .int w11), (0, .ref ar0)]) rfl rfl rfl rfl ?_
      refine ev_loc f_X9_step (nx := 93) rfl rfl rfl rfl ?_
      refine ev_bp f_X9_step (nx := 95) (v := 97) rfl (by decide) rfl ?_
      refine ev_if f_X9_step (t1 := 111) (t2 := 98) rfl rfl rfl (fun h12 => ?_) (fun h12 => ?_)
      · have u13 : w11.toInt ≤ 96 := t_ltu h12 (by decide : (97:Int32).toInt ≤ (97:Int)) rfl
        refine ev_loc f_X9_step (nx := 112) rfl rfl rfl rfl ?_
        refine ev_bp f_X9_step (nx := 114) (v := 48) rfl (by decide) rfl ?_
        refine ev_if f_X9_step (t1 := 130) (t2 := 117) rfl rfl rfl (fun h14 => ?_) (fun h14 => ?_)
        · have u15 : w11.toInt ≤ 47 := t_ltu h14 (by decide : (48:Int32).toInt ≤ (48:Int)) rfl
          refine ev_loc f_X9_step (nx := 131) rfl rfl rfl rfl ?_
          refine ev_loc f_X9_step (nx := 132) rfl rfl rfl rfl ?_
          refine ev_qI0 f_X9_step (nx := 135) (r := [.ref ar0]) rfl rfl rfl rfl rfl rfl rfl (c_s_isSign hI (w11)) rfl (fun w16 l16 u16 q16 => ?_)
          have q16 : w16.toInt = (if s_sg w11.toInt = true then 1 else 0) := q16
          refine ev_if f_X9_step (t1 := 142) (t2 := 138) rfl rfl rfl (fun h17 => ?_) (fun h17 => ?_)
          · have u18 : w16.toInt ≤ 0 := t_equ h17 (by decide : (0:Int32).toInt ≤ (0:Int))
            refine ev_ic f_X9_step (nx := 143) (v := 4) rfl (by decide) rfl ?_
            refine ev_putIT f_X9_step (nx := 146) rfl p_a0.1 rfl rfl rfl (hI.put0 p_a0.1 rfl rfl) (hX.upI (t_inO hI.wf p_a0.1 (t_outO hI.wf p_a0.1 rfl) rfl)) (fun g19 e19 hI hX => ?_)
            refine ev_loc f_X9_step (nx := 147) rfl rfl rfl rfl ?_
            refine ev_loc f_X9_step (nx := 148) rfl rfl rfl rfl ?_
            refine ev_putIT f_X9_step (nx := 151) rfl p_a0.1 rfl rfl rfl (hI.put0 p_a0.1 rfl rfl) (hX.upI (t_inO hI.wf p_a0.1 (t_outO hI.wf p_a0.1 rfl) rfl)) (fun g20 e20 hI hX => ?_)
            refine ev_loc f_X9_step (nx := 152) rfl rfl rfl rfl ?_
            refine ev_alu f_X9_step (nx := 153) rfl rfl rfl rfl ?_
            refine ev_gvI f_X9_step (nx := 156) (w := (gi1 ar0 2)) rfl p_a0.1 rfl rfl ((by rw [e20]; exact x_up2_off (Or.inr (by decide)) : g20 ar0 2 = g19 ar0 2).trans ((by rw [e19]; exact x_up2_off (Or.inr (by decide)) : g19 ar0 2 = g3 ar0 2).trans ((by rw [e3]; exact x_up2_off (Or.inr (by decide)) : g3 ar0 2 = gi1 ar0 2).trans rfl))) rfl ?_
            refine ev_ic f_X9_step (nx := 157) (v := 1) rfl (by decide) rfl ?_
            refine ev_addC f_X9_step (nx := 158) (c := 1) (l := 1) (u := 900) rfl (by decide) l2 u8 rfl rfl (by decide) (by decide) rfl (fun z21 e21 l21 u21 => ?_)
            refine ev_putIT f_X9_step (nx := 161) rfl p_a0.1 rfl rfl rfl (hI.putB p_a0.1 rfl rfl l21 (by decide) u21 (by decide)) (hX.upI (t_inO hI.wf p_a0.1 (t_outO hI.wf p_a0.1 rfl) rfl)) (fun g22 e22 hI hX => ?_)
            exact ev_ret f_X9_step rfl rfl rfl ⟨_, _, _, rfl, hI, hX, ⟨rfl, (show (∀ (b : Nat → Int32) (n q : Nat), t_Sp b n q gi ar0 → t_TC b n q g22 gl1 g4 ar0) ∧ t_nf gi g22 ar0 ∧ t_on ar0 gi gl gr g22 gl1 g4 from ⟨fun b n q h => (j1_0.1 b n q h).elim (fun i hi => t_TC_s hi.2.2 hi.2.1 (t_S_up hi.1 (t_noobj (hI.wf.s (k := 2) rfl) p_a0.1) (by decide) e3) (t_noobj (hI.wf.s (k := 2) rfl) p_a0.1) (by have h2 := hi.1.2.1; have h3 := hi.1.2.2.1; have h4 := (t_S_up hi.1 (t_noobj (hI.wf.s (k := 2) rfl) p_a0.1) (by decide) e3).2.1; have h5 := (t_S_up hi.1 (t_noobj (hI.wf.s (k := 2) rfl) p_a0.1) (by decide) e3).2.2.1; omega) (x := (gi1 ar0 2)) hi.1.2.2.1 e11 (by omega) (by omega) (by rw [e3, x_up2_at]; exact hi.1.2.2.1) (by rw [e4]; exact x_up2_at _ _ _ _) (by by_cases hs : s_sg w11.toInt = true; (rw [if_pos hs] at q16; omega); (rw [if_neg hs]; rfl)) (by have h3 := hi.1.2.2.1; omega) e19 e20 e22), ⟨(hX.1 ar0 10 (t_ninO hI.wf p_a0.1 (t_outO hI.wf p_a0.1 rfl) rfl)).1, (hX.1 ar0 11 (t_ninO hI.wf p_a0.1 (t_outO hI.wf p_a0.1 rfl) rfl)).1⟩, (t_on.I (t_on.I (t_on.I (t_on.R (t_on.I j1_0.2 e3) e4) e19) e20) e22)⟩)⟩⟩
          · have r23 : w16.toInt ≠ 0 := fun e => h17 (Int32.toInt_inj.mp (e.trans (by decide : (0:Int) = (0 : Int32).toInt)))
            have l24 : 1 ≤ w16.toInt := t_nel h17 l16 rfl rfl
            refine ev_ic f_X9_step (nx := 139) (v := 2) rfl (by decide) rfl ?_
            refine ev_jmp f_X9_step (nx := 143) rfl rfl rfl ?_
            refine ev_putIT f_X9_step (nx := 146) rfl p_a0.1 rfl rfl rfl (hI.put0 p_a0.1 rfl rfl) (hX.upI (t_inO hI.wf p_a0.1 (t_outO hI.wf p_a0.1 rfl) rfl)) (fun g25 e25 hI hX => ?_)
            refine ev_loc f_X9_step (nx := 147) rfl rfl rfl rfl ?_
            refine ev_loc f_X9_step (nx := 148) rfl rfl rfl rfl ?_
            refine ev_putIT f_X9_step (nx := 151) rfl p_a0.1 rfl rfl rfl (hI.put0 p_a0.1 rfl rfl) (hX.upI (t_inO hI.wf p_a0.1 (t_outO hI.wf p_a0.1 rfl) rfl)) (fun g26 e26 hI hX => ?_)
            refine ev_loc f_X9_step (nx := 152) rfl rfl rfl rfl ?_
            refine ev_alu f_X9_step (nx := 153) rfl rfl rfl rfl ?_
            refine ev_gvI f_X9_step (nx := 156) (w := (gi1 ar0 2)) rfl p_a0.1 rfl rfl ((by rw [e26]; exact x_up2_off (Or.inr (by decide)) : g26 ar0 2 = g25 ar0 2).trans ((by rw [e25]; exact x_up2_off (Or.inr (by decide)) : g25 ar0 2 = g3 ar0 2).trans ((by rw [e3]; exact x_up2_off (Or.inr (by decide)) : g3 ar0 2 = gi1 ar0 2).trans rfl))) rfl ?_
            refine ev_ic f_X9_step (nx := 157) (v := 1) rfl (by decide) rfl ?_
            refine ev_addC f_X9_step (nx := 158) (c := 1) (l := 1) (u := 900) rfl (by decide) l2 u8 rfl rfl (by decide) (by decide) rfl (fun z27 e27 l27 u27 => ?_)
            refine ev_putIT f_X9_step (nx := 161) rfl p_a0.1 rfl rfl rfl (hI.putB p_a0.1 rfl rfl l27 (by decide) u27 (by decide)) (hX.upI (t_inO hI.wf p_a0.1 (t_outO hI.wf p_a0.1 rfl) rfl)) (fun g28 e28 hI hX => ?_)
            exact ev_ret f_X9_step rfl rfl rfl ⟨_, _, _, rfl, hI, hX, ⟨rfl, (show (∀ (b : Nat → Int32) (n q : Nat), t_Sp b n q gi ar0 → t_TC b n q g28 gl1 g4 ar0) ∧ t_nf gi g28 ar0 ∧ t_on ar0 gi gl gr g28 gl1 g4 from ⟨fun b n q h => (j1_0.1 b n q h).elim (fun i hi => t_TC_s hi.2.2 hi.2.1 (t_S_up hi.1 (t_noobj (hI.wf.s (k := 2) rfl) p_a0.1) (by decide) e3) (t_noobj (hI.wf.s (k := 2) rfl) p_a0.1) (by have h2 := hi.1.2.1; have h3 := hi.1.2.2.1; have h4 := (t_S_up hi.1 (t_noobj (hI.wf.s (k := 2) rfl) p_a0.1) (by decide) e3).2.1; have h5 := (t_S_up hi.1 (t_noobj (hI.wf.s (k := 2) rfl) p_a0.1) (by decide) e3).2.2.1; omega) (x := (gi1 ar0 2)) hi.1.2.2.1 e11 (by omega) (by omega) (by rw [e3, x_up2_at]; exact hi.1.2.2.1) (by rw [e4]; exact x_up2_at _ _ _ _) (by by_cases hs : s_sg w11.toInt = true; (rw [if_pos hs]; rfl); (rw [if_neg hs] at q16; omega)) (by have h3 := hi.1.2.2.1; omega) e25 e26 e28), ⟨(hX.1 ar0 10 (t_ninO hI.wf p_a0.1 (t_outO hI.wf p_a0.1 rfl) rfl)).1, (hX.1 ar0 11 (t_ninO hI.wf p_a0.1 (t_outO hI.wf p_a0.1 rfl) rfl)).1⟩, (t_on.I (t_on.I (t_on.I (t_on.R (t_on.I j1_0.2 e3) e4) e25) e26) e28)⟩)⟩⟩
        · have l29 : 48 ≤ w11.toInt := t_lel (t_nlt h14) (by decide : (48:Int) ≤ (48:Int32).toInt)
          refine ev_loc f_X9_step (nx := 118) rfl rfl rfl rfl ?_
          refine ev_bp f_X9_step (nx := 120) (v := 57) rfl (by decide) rfl ?_
          refine ev_if f_X9_step (t1 := 130) (t2 := 123) rfl rfl rfl (fun h30 => ?_) (fun h30 => ?_)
          · have l31 : 58 ≤ w11.toInt := t_ltl h30 (by decide : (57:Int) ≤ (57:Int32).toInt) rfl
            refine ev_loc f_X9_step (nx := 131) rfl rfl rfl rfl ?_
            refine ev_loc f_X9_step (nx := 132) rfl rfl rfl rfl ?_
            refine ev_qI0 f_X9_step (nx := 135) (r := [.ref ar0]) rfl rfl rfl rfl rfl rfl rfl (c_s_isSign hI (w11)) rfl (fun w32 l32 u32 q32 => ?_)
            have q32 : w32.toInt = (if s_sg w11.toInt = true then 1 else 0) := q32
            refine ev_if f_X9_step (t1 := 142) (t2 := 138) rfl rfl rfl (fun h33 => ?_) (fun h33 => ?_)
            · have u34 : w32.toInt ≤ 0 := t_equ h33 (by decide : (0:Int32).toInt ≤ (0:Int))
              refine ev_ic f_X9_step (nx := 143) (v := 4) rfl (by decide) rfl ?_
              refine ev_putIT f_X9_step (nx := 146) rfl p_a0.1 rfl rfl rfl (hI.put0 p_a0.1 rfl rfl) (hX.upI (t_inO hI.wf p_a0.1 (t_outO hI.wf p_a0.1 rfl) rfl)) (fun g35 e35 hI hX => ?_)
              refine ev_loc f_X9_step (nx := 147) rfl rfl rfl rfl ?_
              refine ev_loc f_X9_step (nx := 148) rfl rfl rfl rfl ?_
              refine ev_putIT f_X9_step (nx := 151) rfl p_a0.1 rfl rfl rfl (hI.put0 p_a0.1 rfl rfl) (hX.upI (t_inO hI.wf p_a0.1 (t_outO hI.wf p_a0.1 rfl) rfl)) (fun g36 e36 hI hX => ?_)
              refine ev_loc f_X9_step (nx := 152) rfl rfl rfl rfl ?_
              refine ev_alu f_X9_step (nx := 153) rfl rfl rfl rfl ?_
              refine ev_gvI f_X9_step (nx := 156) (w := (gi1 ar0 2)) rfl p_a0.1 rfl rfl ((by rw [e36]; exact x_up2_off (Or.inr (by decide)) : g36 ar0 2 = g35 ar0 2).trans ((by rw [e35]; exact x_up2_off (Or.inr (by decide)) : g35 ar0 2 = g3 ar0 2).trans ((by rw [e3]; exact x_up2_off (Or.inr (by decide)) : g3 ar0 2 = gi1 ar0 2).trans rfl))) rfl ?_
              refine ev_ic f_X9_step (nx := 157) (v := 1) rfl (by decide) rfl ?_
              refine ev_addC f_X9_step (nx := 158) (c := 1) (l := 1) (u := 900) rfl (by decide) l2 u8 rfl rfl (by decide) (by decide) rfl (fun z37 e37 l37 u37 => ?_)
              refine ev_putIT f_X9_step (nx := 161) rfl p_a0.1 rfl rfl rfl (hI.putB p_a0.1 rfl rfl l37 (by decide) u37 (by decide)) (hX.upI (t_inO hI.wf p_a0.1 (t_outO hI.wf p_a0.1 rfl) rfl)) (fun g38 e38 hI hX => ?_)
              exact ev_ret f_X9_step rfl rfl rfl ⟨_, _, _, rfl, hI, hX, ⟨rfl, (show (∀ (b : Nat → Int32) (n q : Nat), t_Sp b n q gi ar0 → t_TC b n q g38 gl1 g4 ar0) ∧ t_nf gi g38 ar0 ∧ t_on ar0 gi gl gr g38 gl1 g4 from ⟨fun b n q h => (j1_0.1 b n q h).elim (fun i hi => t_TC_s hi.2.2 hi.2.1 (t_S_up hi.1 (t_noobj (hI.wf.s (k := 2) rfl) p_a0.1) (by decide) e3) (t_noobj (hI.wf.s (k := 2) rfl) p_a0.1) (by have h2 := hi.1.2.1; have h3 := hi.1.2.2.1; have h4 := (t_S_up hi.1 (t_noobj (hI.wf.s (k := 2) rfl) p_a0.1) (by decide) e3).2.1; have h5 := (t_S_up hi.1 (t_noobj (hI.wf.s (k := 2) rfl) p_a0.1) (by decide) e3).2.2.1; omega) (x := (gi1 ar0 2)) hi.1.2.2.1 e11 (by omega) (by omega) (by rw [e3, x_up2_at]; exact hi.1.2.2.1) (by rw [e4]; exact x_up2_at _ _ _ _) (by by_cases hs : s_sg w11.toInt = true; (rw [if_pos hs] at q32; omega); (rw [if_neg hs]; rfl)) (by have h3 := hi.1.2.2.1; omega) e35 e36 e38), ⟨(hX.1 ar0 10 (t_ninO hI.wf p_a0.1 (t_outO hI.wf p_a0.1 rfl) rfl)).1, (hX.1 ar0 11 (t_ninO hI.wf p_a0.1 (t_outO hI.wf p_a0.1 rfl) rfl)).1⟩, (t_on.I (t_on.I (t_on.I (t_on.R (t_on.I j1_0.2 e3) e4) e35) e36) e38)⟩)⟩⟩
            · have r39 : w32.toInt ≠ 0 := fun e => h33 (Int32.toInt_inj.mp (e.trans (by decide : (0:Int) = (0 : Int32).toInt)))
              have l40 : 1 ≤ w32.toInt := t_nel h33 l32 rfl rfl
              refine ev_ic f_X9_step (nx := 139) (v := 2) rfl (by decide) rfl ?_
              refine ev_jmp f_X9_step (nx := 143) rfl rfl rfl ?_
              refine ev_putIT f_X9_step (nx := 146) rfl p_a0.1 rfl rfl rfl (hI.put0 p_a0.1 rfl rfl) (hX.upI (t_inO hI.wf p_a0.1 (t_outO hI.wf p_a0.1 rfl) rfl)) (fun g41 e41 hI hX => ?_)
              refine ev_loc f_X9_step (nx := 147) rfl rfl rfl rfl ?_
              refine ev_loc f_X9_step (nx := 148) rfl rfl rfl rfl ?_
              refine ev_putIT f_X9_step (nx := 151) rfl p_a0.1 rfl rfl rfl (hI.put0 p_a0.1 rfl rfl) (hX.upI (t_inO hI.wf p_a0.1 (t_outO hI.wf p_a0.1 rfl) rfl)) (fun g42 e42 hI hX => ?_)
              refine ev_loc f_X9_step (nx := 152) rfl rfl rfl rfl ?_
              refine ev_alu f_X9_step (nx := 153) rfl rfl rfl rfl ?_
              refine ev_gvI f_X9_step (nx := 156) (w := (gi1 ar0 2)) rfl p_a0.1 rfl rfl ((by rw [e42]; exact x_up2_off (Or.inr (by decide)) : g42 ar0 2 = g41 ar0 2).trans ((by rw [e41]; exact x_up2_off (Or.inr (by decide)) : g41 ar0 2 = g3 ar0 2).trans ((by rw [e3]; exact x_up2_off (Or.inr (by decide)) : g3 ar0 2 = gi1 ar0 2).trans rfl))) rfl ?_
              refine ev_ic f_X9_step (nx := 157) (v := 1) rfl (by decide) rfl ?_
              refine ev_addC f_X9_step (nx := 158) (c := 1) (l := 1) (u := 900) rfl (by decide) l2 u8 rfl rfl (by decide) (by decide) rfl (fun z43 e43 l43 u43 => ?_)
              refine ev_putIT f_X9_step (nx := 161) rfl p_a0.1 rfl rfl rfl (hI.putB p_a0.1 rfl rfl l43 (by decide) u43 (by decide)) (hX.upI (t_inO hI.wf p_a0.1 (t_outO hI.wf p_a0.1 rfl) rfl)) (fun g44 e44 hI hX => ?_)
              exact ev_ret f_X9_step rfl rfl rfl ⟨_, _, _, rfl, hI, hX, ⟨rfl, (show (∀ (b : Nat → Int32) (n q : Nat), t_Sp b n q gi ar0 → t_TC b n q g44 gl1 g4 ar0) ∧ t_nf gi g44 ar0 ∧ t_on ar0 gi gl gr g44 gl1 g4 from ⟨fun b n q h => (j1_0.1 b n q h).elim (fun i hi => t_TC_s hi.2.2 hi.2.1 (t_S_up hi.1 (t_noobj (hI.wf.s (k := 2) rfl) p_a0.1) (by decide) e3) (t_noobj (hI.wf.s (k := 2) rfl) p_a0.1) (by have h2 := hi.1.2.1; have h3 := hi.1.2.2.1; have h4 := (t_S_up hi.1 (t_noobj (hI.wf.s (k := 2) rfl) p_a0.1) (by decide) e3).2.1; have h5 := (t_S_up hi.1 (t_noobj (hI.wf.s (k := 2) rfl) p_a0.1) (by decide) e3).2.2.1; omega) (x := (gi1 ar0 2)) hi.1.2.2.1 e11 (by omega) (by omega) (by rw [e3, x_up2_at]; exact hi.1.2.2.1) (by rw [e4]; exact x_up2_at _ _ _ _) (by by_cases hs : s_sg w11.toInt = true; (rw [if_pos hs]; rfl); (rw [if_neg hs] at q32; omega)) (by have h3 := hi.1.2.2.1; omega) e41 e42 e44), ⟨(hX.1 ar0 10 (t_ninO hI.wf p_a0.1 (t_outO hI.wf p_a0.1 rfl) rfl)).1, (hX.1 ar0 11 (t_ninO hI.wf p_a0.1 (t_outO hI.wf p_a0.1 rfl) rfl)).1⟩, (t_on.I (t_on.I (t_on.I (t_on.R (t_on.I j1_0.2 e3) e4) e41) e42) e44)⟩)⟩⟩
          · have u45 : w11.toInt ≤ 57 := t_leu (t_nlt h30) (by decide : (57:Int32).toInt ≤ (57:Int))
            refine ev_loc f_X9_step (nx := 124) rfl rfl rfl rfl ?_
            refine ev_qN f_X9_step (nx := 127) (r := []) rfl rfl rfl rfl rfl rfl rfl (c_s_stepNumber hI (ar0) p_a0) rfl hX rfl (fun gi46 gl46 gr46 hI hX hC46 q46 => ?_)
            have q46 : (∀ (b : Nat → Int32) (n q : Nat), t_S0 b n q g3 g4 ar0 → t_SM b n q gi46 gr46 ar0) ∧ t_on ar0 g3 gl1 g4 gi46 gl46 gr46 := q46
            replace p_a0 := p_a0.ext hC46.2
            refine ev_jmp f_X9_step (nx := 161) rfl rfl rfl ?_
            exact ev_ret f_X9_step rfl rfl rfl ⟨_, _, _, rfl, hI, hX, ⟨rfl, (show (∀ (b : Nat → Int32) (n q : Nat), t_Sp b n q gi ar0 → t_TC b n q gi46 gl46 gr46 ar0) ∧ t_nf gi gi46 ar0 ∧ t_on ar0 gi gl gr gi46 gl46 gr46 from ⟨fun b n q h => (j1_0.1 b n q h).elim (fun i hi => t_TC_n hi.2.2 hi.2.1 (by have h2 := hi.1.2.1; have h3 := hi.1.2.2.1; have h4 := (t_S_up hi.1 (t_noobj (hI.wf.s (k := 2) rfl) p_a0.1) (by decide) e3).2.1; have h5 := (t_S_up hi.1 (t_noobj (hI.wf.s (k := 2) rfl) p_a0.1) (by decide) e3).2.2.1; omega) (by rw [(t_S_w (t_S_up hi.1 (t_noobj (hI.wf.s (k := 2) rfl) p_a0.1) (by decide) e3) (x := (gi1 ar0 2)) hi.1.2.2.1 e11)]; omega) (by rw [(t_S_w (t_S_up hi.1 (t_noobj (hI.wf.s (k := 2) rfl) p_a0.1) (by decide) e3) (x := (gi1 ar0 2)) hi.1.2.2.1 e11)]; omega) (q46.1 b n i ⟨(t_S_up hi.1 (t_noobj (hI.wf.s (k := 2) rfl) p_a0.1) (by decide) e3), (by rw [e3, x_up2_at]; exact hi.1.2.2.1), (by rw [e4]; exact x_up2_at _ _ _ _)⟩)), ⟨(hX.1 ar0 10 (t_ninO hI.wf p_a0.1 (t_outO hI.wf p_a0.1 rfl) rfl)).1, (hX.1 ar0 11 (t_ninO hI.wf p_a0.1 (t_outO hI.wf p_a0.1 rfl) rfl)).1⟩, (t_on.tr (t_on.R (t_on.I j1_0.2 e3) e4) q46.2)⟩)⟩⟩
      · have l47 : 97 ≤ w11.toInt := t_lel (t_nlt h12) (by decide : (97:Int) ≤ (97:Int32).toInt)
        refine ev_loc f_X9_step (nx := 99) rfl rfl rfl rfl ?_
        refine ev_bp f_X9_step (nx := 101) (v := 122) rfl (by decide) rfl ?_
        refine ev_if f_X9_step (t1 := 111) (t2 := 104) rfl rfl rfl (fun h48 => ?_) (fun h48 => ?_)
        · have l49 : 123 ≤ w11.toInt := t_ltl h48 (by decide : (122:Int) ≤ (122:Int32).toInt) rfl
          refine ev_loc f_X9_step (nx := 112) rfl rfl rfl rfl ?_
          refine ev_bp f_X9_step (nx := 114) (v := 48) rfl (by decide) rfl ?_
          refine ev_f f_X9_step (t1 := 130) (t2 := 117) rfl rfl rfl (t_ltF (by decide : (48:Int32).toInt ≤ (48:Int)) l49 (by decide)) ?_
          refine ev_loc f_X9_step (nx := 118) rfl rfl rfl rfl ?_
          refine ev_bp f_X9_step (nx := 120) (v := 57) rfl (by decide) rfl ?_
          refine ev_t f_X9_step (t1 := 130) (t2 := 123) rfl rfl rfl (t_ltT (by decide : (57:Int32).toInt ≤ (57:Int)) l49 (by decide)) ?_
          refine ev_loc f_X9_step (nx := 131) rfl rfl rfl rfl ?_
          refine ev_loc f_X9_step (nx := 132) rfl rfl rfl rfl ?_
          refine ev_qI0 f_X9_step (nx := 135) (r := [.ref ar0]) rfl rfl rfl rfl rfl rfl rfl (c_s_isSign hI (w11)) rfl (fun w50 l50 u50 q50 => ?_)
          have q50 : w50.toInt = (if s_sg w11.toInt = true then 1 else 0) := q50
          refine ev_if f_X9_step (t1 := 142) (t2 := 138) rfl rfl rfl (fun h51 => ?_) (fun h51 => ?_)
          · have u52 : w50.toInt ≤ 0 := t_equ h51 (by decide : (0:Int32).toInt ≤ (0:Int))
            refine ev_ic f_X9_step (nx := 143) (v := 4) rfl (by decide) rfl ?_
            refine ev_putIT f_X9_step (nx := 146) rfl p_a0.1 rfl rfl rfl (hI.put0 p_a0.1 rfl rfl) (hX.upI (t_inO hI.wf p_a0.1 (t_outO hI.wf p_a0.1 rfl) rfl)) (fun g53 e53 hI hX => ?_)
            refine ev_loc f_X9_step (nx := 147) rfl rfl rfl rfl ?_
            refine ev_loc f_X9_step (nx := 148) rfl rfl rfl rfl ?_
            refine ev_putIT f_X9_step (nx := 151) rfl p_a0.1 rfl rfl rfl (hI.put0 p_a0.1 rfl rfl) (hX.upI (t_inO hI.wf p_a0.1 (t_outO hI.wf p_a0.1 rfl) rfl)) (fun g54 e54 hI hX => ?_)
            refine ev_loc f_X9_step (nx := 152) rfl rfl rfl rfl ?_
            refine ev_alu f_X9_step (nx := 153) rfl rfl rfl rfl ?_
            refine ev_gvI f_X9_step (nx := 156) (w := (gi1 ar0 2)) rfl p_a0.1 rfl rfl ((by rw [e54]; exact x_up2_off (Or.inr (by decide)) : g54 ar0 2 = g53 ar0 2).trans ((by rw [e53]; exact x_up2_off (Or.inr (by decide)) : g53 ar0 2 = g3 ar0 2).trans ((by rw [e3]; exact x_up2_off (Or.inr (by decide)) : g3 ar0 2 = gi1 ar0 2).trans rfl))) rfl ?_
            refine ev_ic f_X9_step (nx := 157) (v := 1) rfl (by decide) rfl ?_
            refine ev_addC f_X9_step (nx := 158) (c := 1) (l := 1) (u := 900) rfl (by decide) l2 u8 rfl rfl (by decide) (by decide) rfl (fun z55 e55 l55 u55 => ?_)
            refine ev_putIT f_X9_step (nx := 161) rfl p_a0.1 rfl rfl rfl (hI.putB p_a0.1 rfl rfl l55 (by decide) u55 (by decide)) (hX.upI (t_inO hI.wf p_a0.1 (t_outO hI.wf p_a0.1 rfl) rfl)) (fun g56 e56 hI hX => ?_)
            exact ev_ret f_X9_step rfl rfl rfl ⟨_, _, _, rfl, hI, hX, ⟨rfl, (show (∀ (b : Nat → Int32) (n q : Nat), t_Sp b n q gi ar0 → t_TC b n q g56 gl1 g4 ar0) ∧ t_nf gi g56 ar0 ∧ t_on ar0 gi gl gr g56 gl1 g4 from ⟨fun b n q h => (j1_0.1 b n q h).elim (fun i hi => t_TC_s hi.2.2 hi.2.1 (t_S_up hi.1 (t_noobj (hI.wf.s (k := 2) rfl) p_a0.1) (by decide) e3) (t_noobj (hI.wf.s (k := 2) rfl) p_a0.1) (by have h2 := hi.1.2.1; have h3 := hi.1.2.2.1; have h4 := (t_S_up hi.1 (t_noobj (hI.wf.s (k := 2) rfl) p_a0.1) (by decide) e3).2.1; have h5 := (t_S_up hi.1 (t_noobj (hI.wf.s (k := 2) rfl) p_a0.1) (by decide) e3).2.2.1; omega) (x := (gi1 ar0 2)) hi.1.2.2.1 e11 (by omega) (by omega) (by rw [e3, x_up2_at]; exact hi.1.2.2.1) (by rw [e4]; exact x_up2_at _ _ _ _) (by by_cases hs : s_sg w11.toInt = true; (rw [if_pos hs] at q50; omega); (rw [if_neg hs]; rfl)) (by have h3 := hi.1.2.2.1; omega) e53 e54 e56), ⟨(hX.1 ar0 10 (t_ninO hI.wf p_a0.1 (t_outO hI.wf p_a0.1 rfl) rfl)).1, (hX.1 ar0 11 (t_ninO hI.wf p_a0.1 (t_outO hI.wf p_a0.1 rfl) rfl)).1⟩, (t_on.I (t_on.I (t_on.I (t_on.R (t_on.I j1_0.2 e3) e4) e53) e54) e56)⟩)⟩⟩
          · have r57 : w50.toInt ≠ 0 := fun e => h51 (Int32.toInt_inj.mp (e.trans (by decide : (0:Int) = (0 : Int32).toInt)))
            have l58 : 1 ≤ w50.toInt := t_nel h51 l50 rfl rfl
            refine ev_ic f_X9_step (nx := 139) (v := 2) rfl (by decide) rfl ?_
            refine ev_jmp f_X9_step (nx := 143) rfl rfl rfl ?_
            refine ev_putIT f_X9_step (nx := 146) rfl p_a0.1 rfl rfl rfl (hI.put0 p_a0.1 rfl rfl) (hX.upI (t_inO hI.wf p_a0.1 (t_outO hI.wf p_a0.1 rfl) rfl)) (fun g59 e59 hI hX => ?_)
            refine ev_loc f_X9_step (nx := 147) rfl rfl rfl rfl ?_
            refine ev_loc f_X9_step (nx := 148) rfl rfl rfl rfl ?_
            refine ev_putIT f_X9_step (nx := 151) rfl p_a0.1 rfl rfl rfl (hI.put0 p_a0.1 rfl rfl) (hX.upI (t_inO hI.wf p_a0.1 (t_outO hI.wf p_a0.1 rfl) rfl)) (fun g60 e60 hI hX => ?_)
            refine ev_loc f_X9_step (nx := 152) rfl rfl rfl rfl ?_
            refine ev_alu f_X9_step (nx := 153) rfl rfl rfl rfl ?_
            refine ev_gvI f_X9_step (nx := 156) (w := (gi1 ar0 2)) rfl p_a0.1 rfl rfl ((by rw [e60]; exact x_up2_off (Or.inr (by decide)) : g60 ar0 2 = g59 ar0 2).trans ((by rw [e59]; exact x_up2_off (Or.inr (by decide)) : g59 ar0 2 = g3 ar0 2).trans ((by rw [e3]; exact x_up2_off (Or.inr (by decide)) : g3 ar0 2 = gi1 ar0 2).trans rfl))) rfl ?_
            refine ev_ic f_X9_step (nx := 157) (v := 1) rfl (by decide) rfl ?_
            refine ev_addC f_X9_step (nx := 158) (c := 1) (l := 1) (u := 900) rfl (by decide) l2 u8 rfl rfl (by decide) (by decide) rfl (fun z61 e61 l61 u61 => ?_)
            refine ev_putIT f_X9_step (nx := 161) rfl p_a0.1 rfl rfl rfl (hI.putB p_a0.1 rfl rfl l61 (by decide) u61 (by decide)) (hX.upI (t_inO hI.wf p_a0.1 (t_outO hI.wf p_a0.1 rfl) rfl)) (fun g62 e62 hI hX => ?_)
            exact ev_ret f_X9_step rfl rfl rfl ⟨_, _, _, rfl, hI, hX, ⟨rfl, (show (∀ (b : Nat → Int32) (n q : Nat), t_Sp b n q gi ar0 → t_TC b n q g62 gl1 g4 ar0) ∧ t_nf gi g62 ar0 ∧ t_on ar0 gi gl gr g62 gl1 g4 from ⟨fun b n q h => (j1_0.1 b n q h).elim (fun i hi => t_TC_s hi.2.2 hi.2.1 (t_S_up hi.1 (t_noobj (hI.wf.s (k := 2) rfl) p_a0.1) (by decide) e3) (t_noobj (hI.wf.s (k := 2) rfl) p_a0.1) (by have h2 := hi.1.2.1; have h3 := hi.1.2.2.1; have h4 := (t_S_up hi.1 (t_noobj (hI.wf.s (k := 2) rfl) p_a0.1) (by decide) e3).2.1; have h5 := (t_S_up hi.1 (t_noobj (hI.wf.s (k := 2) rfl) p_a0.1) (by decide) e3).2.2.1; omega) (x := (gi1 ar0 2)) hi.1.2.2.1 e11 (by omega) (by omega) (by rw [e3, x_up2_at]; exact hi.1.2.2.1) (by rw [e4]; exact x_up2_at _ _ _ _) (by by_cases hs : s_sg w11.toInt = true; (rw [if_pos hs]; rfl); (rw [if_neg hs] at q50; omega)) (by have h3 := hi.1.2.2.1; omega) e59 e60 e62), ⟨(hX.1 ar0 10 (t_ninO hI.wf p_a0.1 (t_outO hI.wf p_a0.1 rfl) rfl)).1, (hX.1 ar0 11 (t_ninO hI.wf p_a0.1 (t_outO hI.wf p_a0.1 rfl) rfl)).1⟩, (t_on.I (t_on.I (t_on.I (t_on.R (t_on.I j1_0.2 e3) e4) e59) e60) e62)⟩)⟩⟩
        · have u63 : w11.toInt ≤ 122 := t_leu (t_nlt h48) (by decide : (122:Int32).toInt ≤ (122:Int))
          refine ev_loc f_X9_step (nx := 105) rfl rfl rfl rfl ?_
          refine ev_qN f_X9_step (nx := 108) (r := []) rfl rfl rfl rfl rfl rfl rfl (c_s_stepWord hI (ar0) p_a0) rfl hX rfl (fun gi64 gl64 gr64 hI hX hC64 q64 => ?_)
          have q64 : (∀ (b : Nat → Int32) (n q : Nat), t_S0 b n q g3 g4 ar0 → t_SX b n q 27 gi64 gl64 gr64 ar0) ∧ t_on ar0 g3 gl1 g4 gi64 gl64 gr64 := q64
          replace p_a0 := p_a0.ext hC64.2
          refine ev_jmp f_X9_step (nx := 161) rfl rfl rfl ?_
          exact ev_ret f_X9_step rfl rfl rfl ⟨_, _, _, rfl, hI, hX, ⟨rfl, (show (∀ (b : Nat → Int32) (n q : Nat), t_Sp b n q gi ar0 → t_TC b n q gi64 gl64 gr64 ar0) ∧ t_nf gi gi64 ar0 ∧ t_on ar0 gi gl gr gi64 gl64 gr64 from ⟨fun b n q h => (j1_0.1 b n q h).elim (fun i hi => t_TC_w hi.2.2 hi.2.1 (by have h2 := hi.1.2.1; have h3 := hi.1.2.2.1; have h4 := (t_S_up hi.1 (t_noobj (hI.wf.s (k := 2) rfl) p_a0.1) (by decide) e3).2.1; have h5 := (t_S_up hi.1 (t_noobj (hI.wf.s (k := 2) rfl) p_a0.1) (by decide) e3).2.2.1; omega) (by rw [(t_S_w (t_S_up hi.1 (t_noobj (hI.wf.s (k := 2) rfl) p_a0.1) (by decide) e3) (x := (gi1 ar0 2)) hi.1.2.2.1 e11)]; omega) (by rw [(t_S_w (t_S_up hi.1 (t_noobj (hI.wf.s (k := 2) rfl) p_a0.1) (by decide) e3) (x := (gi1 ar0 2)) hi.1.2.2.1 e11)]; omega) (q64.1 b n i ⟨(t_S_up hi.1 (t_noobj (hI.wf.s (k := 2) rfl) p_a0.1) (by decide) e3), (by rw [e3, x_up2_at]; exact hi.1.2.2.1), (by rw [e4]; exact x_up2_at _ _ _ _)⟩)), ⟨(hX.1 ar0 10 (t_ninO hI.wf p_a0.1 (t_outO hI.wf p_a0.1 rfl) rfl)).1, (hX.1 ar0 11 (t_ninO hI.wf p_a0.1 (t_outO hI.wf p_a0.1 rfl) rfl)).1⟩, (t_on.tr (t_on.R (t_on.I j1_0.2 e3) e4) q64.2)⟩)⟩⟩
    · have r65 : (g3 ar0 1).toInt ≤ (gi1 ar0 2).toInt := Int32.le_iff_toInt_le.mp (t_nlt h6)
      refine ev_loc f_X9_step (nx := 77) rfl rfl rfl rfl ?_
      refine ev_ic f_X9_step (nx := 78) (v := 3) rfl (by decide) rfl ?_
      refine ev_putIT f_X9_step (nx := 81) rfl p_a0.1 rfl rfl rfl (hI.put0 p_a0.1 rfl rfl) (hX.upI (t_inO hI.wf p_a0.1 (t_outO hI.wf p_a0.1 rfl) rfl)) (fun g66 e66 hI hX => ?_)
      exact ev_ret f_X9_step rfl rfl rfl ⟨_, _, _, rfl, hI, hX, ⟨rfl, (show (∀ (b : Nat → Int32) (n q : Nat), t_Sp b n q gi ar0 → t_TC b n q g66 gl1 g4 ar0) ∧ t_nf gi g66 ar0 ∧ t_on ar0 gi gl gr g66 gl1 g4 from ⟨fun b n q h => (j1_0.1 b n q h).elim (fun i hi => t_TC_end hi.2.2 hi.2.1 (t_S_up (t_S_up hi.1 (t_noobj (hI.wf.s (k := 2) rfl) p_a0.1) (by decide) e3) (t_noobj (hI.wf.s (k := 2) rfl) p_a0.1) (by decide) e66) (by have h2 := hi.1.2.1; have h3 := hi.1.2.2.1; have h4 := (t_S_up hi.1 (t_noobj (hI.wf.s (k := 2) rfl) p_a0.1) (by decide) e3).2.1; have h5 := (t_S_up hi.1 (t_noobj (hI.wf.s (k := 2) rfl) p_a0.1) (by decide) e3).2.2.1; omega) (by rw [e66, x_up2_off (Or.inr (by decide))]; exact (by rw [e3, x_up2_at]; exact hi.1.2.2.1)) (by rw [e4]; exact x_up2_at _ _ _ _) (by rw [e66, x_up2_at]; rfl)), ⟨(hX.1 ar0 10 (t_ninO hI.wf p_a0.1 (t_outO hI.wf p_a0.1 rfl) rfl)).1, (hX.1 ar0 11 (t_ninO hI.wf p_a0.1 (t_outO hI.wf p_a0.1 rfl) rfl)).1⟩, (t_on.I (t_on.R (t_on.I j1_0.2 e3) e4) e66)⟩)⟩⟩
  have L67 : ∀ (m67 : Nat) (gi67 : Nat → Nat → Int32) (gl67 : Nat → Nat → Int64) (gr67 : Nat → Nat → Value), t_I sh gi67 gr67 → t_X wl_s_step sh gi gl gr gi67 gl67 gr67 → t_Tk sh gr67 ar0 → (∀ (b : Nat → Int32) (n q : Nat), t_Sp b n q gi ar0 → ∃ i : Nat, t_Sp b n i gi67 ar0 ∧ q ≤ n ∧ s_F b n i = s_F b n q) ∧ t_on ar0 gi gl gr gi67 gl67 gr67 → (900 - (gi67 ar0 2).toInt).toNat = m67 → x_Ev X (d + 2) n_X9_step 0 [(0, .ref ar0)] [] (sh, gi67, gl67, gr67) (t_PN wl_s_step sh gi gl gr (Q_s_step gi gl gr ar0)) := by
    intro m67
    induction m67 using Nat.strongRecOn with
    | _ m67 ih67 =>
    intro gi67 gl67 gr67 hI hX p_a0 j67_0 hm67
    refine ev_loc f_X9_step (nx := 1) rfl rfl rfl rfl ?_
    refine ev_getI f_X9_step (nx := 4) rfl p_a0.1 rfl rfl rfl ?_
    obtain ⟨l68, u68⟩ := hI.b p_a0.1 (t_bdK rfl : t_bd 8 2 = some (0, 900))
    refine ev_loc f_X9_step (nx := 5) rfl rfl rfl rfl ?_
    refine ev_getI f_X9_step (nx := 8) rfl p_a0.1 rfl rfl rfl ?_
    obtain ⟨l69, u69⟩ := hI.b p_a0.1 (t_bdK rfl : t_bd 8 1 = some (0, 900))
    refine ev_if f_X9_step (t1 := 52) (t2 := 11) rfl rfl rfl (fun h70 => ?_) (fun h70 => ?_)
    · have r71 : (gi67 ar0 1).toInt ≤ (gi67 ar0 2).toInt := Int32.le_iff_toInt_le.mp h70
      refine ev_sub (lo := [(0, .ref ar0)]) rfl (t_sc rfl t_sn) ?_
      exact L1 gi67 gl67 gr67  hI hX p_a0 ⟨fun b n q h => (j67_0.1 b n q h).elim (fun i hi => ⟨i, hi.1, hi.2.1, hi.2.2.symm.trans (s_blk hi.1 (Or.inl (by omega)))⟩), j67_0.2⟩
    · have r72 : (gi67 ar0 2).toInt < (gi67 ar0 1).toInt := Int32.lt_iff_toInt_lt.mp (t_nle h70)
      have u73 : (gi67 ar0 2).toInt ≤ 899 := t_ltu (t_nle h70) u69 rfl
      have l74 : 1 ≤ (gi67 ar0 1).toInt := t_ltl (t_nle h70) l68 rfl
      refine ev_loc f_X9_step (nx := 12) rfl rfl rfl rfl ?_
      have e75 := p_a0.2
      refine ev_getR f_X9_step (nx := 15) rfl p_a0.1 rfl rfl e75 rfl rfl ?_
      refine ev_loc f_X9_step (nx := 16) rfl rfl rfl rfl ?_
      refine ev_gvI f_X9_step (nx := 19) (w := (gi67 ar0 2)) rfl p_a0.1 rfl rfl rfl rfl ?_
      refine ev_baldT f_X9_step (nx := 20) rfl (hI.wf.s rfl) rfl l68 (by decide) u73 (by decide) rfl (fun w76 e76 => ?_)
      refine ev_bp f_X9_step (nx := 22) (v := 32) rfl (by decide) rfl ?_
      refine ev_if f_X9_step (t1 := 39) (t2 := 25) rfl rfl rfl (fun h77 => ?_) (fun h77 => ?_)
      · have u78 : w76.toInt ≤ 32 := t_equ h77 (by decide : (32:Int32).toInt ≤ (32:Int))
        have l79 : 32 ≤ w76.toInt := t_eql h77 (by decide : (32:Int) ≤ (32:Int32).toInt)
        refine ev_loc f_X9_step (nx := 40) rfl rfl rfl rfl ?_
        refine ev_alu f_X9_step (nx := 41) rfl rfl rfl rfl ?_
        refine ev_gvI f_X9_step (nx := 44) (w := (gi67 ar0 2)) rfl p_a0.1 rfl rfl rfl rfl ?_
        refine ev_ic f_X9_step (nx := 45) (v := 1) rfl (by decide) rfl ?_
        refine ev_addC f_X9_step (nx := 46) (c := 1) (l := 1) (u := 900) rfl (by decide) l68 u73 rfl rfl (by decide) (by decide) rfl (fun z80 e80 l80 u80 => ?_)
        refine ev_putIT f_X9_step (nx := 49) rfl p_a0.1 rfl rfl rfl (hI.putB p_a0.1 rfl rfl l80 (by decide) u80 (by decide)) (hX.upI (t_inO hI.wf p_a0.1 (t_outO hI.wf p_a0.1 rfl) rfl)) (fun g81 e81 hI hX => ?_)
        refine ev_jmp f_X9_step (nx := 0) rfl rfl rfl ?_
        refine ev_sub (lo := [(0, .ref ar0)]) rfl (t_sc rfl t_sn) ?_
        have hq67 := ((by rw [e81]; exact x_up2_at _ _ _ _ : g81 ar0 2 = z80) : g81 ar0 2 = z80)
        exact ih67 _ (by rw [hq67]; omega) g81 gl67 gr67  hI hX p_a0 ⟨fun b n q h => (j67_0.1 b n q h).elim (fun i hi => ⟨i + 1, t_S_nx hi.1 (t_noobj (hI.wf.s (k := 2) rfl) p_a0.1) (by have h3 := hi.1.2.2.1; omega) (by have h2 := hi.1.2.1; have h3 := hi.1.2.2.1; omega) e81, hi.2.1, (s_blk1 hi.1 (by omega) e76 (by omega)).trans hi.2.2⟩), (t_on.I j67_0.2 e81)⟩ rfl
      · have r82 : w76.toInt ≠ 32 := fun e => h77 (Int32.toInt_inj.mp (e.trans (by decide : (32:Int) = (32 : Int32).toInt)))
        refine ev_loc f_X9_step (nx := 26) rfl rfl rfl rfl ?_
        refine ev_getR f_X9_step (nx := 29) (v := .ref 2) rfl p_a0.1 rfl rfl e75 rfl rfl ?_
        refine ev_loc f_X9_step (nx := 30) rfl rfl rfl rfl ?_
        refine ev_gvI f_X9_step (nx := 33) (w := (gi67 ar0 2)) rfl p_a0.1 rfl rfl rfl rfl ?_
        refine ev_baldT f_X9_step (nx := 34) rfl (hI.wf.s rfl) rfl l68 (by decide) u73 (by decide) rfl (fun w83 e83 => ?_)
        rw [e83.trans e76.symm]
        refine ev_bp f_X9_step (nx := 36) (v := 10) rfl (by decide) rfl ?_
        refine ev_if f_X9_step (t1 := 39) (t2 := 52) rfl rfl rfl (fun h84 => ?_) (fun h84 => ?_)
        · have u85 : w76.toInt ≤ 10 := t_equ h84 (by decide : (10:Int32).toInt ≤ (10:Int))
          have l86 : 10 ≤ w76.toInt := t_eql h84 (by decide : (10:Int) ≤ (10:Int32).toInt)
          refine ev_loc f_X9_step (nx := 40) rfl rfl rfl rfl ?_
          refine ev_alu f_X9_step (nx := 41) rfl rfl rfl rfl ?_
          refine ev_gvI f_X9_step (nx := 44) (w := (gi67 ar0 2)) rfl p_a0.1 rfl rfl rfl rfl ?_
          refine ev_ic f_X9_step (nx := 45) (v := 1) rfl (by decide) rfl ?_
          refine ev_addC f_X9_step (nx := 46) (c := 1) (l := 1) (u := 900) rfl (by decide) l68 u73 rfl rfl (by decide) (by decide) rfl (fun z87 e87 l87 u87 => ?_)
          refine ev_putIT f_X9_step (nx := 49) rfl p_a0.1 rfl rfl rfl (hI.putB p_a0.1 rfl rfl l87 (by decide) u87 (by decide)) (hX.upI (t_inO hI.wf p_a0.1 (t_outO hI.wf p_a0.1 rfl) rfl)) (fun g88 e88 hI hX => ?_)
          refine ev_jmp f_X9_step (nx := 0) rfl rfl rfl ?_
          refine ev_sub (lo := [(0, .ref ar0)]) rfl (t_sc rfl t_sn) ?_
          have hq67 := ((by rw [e88]; exact x_up2_at _ _ _ _ : g88 ar0 2 = z87) : g88 ar0 2 = z87)
          exact ih67 _ (by rw [hq67]; omega) g88 gl67 gr67  hI hX p_a0 ⟨fun b n q h => (j67_0.1 b n q h).elim (fun i hi => ⟨i + 1, t_S_nx hi.1 (t_noobj (hI.wf.s (k := 2) rfl) p_a0.1) (by have h3 := hi.1.2.2.1; omega) (by have h2 := hi.1.2.1; have h3 := hi.1.2.2.1; omega) e88, hi.2.1, (s_blk1 hi.1 (by omega) e76 (by omega)).trans hi.2.2⟩), (t_on.I j67_0.2 e88)⟩ rfl
        · have r89 : w76.toInt ≠ 10 := fun e => h84 (Int32.toInt_inj.mp (e.trans (by decide : (10:Int) = (10 : Int32).toInt)))
          refine ev_sub (lo := [(0, .ref ar0)]) rfl (t_sc rfl t_sn) ?_
          exact L1 gi67 gl67 gr67  hI hX p_a0 ⟨fun b n q h => (j67_0.1 b n q h).elim (fun i hi => ⟨i, hi.1, hi.2.1, hi.2.2.symm.trans (s_blk hi.1 (Or.inr (fun w hw => by have hh := hw; rw [hw.trans e76.symm]; omega)))⟩), j67_0.2⟩
  refine ev_sub (lo := [(0, .ref ar0)]) rfl (t_sc rfl t_sn) ?_
  exact L67 _ gi gl gr  hI hX p_a0 ⟨fun b n q h => ⟨q, h, h.2.2.2, rfl⟩, t_on.rf⟩ rfl
/-! ===== what is asked of a TOKEN ===== -/
/-- BLASTS, looked at to x -/
noncomputable def t_BL (b : Nat → Int32) (n q : Nat) (x : Int32) : Prop := (s_K b n q = 2 ∧ s_E b n q - s_F b n q ≤ 6) ∧ ((s_F b n q : Nat) : Int) ≤ x.toInt ∧ ∀ k : Nat, s_F b n q ≤ k → (k : Int) < x.toInt → (b k).toInt = 108 ∨ (b k).toInt = 115
section ASK
variable {b : Nat → Int32} {n q k : Nat} {gi g1 g2 : Nat → Nat → Int32} {gl : Nat → Nat → Int64} {gr : Nat → Nat → Value}
theorem s_K_le : s_K b n q ≤ 4 := by
  unfold s_K
  split
  · decide
  split
  · decide
  split
  · split <;> decide
  split <;> decide
theorem t_TC.S (h : t_TC b n q gi gl gr k) : t_Sp b n (s_E b n q) gi k := t_TC_S h
theorem t_TC.K (h : t_TC b n q gi gl gr k) : (s_K b n q = 0 ∧ (gi k 3).toInt = 3) ∨ (s_K b n q = 1 ∧ (gi k 3).toInt = 4) ∨ (s_K b n q = 2 ∧ (gi k 3).toInt = 0) ∨ (s_K b n q = 3 ∧ (gi k 3).toInt = 1) ∨ (s_K b n q = 4 ∧ (gi k 3).toInt = 2) := by
  have h3 := h.2.2.2.1
  have hk := s_K_le (b := b) (n := n) (q := q)
  have hc : s_K b n q = 0 ∨ s_K b n q = 1 ∨ s_K b n q = 2 ∨ s_K b n q = 3 ∨ s_K b n q = 4 := by omega
  rcases hc with e | e | e | e | e <;> rw [e] at h3 ⊢
  · exact Or.inl ⟨rfl, h3⟩
  · exact Or.inr (Or.inl ⟨rfl, h3⟩)
  · exact Or.inr (Or.inr (Or.inl ⟨rfl, h3⟩))
  · exact Or.inr (Or.inr (Or.inr (Or.inl ⟨rfl, h3⟩)))
  · exact Or.inr (Or.inr (Or.inr (Or.inr ⟨rfl, h3⟩)))
theorem s_kvN {o : Option Nat} : s_kv o = .null ↔ o = none := by
  cases o with
  | none => exact ⟨fun _ => rfl, fun _ => rfl⟩
  | some i => exact ⟨fun h => (by cases h), fun h => (by cases h)⟩
theorem s_kvS {o : Option Nat} {i : Nat} : s_kv o = .retAddr i ↔ o = some i := by
  cases o with
  | none => exact ⟨fun h => (by cases h), fun h => (by cases h)⟩
  | some j => exact ⟨fun h => (by cases h; rfl), fun h => (by cases h; rfl)⟩
theorem t_TC.isN (h : t_TC b n q gi gl gr k) : ((gi k 3).toInt = 0 ∧ gr k 7 = .null ∧ (gi k 5).toInt ≤ 8) ↔ s_isN b n q := by
  have hK := h.K
  have h7 := h.2.2.2.2.1
  have h5 := h.2.2.2.2.2.1
  unfold s_isN
  rw [h7, s_kvN]
  constructor
  · rintro ⟨a, c, d⟩
    have e : s_K b n q = 2 := by omega
    exact ⟨e, c, by have := (h5 e).1; omega⟩
  · rintro ⟨a, c, d⟩
    exact ⟨by omega, c, by rw [(h5 a).1]; omega⟩
theorem t_TC.isS (h : t_TC b n q gi gl gr k) {c : Int} : ((gi k 3).toInt = 2 ∧ (gi k 9).toInt = c) ↔ s_isS b n q c := by
  have hK := h.K
  have h9 := h.2.2.2.2.2.2.2
  unfold s_isS
  constructor
  · rintro ⟨a, d⟩
    have e : s_K b n q = 4 := by omega
    exact ⟨e, by rw [← h9 e]; exact d⟩
  · rintro ⟨a, d⟩
    exact ⟨by omega, by rw [h9 a]; exact d⟩
theorem t_TC.isB0 (h : t_TC b n q gi gl gr k) (h3 : (gi k 3).toInt = 0) (h5 : (gi k 5).toInt ≤ 6) : t_BL b n q (gi k 4) := by
  have hK := h.K
  have e : s_K b n q = 2 := by omega
  have := (h.2.2.2.2.2.1 e).1
  have h4 := h.2.2.1
  exact ⟨⟨e, by omega⟩, by omega, fun j hj hj2 => by omega⟩
theorem t_TC.wi (h : t_TC b n q gi gl gr k) {i w : Int32} (hi : ((s_F b n q : Nat) : Int) ≤ i.toInt) (ew : w = gi 2 i.toNatClampNeg) : b i.toNatClampNeg = w ∧ (i.toNatClampNeg : Int) = i.toInt := ⟨by rw [ew, h.1.1], t_clamp (by omega)⟩
theorem t_TC.isB1 (h : t_TC b n q gi gl gr k) {i w z : Int32} (hb : t_BL b n q i) (_ : i.toInt < (gi k 2).toInt) (ew : w = gi 2 i.toNatClampNeg) (hw : w.toInt = 108 ∨ w.toInt = 115) (hz : z.toInt = i.toInt + 1) : t_BL b n q z := by
  obtain ⟨h1, h2, h3⟩ := hb
  obtain ⟨hc, hc2⟩ := h.wi h2 ew
  refine ⟨h1, by omega, fun j hj hj2 => ?_⟩
  by_cases hji : j = i.toNatClampNeg
  · rw [hji, hc]; exact hw
  · exact h3 j hj (by omega)
theorem t_TC.isB2 (h : t_TC b n q gi gl gr k) {i : Int32} (hb : t_BL b n q i) (hge : (gi k 2).toInt ≤ i.toInt) : s_isB b n q := ⟨hb.1, fun j hj hj2 => hb.2.2 j hj (by have := h.2.1; omega)⟩
theorem t_TC.isB3 (h : t_TC b n q gi gl gr k) {P : Prop} (hh : s_isB b n q) (hx : (gi k 3).toInt ≠ 0 ∨ 6 < (gi k 5).toInt) : P := by
  exfalso
  have hK := h.K
  have := (h.2.2.2.2.2.1 hh.1.1).1
  have := hh.1
  omega
theorem t_TC.isB4 (h : t_TC b n q gi gl gr k) {P : Prop} {i w : Int32} (hb : t_BL b n q i) (hh : s_isB b n q) (hlt : i.toInt < (gi k 2).toInt) (ew : w = gi 2 i.toNatClampNeg) (hw : w.toInt ≠ 108 ∧ w.toInt ≠ 115) : P := by
  exfalso
  obtain ⟨hc, hc2⟩ := h.wi hb.2.1 ew
  have h2 := h.2.1
  have h3 := hh.2 i.toNatClampNeg (by have := hb.2.1; omega) (by omega)
  rw [hc] at h3
  omega
theorem t_TC.fl (h : t_TC b n q gi gl gr k) {x : Int} {v : Int32} (e1 : g1 = x_up2 gi k 10 v) (e2 : g2 = x_up2 g1 k 11 (g1 k 4)) (hv : ((gi k 3).toInt = 4 ∧ v.toInt = 1) ∨ ((gi k 3).toInt ≠ 4 ∧ v.toInt = x)) : t_FL g2 k (s_fk b n q x) (s_F b n q) := by
  have hK := h.K
  refine ⟨?_, ?_⟩
  · rw [e2, x_up2_off (Or.inr (by decide)), e1, x_up2_at]
    unfold s_fk
    rcases hv with ⟨a, c⟩ | ⟨a, c⟩
    · rw [if_pos (by omega), c]
    · rw [if_neg (by omega), c]
  · rw [e2, x_up2_at, e1, x_up2_off (Or.inr (by decide))]; exact h.2.2.1
theorem t_TC.kwT (h : t_TC b n q gi gl gr k) {v : Value} {i : Nat} (e : gr k 7 = v) (hv : v = .retAddr i) : s_W b n q = some i := s_kvS.mp (h.2.2.2.2.1.symm.trans (e.trans hv))
theorem t_TC.kwF (h : t_TC b n q gi gl gr k) {v : Value} {i : Nat} (e : gr k 7 = v) (hv : ¬ v = .retAddr i) : s_W b n q ≠ some i := fun hh => hv (e.symm.trans (h.2.2.2.2.1.trans (s_kvS.mpr hh)))
theorem t_TC.vT (h : t_TC b n q gi gl gr k) {lo hi : Int} (h3 : (gi k 3).toInt = 1) (h1 : lo ≤ (gi k 8).toInt) (h2 : (gi k 8).toInt ≤ hi) : s_isV b n q lo hi := by
  have hK := h.K
  have e : s_K b n q = 3 := by omega
  have h8 := h.2.2.2.2.2.2.1 e
  unfold s_isV s_V
  rw [← h8]
  exact ⟨e, h1, h2⟩
theorem t_TC.vF (h : t_TC b n q gi gl gr k) {lo hi : Int} (h3 : (gi k 3).toInt = 1) (h1 : (gi k 8).toInt < lo ∨ hi < (gi k 8).toInt) : s_K b n q = 3 ∧ ¬ s_isV b n q lo hi := by
  have hK := h.K
  have e : s_K b n q = 3 := by omega
  have h8 := h.2.2.2.2.2.2.1 e
  unfold s_isV s_V
  rw [← h8]
  exact ⟨e, fun hh => by omega⟩
theorem t_TC.vK (h : t_TC b n q gi gl gr k) (h3 : (gi k 3).toInt ≠ 1) : s_K b n q ≠ 3 := by
  have hK := h.K
  omega
end ASK
/-! ===== printed by riv.py: what takes a TOKEN ===== -/
noncomputable def wl_s_isName : List (Nat × Nat) := []
noncomputable def Q_s_isName (gi : Nat → Nat → Int32) (gl : Nat → Nat → Int64) (gr : Nat → Nat → Value) (ar0 : Nat) : Int32 → (Nat → Nat → Int32) → (Nat → Nat → Int64) → (Nat → Nat → Value) → Prop := fun (v : Int32) (gi2 : Nat → Nat → Int32) (gl2 : Nat → Nat → Int64) (gr2 : Nat → Nat → Value) => ∀ (b : Nat → Int32) (n q : Nat), t_TC b n q gi gl gr ar0 → (v.toInt = 1 ↔ s_isN b n q)
theorem c_s_isName {X : x_Ext} {d : Nat} {sh : List (Nat ⊕ (Nat × Nat))} {gi : Nat → Nat → Int32} {gl : Nat → Nat → Int64} {gr : Nat → Nat → Value} (hI : t_I sh gi gr) (ar0 : Nat) (p_a0 : t_Tk sh gr ar0) : x_Me X (d + 1) n_X9_isName [.ref ar0] (sh, gi, gl, gr) (t_PI wl_s_isName sh gi gl gr 0 1 (Q_s_isName gi gl gr ar0)) := by
  have hX : t_X wl_s_isName sh gi gl gr gi gl gr := t_X.rf
  refine me_i f_X9_isName p_a0.1 rfl rfl rfl ?_
  refine ev_loc f_X9_isName (nx := 1) rfl rfl rfl rfl ?_
  refine ev_getI f_X9_isName (nx := 4) rfl p_a0.1 rfl rfl rfl ?_
  refine ev_if f_X9_isName (t1 := 7) (t2 := 27) rfl rfl rfl (fun h1 => ?_) (fun h1 => ?_)
  · have u2 : (gi ar0 3).toInt ≤ 0 := t_equ h1 (by decide : (0:Int32).toInt ≤ (0:Int))
    have l3 : 0 ≤ (gi ar0 3).toInt := t_eql h1 (by decide : (0:Int) ≤ (0:Int32).toInt)
    refine ev_loc f_X9_isName (nx := 8) rfl rfl rfl rfl ?_
    have k4 := hI.2.2.2.1.2.2.2.2.2 ar0 p_a0.1
    obtain ⟨v4, e4⟩ : ∃ v, gr ar0 7 = v := ⟨_, rfl⟩
    rw [e4] at k4
    refine ev_getR f_X9_isName (nx := 11) rfl p_a0.1 rfl rfl e4 (t_KwR k4) rfl ?_
    refine ev_nul f_X9_isName (t1 := 14) (t2 := 27) rfl rfl rfl (t_knw k4) (fun h5 => ?_) (fun h5 => ?_)
    · refine ev_loc f_X9_isName (nx := 15) rfl rfl rfl rfl ?_
      refine ev_getI f_X9_isName (nx := 18) rfl p_a0.1 rfl rfl rfl ?_
      refine ev_bp f_X9_isName (nx := 20) (v := 8) rfl (by decide) rfl ?_
      refine ev_if f_X9_isName (t1 := 27) (t2 := 23) rfl rfl rfl (fun h6 => ?_) (fun h6 => ?_)
      · have l7 : 9 ≤ (gi ar0 5).toInt := t_ltl h6 (by decide : (8:Int) ≤ (8:Int32).toInt) rfl
        refine ev_ic f_X9_isName (nx := 28) (v := 0) rfl (by decide) rfl ?_
        exact ev_ret f_X9_isName rfl rfl rfl ⟨_, _, _, rfl, hI, hX, ⟨_, rfl, (by decide : (0:Int) ≤ (0:Int32).toInt), (Int.le_trans (by decide : (0:Int32).toInt ≤ (0:Int)) (by decide : (0:Int) ≤ 1)), (show ∀ (b : Nat → Int32) (n q : Nat), t_TC b n q gi gl gr ar0 → ((0 : Int) = 1 ↔ s_isN b n q) from (fun b n q h => ⟨fun hh => absurd hh (by decide), fun hh => absurd ((h.isN).mpr hh) (by rintro ⟨ha, hb⟩; omega)⟩))⟩⟩
      · have u8 : (gi ar0 5).toInt ≤ 8 := t_leu (t_nlt h6) (by decide : (8:Int32).toInt ≤ (8:Int))
        refine ev_ic f_X9_isName (nx := 24) (v := 1) rfl (by decide) rfl ?_
        refine ev_jmp f_X9_isName (nx := 28) rfl rfl rfl ?_
        exact ev_ret f_X9_isName rfl rfl rfl ⟨_, _, _, rfl, hI, hX, ⟨_, rfl, (Int.le_trans (by decide : (0:Int) ≤ 1) (by decide : (1:Int) ≤ (1:Int32).toInt)), (by decide : (1:Int32).toInt ≤ (1:Int)), (show ∀ (b : Nat → Int32) (n q : Nat), t_TC b n q gi gl gr ar0 → ((1 : Int) = 1 ↔ s_isN b n q) from (fun b n q h => ⟨fun _ => (h.isN).mp ⟨by omega, e4.trans h5, by omega⟩, fun _ => rfl⟩))⟩⟩
    · refine ev_ic f_X9_isName (nx := 28) (v := 0) rfl (by decide) rfl ?_
      exact ev_ret f_X9_isName rfl rfl rfl ⟨_, _, _, rfl, hI, hX, ⟨_, rfl, (by decide : (0:Int) ≤ (0:Int32).toInt), (Int.le_trans (by decide : (0:Int32).toInt ≤ (0:Int)) (by decide : (0:Int) ≤ 1)), (show ∀ (b : Nat → Int32) (n q : Nat), t_TC b n q gi gl gr ar0 → ((0 : Int) = 1 ↔ s_isN b n q) from (fun b n q h => ⟨fun hh => absurd hh (by decide), fun hh => absurd ((h.isN).mpr hh) (by rintro ⟨ha, hb⟩; exact h5 (e4.symm.trans hb.1))⟩))⟩⟩
  · have r9 : (gi ar0 3).toInt ≠ 0 := fun e => h1 (Int32.toInt_inj.mp (e.trans (by decide : (0:Int) = (0 : Int32).toInt)))
    refine ev_ic f_X9_isName (nx := 28) (v := 0) rfl (by decide) rfl ?_
    exact ev_ret f_X9_isName rfl rfl rfl ⟨_, _, _, rfl, hI, hX, ⟨_, rfl, (by decide : (0:Int) ≤ (0:Int32).toInt), (Int.le_trans (by decide : (0:Int32).toInt ≤ (0:Int)) (by decide : (0:Int) ≤ 1)), (show ∀ (b : Nat → Int32) (n q : Nat), t_TC b n q gi gl gr ar0 → ((0 : Int) = 1 ↔ s_isN b n q) from (fun b n q h => ⟨fun hh => absurd hh (by decide), fun hh => absurd ((h.isN).mpr hh) (by rintro ⟨ha, hb⟩; omega)⟩))⟩⟩
noncomputable def wl_s_isSignOf : List (Nat × Nat) := []
noncomputable def Q_s_isSignOf (gi : Nat → Nat → Int32) (gl : Nat → Nat → Int64) (gr : Nat → Nat → Value) (ar0 : Nat) (ar1 : Int32) : Int32 → (Nat → Nat → Int32) → (Nat → Nat → Int64) → (Nat → Nat → Value) → Prop := fun (v : Int32) (gi2 : Nat → Nat → Int32) (gl2 : Nat → Nat → Int64) (gr2 : Nat → Nat → Value) => ∀ (b : Nat → Int32) (n q : Nat), t_TC b n q gi gl gr ar0 → (v.toInt = 1 ↔ s_isS b n q ar1.toInt)
theorem c_s_isSignOf {X : x_Ext} {d : Nat} {sh : List (Nat ⊕ (Nat × Nat))} {gi : Nat → Nat → Int32} {gl : Nat → Nat → Int64} {gr : Nat → Nat → Value} (hI : t_I sh gi gr) (ar0 : Nat) (p_a0 : t_Tk sh gr ar0) (ar1 : Int32) : x_Me X (d + 1) n_X9_isSignOf [.ref ar0, .int ar1] (sh, gi, gl, gr) (t_PI wl_s_isSignOf sh gi gl gr 0 1 (Q_s_isSignOf gi gl gr ar0 ar1)) := by
  have hX : t_X wl_s_isSignOf sh gi gl gr gi gl gr := t_X.rf
  refine me_i f_X9_isSignOf p_a0.1 rfl rfl rfl ?_
  refine ev_loc f_X9_isSignOf (nx := 1) rfl rfl rfl rfl ?_
  refine ev_getI f_X9_isSignOf (nx := 4) rfl p_a0.1 rfl rfl rfl ?_
  refine ev_ic f_X9_isSignOf (nx := 5) (v := 2) rfl (by decide) rfl ?_
  refine ev_if f_X9_isSignOf (t1 := 8) (t2 := 20) rfl rfl rfl (fun h1 => ?_) (fun h1 => ?_)
  · have u2 : (gi ar0 3).toInt ≤ 2 := t_equ h1 (by decide : (2:Int32).toInt ≤ (2:Int))
    have l3 : 2 ≤ (gi ar0 3).toInt := t_eql h1 (by decide : (2:Int) ≤ (2:Int32).toInt)
    refine ev_loc f_X9_isSignOf (nx := 9) rfl rfl rfl rfl ?_
    refine ev_getI f_X9_isSignOf (nx := 12) rfl p_a0.1 rfl rfl rfl ?_
    refine ev_loc f_X9_isSignOf (nx := 13) rfl rfl rfl rfl ?_
    refine ev_if f_X9_isSignOf (t1 := 16) (t2 := 20) rfl rfl rfl (fun h4 => ?_) (fun h4 => ?_)
    · have r5 : (gi ar0 9).toInt = ar1.toInt := t_eqi h4
      refine ev_ic f_X9_isSignOf (nx := 17) (v := 1) rfl (by decide) rfl ?_
      refine ev_jmp f_X9_isSignOf (nx := 21) rfl rfl rfl ?_
      exact ev_ret f_X9_isSignOf rfl rfl rfl ⟨_, _, _, rfl, hI, hX, ⟨_, rfl, (Int.le_trans (by decide : (0:Int) ≤ 1) (by decide : (1:Int) ≤ (1:Int32).toInt)), (by decide : (1:Int32).toInt ≤ (1:Int)), (show ∀ (b : Nat → Int32) (n q : Nat), t_TC b n q gi gl gr ar0 → ((1 : Int) = 1 ↔ s_isS b n q ar1.toInt) from (fun b n q h => ⟨fun _ => (h.isS).mp ⟨by omega, by omega⟩, fun _ => rfl⟩))⟩⟩
    · have r6 : (gi ar0 9).toInt ≠ ar1.toInt := t_nei h4
      refine ev_ic f_X9_isSignOf (nx := 21) (v := 0) rfl (by decide) rfl ?_
      exact ev_ret f_X9_isSignOf rfl rfl rfl ⟨_, _, _, rfl, hI, hX, ⟨_, rfl, (by decide : (0:Int) ≤ (0:Int32).toInt), (Int.le_trans (by decide : (0:Int32).toInt ≤ (0:Int)) (by decide : (0:Int) ≤ 1)), (show ∀ (b : Nat → Int32) (n q : Nat), t_TC b n q gi gl gr ar0 → ((0 : Int) = 1 ↔ s_isS b n q ar1.toInt) from (fun b n q h => ⟨fun hh => absurd hh (by decide), fun hh => absurd ((h.isS).mpr hh) (by rintro ⟨ha, hb⟩; omega)⟩))⟩⟩
  · have r7 : (gi ar0 3).toInt ≠ 2 := fun e => h1 (Int32.toInt_inj.mp (e.trans (by decide : (2:Int) = (2 : Int32).toInt)))
    refine ev_ic f_X9_isSignOf (nx := 21) (v := 0) rfl (by decide) rfl ?_
    exact ev_ret f_X9_isSignOf rfl rfl rfl ⟨_, _, _, rfl, hI, hX, ⟨_, rfl, (by decide : (0:Int) ≤ (0:Int32).toInt), (Int.le_trans (by decide : (0:Int32).toInt ≤ (0:Int)) (by decide : (0:Int) ≤ 1)), (show ∀ (b : Nat → Int32) (n q : Nat), t_TC b n q gi gl gr ar0 → ((0 : Int) = 1 ↔ s_isS b n q ar1.toInt) from (fun b n q h => ⟨fun hh => absurd hh (by decide), fun hh => absurd ((h.isS).mpr hh) (by rintro ⟨ha, hb⟩; omega)⟩))⟩⟩
noncomputable def wl_s_isBlasts : List (Nat × Nat) := []
noncomputable def Q_s_isBlasts (gi : Nat → Nat → Int32) (gl : Nat → Nat → Int64) (gr : Nat → Nat → Value) (ar0 : Nat) : Int32 → (Nat → Nat → Int32) → (Nat → Nat → Int64) → (Nat → Nat → Value) → Prop := fun (v : Int32) (gi2 : Nat → Nat → Int32) (gl2 : Nat → Nat → Int64) (gr2 : Nat → Nat → Value) => ∀ (b : Nat → Int32) (n q : Nat), t_TC b n q gi gl gr ar0 → (v.toInt = 1 ↔ s_isB b n q)
theorem c_s_isBlasts {X : x_Ext} {d : Nat} {sh : List (Nat ⊕ (Nat × Nat))} {gi : Nat → Nat → Int32} {gl : Nat → Nat → Int64} {gr : Nat → Nat → Value} (hI : t_I sh gi gr) (ar0 : Nat) (p_a0 : t_Tk sh gr ar0) : x_Me X (d + 1) n_X9_isBlasts [.ref ar0] (sh, gi, gl, gr) (t_PI wl_s_isBlasts sh gi gl gr 0 1 (Q_s_isBlasts gi gl gr ar0)) := by
  have hX : t_X wl_s_isBlasts sh gi gl gr gi gl gr := t_X.rf
  refine me_i f_X9_isBlasts p_a0.1 rfl rfl rfl ?_
  refine ev_loc f_X9_isBlasts (nx := 1) rfl rfl rfl rfl ?_
  refine ev_getI f_X9_isBlasts (nx := 4) rfl p_a0.1 rfl rfl rfl ?_
  refine ev_if f_X9_isBlasts (t1 := 7) (t2 := 16) rfl rfl rfl (fun h1 => ?_) (fun h1 => ?_)
  · have u2 : (gi ar0 3).toInt ≤ 0 := t_equ h1 (by decide : (0:Int32).toInt ≤ (0:Int))
    have l3 : 0 ≤ (gi ar0 3).toInt := t_eql h1 (by decide : (0:Int) ≤ (0:Int32).toInt)
    refine ev_loc f_X9_isBlasts (nx := 8) rfl rfl rfl rfl ?_
    refine ev_getI f_X9_isBlasts (nx := 11) rfl p_a0.1 rfl rfl rfl ?_
    refine ev_bp f_X9_isBlasts (nx := 13) (v := 6) rfl (by decide) rfl ?_
    refine ev_if f_X9_isBlasts (t1 := 18) (t2 := 16) rfl rfl rfl (fun h4 => ?_) (fun h4 => ?_)
    · have u5 : (gi ar0 5).toInt ≤ 6 := t_leu h4 (by decide : (6:Int32).toInt ≤ (6:Int))
      refine ev_loc f_X9_isBlasts (nx := 19) rfl rfl rfl rfl ?_
      refine ev_getI f_X9_isBlasts (nx := 22) rfl p_a0.1 rfl rfl rfl ?_
      obtain ⟨l6, u6⟩ := hI.b p_a0.1 (t_bdK rfl : t_bd 8 4 = some (0, 900))
      refine ev_loc f_X9_isBlasts (nx := 23) (lo' := [(1, .int (gi ar0 4)), (0, .ref ar0)]) rfl rfl rfl rfl ?_
      have L7 : ∀ (m7 : Nat) (y7_1 : Int32), 0 ≤ y7_1.toInt → y7_1.toInt ≤ 900 → (∀ (b : Nat → Int32) (n q : Nat), t_TC b n q gi gl gr ar0 → t_BL b n q y7_1) → (900 - y7_1.toInt).toNat = m7 → x_Ev X (d + 1) n_X9_isBlasts 23 [(1, .int y7_1), (0, .ref ar0)] [] (sh, gi, gl, gr) (t_PI wl_s_isBlasts sh gi gl gr 0 1 (Q_s_isBlasts gi gl gr ar0)) := by
        intro m7
        induction m7 using Nat.strongRecOn with
        | _ m7 ih7 =>
        intro y7_1 l7_1 u7_1 j7_0 hm7
        refine ev_loc f_X9_isBlasts (nx := 24) rfl rfl rfl rfl ?_
        refine ev_loc f_X9_isBlasts (nx := 25) rfl rfl rfl rfl ?_
        refine ev_getI f_X9_isBlasts (nx := 28) rfl p_a0.1 rfl rfl rfl ?_
        obtain ⟨l8, u8⟩ := hI.b p_a0.1 (t_bdK rfl : t_bd 8 2 = some (0, 900))
        refine ev_if f_X9_isBlasts (t1 := 61) (t2 := 31) rfl rfl rfl (fun h9 => ?_) (fun h9 => ?_)
        · have r10 : (gi ar0 2).toInt ≤ y7_1.toInt := Int32.le_iff_toInt_le.mp h9
          refine ev_ic f_X9_isBlasts (nx := 62) (v := 1) rfl (by decide) rfl ?_
          exact ev_ret f_X9_isBlasts rfl rfl rfl ⟨_, _, _, rfl, hI, hX, ⟨_, rfl, (Int.le_trans (by decide : (0:Int) ≤ 1) (by decide : (1:Int) ≤ (1:Int32).toInt)), (by decide : (1:Int32).toInt ≤ (1:Int)), (show ∀ (b : Nat → Int32) (n q : Nat), t_TC b n q gi gl gr ar0 → ((1 : Int) = 1 ↔ s_isB b n q) from (fun b n q h => ⟨fun _ => h.isB2 (j7_0 b n q h) (by omega), fun _ => rfl⟩))⟩⟩
        · have r11 : y7_1.toInt < (gi ar0 2).toInt := Int32.lt_iff_toInt_lt.mp (t_nle h9)
          have u12 : y7_1.toInt ≤ 899 := t_ltu (t_nle h9) u8 rfl
          have l13 : 1 ≤ (gi ar0 2).toInt := t_ltl (t_nle h9) l7_1 rfl
          refine ev_loc f_X9_isBlasts (nx := 32) rfl rfl rfl rfl ?_
          have e14 := p_a0.2
          refine ev_getR f_X9_isBlasts (nx := 35) rfl p_a0.1 rfl rfl e14 rfl rfl ?_
          refine ev_loc f_X9_isBlasts (nx := 36) rfl rfl rfl rfl ?_
          refine ev_baldT f_X9_isBlasts (nx := 37) rfl (hI.wf.s rfl) rfl l7_1 (by decide) u12 (by decide) rfl (fun w15 e15 => ?_)
          refine ev_bp f_X9_isBlasts (nx := 39) (v := 108) rfl (by decide) rfl ?_
          refine ev_if f_X9_isBlasts (t1 := 55) (t2 := 42) rfl rfl rfl (fun h16 => ?_) (fun h16 => ?_)
          · have u17 : w15.toInt ≤ 108 := t_equ h16 (by decide : (108:Int32).toInt ≤ (108:Int))
            have l18 : 108 ≤ w15.toInt := t_eql h16 (by decide : (108:Int) ≤ (108:Int32).toInt)
            refine ev_incR f_X9_isBlasts (nx := 58) (c := 1) (l := 1) (u := 900) rfl rfl (by decide) (by decide) l7_1 u12 rfl rfl (by decide) (by decide) rfl (fun z19 e19 l19 u19 => ?_)
            refine ev_jmp f_X9_isBlasts (nx := 23) rfl rfl rfl ?_
            refine ev_sub (lo := [(1, .int z19), (0, .ref ar0)]) rfl (t_sc rfl (t_sc rfl t_sn)) ?_
            exact ih7 _ (by omega) (z19) (Int.le_trans (by decide : (0:Int) ≤ 1) l19) u19 (fun b n q h => h.isB1 (i := y7_1) (j7_0 b n q h) (by omega) e15 (by omega) (by omega)) rfl
          · have r20 : w15.toInt ≠ 108 := fun e => h16 (Int32.toInt_inj.mp (e.trans (by decide : (108:Int) = (108 : Int32).toInt)))
            refine ev_loc f_X9_isBlasts (nx := 43) rfl rfl rfl rfl ?_
            refine ev_getR f_X9_isBlasts (nx := 46) (v := .ref 2) rfl p_a0.1 rfl rfl e14 rfl rfl ?_
            refine ev_loc f_X9_isBlasts (nx := 47) rfl rfl rfl rfl ?_
            refine ev_baldT f_X9_isBlasts (nx := 48) rfl (hI.wf.s rfl) rfl l7_1 (by decide) u12 (by decide) rfl (fun w21 e21 => ?_)
            rw [e21.trans e15.symm]
            refine ev_bp f_X9_isBlasts (nx := 50) (v := 115) rfl (by decide) rfl ?_
            refine ev_if f_X9_isBlasts (t1 := 55) (t2 := 53) rfl rfl rfl (fun h22 => ?_) (fun h22 => ?_)
            · have u23 : w15.toInt ≤ 115 := t_equ h22 (by decide : (115:Int32).toInt ≤ (115:Int))
              have l24 : 115 ≤ w15.toInt := t_eql h22 (by decide : (115:Int) ≤ (115:Int32).toInt)
              refine ev_incR f_X9_isBlasts (nx := 58) (c := 1) (l := 1) (u := 900) rfl rfl (by decide) (by decide) l7_1 u12 rfl rfl (by decide) (by decide) rfl (fun z25 e25 l25 u25 => ?_)
              refine ev_jmp f_X9_isBlasts (nx := 23) rfl rfl rfl ?_
              refine ev_sub (lo := [(1, .int z25), (0, .ref ar0)]) rfl (t_sc rfl (t_sc rfl t_sn)) ?_
              exact ih7 _ (by omega) (z25) (Int.le_trans (by decide : (0:Int) ≤ 1) l25) u25 (fun b n q h => h.isB1 (i := y7_1) (j7_0 b n q h) (by omega) e15 (by omega) (by omega)) rfl
            · have r26 : w15.toInt ≠ 115 := fun e => h22 (Int32.toInt_inj.mp (e.trans (by decide : (115:Int) = (115 : Int32).toInt)))
              refine ev_ic f_X9_isBlasts (nx := 54) (v := 0) rfl (by decide) rfl ?_
              exact ev_ret f_X9_isBlasts rfl rfl rfl ⟨_, _, _, rfl, hI, hX, ⟨_, rfl, (by decide : (0:Int) ≤ (0:Int32).toInt), (Int.le_trans (by decide : (0:Int32).toInt ≤ (0:Int)) (by decide : (0:Int) ≤ 1)), (show ∀ (b : Nat → Int32) (n q : Nat), t_TC b n q gi gl gr ar0 → ((0 : Int) = 1 ↔ s_isB b n q) from (fun b n q h => ⟨fun hh => absurd hh (by decide), fun hh => h.isB4 (i := y7_1) (j7_0 b n q h) hh (by omega) e15 (by omega)⟩))⟩⟩
      refine ev_sub (lo := [(1, .int (gi ar0 4)), (0, .ref ar0)]) rfl (t_sc rfl (t_sc rfl t_sn)) ?_
      exact L7 _ ((gi ar0 4)) l6 u6 (fun b n q h => h.isB0 (by omega) (by omega)) rfl
    · have l27 : 7 ≤ (gi ar0 5).toInt := t_ltl (t_nle h4) (by decide : (6:Int) ≤ (6:Int32).toInt) rfl
      refine ev_ic f_X9_isBlasts (nx := 17) (v := 0) rfl (by decide) rfl ?_
      exact ev_ret f_X9_isBlasts rfl rfl rfl ⟨_, _, _, rfl, hI, hX, ⟨_, rfl, (by decide : (0:Int) ≤ (0:Int32).toInt), (Int.le_trans (by decide : (0:Int32).toInt ≤ (0:Int)) (by decide : (0:Int) ≤ 1)), (show ∀ (b : Nat → Int32) (n q : Nat), t_TC b n q gi gl gr ar0 → ((0 : Int) = 1 ↔ s_isB b n q) from (fun b n q h => ⟨fun hh => absurd hh (by decide), fun hh => h.isB3 hh (by omega)⟩))⟩⟩
  · have r28 : (gi ar0 3).toInt ≠ 0 := fun e => h1 (Int32.toInt_inj.mp (e.trans (by decide : (0:Int) = (0 : Int32).toInt)))
    refine ev_ic f_X9_isBlasts (nx := 17) (v := 0) rfl (by decide) rfl ?_
    exact ev_ret f_X9_isBlasts rfl rfl rfl ⟨_, _, _, rfl, hI, hX, ⟨_, rfl, (by decide : (0:Int) ≤ (0:Int32).toInt), (Int.le_trans (by decide : (0:Int32).toInt ≤ (0:Int)) (by decide : (0:Int) ≤ 1)), (show ∀ (b : Nat → Int32) (n q : Nat), t_TC b n q gi gl gr ar0 → ((0 : Int) = 1 ↔ s_isB b n q) from (fun b n q h => ⟨fun hh => absurd hh (by decide), fun hh => h.isB3 hh (by omega)⟩))⟩⟩
noncomputable def wl_s_refuse : List (Nat × Nat) := [(118, 10), (118, 11)]
noncomputable def Q_s_refuse (gi : Nat → Nat → Int32) (gl : Nat → Nat → Int64) (gr : Nat → Nat → Value) (ar0 : Nat) (ar1 : Int32) : Int32 → (Nat → Nat → Int32) → (Nat → Nat → Int64) → (Nat → Nat → Value) → Prop := fun (v : Int32) (gi2 : Nat → Nat → Int32) (gl2 : Nat → Nat → Int64) (gr2 : Nat → Nat → Value) => (∀ (b : Nat → Int32) (n q : Nat), t_TC b n q gi gl gr ar0 → t_FL gi2 ar0 (s_fk b n q ar1.toInt) (s_F b n q)) ∧ v.toInt = 0 ∧ t_on ar0 gi gl gr gi2 gl2 gr2
theorem c_s_refuse {X : x_Ext} {d : Nat} {sh : List (Nat ⊕ (Nat × Nat))} {gi : Nat → Nat → Int32} {gl : Nat → Nat → Int64} {gr : Nat → Nat → Value} (hI : t_I sh gi gr) (ar0 : Nat) (p_a0 : t_Tk sh gr ar0) (ar1 : Int32) (l_a1 : 2 ≤ ar1.toInt) (u_a1 : ar1.toInt ≤ 7) : x_Me X (d + 1) n_X9_refuseToken [.ref ar0, .int ar1] (sh, gi, gl, gr) (t_PI wl_s_refuse sh gi gl gr 0 0 (Q_s_refuse gi gl gr ar0 ar1)) := by
  have hX : t_X wl_s_refuse sh gi gl gr gi gl gr := t_X.rf
  refine me_i f_X9_refuseToken p_a0.1 rfl rfl rfl ?_
  refine ev_loc f_X9_refuseToken (nx := 1) rfl rfl rfl rfl ?_
  refine ev_loc f_X9_refuseToken (nx := 2) rfl rfl rfl rfl ?_
  refine ev_getI f_X9_refuseToken (nx := 5) rfl p_a0.1 rfl rfl rfl ?_
  refine ev_ic f_X9_refuseToken (nx := 6) (v := 4) rfl (by decide) rfl ?_
  refine ev_if f_X9_refuseToken (t1 := 9) (t2 := 13) rfl rfl rfl (fun h1 => ?_) (fun h1 => ?_)
  · have u2 : (gi ar0 3).toInt ≤ 4 := t_equ h1 (by decide : (4:Int32).toInt ≤ (4:Int))
    have l3 : 4 ≤ (gi ar0 3).toInt := t_eql h1 (by decide : (4:Int) ≤ (4:Int32).toInt)
    refine ev_ic f_X9_refuseToken (nx := 10) (v := 1) rfl (by decide) rfl ?_
    refine ev_jmp f_X9_refuseToken (nx := 14) rfl rfl rfl ?_
    refine ev_putIT f_X9_refuseToken (nx := 17) rfl p_a0.1 rfl rfl rfl (hI.put0 p_a0.1 rfl rfl) (hX.upI (t_inO hI.wf p_a0.1 (t_outO hI.wf p_a0.1 rfl) rfl)) (fun g4 e4 hI hX => ?_)
    refine ev_loc f_X9_refuseToken (nx := 18) rfl rfl rfl rfl ?_
    refine ev_loc f_X9_refuseToken (nx := 19) rfl rfl rfl rfl ?_
    refine ev_getI f_X9_refuseToken (nx := 22) rfl p_a0.1 rfl rfl rfl ?_
    obtain ⟨l5, u5⟩ := hI.b p_a0.1 (t_bdK rfl : t_bd 8 4 = some (0, 900))
    refine ev_putIT f_X9_refuseToken (nx := 25) rfl p_a0.1 rfl rfl rfl (hI.put0 p_a0.1 rfl rfl) (hX.upI (t_inO hI.wf p_a0.1 (t_outO hI.wf p_a0.1 rfl) rfl)) (fun g6 e6 hI hX => ?_)
    refine ev_ic f_X9_refuseToken (nx := 26) (v := 0) rfl (by decide) rfl ?_
    exact ev_ret f_X9_refuseToken rfl rfl rfl ⟨_, _, _, rfl, hI, hX, ⟨_, rfl, (by decide : (0:Int) ≤ (0:Int32).toInt), (by decide : (0:Int32).toInt ≤ (0:Int)), (show (∀ (b : Nat → Int32) (n q : Nat), t_TC b n q gi gl gr ar0 → t_FL g6 ar0 (s_fk b n q ar1.toInt) (s_F b n q)) ∧ (0 : Int) = 0 ∧ t_on ar0 gi gl gr g6 gl gr from ⟨fun b n q h => h.fl e4 e6 (Or.inl ⟨by omega, rfl⟩), rfl, (t_on.I (t_on.I t_on.rf e4) e6)⟩)⟩⟩
  · have r7 : (gi ar0 3).toInt ≠ 4 := fun e => h1 (Int32.toInt_inj.mp (e.trans (by decide : (4:Int) = (4 : Int32).toInt)))
    refine ev_loc f_X9_refuseToken (nx := 14) rfl rfl rfl rfl ?_
    refine ev_putIT f_X9_refuseToken (nx := 17) rfl p_a0.1 rfl rfl rfl (hI.put0 p_a0.1 rfl rfl) (hX.upI (t_inO hI.wf p_a0.1 (t_outO hI.wf p_a0.1 rfl) rfl)) (fun g8 e8 hI hX => ?_)
    refine ev_loc f_X9_refuseToken (nx := 18) rfl rfl rfl rfl ?_
    refine ev_loc f_X9_refuseToken (nx := 19) rfl rfl rfl rfl ?_
    refine ev_getI f_X9_refuseToken (nx := 22) rfl p_a0.1 rfl rfl rfl ?_
    obtain ⟨l9, u9⟩ := hI.b p_a0.1 (t_bdK rfl : t_bd 8 4 = some (0, 900))
    refine ev_putIT f_X9_refuseToken (nx := 25) rfl p_a0.1 rfl rfl rfl (hI.put0 p_a0.1 rfl rfl) (hX.upI (t_inO hI.wf p_a0.1 (t_outO hI.wf p_a0.1 rfl) rfl)) (fun g10 e10 hI hX => ?_)
    refine ev_ic f_X9_refuseToken (nx := 26) (v := 0) rfl (by decide) rfl ?_
    exact ev_ret f_X9_refuseToken rfl rfl rfl ⟨_, _, _, rfl, hI, hX, ⟨_, rfl, (by decide : (0:Int) ≤ (0:Int32).toInt), (by decide : (0:Int32).toInt ≤ (0:Int)), (show (∀ (b : Nat → Int32) (n q : Nat), t_TC b n q gi gl gr ar0 → t_FL g10 ar0 (s_fk b n q ar1.toInt) (s_F b n q)) ∧ (0 : Int) = 0 ∧ t_on ar0 gi gl gr g10 gl gr from ⟨fun b n q h => h.fl e8 e10 (Or.inr ⟨by omega, rfl⟩), rfl, (t_on.I (t_on.I t_on.rf e8) e10)⟩)⟩⟩
noncomputable def wl_s_takeCalls : List (Nat × Nat) := [(118, 2), (118, 3), (118, 4), (118, 5), (118, 6), (118, 7), (118, 8), (118, 9), (118, 10), (118, 11)]
noncomputable def Q_s_takeCalls (gi : Nat → Nat → Int32) (gl : Nat → Nat → Int64) (gr : Nat → Nat → Value) (ar0 : Nat) : Int32 → (Nat → Nat → Int32) → (Nat → Nat → Int64) → (Nat → Nat → Value) → Prop := fun (v : Int32) (gi2 : Nat → Nat → Int32) (gl2 : Nat → Nat → Int64) (gr2 : Nat → Nat → Value) => (∀ (b : Nat → Int32) (n q : Nat), t_TC b n q gi gl gr ar0 → (v.toInt = 1 ∧ s_W b n q = some 1 ∧ t_TC b n (s_E b n q) gi2 gl2 gr2 ar0 ∧ t_nf gi gi2 ar0) ∨ (v.toInt = 0 ∧ s_W b n q ≠ some 1 ∧ t_FL gi2 ar0 (s_fk b n q 2) (s_F b n q))) ∧ t_on ar0 gi gl gr gi2 gl2 gr2
theorem c_s_takeCalls {X : x_Ext} {d : Nat} {sh : List (Nat ⊕ (Nat × Nat))} {gi : Nat → Nat → Int32} {gl : Nat → Nat → Int64} {gr : Nat → Nat → Value} (hI : t_I sh gi gr) (ar0 : Nat) (p_a0 : t_Tk sh gr ar0) : x_Me X (d + 3) n_X9_takeKeyword [.ref ar0, .retAddr 1] (sh, gi, gl, gr) (t_PI wl_s_takeCalls sh gi gl gr 0 1 (Q_s_takeCalls gi gl gr ar0)) := by
  have hX : t_X wl_s_takeCalls sh gi gl gr gi gl gr := t_X.rf
  refine me_i f_X9_takeKeyword p_a0.1 rfl rfl rfl ?_
  refine ev_loc f_X9_takeKeyword (nx := 1) rfl rfl rfl rfl ?_
  have k1 := hI.2.2.2.1.2.2.2.2.2 ar0 p_a0.1
  obtain ⟨v1, e1⟩ : ∃ v, gr ar0 7 = v := ⟨_, rfl⟩
  rw [e1] at k1
  refine ev_getR f_X9_takeKeyword (nx := 4) rfl p_a0.1 rfl rfl e1 (t_KwR k1) rfl ?_
  refine ev_loc f_X9_takeKeyword (nx := 5) rfl rfl rfl rfl ?_
  refine ev_ack f_X9_takeKeyword (t1 := 14) (t2 := 8) rfl rfl rfl (t_knw k1) rfl (fun h2 => ?_) (fun h2 => ?_)
  · refine ev_loc f_X9_takeKeyword (nx := 15) rfl rfl rfl rfl ?_
    refine ev_qN f_X9_takeKeyword (nx := 18) (r := []) rfl rfl rfl rfl rfl rfl rfl (c_s_step hI (ar0) p_a0) rfl hX rfl (fun gi3 gl3 gr3 hI hX hC3 q3 => ?_)
    have q3 : (∀ (b : Nat → Int32) (n q : Nat), t_Sp b n q gi ar0 → t_TC b n q gi3 gl3 gr3 ar0) ∧ t_nf gi gi3 ar0 ∧ t_on ar0 gi gl gr gi3 gl3 gr3 := q3
    replace p_a0 := p_a0.ext hC3.2
    refine ev_ic f_X9_takeKeyword (nx := 19) (v := 1) rfl (by decide) rfl ?_
    exact ev_ret f_X9_takeKeyword rfl rfl rfl ⟨_, _, _, rfl, hI, hX, ⟨_, rfl, (Int.le_trans (by decide : (0:Int) ≤ 1) (by decide : (1:Int) ≤ (1:Int32).toInt)), (by decide : (1:Int32).toInt ≤ (1:Int)), (show (∀ (b : Nat → Int32) (n q : Nat), t_TC b n q gi gl gr ar0 → ((1 : Int) = 1 ∧ s_W b n q = some 1 ∧ t_TC b n (s_E b n q) gi3 gl3 gr3 ar0 ∧ t_nf gi gi3 ar0) ∨ ((1 : Int) = 0 ∧ s_W b n q ≠ some 1 ∧ t_FL gi3 ar0 (s_fk b n q 2) (s_F b n q))) ∧ t_on ar0 gi gl gr gi3 gl3 gr3 from ⟨fun b n q h => Or.inl ⟨rfl, h.kwT e1 h2, (q3.1 b n _ h.S), q3.2.1⟩, (t_on.tr t_on.rf q3.2.2)⟩)⟩⟩
  · refine ev_loc f_X9_takeKeyword (nx := 9) rfl rfl rfl rfl ?_
    refine ev_ic f_X9_takeKeyword (nx := 10) (v := 2) rfl (by decide) rfl ?_
    refine ev_qI f_X9_takeKeyword (nx := 13) (r := []) rfl rfl rfl rfl rfl rfl rfl (c_s_refuse hI (ar0) p_a0 (2) (by decide : (2:Int) ≤ (2:Int32).toInt) (Int.le_trans (by decide : (2:Int32).toInt ≤ (2:Int)) (by decide : (2:Int) ≤ 7))) rfl hX rfl (fun w4 gi4 gl4 gr4 l4 u4 hI hX hC4 q4 => ?_)
    have q4 : (∀ (b : Nat → Int32) (n q : Nat), t_TC b n q gi gl gr ar0 → t_FL gi4 ar0 (s_fk b n q 2) (s_F b n q)) ∧ w4.toInt = 0 ∧ t_on ar0 gi gl gr gi4 gl4 gr4 := q4
    replace p_a0 := p_a0.ext hC4.2
    exact ev_retZ f_X9_takeKeyword rfl l4 (Int.le_trans u4 (by decide : (0:Int) ≤ 1)) ⟨_, _, _, rfl, hI, hX, ⟨_, rfl, l4, (Int.le_trans u4 (by decide : (0:Int) ≤ 1)), (show (∀ (b : Nat → Int32) (n q : Nat), t_TC b n q gi gl gr ar0 → (w4.toInt = 1 ∧ s_W b n q = some 1 ∧ t_TC b n (s_E b n q) gi4 gl4 gr4 ar0 ∧ t_nf gi gi4 ar0) ∨ (w4.toInt = 0 ∧ s_W b n q ≠ some 1 ∧ t_FL gi4 ar0 (s_fk b n q 2) (s_F b n q))) ∧ t_on ar0 gi gl gr gi4 gl4 gr4 from ⟨fun b n q h => Or.inr ⟨q4.2.1, h.kwF e1 h2, (q4.1 b n q h)⟩, (t_on.tr t_on.rf q4.2.2)⟩)⟩⟩
noncomputable def wl_s_takeFrom : List (Nat × Nat) := [(118, 2), (118, 3), (118, 4), (118, 5), (118, 6), (118, 7), (118, 8), (118, 9), (118, 10), (118, 11)]
noncomputable def Q_s_takeFrom (gi : Nat → Nat → Int32) (gl : Nat → Nat → Int64) (gr : Nat → Nat → Value) (ar0 : Nat) : Int32 → (Nat → Nat → Int32) → (Nat → Nat → Int64) → (Nat → Nat → Value) → Prop := fun (v : Int32) (gi2 : Nat → Nat → Int32) (gl2 : Nat → Nat → Int64) (gr2 : Nat → Nat → Value) => (∀ (b : Nat → Int32) (n q : Nat), t_TC b n q gi gl gr ar0 → (v.toInt = 1 ∧ s_W b n q = some 4 ∧ t_TC b n (s_E b n q) gi2 gl2 gr2 ar0 ∧ t_nf gi gi2 ar0) ∨ (v.toInt = 0 ∧ s_W b n q ≠ some 4 ∧ t_FL gi2 ar0 (s_fk b n q 2) (s_F b n q))) ∧ t_on ar0 gi gl gr gi2 gl2 gr2
theorem c_s_takeFrom {X : x_Ext} {d : Nat} {sh : List (Nat ⊕ (Nat × Nat))} {gi : Nat → Nat → Int32} {gl : Nat → Nat → Int64} {gr : Nat → Nat → Value} (hI : t_I sh gi gr) (ar0 : Nat) (p_a0 : t_Tk sh gr ar0) : x_Me X (d + 3) n_X9_takeKeyword [.ref ar0, .retAddr 4] (sh, gi, gl, gr) (t_PI wl_s_takeFrom sh gi gl gr 0 1 (Q_s_takeFrom gi gl gr ar0)) := by
  have hX : t_X wl_s_takeFrom sh gi gl gr gi gl gr := t_X.rf
  refine me_i f_X9_takeKeyword p_a0.1 rfl rfl rfl ?_
  refine ev_loc f_X9_takeKeyword (nx := 1) rfl rfl rfl rfl ?_
  have k1 := hI.2.2.2.1.2.2.2.2.2 ar0 p_a0.1
  obtain ⟨v1, e1⟩ : ∃ v, gr ar0 7 = v := ⟨_, rfl⟩
  rw [e1] at k1
  refine ev_getR f_X9_takeKeyword (nx := 4) rfl p_a0.1 rfl rfl e1 (t_KwR k1) rfl ?_
  refine ev_loc f_X9_takeKeyword (nx := 5) rfl rfl rfl rfl ?_
  refine ev_ack f_X9_takeKeyword (t1 := 14) (t2 := 8) rfl rfl rfl (t_knw k1) rfl (fun h2 => ?_) (fun h2 => ?_)
  · refine ev_loc f_X9_takeKeyword (nx := 15) rfl rfl rfl rfl ?_
    refine ev_qN f_X9_takeKeyword (nx := 18) (r := []) rfl rfl rfl rfl rfl rfl rfl (c_s_step hI (ar0) p_a0) rfl hX rfl (fun gi3 gl3 gr3 hI hX hC3 q3 => ?_)
    have q3 : (∀ (b : Nat → Int32) (n q : Nat), t_Sp b n q gi ar0 → t_TC b n q gi3 gl3 gr3 ar0) ∧ t_nf gi gi3 ar0 ∧ t_on ar0 gi gl gr gi3 gl3 gr3 := q3
    replace p_a0 := p_a0.ext hC3.2
    refine ev_ic f_X9_takeKeyword (nx := 19) (v := 1) rfl (by decide) rfl ?_
    exact ev_ret f_X9_takeKeyword rfl rfl rfl ⟨_, _, _, rfl, hI, hX, ⟨_, rfl, (Int.le_trans (by decide : (0:Int) ≤ 1) (by decide : (1:Int) ≤ (1:Int32).toInt)), (by decide : (1:Int32).toInt ≤ (1:Int)), (show (∀ (b : Nat → Int32) (n q : Nat), t_TC b n q gi gl gr ar0 → ((1 : Int) = 1 ∧ s_W b n q = some 4 ∧ t_TC b n (s_E b n q) gi3 gl3 gr3 ar0 ∧ t_nf gi gi3 ar0) ∨ ((1 : Int) = 0 ∧ s_W b n q ≠ some 4 ∧ t_FL gi3 ar0 (s_fk b n q 2) (s_F b n q))) ∧ t_on ar0 gi gl gr gi3 gl3 gr3 from ⟨fun b n q h => Or.inl ⟨rfl, h.kwT e1 h2, (q3.1 b n _ h.S), q3.2.1⟩, (t_on.tr t_on.rf q3.2.2)⟩)⟩⟩
  · refine ev_loc f_X9_takeKeyword (nx := 9) rfl rfl rfl rfl ?_
    refine ev_ic f_X9_takeKeyword (nx := 10) (v := 2) rfl (by decide) rfl ?_
    refine ev_qI f_X9_takeKeyword (nx := 13) (r := []) rfl rfl rfl rfl rfl rfl rfl (c_s_refuse hI (ar0) p_a0 (2) (by decide : (2:Int) ≤ (2:Int32).toInt) (Int.le_trans (by decide : (2:Int32).toInt ≤ (2:Int)) (by decide : (2:Int) ≤ 7))) rfl hX rfl (fun w4 gi4 gl4 gr4 l4 u4 hI hX hC4 q4 => ?_)
    have q4 : (∀ (b : Nat → Int32) (n q : Nat), t_TC b n q gi gl gr ar0 → t_FL gi4 ar0 (s_fk b n q 2) (s_F b n q)) ∧ w4.toInt = 0 ∧ t_on ar0 gi gl gr gi4 gl4 gr4 := q4
    replace p_a0 := p_a0.ext hC4.2
    exact ev_retZ f_X9_takeKeyword rfl l4 (Int.le_trans u4 (by decide : (0:Int) ≤ 1)) ⟨_, _, _, rfl, hI, hX, ⟨_, rfl, l4, (Int.le_trans u4 (by decide : (0:Int) ≤ 1)), (show (∀ (b : Nat → Int32) (n q : Nat), t_TC b n q gi gl gr ar0 → (w4.toInt = 1 ∧ s_W b n q = some 4 ∧ t_TC b n (s_E b n q) gi4 gl4 gr4 ar0 ∧ t_nf gi gi4 ar0) ∨ (w4.toInt = 0 ∧ s_W b n q ≠ some 4 ∧ t_FL gi4 ar0 (s_fk b n q 2) (s_F b n q))) ∧ t_on ar0 gi gl gr gi4 gl4 gr4 from ⟨fun b n q h => Or.inr ⟨q4.2.1, h.kwF e1 h2, (q4.1 b n q h)⟩, (t_on.tr t_on.rf q4.2.2)⟩)⟩⟩
noncomputable def wl_s_takeOf : List (Nat × Nat) := [(118, 2), (118, 3), (118, 4), (118, 5), (118, 6), (118, 7), (118, 8), (118, 9), (118, 10), (118, 11)]
noncomputable def Q_s_takeOf (gi : Nat → Nat → Int32) (gl : Nat → Nat → Int64) (gr : Nat → Nat → Value) (ar0 : Nat) : Int32 → (Nat → Nat → Int32) → (Nat → Nat → Int64) → (Nat → Nat → Value) → Prop := fun (v : Int32) (gi2 : Nat → Nat → Int32) (gl2 : Nat → Nat → Int64) (gr2 : Nat → Nat → Value) => (∀ (b : Nat → Int32) (n q : Nat), t_TC b n q gi gl gr ar0 → (v.toInt = 1 ∧ s_W b n q = some 7 ∧ t_TC b n (s_E b n q) gi2 gl2 gr2 ar0 ∧ t_nf gi gi2 ar0) ∨ (v.toInt = 0 ∧ s_W b n q ≠ some 7 ∧ t_FL gi2 ar0 (s_fk b n q 2) (s_F b n q))) ∧ t_on ar0 gi gl gr gi2 gl2 gr2
theorem c_s_takeOf {X : x_Ext} {d : Nat} {sh : List (Nat ⊕ (Nat × Nat))} {gi : Nat → Nat → Int32} {gl : Nat → Nat → Int64} {gr : Nat → Nat → Value} (hI : t_I sh gi gr) (ar0 : Nat) (p_a0 : t_Tk sh gr ar0) : x_Me X (d + 3) n_X9_takeKeyword [.ref ar0, .retAddr 7] (sh, gi, gl, gr) (t_PI wl_s_takeOf sh gi gl gr 0 1 (Q_s_takeOf gi gl gr ar0)) := by
  have hX : t_X wl_s_takeOf sh gi gl gr gi gl gr := t_X.rf
  refine me_i f_X9_takeKeyword p_a0.1 rfl rfl rfl ?_
  refine ev_loc f_X9_takeKeyword (nx := 1) rfl rfl rfl rfl ?_
  have k1 := hI.2.2.2.1.2.2.2.2.2 ar0 p_a0.1
  obtain ⟨v1, e1⟩ : ∃ v, gr ar0 7 = v := ⟨_, rfl⟩
  rw [e1] at k1
  refine ev_getR f_X9_takeKeyword (nx := 4) rfl p_a0.1 rfl rfl e1 (t_KwR k1) rfl ?_
  refine ev_loc f_X9_takeKeyword (nx := 5) rfl rfl rfl rfl ?_
  refine ev_ack f_X9_takeKeyword (t1 := 14) (t2 := 8) rfl rfl rfl (t_knw k1) rfl (fun h2 => ?_) (fun h2 => ?_)
  · refine ev_loc f_X9_takeKeyword (nx := 15) rfl rfl rfl rfl ?_
    refine ev_qN f_X9_takeKeyword (nx := 18) (r := []) rfl rfl rfl rfl rfl rfl rfl (c_s_step hI (ar0) p_a0) rfl hX rfl (fun gi3 gl3 gr3 hI hX hC3 q3 => ?_)
    have q3 : (∀ (b : Nat → Int32) (n q : Nat), t_Sp b n q gi ar0 → t_TC b n q gi3 gl3 gr3 ar0) ∧ t_nf gi gi3 ar0 ∧ t_on ar0 gi gl gr gi3 gl3 gr3 := q3
    replace p_a0 := p_a0.ext hC3.2
    refine ev_ic f_X9_takeKeyword (nx := 19) (v := 1) rfl (by decide) rfl ?_
    exact ev_ret f_X9_takeKeyword rfl rfl rfl ⟨_, _, _, rfl, hI, hX, ⟨_, rfl, (Int.le_trans (by decide : (0:Int) ≤ 1) (by decide : (1:Int) ≤ (1:Int32).toInt)), (by decide : (1:Int32).toInt ≤ (1:Int)), (show (∀ (b : Nat → Int32) (n q : Nat), t_TC b n q gi gl gr ar0 → ((1 : Int) = 1 ∧ s_W b n q = some 7 ∧ t_TC b n (s_E b n q) gi3 gl3 gr3 ar0 ∧ t_nf gi gi3 ar0) ∨ ((1 : Int) = 0 ∧ s_W b n q ≠ some 7 ∧ t_FL gi3 ar0 (s_fk b n q 2) (s_F b n q))) ∧ t_on ar0 gi gl gr gi3 gl3 gr3 from ⟨fun b n q h => Or.inl ⟨rfl, h.kwT e1 h2, (q3.1 b n _ h.S), q3.2.1⟩, (t_on.tr t_on.rf q3.2.2)⟩)⟩⟩
  · refine ev_loc f_X9_takeKeyword (nx := 9) rfl rfl rfl rfl ?_
    refine ev_ic f_X9_takeKeyword (nx := 10) (v := 2) rfl (by decide) rfl ?_
    refine ev_qI f_X9_takeKeyword (nx := 13) (r := []) rfl rfl rfl rfl rfl rfl rfl (c_s_refuse hI (ar0) p_a0 (2) (by decide : (2:Int) ≤ (2:Int32).toInt) (Int.le_trans (by decide : (2:Int32).toInt ≤ (2:Int)) (by decide : (2:Int) ≤ 7))) rfl hX rfl (fun w4 gi4 gl4 gr4 l4 u4 hI hX hC4 q4 => ?_)
    have q4 : (∀ (b : Nat → Int32) (n q : Nat), t_TC b n q gi gl gr ar0 → t_FL gi4 ar0 (s_fk b n q 2) (s_F b n q)) ∧ w4.toInt = 0 ∧ t_on ar0 gi gl gr gi4 gl4 gr4 := q4
    replace p_a0 := p_a0.ext hC4.2
    exact ev_retZ f_X9_takeKeyword rfl l4 (Int.le_trans u4 (by decide : (0:Int) ≤ 1)) ⟨_, _, _, rfl, hI, hX, ⟨_, rfl, l4, (Int.le_trans u4 (by decide : (0:Int) ≤ 1)), (show (∀ (b : Nat → Int32) (n q : Nat), t_TC b n q gi gl gr ar0 → (w4.toInt = 1 ∧ s_W b n q = some 7 ∧ t_TC b n (s_E b n q) gi4 gl4 gr4 ar0 ∧ t_nf gi gi4 ar0) ∨ (w4.toInt = 0 ∧ s_W b n q ≠ some 7 ∧ t_FL gi4 ar0 (s_fk b n q 2) (s_F b n q))) ∧ t_on ar0 gi gl gr gi4 gl4 gr4 from ⟨fun b n q h => Or.inr ⟨q4.2.1, h.kwF e1 h2, (q4.1 b n q h)⟩, (t_on.tr t_on.rf q4.2.2)⟩)⟩⟩
noncomputable def wl_s_takeAt : List (Nat × Nat) := [(118, 2), (118, 3), (118, 4), (118, 5), (118, 6), (118, 7), (118, 8), (118, 9), (118, 10), (118, 11)]
noncomputable def Q_s_takeAt (gi : Nat → Nat → Int32) (gl : Nat → Nat → Int64) (gr : Nat → Nat → Value) (ar0 : Nat) : Int32 → (Nat → Nat → Int32) → (Nat → Nat → Int64) → (Nat → Nat → Value) → Prop := fun (v : Int32) (gi2 : Nat → Nat → Int32) (gl2 : Nat → Nat → Int64) (gr2 : Nat → Nat → Value) => (∀ (b : Nat → Int32) (n q : Nat), t_TC b n q gi gl gr ar0 → (v.toInt = 1 ∧ s_W b n q = some 8 ∧ t_TC b n (s_E b n q) gi2 gl2 gr2 ar0 ∧ t_nf gi gi2 ar0) ∨ (v.toInt = 0 ∧ s_W b n q ≠ some 8 ∧ t_FL gi2 ar0 (s_fk b n q 2) (s_F b n q))) ∧ t_on ar0 gi gl gr gi2 gl2 gr2
theorem c_s_takeAt {X : x_Ext} {d : Nat} {sh : List (Nat ⊕ (Nat × Nat))} {gi : Nat → Nat → Int32} {gl : Nat → Nat → Int64} {gr : Nat → Nat → Value} (hI : t_I sh gi gr) (ar0 : Nat) (p_a0 : t_Tk sh gr ar0) : x_Me X (d + 3) n_X9_takeKeyword [.ref ar0, .retAddr 8] (sh, gi, gl, gr) (t_PI wl_s_takeAt sh gi gl gr 0 1 (Q_s_takeAt gi gl gr ar0)) := by
  have hX : t_X wl_s_takeAt sh gi gl gr gi gl gr := t_X.rf
  refine me_i f_X9_takeKeyword p_a0.1 rfl rfl rfl ?_
  refine ev_loc f_X9_takeKeyword (nx := 1) rfl rfl rfl rfl ?_
  have k1 := hI.2.2.2.1.2.2.2.2.2 ar0 p_a0.1
  obtain ⟨v1, e1⟩ : ∃ v, gr ar0 7 = v := ⟨_, rfl⟩
  rw [e1] at k1
  refine ev_getR f_X9_takeKeyword (nx := 4) rfl p_a0.1 rfl rfl e1 (t_KwR k1) rfl ?_
  refine ev_loc f_X9_takeKeyword (nx := 5) rfl rfl rfl rfl ?_
  refine ev_ack f_X9_takeKeyword (t1 := 14) (t2 := 8) rfl rfl rfl (t_knw k1) rfl (fun h2 => ?_) (fun h2 => ?_)
  · refine ev_loc f_X9_takeKeyword (nx := 15) rfl rfl rfl rfl ?_
    refine ev_qN f_X9_takeKeyword (nx := 18) (r := []) rfl rfl rfl rfl rfl rfl rfl (c_s_step hI (ar0) p_a0) rfl hX rfl (fun gi3 gl3 gr3 hI hX hC3 q3 => ?_)
    have q3 : (∀ (b : Nat → Int32) (n q : Nat), t_Sp b n q gi ar0 → t_TC b n q gi3 gl3 gr3 ar0) ∧ t_nf gi gi3 ar0 ∧ t_on ar0 gi gl gr gi3 gl3 gr3 := q3
    replace p_a0 := p_a0.ext hC3.2
    refine ev_ic f_X9_takeKeyword (nx := 19) (v := 1) rfl (by decide) rfl ?_
    exact ev_ret f_X9_takeKeyword rfl rfl rfl ⟨_, _, _, rfl, hI, hX, ⟨_, rfl, (Int.le_trans (by decide : (0:Int) ≤ 1) (by decide : (1:Int) ≤ (1:Int32).toInt)), (by decide : (1:Int32).toInt ≤ (1:Int)), (show (∀ (b : Nat → Int32) (n q : Nat), t_TC b n q gi gl gr ar0 → ((1 : Int) = 1 ∧ s_W b n q = some 8 ∧ t_TC b n (s_E b n q) gi3 gl3 gr3 ar0 ∧ t_nf gi gi3 ar0) ∨ ((1 : Int) = 0 ∧ s_W b n q ≠ some 8 ∧ t_FL gi3 ar0 (s_fk b n q 2) (s_F b n q))) ∧ t_on ar0 gi gl gr gi3 gl3 gr3 from ⟨fun b n q h => Or.inl ⟨rfl, h.kwT e1 h2, (q3.1 b n _ h.S), q3.2.1⟩, (t_on.tr t_on.rf q3.2.2)⟩)⟩⟩
  · refine ev_loc f_X9_takeKeyword (nx := 9) rfl rfl rfl rfl ?_
    refine ev_ic f_X9_takeKeyword (nx := 10) (v := 2) rfl (by decide) rfl ?_
    refine ev_qI f_X9_takeKeyword (nx := 13) (r := []) rfl rfl rfl rfl rfl rfl rfl (c_s_refuse hI (ar0) p_a0 (2) (by decide : (2:Int) ≤ (2:Int32).toInt) (Int.le_trans (by decide : (2:Int32).toInt ≤ (2:Int)) (by decide : (2:Int) ≤ 7))) rfl hX rfl (fun w4 gi4 gl4 gr4 l4 u4 hI hX hC4 q4 => ?_)
    have q4 : (∀ (b : Nat → Int32) (n q : Nat), t_TC b n q gi gl gr ar0 → t_FL gi4 ar0 (s_fk b n q 2) (s_F b n q)) ∧ w4.toInt = 0 ∧ t_on ar0 gi gl gr gi4 gl4 gr4 := q4
    replace p_a0 := p_a0.ext hC4.2
    exact ev_retZ f_X9_takeKeyword rfl l4 (Int.le_trans u4 (by decide : (0:Int) ≤ 1)) ⟨_, _, _, rfl, hI, hX, ⟨_, rfl, l4, (Int.le_trans u4 (by decide : (0:Int) ≤ 1)), (show (∀ (b : Nat → Int32) (n q : Nat), t_TC b n q gi gl gr ar0 → (w4.toInt = 1 ∧ s_W b n q = some 8 ∧ t_TC b n (s_E b n q) gi4 gl4 gr4 ar0 ∧ t_nf gi gi4 ar0) ∨ (w4.toInt = 0 ∧ s_W b n q ≠ some 8 ∧ t_FL gi4 ar0 (s_fk b n q 2) (s_F b n q))) ∧ t_on ar0 gi gl gr gi4 gl4 gr4 from ⟨fun b n q h => Or.inr ⟨q4.2.1, h.kwF e1 h2, (q4.1 b n q h)⟩, (t_on.tr t_on.rf q4.2.2)⟩)⟩⟩
noncomputable def wl_s_takeTakes : List (Nat × Nat) := [(118, 2), (118, 3), (118, 4), (118, 5), (118, 6), (118, 7), (118, 8), (118, 9), (118, 10), (118, 11)]
noncomputable def Q_s_takeTakes (gi : Nat → Nat → Int32) (gl : Nat → Nat → Int64) (gr : Nat → Nat → Value) (ar0 : Nat) : Int32 → (Nat → Nat → Int32) → (Nat → Nat → Int64) → (Nat → Nat → Value) → Prop := fun (v : Int32) (gi2 : Nat → Nat → Int32) (gl2 : Nat → Nat → Int64) (gr2 : Nat → Nat → Value) => (∀ (b : Nat → Int32) (n q : Nat), t_TC b n q gi gl gr ar0 → (v.toInt = 1 ∧ s_W b n q = some 9 ∧ t_TC b n (s_E b n q) gi2 gl2 gr2 ar0 ∧ t_nf gi gi2 ar0) ∨ (v.toInt = 0 ∧ s_W b n q ≠ some 9 ∧ t_FL gi2 ar0 (s_fk b n q 2) (s_F b n q))) ∧ t_on ar0 gi gl gr gi2 gl2 gr2
theorem c_s_takeTakes {X : x_Ext} {d : Nat} {sh : List (Nat ⊕ (Nat × Nat))} {gi : Nat → Nat → Int32} {gl : Nat → Nat → Int64} {gr : Nat → Nat → Value} (hI : t_I sh gi gr) (ar0 : Nat) (p_a0 : t_Tk sh gr ar0) : x_Me X (d + 3) n_X9_takeKeyword [.ref ar0, .retAddr 9] (sh, gi, gl, gr) (t_PI wl_s_takeTakes sh gi gl gr 0 1 (Q_s_takeTakes gi gl gr ar0)) := by
  have hX : t_X wl_s_takeTakes sh gi gl gr gi gl gr := t_X.rf
  refine me_i f_X9_takeKeyword p_a0.1 rfl rfl rfl ?_
  refine ev_loc f_X9_takeKeyword (nx := 1) rfl rfl rfl rfl ?_
  have k1 := hI.2.2.2.1.2.2.2.2.2 ar0 p_a0.1
  obtain ⟨v1, e1⟩ : ∃ v, gr ar0 7 = v := ⟨_, rfl⟩
  rw [e1] at k1
  refine ev_getR f_X9_takeKeyword (nx := 4) rfl p_a0.1 rfl rfl e1 (t_KwR k1) rfl ?_
  refine ev_loc f_X9_takeKeyword (nx := 5) rfl rfl rfl rfl ?_
  refine ev_ack f_X9_takeKeyword (t1 := 14) (t2 := 8) rfl rfl rfl (t_knw k1) rfl (fun h2 => ?_) (fun h2 => ?_)
  · refine ev_loc f_X9_takeKeyword (nx := 15) rfl rfl rfl rfl ?_
    refine ev_qN f_X9_takeKeyword (nx := 18) (r := []) rfl rfl rfl rfl rfl rfl rfl (c_s_step hI (ar0) p_a0) rfl hX rfl (fun gi3 gl3 gr3 hI hX hC3 q3 => ?_)
    have q3 : (∀ (b : Nat → Int32) (n q : Nat), t_Sp b n q gi ar0 → t_TC b n q gi3 gl3 gr3 ar0) ∧ t_nf gi gi3 ar0 ∧ t_on ar0 gi gl gr gi3 gl3 gr3 := q3
    replace p_a0 := p_a0.ext hC3.2
    refine ev_ic f_X9_takeKeyword (nx := 19) (v := 1) rfl (by decide) rfl ?_
    exact ev_ret f_X9_takeKeyword rfl rfl rfl ⟨_, _, _, rfl, hI, hX, ⟨_, rfl, (Int.le_trans (by decide : (0:Int) ≤ 1) (by decide : (1:Int) ≤ (1:Int32).toInt)), (by decide : (1:Int32).toInt ≤ (1:Int)), (show (∀ (b : Nat → Int32) (n q : Nat), t_TC b n q gi gl gr ar0 → ((1 : Int) = 1 ∧ s_W b n q = some 9 ∧ t_TC b n (s_E b n q) gi3 gl3 gr3 ar0 ∧ t_nf gi gi3 ar0) ∨ ((1 : Int) = 0 ∧ s_W b n q ≠ some 9 ∧ t_FL gi3 ar0 (s_fk b n q 2) (s_F b n q))) ∧ t_on ar0 gi gl gr gi3 gl3 gr3 from ⟨fun b n q h => Or.inl ⟨rfl, h.kwT e1 h2, (q3.1 b n _ h.S), q3.2.1⟩, (t_on.tr t_on.rf q3.2.2)⟩)⟩⟩
  · refine ev_loc f_X9_takeKeyword (nx := 9) rfl rfl rfl rfl ?_
    refine ev_ic f_X9_takeKeyword (nx := 10) (v := 2) rfl (by decide) rfl ?_
    refine ev_qI f_X9_takeKeyword (nx := 13) (r := []) rfl rfl rfl rfl rfl rfl rfl (c_s_refuse hI (ar0) p_a0 (2) (by decide : (2:Int) ≤ (2:Int32).toInt) (Int.le_trans (by decide : (2:Int32).toInt ≤ (2:Int)) (by decide : (2:Int) ≤ 7))) rfl hX rfl (fun w4 gi4 gl4 gr4 l4 u4 hI hX hC4 q4 => ?_)
    have q4 : (∀ (b : Nat → Int32) (n q : Nat), t_TC b n q gi gl gr ar0 → t_FL gi4 ar0 (s_fk b n q 2) (s_F b n q)) ∧ w4.toInt = 0 ∧ t_on ar0 gi gl gr gi4 gl4 gr4 := q4
    replace p_a0 := p_a0.ext hC4.2
    exact ev_retZ f_X9_takeKeyword rfl l4 (Int.le_trans u4 (by decide : (0:Int) ≤ 1)) ⟨_, _, _, rfl, hI, hX, ⟨_, rfl, l4, (Int.le_trans u4 (by decide : (0:Int) ≤ 1)), (show (∀ (b : Nat → Int32) (n q : Nat), t_TC b n q gi gl gr ar0 → (w4.toInt = 1 ∧ s_W b n q = some 9 ∧ t_TC b n (s_E b n q) gi4 gl4 gr4 ar0 ∧ t_nf gi gi4 ar0) ∨ (w4.toInt = 0 ∧ s_W b n q ≠ some 9 ∧ t_FL gi4 ar0 (s_fk b n q 2) (s_F b n q))) ∧ t_on ar0 gi gl gr gi4 gl4 gr4 from ⟨fun b n q h => Or.inr ⟨q4.2.1, h.kwF e1 h2, (q4.1 b n q h)⟩, (t_on.tr t_on.rf q4.2.2)⟩)⟩⟩
noncomputable def wl_s_takeCosts : List (Nat × Nat) := [(118, 2), (118, 3), (118, 4), (118, 5), (118, 6), (118, 7), (118, 8), (118, 9), (118, 10), (118, 11)]
noncomputable def Q_s_takeCosts (gi : Nat → Nat → Int32) (gl : Nat → Nat → Int64) (gr : Nat → Nat → Value) (ar0 : Nat) : Int32 → (Nat → Nat → Int32) → (Nat → Nat → Int64) → (Nat → Nat → Value) → Prop := fun (v : Int32) (gi2 : Nat → Nat → Int32) (gl2 : Nat → Nat → Int64) (gr2 : Nat → Nat → Value) => (∀ (b : Nat → Int32) (n q : Nat), t_TC b n q gi gl gr ar0 → (v.toInt = 1 ∧ s_W b n q = some 10 ∧ t_TC b n (s_E b n q) gi2 gl2 gr2 ar0 ∧ t_nf gi gi2 ar0) ∨ (v.toInt = 0 ∧ s_W b n q ≠ some 10 ∧ t_FL gi2 ar0 (s_fk b n q 2) (s_F b n q))) ∧ t_on ar0 gi gl gr gi2 gl2 gr2
theorem c_s_takeCosts {X : x_Ext} {d : Nat} {sh : List (Nat ⊕ (Nat × Nat))} {gi : Nat → Nat → Int32} {gl : Nat → Nat → Int64} {gr : Nat → Nat → Value} (hI : t_I sh gi gr) (ar0 : Nat) (p_a0 : t_Tk sh gr ar0) : x_Me X (d + 3) n_X9_takeKeyword [.ref ar0, .retAddr 10] (sh, gi, gl, gr) (t_PI wl_s_takeCosts sh gi gl gr 0 1 (Q_s_takeCosts gi gl gr ar0)) := by
  have hX : t_X wl_s_takeCosts sh gi gl gr gi gl gr := t_X.rf
  refine me_i f_X9_takeKeyword p_a0.1 rfl rfl rfl ?_
  refine ev_loc f_X9_takeKeyword (nx := 1) rfl rfl rfl rfl ?_
  have k1 := hI.2.2.2.1.2.2.2.2.2 ar0 p_a0.1
  obtain ⟨v1, e1⟩ : ∃ v, gr ar0 7 = v := ⟨_, rfl⟩
  rw [e1] at k1
  refine ev_getR f_X9_takeKeyword (nx := 4) rfl p_a0.1 rfl rfl e1 (t_KwR k1) rfl ?_
  refine ev_loc f_X9_takeKeyword (nx := 5) rfl rfl rfl rfl ?_
  refine ev_ack f_X9_takeKeyword (t1 := 14) (t2 := 8) rfl rfl rfl (t_knw k1) rfl (fun h2 => ?_) (fun h2 => ?_)
  · refine ev_loc f_X9_takeKeyword (nx := 15) rfl rfl rfl rfl ?_
    refine ev_qN f_X9_takeKeyword (nx := 18) (r := []) rfl rfl rfl rfl rfl rfl rfl (c_s_step hI (ar0) p_a0) rfl hX rfl (fun gi3 gl3 gr3 hI hX hC3 q3 => ?_)
    have q3 : (∀ (b : Nat → Int32) (n q : Nat), t_Sp b n q gi ar0 → t_TC b n q gi3 gl3 gr3 ar0) ∧ t_nf gi gi3 ar0 ∧ t_on ar0 gi gl gr gi3 gl3 gr3 := q3
    replace p_a0 := p_a0.ext hC3.2
    refine ev_ic f_X9_takeKeyword (nx := 19) (v := 1) rfl (by decide) rfl ?_
    exact ev_ret f_X9_takeKeyword rfl rfl rfl ⟨_, _, _, rfl, hI, hX, ⟨_, rfl, (Int.le_trans (by decide : (0:Int) ≤ 1) (by decide : (1:Int) ≤ (1:Int32).toInt)), (by decide : (1:Int32).toInt ≤ (1:Int)), (show (∀ (b : Nat → Int32) (n q : Nat), t_TC b n q gi gl gr ar0 → ((1 : Int) = 1 ∧ s_W b n q = some 10 ∧ t_TC b n (s_E b n q) gi3 gl3 gr3 ar0 ∧ t_nf gi gi3 ar0) ∨ ((1 : Int) = 0 ∧ s_W b n q ≠ some 10 ∧ t_FL gi3 ar0 (s_fk b n q 2) (s_F b n q))) ∧ t_on ar0 gi gl gr gi3 gl3 gr3 from ⟨fun b n q h => Or.inl ⟨rfl, h.kwT e1 h2, (q3.1 b n _ h.S), q3.2.1⟩, (t_on.tr t_on.rf q3.2.2)⟩)⟩⟩
  · refine ev_loc f_X9_takeKeyword (nx := 9) rfl rfl rfl rfl ?_
    refine ev_ic f_X9_takeKeyword (nx := 10) (v := 2) rfl (by decide) rfl ?_
    refine ev_qI f_X9_takeKeyword (nx := 13) (r := []) rfl rfl rfl rfl rfl rfl rfl (c_s_refuse hI (ar0) p_a0 (2) (by decide : (2:Int) ≤ (2:Int32).toInt) (Int.le_trans (by decide : (2:Int32).toInt ≤ (2:Int)) (by decide : (2:Int) ≤ 7))) rfl hX rfl (fun w4 gi4 gl4 gr4 l4 u4 hI hX hC4 q4 => ?_)
    have q4 : (∀ (b : Nat → Int32) (n q : Nat), t_TC b n q gi gl gr ar0 → t_FL gi4 ar0 (s_fk b n q 2) (s_F b n q)) ∧ w4.toInt = 0 ∧ t_on ar0 gi gl gr gi4 gl4 gr4 := q4
    replace p_a0 := p_a0.ext hC4.2
    exact ev_retZ f_X9_takeKeyword rfl l4 (Int.le_trans u4 (by decide : (0:Int) ≤ 1)) ⟨_, _, _, rfl, hI, hX, ⟨_, rfl, l4, (Int.le_trans u4 (by decide : (0:Int) ≤ 1)), (show (∀ (b : Nat → Int32) (n q : Nat), t_TC b n q gi gl gr ar0 → (w4.toInt = 1 ∧ s_W b n q = some 10 ∧ t_TC b n (s_E b n q) gi4 gl4 gr4 ar0 ∧ t_nf gi gi4 ar0) ∨ (w4.toInt = 0 ∧ s_W b n q ≠ some 10 ∧ t_FL gi4 ar0 (s_fk b n q 2) (s_F b n q))) ∧ t_on ar0 gi gl gr gi4 gl4 gr4 from ⟨fun b n q h => Or.inr ⟨q4.2.1, h.kwF e1 h2, (q4.1 b n q h)⟩, (t_on.tr t_on.rf q4.2.2)⟩)⟩⟩
noncomputable def wl_s_takeIf : List (Nat × Nat) := [(118, 2), (118, 3), (118, 4), (118, 5), (118, 6), (118, 7), (118, 8), (118, 9), (118, 10), (118, 11)]
noncomputable def Q_s_takeIf (gi : Nat → Nat → Int32) (gl : Nat → Nat → Int64) (gr : Nat → Nat → Value) (ar0 : Nat) : Int32 → (Nat → Nat → Int32) → (Nat → Nat → Int64) → (Nat → Nat → Value) → Prop := fun (v : Int32) (gi2 : Nat → Nat → Int32) (gl2 : Nat → Nat → Int64) (gr2 : Nat → Nat → Value) => (∀ (b : Nat → Int32) (n q : Nat), t_TC b n q gi gl gr ar0 → (v.toInt = 1 ∧ s_W b n q = some 13 ∧ t_TC b n (s_E b n q) gi2 gl2 gr2 ar0 ∧ t_nf gi gi2 ar0) ∨ (v.toInt = 0 ∧ s_W b n q ≠ some 13 ∧ t_FL gi2 ar0 (s_fk b n q 2) (s_F b n q))) ∧ t_on ar0 gi gl gr gi2 gl2 gr2
theorem c_s_takeIf {X : x_Ext} {d : Nat} {sh : List (Nat ⊕ (Nat × Nat))} {gi : Nat → Nat → Int32} {gl : Nat → Nat → Int64} {gr : Nat → Nat → Value} (hI : t_I sh gi gr) (ar0 : Nat) (p_a0 : t_Tk sh gr ar0) : x_Me X (d + 3) n_X9_takeKeyword [.ref ar0, .retAddr 13] (sh, gi, gl, gr) (t_PI wl_s_takeIf sh gi gl gr 0 1 (Q_s_takeIf gi gl gr ar0)) := by
  have hX : t_X wl_s_takeIf sh gi gl gr gi gl gr := t_X.rf
  refine me_i f_X9_takeKeyword p_a0.1 rfl rfl rfl ?_
  refine ev_loc f_X9_takeKeyword (nx := 1) rfl rfl rfl rfl ?_
  have k1 := hI.2.2.2.1.2.2.2.2.2 ar0 p_a0.1
  obtain ⟨v1, e1⟩ : ∃ v, gr ar0 7 = v := ⟨_, rfl⟩
  rw [e1] at k1
  refine ev_getR f_X9_takeKeyword (nx := 4) rfl p_a0.1 rfl rfl e1 (t_KwR k1) rfl ?_
  refine ev_loc f_X9_takeKeyword (nx := 5) rfl rfl rfl rfl ?_
  refine ev_ack f_X9_takeKeyword (t1 := 14) (t2 := 8) rfl rfl rfl (t_knw k1) rfl (fun h2 => ?_) (fun h2 => ?_)
  · refine ev_loc f_X9_takeKeyword (nx := 15) rfl rfl rfl rfl ?_
    refine ev_qN f_X9_takeKeyword (nx := 18) (r := []) rfl rfl rfl rfl rfl rfl rfl (c_s_step hI (ar0) p_a0) rfl hX rfl (fun gi3 gl3 gr3 hI hX hC3 q3 => ?_)
    have q3 : (∀ (b : Nat → Int32) (n q : Nat), t_Sp b n q gi ar0 → t_TC b n q gi3 gl3 gr3 ar0) ∧ t_nf gi gi3 ar0 ∧ t_on ar0 gi gl gr gi3 gl3 gr3 := q3
    replace p_a0 := p_a0.ext hC3.2
    refine ev_ic f_X9_takeKeyword (nx := 19) (v := 1) rfl (by decide) rfl ?_
    exact ev_ret f_X9_takeKeyword rfl rfl rfl ⟨_, _, _, rfl, hI, hX, ⟨_, rfl, (Int.le_trans (by decide : (0:Int) ≤ 1) (by decide : (1:Int) ≤ (1:Int32).toInt)), (by decide : (1:Int32).toInt ≤ (1:Int)), (show (∀ (b : Nat → Int32) (n q : Nat), t_TC b n q gi gl gr ar0 → ((1 : Int) = 1 ∧ s_W b n q = some 13 ∧ t_TC b n (s_E b n q) gi3 gl3 gr3 ar0 ∧ t_nf gi gi3 ar0) ∨ ((1 : Int) = 0 ∧ s_W b n q ≠ some 13 ∧ t_FL gi3 ar0 (s_fk b n q 2) (s_F b n q))) ∧ t_on ar0 gi gl gr gi3 gl3 gr3 from ⟨fun b n q h => Or.inl ⟨rfl, h.kwT e1 h2, (q3.1 b n _ h.S), q3.2.1⟩, (t_on.tr t_on.rf q3.2.2)⟩)⟩⟩
  · refine ev_loc f_X9_takeKeyword (nx := 9) rfl rfl rfl rfl ?_
    refine ev_ic f_X9_takeKeyword (nx := 10) (v := 2) rfl (by decide) rfl ?_
    refine ev_qI f_X9_takeKeyword (nx := 13) (r := []) rfl rfl rfl rfl rfl rfl rfl (c_s_refuse hI (ar0) p_a0 (2) (by decide : (2:Int) ≤ (2:Int32).toInt) (Int.le_trans (by decide : (2:Int32).toInt ≤ (2:Int)) (by decide : (2:Int) ≤ 7))) rfl hX rfl (fun w4 gi4 gl4 gr4 l4 u4 hI hX hC4 q4 => ?_)
    have q4 : (∀ (b : Nat → Int32) (n q : Nat), t_TC b n q gi gl gr ar0 → t_FL gi4 ar0 (s_fk b n q 2) (s_F b n q)) ∧ w4.toInt = 0 ∧ t_on ar0 gi gl gr gi4 gl4 gr4 := q4
    replace p_a0 := p_a0.ext hC4.2
    exact ev_retZ f_X9_takeKeyword rfl l4 (Int.le_trans u4 (by decide : (0:Int) ≤ 1)) ⟨_, _, _, rfl, hI, hX, ⟨_, rfl, l4, (Int.le_trans u4 (by decide : (0:Int) ≤ 1)), (show (∀ (b : Nat → Int32) (n q : Nat), t_TC b n q gi gl gr ar0 → (w4.toInt = 1 ∧ s_W b n q = some 13 ∧ t_TC b n (s_E b n q) gi4 gl4 gr4 ar0 ∧ t_nf gi gi4 ar0) ∨ (w4.toInt = 0 ∧ s_W b n q ≠ some 13 ∧ t_FL gi4 ar0 (s_fk b n q 2) (s_F b n q))) ∧ t_on ar0 gi gl gr gi4 gl4 gr4 from ⟨fun b n q h => Or.inr ⟨q4.2.1, h.kwF e1 h2, (q4.1 b n q h)⟩, (t_on.tr t_on.rf q4.2.2)⟩)⟩⟩
noncomputable def wl_s_takeDo : List (Nat × Nat) := [(118, 2), (118, 3), (118, 4), (118, 5), (118, 6), (118, 7), (118, 8), (118, 9), (118, 10), (118, 11)]
noncomputable def Q_s_takeDo (gi : Nat → Nat → Int32) (gl : Nat → Nat → Int64) (gr : Nat → Nat → Value) (ar0 : Nat) : Int32 → (Nat → Nat → Int32) → (Nat → Nat → Int64) → (Nat → Nat → Value) → Prop := fun (v : Int32) (gi2 : Nat → Nat → Int32) (gl2 : Nat → Nat → Int64) (gr2 : Nat → Nat → Value) => (∀ (b : Nat → Int32) (n q : Nat), t_TC b n q gi gl gr ar0 → (v.toInt = 1 ∧ s_W b n q = some 14 ∧ t_TC b n (s_E b n q) gi2 gl2 gr2 ar0 ∧ t_nf gi gi2 ar0) ∨ (v.toInt = 0 ∧ s_W b n q ≠ some 14 ∧ t_FL gi2 ar0 (s_fk b n q 2) (s_F b n q))) ∧ t_on ar0 gi gl gr gi2 gl2 gr2
theorem c_s_takeDo {X : x_Ext} {d : Nat} {sh : List (Nat ⊕ (Nat × Nat))} {gi : Nat → Nat → Int32} {gl : Nat → Nat → Int64} {gr : Nat → Nat → Value} (hI : t_I sh gi gr) (ar0 : Nat) (p_a0 : t_Tk sh gr ar0) : x_Me X (d + 3) n_X9_takeKeyword [.ref ar0, .retAddr 14] (sh, gi, gl, gr) (t_PI wl_s_takeDo sh gi gl gr 0 1 (Q_s_takeDo gi gl gr ar0)) := by
  have hX : t_X wl_s_takeDo sh gi gl gr gi gl gr := t_X.rf
  refine me_i f_X9_takeKeyword p_a0.1 rfl rfl rfl ?_
  refine ev_loc f_X9_takeKeyword (nx := 1) rfl rfl rfl rfl ?_
  have k1 := hI.2.2.2.1.2.2.2.2.2 ar0 p_a0.1
  obtain ⟨v1, e1⟩ : ∃ v, gr ar0 7 = v := ⟨_, rfl⟩
  rw [e1] at k1
  refine ev_getR f_X9_takeKeyword (nx := 4) rfl p_a0.1 rfl rfl e1 (t_KwR k1) rfl ?_
  refine ev_loc f_X9_takeKeyword (nx := 5) rfl rfl rfl rfl ?_
  refine ev_ack f_X9_takeKeyword (t1 := 14) (t2 := 8) rfl rfl rfl (t_knw k1) rfl (fun h2 => ?_) (fun h2 => ?_)
  · refine ev_loc f_X9_takeKeyword (nx := 15) rfl rfl rfl rfl ?_
    refine ev_qN f_X9_takeKeyword (nx := 18) (r := []) rfl rfl rfl rfl rfl rfl rfl (c_s_step hI (ar0) p_a0) rfl hX rfl (fun gi3 gl3 gr3 hI hX hC3 q3 => ?_)
    have q3 : (∀ (b : Nat → Int32) (n q : Nat), t_Sp b n q gi ar0 → t_TC b n q gi3 gl3 gr3 ar0) ∧ t_nf gi gi3 ar0 ∧ t_on ar0 gi gl gr gi3 gl3 gr3 := q3
    replace p_a0 := p_a0.ext hC3.2
    refine ev_ic f_X9_takeKeyword (nx := 19) (v := 1) rfl (by decide) rfl ?_
    exact ev_ret f_X9_takeKeyword rfl rfl rfl ⟨_, _, _, rfl, hI, hX, ⟨_, rfl, (Int.le_trans (by decide : (0:Int) ≤ 1) (by decide : (1:Int) ≤ (1:Int32).toInt)), (by decide : (1:Int32).toInt ≤ (1:Int)), (show (∀ (b : Nat → Int32) (n q : Nat), t_TC b n q gi gl gr ar0 → ((1 : Int) = 1 ∧ s_W b n q = some 14 ∧ t_TC b n (s_E b n q) gi3 gl3 gr3 ar0 ∧ t_nf gi gi3 ar0) ∨ ((1 : Int) = 0 ∧ s_W b n q ≠ some 14 ∧ t_FL gi3 ar0 (s_fk b n q 2) (s_F b n q))) ∧ t_on ar0 gi gl gr gi3 gl3 gr3 from ⟨fun b n q h => Or.inl ⟨rfl, h.kwT e1 h2, (q3.1 b n _ h.S), q3.2.1⟩, (t_on.tr t_on.rf q3.2.2)⟩)⟩⟩
  · refine ev_loc f_X9_takeKeyword (nx := 9) rfl rfl rfl rfl ?_
    refine ev_ic f_X9_takeKeyword (nx := 10) (v := 2) rfl (by decide) rfl ?_
    refine ev_qI f_X9_takeKeyword (nx := 13) (r := []) rfl rfl rfl rfl rfl rfl rfl (c_s_refuse hI (ar0) p_a0 (2) (by decide : (2:Int) ≤ (2:Int32).toInt) (Int.le_trans (by decide : (2:Int32).toInt ≤ (2:Int)) (by decide : (2:Int) ≤ 7))) rfl hX rfl (fun w4 gi4 gl4 gr4 l4 u4 hI hX hC4 q4 => ?_)
    have q4 : (∀ (b : Nat → Int32) (n q : Nat), t_TC b n q gi gl gr ar0 → t_FL gi4 ar0 (s_fk b n q 2) (s_F b n q)) ∧ w4.toInt = 0 ∧ t_on ar0 gi gl gr gi4 gl4 gr4 := q4
    replace p_a0 := p_a0.ext hC4.2
    exact ev_retZ f_X9_takeKeyword rfl l4 (Int.le_trans u4 (by decide : (0:Int) ≤ 1)) ⟨_, _, _, rfl, hI, hX, ⟨_, rfl, l4, (Int.le_trans u4 (by decide : (0:Int) ≤ 1)), (show (∀ (b : Nat → Int32) (n q : Nat), t_TC b n q gi gl gr ar0 → (w4.toInt = 1 ∧ s_W b n q = some 14 ∧ t_TC b n (s_E b n q) gi4 gl4 gr4 ar0 ∧ t_nf gi gi4 ar0) ∨ (w4.toInt = 0 ∧ s_W b n q ≠ some 14 ∧ t_FL gi4 ar0 (s_fk b n q 2) (s_F b n q))) ∧ t_on ar0 gi gl gr gi4 gl4 gr4 from ⟨fun b n q h => Or.inr ⟨q4.2.1, h.kwF e1 h2, (q4.1 b n q h)⟩, (t_on.tr t_on.rf q4.2.2)⟩)⟩⟩
noncomputable def wl_s_takeSign : List (Nat × Nat) := [(118, 2), (118, 3), (118, 4), (118, 5), (118, 6), (118, 7), (118, 8), (118, 9), (118, 10), (118, 11)]
noncomputable def Q_s_takeSign (gi : Nat → Nat → Int32) (gl : Nat → Nat → Int64) (gr : Nat → Nat → Value) (ar0 : Nat) (ar1 : Int32) : Int32 → (Nat → Nat → Int32) → (Nat → Nat → Int64) → (Nat → Nat → Value) → Prop := fun (v : Int32) (gi2 : Nat → Nat → Int32) (gl2 : Nat → Nat → Int64) (gr2 : Nat → Nat → Value) => (∀ (b : Nat → Int32) (n q : Nat), t_TC b n q gi gl gr ar0 → (v.toInt = 1 ∧ s_isS b n q ar1.toInt ∧ t_TC b n (s_E b n q) gi2 gl2 gr2 ar0 ∧ t_nf gi gi2 ar0) ∨ (v.toInt = 0 ∧ ¬ s_isS b n q ar1.toInt ∧ t_FL gi2 ar0 (s_fk b n q 2) (s_F b n q))) ∧ t_on ar0 gi gl gr gi2 gl2 gr2
theorem c_s_takeSign {X : x_Ext} {d : Nat} {sh : List (Nat ⊕ (Nat × Nat))} {gi : Nat → Nat → Int32} {gl : Nat → Nat → Int64} {gr : Nat → Nat → Value} (hI : t_I sh gi gr) (ar0 : Nat) (p_a0 : t_Tk sh gr ar0) (ar1 : Int32) : x_Me X (d + 3) n_X9_takeSign [.ref ar0, .int ar1] (sh, gi, gl, gr) (t_PI wl_s_takeSign sh gi gl gr 0 1 (Q_s_takeSign gi gl gr ar0 ar1)) := by
  have hX : t_X wl_s_takeSign sh gi gl gr gi gl gr := t_X.rf
  refine me_i f_X9_takeSign p_a0.1 rfl rfl rfl ?_
  refine ev_loc f_X9_takeSign (nx := 1) rfl rfl rfl rfl ?_
  refine ev_loc f_X9_takeSign (nx := 2) rfl rfl rfl rfl ?_
  refine ev_qI0 f_X9_takeSign (nx := 5) (r := []) rfl rfl rfl rfl rfl rfl rfl (c_s_isSignOf hI (ar0) p_a0 (ar1)) rfl (fun w1 l1 u1 q1 => ?_)
  have q1 : ∀ (b : Nat → Int32) (n q : Nat), t_TC b n q gi gl gr ar0 → (w1.toInt = 1 ↔ s_isS b n q ar1.toInt) := q1
  refine ev_if f_X9_takeSign (t1 := 8) (t2 := 14) rfl rfl rfl (fun h2 => ?_) (fun h2 => ?_)
  · have u3 : w1.toInt ≤ 0 := t_equ h2 (by decide : (0:Int32).toInt ≤ (0:Int))
    refine ev_loc f_X9_takeSign (nx := 9) rfl rfl rfl rfl ?_
    refine ev_ic f_X9_takeSign (nx := 10) (v := 2) rfl (by decide) rfl ?_
    refine ev_qI f_X9_takeSign (nx := 13) (r := []) rfl rfl rfl rfl rfl rfl rfl (c_s_refuse hI (ar0) p_a0 (2) (by decide : (2:Int) ≤ (2:Int32).toInt) (Int.le_trans (by decide : (2:Int32).toInt ≤ (2:Int)) (by decide : (2:Int) ≤ 7))) rfl hX rfl (fun w4 gi4 gl4 gr4 l4 u4 hI hX hC4 q4 => ?_)
    have q4 : (∀ (b : Nat → Int32) (n q : Nat), t_TC b n q gi gl gr ar0 → t_FL gi4 ar0 (s_fk b n q 2) (s_F b n q)) ∧ w4.toInt = 0 ∧ t_on ar0 gi gl gr gi4 gl4 gr4 := q4
    replace p_a0 := p_a0.ext hC4.2
    exact ev_retZ f_X9_takeSign rfl l4 (Int.le_trans u4 (by decide : (0:Int) ≤ 1)) ⟨_, _, _, rfl, hI, hX, ⟨_, rfl, l4, (Int.le_trans u4 (by decide : (0:Int) ≤ 1)), (show (∀ (b : Nat → Int32) (n q : Nat), t_TC b n q gi gl gr ar0 → (w4.toInt = 1 ∧ s_isS b n q ar1.toInt ∧ t_TC b n (s_E b n q) gi4 gl4 gr4 ar0 ∧ t_nf gi gi4 ar0) ∨ (w4.toInt = 0 ∧ ¬ s_isS b n q ar1.toInt ∧ t_FL gi4 ar0 (s_fk b n q 2) (s_F b n q))) ∧ t_on ar0 gi gl gr gi4 gl4 gr4 from ⟨fun b n q h => Or.inr ⟨q4.2.1, fun hh => absurd ((q1 b n q h).mpr hh) (by omega), (q4.1 b n q h)⟩, (t_on.tr t_on.rf q4.2.2)⟩)⟩⟩
  · have r5 : w1.toInt ≠ 0 := fun e => h2 (Int32.toInt_inj.mp (e.trans (by decide : (0:Int) = (0 : Int32).toInt)))
    have l6 : 1 ≤ w1.toInt := t_nel h2 l1 rfl rfl
    refine ev_loc f_X9_takeSign (nx := 15) rfl rfl rfl rfl ?_
    refine ev_qN f_X9_takeSign (nx := 18) (r := []) rfl rfl rfl rfl rfl rfl rfl (c_s_step hI (ar0) p_a0) rfl hX rfl (fun gi7 gl7 gr7 hI hX hC7 q7 => ?_)
    have q7 : (∀ (b : Nat → Int32) (n q : Nat), t_Sp b n q gi ar0 → t_TC b n q gi7 gl7 gr7 ar0) ∧ t_nf gi gi7 ar0 ∧ t_on ar0 gi gl gr gi7 gl7 gr7 := q7
    replace p_a0 := p_a0.ext hC7.2
    refine ev_ic f_X9_takeSign (nx := 19) (v := 1) rfl (by decide) rfl ?_
    exact ev_ret f_X9_takeSign rfl rfl rfl ⟨_, _, _, rfl, hI, hX, ⟨_, rfl, (Int.le_trans (by decide : (0:Int) ≤ 1) (by decide : (1:Int) ≤ (1:Int32).toInt)), (by decide : (1:Int32).toInt ≤ (1:Int)), (show (∀ (b : Nat → Int32) (n q : Nat), t_TC b n q gi gl gr ar0 → ((1 : Int) = 1 ∧ s_isS b n q ar1.toInt ∧ t_TC b n (s_E b n q) gi7 gl7 gr7 ar0 ∧ t_nf gi gi7 ar0) ∨ ((1 : Int) = 0 ∧ ¬ s_isS b n q ar1.toInt ∧ t_FL gi7 ar0 (s_fk b n q 2) (s_F b n q))) ∧ t_on ar0 gi gl gr gi7 gl7 gr7 from ⟨fun b n q h => Or.inl ⟨rfl, (q1 b n q h).mp (by omega), (q7.1 b n _ h.S), q7.2.1⟩, (t_on.tr t_on.rf q7.2.2)⟩)⟩⟩
noncomputable def wl_s_takeNumber : List (Nat × Nat) := [(118, 2), (118, 3), (118, 4), (118, 5), (118, 6), (118, 7), (118, 8), (118, 9), (118, 10), (118, 11)]
noncomputable def Q_s_takeNumber (gi : Nat → Nat → Int32) (gl : Nat → Nat → Int64) (gr : Nat → Nat → Value) (ar0 : Nat) (ar1 : Int32) (ar2 : Int32) : Int32 → (Nat → Nat → Int32) → (Nat → Nat → Int64) → (Nat → Nat → Value) → Prop := fun (v : Int32) (gi2 : Nat → Nat → Int32) (gl2 : Nat → Nat → Int64) (gr2 : Nat → Nat → Value) => (∀ (b : Nat → Int32) (n q : Nat), t_TC b n q gi gl gr ar0 → (v.toInt = 1 ∧ s_isV b n q ar1.toInt ar2.toInt ∧ t_TC b n (s_E b n q) gi2 gl2 gr2 ar0 ∧ t_nf gi gi2 ar0) ∨ (v.toInt = 0 ∧ s_K b n q ≠ 3 ∧ t_FL gi2 ar0 (s_fk b n q 2) (s_F b n q)) ∨ (v.toInt = 0 ∧ (s_K b n q = 3 ∧ ¬ s_isV b n q ar1.toInt ar2.toInt) ∧ t_FL gi2 ar0 (s_fk b n q 4) (s_F b n q))) ∧ t_on ar0 gi gl gr gi2 gl2 gr2
theorem c_s_takeNumber {X : x_Ext} {d : Nat} {sh : List (Nat ⊕ (Nat × Nat))} {gi : Nat → Nat → Int32} {gl : Nat → Nat → Int64} {gr : Nat → Nat → Value} (hI : t_I sh gi gr) (ar0 : Nat) (p_a0 : t_Tk sh gr ar0) (ar1 : Int32) (ar2 : Int32) : x_Me X (d + 3) n_X9_takeNumber [.ref ar0, .int ar1, .int ar2] (sh, gi, gl, gr) (t_PI wl_s_takeNumber sh gi gl gr 0 1 (Q_s_takeNumber gi gl gr ar0 ar1 ar2)) := by
  have hX : t_X wl_s_takeNumber sh gi gl gr gi gl gr := t_X.rf
  refine me_i f_X9_takeNumber p_a0.1 rfl rfl rfl ?_
  refine ev_loc f_X9_takeNumber (nx := 1) rfl rfl rfl rfl ?_
  refine ev_getI f_X9_takeNumber (nx := 4) rfl p_a0.1 rfl rfl rfl ?_
  refine ev_ic f_X9_takeNumber (nx := 5) (v := 1) rfl (by decide) rfl ?_
  refine ev_if f_X9_takeNumber (t1 := 14) (t2 := 8) rfl rfl rfl (fun h1 => ?_) (fun h1 => ?_)
  · have u2 : (gi ar0 3).toInt ≤ 1 := t_equ h1 (by decide : (1:Int32).toInt ≤ (1:Int))
    have l3 : 1 ≤ (gi ar0 3).toInt := t_eql h1 (by decide : (1:Int) ≤ (1:Int32).toInt)
    refine ev_loc f_X9_takeNumber (nx := 15) rfl rfl rfl rfl ?_
    refine ev_getI f_X9_takeNumber (nx := 18) rfl p_a0.1 rfl rfl rfl ?_
    refine ev_loc f_X9_takeNumber (nx := 19) rfl rfl rfl rfl ?_
    refine ev_if f_X9_takeNumber (t1 := 30) (t2 := 22) rfl rfl rfl (fun h4 => ?_) (fun h4 => ?_)
    · have r5 : (gi ar0 8).toInt < ar1.toInt := Int32.lt_iff_toInt_lt.mp h4
      have u6 : (gi ar0 8).toInt ≤ 2147483646 := t_ltu h4 (t_hi ar1) rfl
      have l7 : (-2147483647) ≤ ar1.toInt := t_ltl h4 (t_lo (gi ar0 8)) rfl
      refine ev_loc f_X9_takeNumber (nx := 31) rfl rfl rfl rfl ?_
      refine ev_ic f_X9_takeNumber (nx := 32) (v := 4) rfl (by decide) rfl ?_
      refine ev_qI f_X9_takeNumber (nx := 35) (r := []) rfl rfl rfl rfl rfl rfl rfl (c_s_refuse hI (ar0) p_a0 (4) (Int.le_trans (by decide : (2:Int) ≤ 4) (by decide : (4:Int) ≤ (4:Int32).toInt)) (Int.le_trans (by decide : (4:Int32).toInt ≤ (4:Int)) (by decide : (4:Int) ≤ 7))) rfl hX rfl (fun w8 gi8 gl8 gr8 l8 u8 hI hX hC8 q8 => ?_)
      have q8 : (∀ (b : Nat → Int32) (n q : Nat), t_TC b n q gi gl gr ar0 → t_FL gi8 ar0 (s_fk b n q 4) (s_F b n q)) ∧ w8.toInt = 0 ∧ t_on ar0 gi gl gr gi8 gl8 gr8 := q8
      replace p_a0 := p_a0.ext hC8.2
      exact ev_retZ f_X9_takeNumber rfl l8 (Int.le_trans u8 (by decide : (0:Int) ≤ 1)) ⟨_, _, _, rfl, hI, hX, ⟨_, rfl, l8, (Int.le_trans u8 (by decide : (0:Int) ≤ 1)), (show (∀ (b : Nat → Int32) (n q : Nat), t_TC b n q gi gl gr ar0 → (w8.toInt = 1 ∧ s_isV b n q ar1.toInt ar2.toInt ∧ t_TC b n (s_E b n q) gi8 gl8 gr8 ar0 ∧ t_nf gi gi8 ar0) ∨ (w8.toInt = 0 ∧ s_K b n q ≠ 3 ∧ t_FL gi8 ar0 (s_fk b n q 2) (s_F b n q)) ∨ (w8.toInt = 0 ∧ (s_K b n q = 3 ∧ ¬ s_isV b n q ar1.toInt ar2.toInt) ∧ t_FL gi8 ar0 (s_fk b n q 4) (s_F b n q))) ∧ t_on ar0 gi gl gr gi8 gl8 gr8 from ⟨fun b n q h => Or.inr (Or.inr ⟨q8.2.1, h.vF (by omega) (by omega), (q8.1 b n q h)⟩), (t_on.tr t_on.rf q8.2.2)⟩)⟩⟩
    · have r9 : ar1.toInt ≤ (gi ar0 8).toInt := Int32.le_iff_toInt_le.mp (t_nlt h4)
      refine ev_loc f_X9_takeNumber (nx := 23) rfl rfl rfl rfl ?_
      refine ev_gvI f_X9_takeNumber (nx := 26) (w := (gi ar0 8)) rfl p_a0.1 rfl rfl rfl rfl ?_
      refine ev_loc f_X9_takeNumber (nx := 27) rfl rfl rfl rfl ?_
      refine ev_if f_X9_takeNumber (t1 := 36) (t2 := 30) rfl rfl rfl (fun h10 => ?_) (fun h10 => ?_)
      · have r11 : (gi ar0 8).toInt ≤ ar2.toInt := Int32.le_iff_toInt_le.mp h10
        refine ev_loc f_X9_takeNumber (nx := 37) rfl rfl rfl rfl ?_
        refine ev_qN f_X9_takeNumber (nx := 40) (r := []) rfl rfl rfl rfl rfl rfl rfl (c_s_step hI (ar0) p_a0) rfl hX rfl (fun gi12 gl12 gr12 hI hX hC12 q12 => ?_)
        have q12 : (∀ (b : Nat → Int32) (n q : Nat), t_Sp b n q gi ar0 → t_TC b n q gi12 gl12 gr12 ar0) ∧ t_nf gi gi12 ar0 ∧ t_on ar0 gi gl gr gi12 gl12 gr12 := q12
        replace p_a0 := p_a0.ext hC12.2
        refine ev_ic f_X9_takeNumber (nx := 41) (v := 1) rfl (by decide) rfl ?_
        exact ev_ret f_X9_takeNumber rfl rfl rfl ⟨_, _, _, rfl, hI, hX, ⟨_, rfl, (Int.le_trans (by decide : (0:Int) ≤ 1) (by decide : (1:Int) ≤ (1:Int32).toInt)), (by decide : (1:Int32).toInt ≤ (1:Int)), (show (∀ (b : Nat → Int32) (n q : Nat), t_TC b n q gi gl gr ar0 → ((1 : Int) = 1 ∧ s_isV b n q ar1.toInt ar2.toInt ∧ t_TC b n (s_E b n q) gi12 gl12 gr12 ar0 ∧ t_nf gi gi12 ar0) ∨ ((1 : Int) = 0 ∧ s_K b n q ≠ 3 ∧ t_FL gi12 ar0 (s_fk b n q 2) (s_F b n q)) ∨ ((1 : Int) = 0 ∧ (s_K b n q = 3 ∧ ¬ s_isV b n q ar1.toInt ar2.toInt) ∧ t_FL gi12 ar0 (s_fk b n q 4) (s_F b n q))) ∧ t_on ar0 gi gl gr gi12 gl12 gr12 from ⟨fun b n q h => Or.inl ⟨rfl, h.vT (by omega) (by omega) (by omega), (q12.1 b n _ h.S), q12.2.1⟩, (t_on.tr t_on.rf q12.2.2)⟩)⟩⟩
      · have r13 : ar2.toInt < (gi ar0 8).toInt := Int32.lt_iff_toInt_lt.mp (t_nle h10)
        have u14 : ar2.toInt ≤ 2147483646 := t_ltu (t_nle h10) (t_hi (gi ar0 8)) rfl
        have l15 : (-2147483647) ≤ (gi ar0 8).toInt := t_ltl (t_nle h10) (t_lo ar2) rfl
        refine ev_loc f_X9_takeNumber (nx := 31) rfl rfl rfl rfl ?_
        refine ev_ic f_X9_takeNumber (nx := 32) (v := 4) rfl (by decide) rfl ?_
        refine ev_qI f_X9_takeNumber (nx := 35) (r := []) rfl rfl rfl rfl rfl rfl rfl (c_s_refuse hI (ar0) p_a0 (4) (Int.le_trans (by decide : (2:Int) ≤ 4) (by decide : (4:Int) ≤ (4:Int32).toInt)) (Int.le_trans (by decide : (4:Int32).toInt ≤ (4:Int)) (by decide : (4:Int) ≤ 7))) rfl hX rfl (fun w16 gi16 gl16 gr16 l16 u16 hI hX hC16 q16 => ?_)
        have q16 : (∀ (b : Nat → Int32) (n q : Nat), t_TC b n q gi gl gr ar0 → t_FL gi16 ar0 (s_fk b n q 4) (s_F b n q)) ∧ w16.toInt = 0 ∧ t_on ar0 gi gl gr gi16 gl16 gr16 := q16
        replace p_a0 := p_a0.ext hC16.2
        exact ev_retZ f_X9_takeNumber rfl l16 (Int.le_trans u16 (by decide : (0:Int) ≤ 1)) ⟨_, _, _, rfl, hI, hX, ⟨_, rfl, l16, (Int.le_trans u16 (by decide : (0:Int) ≤ 1)), (show (∀ (b : Nat → Int32) (n q : Nat), t_TC b n q gi gl gr ar0 → (w16.toInt = 1 ∧ s_isV b n q ar1.toInt ar2.toInt ∧ t_TC b n (s_E b n q) gi16 gl16 gr16 ar0 ∧ t_nf gi gi16 ar0) ∨ (w16.toInt = 0 ∧ s_K b n q ≠ 3 ∧ t_FL gi16 ar0 (s_fk b n q 2) (s_F b n q)) ∨ (w16.toInt = 0 ∧ (s_K b n q = 3 ∧ ¬ s_isV b n q ar1.toInt ar2.toInt) ∧ t_FL gi16 ar0 (s_fk b n q 4) (s_F b n q))) ∧ t_on ar0 gi gl gr gi16 gl16 gr16 from ⟨fun b n q h => Or.inr (Or.inr ⟨q16.2.1, h.vF (by omega) (by omega), (q16.1 b n q h)⟩), (t_on.tr t_on.rf q16.2.2)⟩)⟩⟩
  · have r17 : (gi ar0 3).toInt ≠ 1 := fun e => h1 (Int32.toInt_inj.mp (e.trans (by decide : (1:Int) = (1 : Int32).toInt)))
    refine ev_loc f_X9_takeNumber (nx := 9) rfl rfl rfl rfl ?_
    refine ev_ic f_X9_takeNumber (nx := 10) (v := 2) rfl (by decide) rfl ?_
    refine ev_qI f_X9_takeNumber (nx := 13) (r := []) rfl rfl rfl rfl rfl rfl rfl (c_s_refuse hI (ar0) p_a0 (2) (by decide : (2:Int) ≤ (2:Int32).toInt) (Int.le_trans (by decide : (2:Int32).toInt ≤ (2:Int)) (by decide : (2:Int) ≤ 7))) rfl hX rfl (fun w18 gi18 gl18 gr18 l18 u18 hI hX hC18 q18 => ?_)
    have q18 : (∀ (b : Nat → Int32) (n q : Nat), t_TC b n q gi gl gr ar0 → t_FL gi18 ar0 (s_fk b n q 2) (s_F b n q)) ∧ w18.toInt = 0 ∧ t_on ar0 gi gl gr gi18 gl18 gr18 := q18
    replace p_a0 := p_a0.ext hC18.2
    exact ev_retZ f_X9_takeNumber rfl l18 (Int.le_trans u18 (by decide : (0:Int) ≤ 1)) ⟨_, _, _, rfl, hI, hX, ⟨_, rfl, l18, (Int.le_trans u18 (by decide : (0:Int) ≤ 1)), (show (∀ (b : Nat → Int32) (n q : Nat), t_TC b n q gi gl gr ar0 → (w18.toInt = 1 ∧ s_isV b n q ar1.toInt ar2.toInt ∧ t_TC b n (s_E b n q) gi18 gl18 gr18 ar0 ∧ t_nf gi gi18 ar0) ∨ (w18.toInt = 0 ∧ s_K b n q ≠ 3 ∧ t_FL gi18 ar0 (s_fk b n q 2) (s_F b n q)) ∨ (w18.toInt = 0 ∧ (s_K b n q = 3 ∧ ¬ s_isV b n q ar1.toInt ar2.toInt) ∧ t_FL gi18 ar0 (s_fk b n q 4) (s_F b n q))) ∧ t_on ar0 gi gl gr gi18 gl18 gr18 from ⟨fun b n q h => Or.inr (Or.inl ⟨q18.2.1, h.vK (by omega), (q18.1 b n q h)⟩), (t_on.tr t_on.rf q18.2.2)⟩)⟩⟩
/-! ===== the RIVER read: what it comes to ===== -/
noncomputable def s_if {α : Type} (c : Prop) (x y : α) : α := @ite α c (Classical.propDecidable c) x y
theorem s_ifT {α : Type} {c : Prop} {x y : α} (h : c) : s_if c x y = x := @if_pos c (Classical.propDecidable c) h α x y
theorem s_ifF {α : Type} {c : Prop} {x y : α} (h : ¬ c) : s_if c x y = y := @if_neg c (Classical.propDecidable c) h α x y
/-- what was told so far: 0 PORTS, 1 SHIPS, 2 CARTS, 4 TURNS, 5 FROST, 6 from, 7 ECHO, 10 on BLASTS, 52 on SHIPS, 82 on CARTS, 200 on NAMES, 221 on what is told -/
noncomputable abbrev s_D : Type := Nat → Int
/-- a FAULT (0 none), its place; where it goes on, what is told -/
noncomputable abbrev s_R : Type := (Int × Int) × (Nat × s_D)
noncomputable def s_bad (b : Nat → Int32) (n p : Nat) (x : Int) (D : s_D) : s_R := ((s_fk b n p x, ((s_F b n p : Nat) : Int)), (p, D))
noncomputable def s_ok (p : Nat) (D : s_D) : s_R := ((0, 0), (p, D))
noncomputable def s_set (D : s_D) (i : Nat) (v : Int) : s_D := fun j => if j = i then v else D j
noncomputable def s_used (D : s_D) (x : Int) : Prop := (∃ i : Nat, (i : Int) < D 0 ∧ D (200 + i) = x) ∨ (∃ i : Nat, (i : Int) < D 1 ∧ D (206 + i) = x) ∨ ∃ i : Nat, (i : Int) < D 2 ∧ D (212 + i) = x
/-- the first place from i on, of m, with this number -/
noncomputable def s_fst (f : Nat → Int) (x : Int) : Nat → Nat → Int
  | 0, _ => -1
  | m + 1, i => if f i = x then (i : Int) else s_fst f x m (i + 1)
noncomputable def s_kw (b : Nat → Int32) (n p i : Nat) (D : s_D) (k : Nat → s_R) : s_R := s_if (s_W b n p = some i) (k (s_E b n p)) (s_bad b n p 2 D)
noncomputable def s_num (b : Nat → Int32) (n p : Nat) (lo hi : Int) (D : s_D) (k : Nat → s_R) : s_R := s_if (s_K b n p = 3) (s_if (s_isV b n p lo hi) (k (s_E b n p)) (s_bad b n p 4 D)) (s_bad b n p 2 D)
noncomputable def s_name (b : Nat → Int32) (n p : Nat) (D : s_D) (k : Nat → s_R) : s_R := s_if (s_isN b n p) (s_if (s_used D (s_L b n p).toInt) (s_bad b n p 3 D) (k (s_E b n p))) (s_bad b n p 2 D)
noncomputable def s_addP (D : s_D) (nm bl : Int) : s_D := fun j => if j = 0 then D 0 + 1 else if j = 200 + (D 0).toNat then nm else if j = 10 + (D 0).toNat then bl else D j
noncomputable def s_addS (D : s_D) (nm po at_ ta co sa : Int) : s_D := fun j => if j = 1 then D 1 + 1 else if j = 206 + (D 1).toNat then nm else if j = 52 + 5 * (D 1).toNat then po else if j = 53 + 5 * (D 1).toNat then at_ else if j = 54 + 5 * (D 1).toNat then ta else if j = 55 + 5 * (D 1).toNat then co else if j = 56 + 5 * (D 1).toNat then sa else D j
noncomputable def s_addC (D : s_D) (nm at_ ta co : Int) : s_D := fun j => if j = 2 then D 2 + 1 else if j = 212 + (D 2).toNat then nm else if j = 82 + 3 * (D 2).toNat then at_ else if j = 83 + 3 * (D 2).toNat then ta else if j = 84 + 3 * (D 2).toNat then co else D j
noncomputable def s_port (b : Nat → Int32) (n p : Nat) (D : s_D) : s_R := s_if (D 0 = 6) (s_bad b n p 6 D) (s_name b n (s_E b n p) D fun p2 => s_kw b n p2 1 D fun p3 => s_if (s_isB b n p3) (s_if (∃ i : Nat, (i : Int) < D 0 ∧ D (10 + i) = (s_L b n p3).toInt) (s_bad b n p3 5 D) (s_ok (s_E b n p3) (s_addP D (s_L b n (s_E b n p)).toInt (s_L b n p3).toInt))) (s_bad b n p3 2 D))
noncomputable def s_turns (b : Nat → Int32) (n p : Nat) (D : s_D) : s_R := s_if (D 221 = 0) (s_num b n (s_E b n p) 1 20 D fun p2 => s_ok p2 (s_set (s_set D 221 1) 4 (s_V b n (s_E b n p)))) (s_bad b n p 5 D)
noncomputable def s_frost (b : Nat → Int32) (n p : Nat) (D : s_D) : s_R := s_if (D 222 = 0) (s_num b n (s_E b n p) 0 20 D fun p2 => s_kw b n p2 4 D fun p3 => s_num b n p3 0 200 D fun p4 => s_ok p4 (s_set (s_set (s_set D 222 1) 5 (s_V b n (s_E b n p))) 6 (s_V b n p3))) (s_bad b n p 5 D)
noncomputable def s_echo (b : Nat → Int32) (n p : Nat) (D : s_D) : s_R := s_if (D 223 = 0) (s_num b n (s_E b n p) 0 9 D fun p2 => s_ok p2 (s_set (s_set D 223 1) 7 (s_V b n (s_E b n p)))) (s_bad b n p 5 D)
noncomputable def s_come (b : Nat → Int32) (n p : Nat) (D : s_D) (k : Nat → Int → Int → Int → s_R) : s_R := s_kw b n p 8 D fun p1 => s_num b n p1 0 120 D fun p2 => s_kw b n p2 9 D fun p3 => s_num b n p3 1 20 D fun p4 => s_kw b n p4 10 D fun p5 => s_num b n p5 0 99 D fun p6 => k p6 (s_V b n p1) (s_V b n p3) (s_V b n p5)
noncomputable def s_fp (D : s_D) (x : Int) : Int := s_fst (fun i => D (200 + i)) x (D 0).toNat 0
noncomputable def s_ship (b : Nat → Int32) (n p : Nat) (D : s_D) : s_R := s_if (D 1 = 6) (s_bad b n p 6 D) (s_name b n (s_E b n p) D fun p2 => s_kw b n p2 7 D fun p3 => s_if (s_isN b n p3) (s_if (s_fp D (s_L b n p3).toInt = -1) (s_bad b n p3 3 D) (s_come b n (s_E b n p3) D fun p5 at_ ta co => s_if (s_W b n p5 = some 11) (s_ok (s_E b n p5) (s_addS D (s_L b n (s_E b n p)).toInt (s_fp D (s_L b n p3).toInt) at_ ta co 1)) (s_ok p5 (s_addS D (s_L b n (s_E b n p)).toInt (s_fp D (s_L b n p3).toInt) at_ ta co 0)))) (s_bad b n p3 2 D))
noncomputable def s_cart (b : Nat → Int32) (n p : Nat) (D : s_D) : s_R := s_if (D 2 = 6) (s_bad b n p 6 D) (s_name b n (s_E b n p) D fun p2 => s_come b n p2 D fun p3 at_ ta co => s_ok p3 (s_addC D (s_L b n (s_E b n p)).toInt at_ ta co))
noncomputable def s_part (b : Nat → Int32) (n p : Nat) (D : s_D) : s_R := s_if (s_W b n p = some 0) (s_port b n p D) (s_if (s_W b n p = some 2) (s_turns b n p D) (s_if (s_W b n p = some 3) (s_frost b n p D) (s_if (s_W b n p = some 5) (s_echo b n p D) (s_if (s_W b n p = some 6) (s_ship b n p D) (s_if (s_W b n p = some 12) (s_cart b n p D) (s_bad b n p 2 D))))))
noncomputable def s_semi (b : Nat → Int32) (n : Nat) (r : s_R) : s_R := s_if (r.1.1 = 0) (s_if (s_isS b n r.2.1 59) (s_ok (s_E b n r.2.1) r.2.2) (s_bad b n r.2.1 2 r.2.2)) r
noncomputable def s_rv (b : Nat → Int32) (n : Nat) : Nat → Nat → s_D → s_R
  | 0, p, D => s_ok p D
  | m + 1, p, D => s_if (s_K b n p = 0) (s_ok p D) (s_if ((s_semi b n (s_part b n p D)).1.1 = 0) (s_rv b n m (s_semi b n (s_part b n p D)).2.1 (s_semi b n (s_part b n p D)).2.2) (s_semi b n (s_part b n p D)))
noncomputable def s_D0 : s_D := fun j => if j = 4 then 5 else 0
theorem s_fk_ne {b : Nat → Int32} {n p : Nat} {x : Int} (h : x ≠ 0) : s_fk b n p x ≠ 0 := by
  unfold s_fk; split
  · decide
  · exact h
/-- the sound of letters, as it is reckoned -/
noncomputable def s_snr : Nat → Int64 → Int64 → Int64
  | 0, _, s => s
  | m + 1, x, s => if x = 0 then s else s_snr m (x / 32) (if x - x / 32 * 32 = 12 then 7 ||| s <<< ((4 : Int32).toInt64 &&& 63) else 1 ||| s <<< ((2 : Int32).toInt64 &&& 63))
noncomputable def s_snd (x : Int64) : Int64 := s_snr 6 x 0
theorem s_snr_0 {m : Nat} {x s : Int64} (hx : x = 0) : s_snr m x s = s := by
  cases m with
  | zero => rfl
  | succ m => show (if x = 0 then s else _) = s; rw [if_pos hx]
theorem s_snr_t {m : Nat} {x x' s s' w : Int64} (hx : x ≠ 0) (hr : x - x / 32 * 32 = 12) (e1 : x' = x / 32) (ew : w = s <<< ((4 : Int32).toInt64 &&& 63)) (e2 : s' = 7 ||| w) : s_snr (m + 1) x s = s_snr m x' s' := by
  show (if x = 0 then s else s_snr m (x / 32) (if x - x / 32 * 32 = 12 then _ else _)) = _
  rw [if_neg hx, if_pos hr, e1, e2, ew]
theorem s_snr_f {m : Nat} {x x' s s' w : Int64} (hx : x ≠ 0) (hr : ¬ x - x / 32 * 32 = 12) (e1 : x' = x / 32) (ew : w = s <<< ((2 : Int32).toInt64 &&& 63)) (e2 : s' = 1 ||| w) : s_snr (m + 1) x s = s_snr m x' s' := by
  show (if x = 0 then s else s_snr m (x / 32) (if x - x / 32 * 32 = 12 then _ else _)) = _
  rw [if_neg hx, if_neg hr, e1, e2, ew]
/-! ===== the class's reader: what stands in its cells ===== -/
section LAY
variable (sh : List (Nat ⊕ (Nat × Nat))) (gr : Nat → Nat → Value)
noncomputable def t_LQ (k : Nat) : Prop := sh[k]? = some (.inl 3) ∧ 102 ≤ k ∧ (gr k 1 = .ref (k + 1) ∧ sh[k + 1]? = some (.inr (0, 6))) ∧ (gr k 2 = .ref (k + 2) ∧ sh[k + 2]? = some (.inr (0, 6))) ∧ (gr k 3 = .ref (k + 3) ∧ sh[k + 3]? = some (.inr (0, 6))) ∧ (gr k 4 = .ref (k + 4) ∧ sh[k + 4]? = some (.inr (0, 6))) ∧ gr k 5 = .ref (k + 5) ∧ sh[k + 5]? = some (.inr (3, 6))
noncomputable def t_VQ (k : Nat) : Prop := sh[k]? = some (.inl 4) ∧ 102 ≤ k ∧ (gr k 1 = .ref (k + 1) ∧ sh[k + 1]? = some (.inr (1, 6))) ∧ (gr k 2 = .ref (k + 2) ∧ sh[k + 2]? = some (.inr (1, 6))) ∧ (gr k 8 = .ref (k + 9) ∧ sh[k + 9]? = some (.inr (0, 6))) ∧ (gr k 7 = .ref (k + 3) ∧ t_LQ sh gr (k + 3)) ∧ gr k 9 = .ref (k + 10) ∧ t_LQ sh gr (k + 10)
noncomputable def t_RQ (k : Nat) : Prop := sh[k]? = some (.inl 5) ∧ 102 ≤ k ∧ (gr k 2 = .ref (k + 18) ∧ sh[k + 18]? = some (.inr (1, 6))) ∧ (gr k 3 = .ref (k + 19) ∧ sh[k + 19]? = some (.inr (1, 18))) ∧ (gr k 0 = .ref (k + 1) ∧ t_Tk sh gr (k + 1)) ∧ gr k 1 = .ref (k + 2) ∧ t_VQ sh gr (k + 2)
end LAY
section LAY2
variable {sh : List (Nat ⊕ (Nat × Nat))} {gr gr' : Nat → Nat → Value} {k : Nat}
theorem t_LQ.ext (h : t_LQ sh gr k) (he : t_eqf sh gr gr') : t_LQ sh gr' k := by
  obtain ⟨h0, h1, h2, h3, h4, h5, h6, h7⟩ := h
  exact ⟨h0, h1, ⟨by rw [he k 3 1 h0 rfl]; exact h2.1, h2.2⟩, ⟨by rw [he k 3 2 h0 rfl]; exact h3.1, h3.2⟩, ⟨by rw [he k 3 3 h0 rfl]; exact h4.1, h4.2⟩, ⟨by rw [he k 3 4 h0 rfl]; exact h5.1, h5.2⟩, by rw [he k 3 5 h0 rfl]; exact h6, h7⟩
theorem t_VQ.ext (h : t_VQ sh gr k) (he : t_eqf sh gr gr') : t_VQ sh gr' k := by
  obtain ⟨h0, h1, h2, h3, h4, h5, h6, h7⟩ := h
  exact ⟨h0, h1, ⟨by rw [he k 4 1 h0 rfl]; exact h2.1, h2.2⟩, ⟨by rw [he k 4 2 h0 rfl]; exact h3.1, h3.2⟩, ⟨by rw [he k 4 8 h0 rfl]; exact h4.1, h4.2⟩, ⟨by rw [he k 4 7 h0 rfl]; exact h5.1, h5.2.ext he⟩, by rw [he k 4 9 h0 rfl]; exact h6, h7.ext he⟩
theorem t_RQ.ext (h : t_RQ sh gr k) (he : t_eqf sh gr gr') : t_RQ sh gr' k := by
  obtain ⟨h0, h1, h2, h3, h4, h5, h6⟩ := h
  exact ⟨h0, h1, ⟨by rw [he k 5 2 h0 rfl]; exact h2.1, h2.2⟩, ⟨by rw [he k 5 3 h0 rfl]; exact h3.1, h3.2⟩, ⟨by rw [he k 5 0 h0 rfl]; exact h4.1, h4.2.ext he⟩, by rw [he k 5 1 h0 rfl]; exact h5, h6.ext he⟩
end LAY2
/-- NAMES, as many as m: those that P says -/
noncomputable def t_Cn (gi : Nat → Nat → Int32) (gl : Nat → Nat → Int64) (r : Nat) (m : Int) (P : Int → Prop) : Prop := (gi r 4).toInt = m ∧ ∀ x : Int, (∃ i : Nat, (i : Int) < m ∧ (gl (r + 19) i).toInt = x) ↔ P x
noncomputable def t_Cp (gi : Nat → Nat → Int32) (gl : Nat → Nat → Int64) (r : Nat) (D : s_D) : Prop := (gi (r + 2) 0).toInt = D 0 ∧ ∀ i : Nat, (i : Int) < D 0 → (gl (r + 18) i).toInt = D (200 + i) ∧ (gl (r + 2 + 1) i).toInt = D (10 + i) ∧ gl (r + 2 + 2) i = s_snd (gl (r + 2 + 1) i)
noncomputable def t_Cq (gi : Nat → Nat → Int32) (r : Nat) (D : s_D) : Prop := ((gi (r + 2) 3).toInt = D 4 ∧ (gi (r + 2) 4).toInt = D 5 ∧ (gi (r + 2) 5).toInt = D 6 ∧ (gi (r + 2) 6).toInt = D 7) ∧ (gi r 5).toInt = D 221 ∧ (gi r 6).toInt = D 222 ∧ (gi r 7).toInt = D 223
noncomputable def t_Cs (gi : Nat → Nat → Int32) (r : Nat) (D : s_D) : Prop := (gi (r + 2 + 3) 0).toInt = D 1 ∧ ∀ s : Nat, (s : Int) < D 1 → (gi (r + 2 + 9) s).toInt = D (52 + 5 * s) ∧ (gi (r + 2 + 3 + 2) s).toInt = D (53 + 5 * s) ∧ (gi (r + 2 + 3 + 3) s).toInt = D (54 + 5 * s) ∧ (gi (r + 2 + 3 + 4) s).toInt = D (55 + 5 * s) ∧ (gi (r + 2 + 3 + 5) s).toInt = D (56 + 5 * s)
noncomputable def t_Cc (gi : Nat → Nat → Int32) (r : Nat) (D : s_D) : Prop := (gi (r + 2 + 10) 0).toInt = D 2 ∧ ∀ c : Nat, (c : Int) < D 2 → (gi (r + 2 + 10 + 2) c).toInt = D (82 + 3 * c) ∧ (gi (r + 2 + 10 + 3) c).toInt = D (83 + 3 * c) ∧ (gi (r + 2 + 10 + 4) c).toInt = D (84 + 3 * c) ∧ (gi (r + 2 + 10 + 5) c).toInt = 0
noncomputable def t_Cb (D : s_D) : Prop := (0 ≤ D 0 ∧ D 0 ≤ 6) ∧ (0 ≤ D 1 ∧ D 1 ≤ 6) ∧ 0 ≤ D 2 ∧ D 2 ≤ 6
noncomputable def t_CR (gi : Nat → Nat → Int32) (gl : Nat → Nat → Int64) (r : Nat) (D : s_D) (m : Int) (P : Int → Prop) : Prop := t_Cb D ∧ t_Cn gi gl r m P ∧ t_Cp gi gl r D ∧ t_Cq gi r D ∧ t_Cs gi r D ∧ t_Cc gi r D
/-- the reader stands at q with D told -/
noncomputable def t_CS (b : Nat → Int32) (n q : Nat) (D : s_D) (m : Int) (P : Int → Prop) (gi : Nat → Nat → Int32) (gl : Nat → Nat → Int64) (gr : Nat → Nat → Value) (r : Nat) : Prop := t_TC b n q gi gl gr (r + 1) ∧ t_CR gi gl r D m P ∧ t_FL gi (r + 1) 0 (-1)
noncomputable def t_CN (b : Nat → Int32) (n q : Nat) (D : s_D) (gi : Nat → Nat → Int32) (gl : Nat → Nat → Int64) (gr : Nat → Nat → Value) (r : Nat) : Prop := t_CS b n q D (D 0 + D 1 + D 2) (s_used D) gi gl gr r
/-- the cells below r are as they were -/
noncomputable def t_lq (r : Nat) (gi : Nat → Nat → Int32) (gl : Nat → Nat → Int64) (gr : Nat → Nat → Value) (g1 : Nat → Nat → Int32) (l1 : Nat → Nat → Int64) (r1 : Nat → Nat → Value) : Prop := ∀ K, K < r → g1 K = gi K ∧ l1 K = gl K ∧ r1 K = gr K
/-- but these cells all are as they were -/
noncomputable def t_xc (S : List Nat) (gi : Nat → Nat → Int32) (gl : Nat → Nat → Int64) (gr : Nat → Nat → Value) (g1 : Nat → Nat → Int32) (l1 : Nat → Nat → Int64) (r1 : Nat → Nat → Value) : Prop := ∀ K, (∀ x, x ∈ S → K ≠ x) → g1 K = gi K ∧ l1 K = gl K ∧ r1 K = gr K
section CELLS
variable {k r : Nat} {gi g1 g2 : Nat → Nat → Int32} {gl l1 l2 : Nat → Nat → Int64} {gr r1 r2 : Nat → Nat → Value} {S S' : List Nat}
theorem t_lq.rf : t_lq r gi gl gr gi gl gr := fun _ _ => ⟨rfl, rfl, rfl⟩
theorem t_lq.tr (h : t_lq r gi gl gr g1 l1 r1) (h' : t_lq r g1 l1 r1 g2 l2 r2) : t_lq r gi gl gr g2 l2 r2 := fun K hK => ⟨(h' K hK).1.trans (h K hK).1, (h' K hK).2.1.trans (h K hK).2.1, (h' K hK).2.2.trans (h K hK).2.2⟩
theorem t_lq.I {j : Nat} {v : Int32} (h : t_lq r gi gl gr g1 l1 r1) (hr : r ≤ k) (e : g2 = x_up2 g1 k j v) : t_lq r gi gl gr g2 l1 r1 := fun K hK => ⟨by rw [e, x_up2_ne (by omega)]; exact (h K hK).1, (h K hK).2⟩
theorem t_lq.L {j : Nat} {v : Int64} (h : t_lq r gi gl gr g1 l1 r1) (hr : r ≤ k) (e : l2 = x_up2 l1 k j v) : t_lq r gi gl gr g1 l2 r1 := fun K hK => ⟨(h K hK).1, by rw [e, x_up2_ne (by omega)]; exact (h K hK).2.1, (h K hK).2.2⟩
theorem t_lq.on (h : t_lq r gi gl gr g1 l1 r1) (h' : t_on k g1 l1 r1 g2 l2 r2) (hr : r ≤ k) : t_lq r gi gl gr g2 l2 r2 := fun K hK => have q := h' K (by omega); ⟨q.1.trans (h K hK).1, q.2.1.trans (h K hK).2.1, q.2.2.trans (h K hK).2.2⟩
theorem t_lq.ex (h : t_lq r gi gl gr g1 l1 r1) (h' : t_xc S g1 l1 r1 g2 l2 r2) (hr : ∀ x, x ∈ S → r ≤ x) : t_lq r gi gl gr g2 l2 r2 := fun K hK => have q := h' K (fun x hx => by have := hr x hx; omega); ⟨q.1.trans (h K hK).1, q.2.1.trans (h K hK).2.1, q.2.2.trans (h K hK).2.2⟩
theorem t_xc.rf : t_xc S gi gl gr gi gl gr := fun _ _ => ⟨rfl, rfl, rfl⟩
theorem t_xc.tr (h : t_xc S gi gl gr g1 l1 r1) (h' : t_xc S' g1 l1 r1 g2 l2 r2) (hs : ∀ x, x ∈ S' → x ∈ S) : t_xc S gi gl gr g2 l2 r2 := fun K hK => have q := h' K (fun x hx => hK x (hs x hx)); ⟨q.1.trans (h K hK).1, q.2.1.trans (h K hK).2.1, q.2.2.trans (h K hK).2.2⟩
theorem t_xc.I {j : Nat} {v : Int32} (h : t_xc S gi gl gr g1 l1 r1) (hk : k ∈ S) (e : g2 = x_up2 g1 k j v) : t_xc S gi gl gr g2 l1 r1 := fun K hK => ⟨by rw [e, x_up2_ne (hK k hk)]; exact (h K hK).1, (h K hK).2⟩
theorem t_xc.L {j : Nat} {v : Int64} (h : t_xc S gi gl gr g1 l1 r1) (hk : k ∈ S) (e : l2 = x_up2 l1 k j v) : t_xc S gi gl gr g1 l2 r1 := fun K hK => ⟨(h K hK).1, by rw [e, x_up2_ne (hK k hk)]; exact (h K hK).2.1, (h K hK).2.2⟩
theorem t_xc.on (h : t_xc S gi gl gr g1 l1 r1) (h' : t_on k g1 l1 r1 g2 l2 r2) (hk : k ∈ S) : t_xc S gi gl gr g2 l2 r2 := fun K hK => have q := h' K (hK k hk); ⟨q.1.trans (h K hK).1, q.2.1.trans (h K hK).2.1, q.2.2.trans (h K hK).2.2⟩
theorem t_on.ex (h : t_on k gi gl gr g1 l1 r1) : t_xc [k] gi gl gr g1 l1 r1 := fun K hK => h K (hK k (List.mem_cons_self))
end CELLS
section RVL
variable {b : Nat → Int32} {n p q p' m : Nat} {D D' : s_D} {x : Int}
theorem s_part_0 (h : s_W b n p = some 0) : s_part b n p D = s_port b n p D := by unfold s_part; rw [s_ifT h]
theorem s_part_2 (h : s_W b n p = some 2) : s_part b n p D = s_turns b n p D := by unfold s_part; rw [s_ifF (by rw [h]; decide), s_ifT h]
theorem s_part_3 (h : s_W b n p = some 3) : s_part b n p D = s_frost b n p D := by unfold s_part; rw [s_ifF (by rw [h]; decide), s_ifF (by rw [h]; decide), s_ifT h]
theorem s_part_5 (h : s_W b n p = some 5) : s_part b n p D = s_echo b n p D := by unfold s_part; rw [s_ifF (by rw [h]; decide), s_ifF (by rw [h]; decide), s_ifF (by rw [h]; decide), s_ifT h]
theorem s_part_6 (h : s_W b n p = some 6) : s_part b n p D = s_ship b n p D := by unfold s_part; rw [s_ifF (by rw [h]; decide), s_ifF (by rw [h]; decide), s_ifF (by rw [h]; decide), s_ifF (by rw [h]; decide), s_ifT h]
theorem s_part_12 (h : s_W b n p = some 12) : s_part b n p D = s_cart b n p D := by unfold s_part; rw [s_ifF (by rw [h]; decide), s_ifF (by rw [h]; decide), s_ifF (by rw [h]; decide), s_ifF (by rw [h]; decide), s_ifF (by rw [h]; decide), s_ifT h]
theorem s_part_x (h0 : s_W b n p ≠ some 0) (h2 : s_W b n p ≠ some 2) (h3 : s_W b n p ≠ some 3) (h5 : s_W b n p ≠ some 5) (h6 : s_W b n p ≠ some 6) (h12 : s_W b n p ≠ some 12) : s_part b n p D = s_bad b n p 2 D := by unfold s_part; rw [s_ifF h0, s_ifF h2, s_ifF h3, s_ifF h5, s_ifF h6, s_ifF h12]
theorem s_semi_ok (hp : s_part b n p D = s_ok q D') (hs : s_isS b n q 59) : s_semi b n (s_part b n p D) = s_ok (s_E b n q) D' := by
  rw [hp]; unfold s_semi; rw [s_ifT (show (s_ok q D').1.1 = 0 from rfl), s_ifT (show s_isS b n (s_ok q D').2.1 59 from hs)]; rfl
theorem s_rv_ok (hK : s_K b n p ≠ 0) (hp : s_part b n p D = s_ok q D') (hs : s_isS b n q 59) : s_rv b n (m + 1) p D = s_rv b n m (s_E b n q) D' := by
  show s_if _ _ _ = _
  rw [s_ifF hK, s_semi_ok hp hs, s_ifT (show (s_ok (s_E b n q) D').1.1 = 0 from rfl)]; rfl
theorem s_rv_b1 (hK : s_K b n p ≠ 0) (hx : x ≠ 0) (hp : s_part b n p D = s_bad b n p' x D') : s_rv b n (m + 1) p D = s_bad b n p' x D' := by
  have h1 : ¬ (s_bad b n p' x D').1.1 = 0 := s_fk_ne hx
  have h2 : s_semi b n (s_part b n p D) = s_bad b n p' x D' := by rw [hp]; unfold s_semi; rw [s_ifF h1]
  show s_if _ _ _ = _
  rw [s_ifF hK, h2, s_ifF h1]
theorem s_rv_b2 (hK : s_K b n p ≠ 0) (hp : s_part b n p D = s_ok q D') (hs : ¬ s_isS b n q 59) : s_rv b n (m + 1) p D = s_bad b n q 2 D' := by
  have h1 : ¬ (s_bad b n q 2 D').1.1 = 0 := s_fk_ne (by decide)
  have h2 : s_semi b n (s_part b n p D) = s_bad b n q 2 D' := by
    rw [hp]; unfold s_semi; rw [s_ifT (show (s_ok q D').1.1 = 0 from rfl), s_ifF (show ¬ s_isS b n (s_ok q D').2.1 59 from hs)]; rfl
  show s_if _ _ _ = _
  rw [s_ifF hK, h2, s_ifF h1]
theorem s_rv_e (hK : s_K b n p = 0) : s_rv b n m p D = s_ok p D := by
  cases m with
  | zero => rfl
  | succ m => show s_if _ _ _ = _; rw [s_ifT hK]
end RVL
/-! ===== the class's reader: how its cells change ===== -/
section CRL
variable {b : Nat → Int32} {n q q' k r : Nat} {gi g1 g2 : Nat → Nat → Int32} {gl l1 l2 : Nat → Nat → Int64} {gr r1 r2 : Nat → Nat → Value} {S : List Nat} {D D' : s_D} {m m' : Int} {P P' : Int → Prop}
theorem t_CR.eqs (h : t_CR gi gl r D m P) (hr : ∀ c, c ≤ 19 → c ≠ 1 → g1 (r + c) = gi (r + c) ∧ l1 (r + c) = gl (r + c)) : t_CR g1 l1 r D m P := by
  have e := fun c h1 h2 => (hr c h1 h2).1
  have f := fun c h1 h2 => (hr c h1 h2).2
  have e0 : g1 r = gi r := e 0 (by decide) (by decide)
  have e2 : g1 (r + 2) = gi (r + 2) := e 2 (by decide) (by decide)
  obtain ⟨hb, ⟨n1, n2⟩, ⟨p1, p2⟩, ⟨⟨q1, q2, q3, q4⟩, q5, q6, q7⟩, ⟨s1, s2⟩, c1, c2⟩ := h
  refine ⟨hb, ⟨by rw [e0]; exact n1, ?_⟩, ⟨by rw [e2]; exact p1, ?_⟩, ⟨⟨by rw [e2]; exact q1, by rw [e2]; exact q2, by rw [e2]; exact q3, by rw [e2]; exact q4⟩, by rw [e0]; exact q5, by rw [e0]; exact q6, by rw [e0]; exact q7⟩, ⟨?_, ?_⟩, ?_, ?_⟩
  · rw [show l1 (r + 19) = gl (r + 19) from f 19 (by decide) (by decide)]; exact n2
  · rw [show l1 (r + 18) = gl (r + 18) from f 18 (by decide) (by decide), show l1 (r + 2 + 1) = gl (r + 2 + 1) from f 3 (by decide) (by decide), show l1 (r + 2 + 2) = gl (r + 2 + 2) from f 4 (by decide) (by decide)]; exact p2
  · rw [show g1 (r + 2 + 3) = gi (r + 2 + 3) from e 5 (by decide) (by decide)]; exact s1
  · rw [show g1 (r + 2 + 9) = gi (r + 2 + 9) from e 11 (by decide) (by decide), show g1 (r + 2 + 3 + 2) = gi (r + 2 + 3 + 2) from e 7 (by decide) (by decide), show g1 (r + 2 + 3 + 3) = gi (r + 2 + 3 + 3) from e 8 (by decide) (by decide), show g1 (r + 2 + 3 + 4) = gi (r + 2 + 3 + 4) from e 9 (by decide) (by decide), show g1 (r + 2 + 3 + 5) = gi (r + 2 + 3 + 5) from e 10 (by decide) (by decide)]; exact s2
  · rw [show g1 (r + 2 + 10) = gi (r + 2 + 10) from e 12 (by decide) (by decide)]; exact c1
  · rw [show g1 (r + 2 + 10 + 2) = gi (r + 2 + 10 + 2) from e 14 (by decide) (by decide), show g1 (r + 2 + 10 + 3) = gi (r + 2 + 10 + 3) from e 15 (by decide) (by decide), show g1 (r + 2 + 10 + 4) = gi (r + 2 + 10 + 4) from e 16 (by decide) (by decide), show g1 (r + 2 + 10 + 5) = gi (r + 2 + 10 + 5) from e 17 (by decide) (by decide)]; exact c2
theorem t_TC.eq (h : t_TC b n q gi gl gr k) (e2 : g1 2 = gi 2) (e : g1 k = gi k) (el : l1 k = gl k) (er : r1 k = gr k) : t_TC b n q g1 l1 r1 k := by
  unfold t_TC; rw [e2, e, el, er]; exact h
/-- a TOKEN more, nothing else -/
theorem t_CS.on (h : t_CS b n q D m P gi gl gr r) (ht : t_TC b n q' g1 l1 r1 (r + 1)) (hf : t_nf gi g1 (r + 1)) (ho : t_on (r + 1) gi gl gr g1 l1 r1) : t_CS b n q' D m P g1 l1 r1 r :=
  ⟨ht, h.2.1.eqs (fun c _ hc1 => ⟨(ho (r + c) (by omega)).1, (ho (r + c) (by omega)).2.1⟩), by rw [hf.1]; exact h.2.2.1, by rw [hf.2]; exact h.2.2.2⟩
/-- other cells of the reader -/
theorem t_CS.mk (h : t_CS b n q D m P gi gl gr r) (f : t_xc S gi gl gr g1 l1 r1) (h1 : ∀ x, x ∈ S → r + 1 ≠ x ∧ 2 ≠ x) (hR : t_CR g1 l1 r D' m' P') : t_CS b n q D' m' P' g1 l1 r1 r := by
  have f1 := f (r + 1) (fun x hx => (h1 x hx).1)
  have f2 := f 2 (fun x hx => (h1 x hx).2)
  exact ⟨h.1.eq f2.1 f1.1 f1.2.1 f1.2.2, hR, by rw [f1.1]; exact h.2.2.1, by rw [f1.1]; exact h.2.2.2⟩
/-- a NAME more -/
theorem t_CR.nm (h : t_CR gi gl r D m P) {p z : Int32} {X : Int64} (hp : p.toInt = m) (hm : 0 ≤ m) (hz : z.toInt = p.toInt + 1) (e1 : l1 = x_up2 gl (r + 19) p.toNatClampNeg X) (e2 : g1 = x_up2 gi r 4 z) : t_CR g1 l1 r D (m + 1) (fun x => P x ∨ x = X.toInt) := by
  have hc := t_clamp (i := p) (by omega)
  have hr : ∀ K, K ≠ r → g1 K = gi K := fun K hK => by rw [e2, x_up2_ne hK]
  have hl : ∀ K, K ≠ r + 19 → l1 K = gl K := fun K hK => by rw [e1, x_up2_ne hK]
  have hf : ∀ j, j ≠ 4 → g1 r j = gi r j := fun j hj => by rw [e2, x_up2_off (Or.inr hj)]
  obtain ⟨hb, ⟨n1, n2⟩, ⟨p1, p2⟩, ⟨⟨q1, q2, q3, q4⟩, q5, q6, q7⟩, ⟨s1, s2⟩, c1, c2⟩ := h
  refine ⟨hb, ⟨?_, fun x => ?_⟩, ⟨by rw [hr _ (by omega)]; exact p1, by rw [hl _ (by omega), hl _ (by omega), hl _ (by omega)]; exact p2⟩, ⟨⟨by rw [hr _ (by omega)]; exact q1, by rw [hr _ (by omega)]; exact q2, by rw [hr _ (by omega)]; exact q3, by rw [hr _ (by omega)]; exact q4⟩, by rw [hf _ (by decide)]; exact q5, by rw [hf _ (by decide)]; exact q6, by rw [hf _ (by decide)]; exact q7⟩, ⟨by rw [hr _ (by omega)]; exact s1, by rw [hr _ (by omega), hr _ (by omega), hr _ (by omega), hr _ (by omega), hr _ (by omega)]; exact s2⟩, by rw [hr _ (by omega)]; exact c1, by rw [hr _ (by omega), hr _ (by omega), hr _ (by omega), hr _ (by omega)]; exact c2⟩
  · rw [e2, x_up2_at]; omega
  · show _ ↔ P x ∨ x = X.toInt
    rw [← n2 x]
    constructor
    · rintro ⟨i, hi, hx⟩
      by_cases hip : i = p.toNatClampNeg
      · right; rw [e1, hip, x_up2_at] at hx; exact hx.symm
      · left; rw [e1, x_up2_off (Or.inr hip)] at hx; exact ⟨i, by omega, hx⟩
    · rintro (⟨i, hi, hx⟩ | hx)
      · exact ⟨i, by omega, by rw [e1, x_up2_off (Or.inr (by omega))]; exact hx⟩
      · exact ⟨p.toNatClampNeg, by omega, by rw [e1, x_up2_at]; exact hx.symm⟩
theorem t_CR.to (h : t_CR gi gl r D m P) (hm : m = m') (hP : ∀ x, P x ↔ P' x) : t_CR gi gl r D m' P' := by
  obtain ⟨hb, ⟨n1, n2⟩, h3⟩ := h
  exact ⟨hb, ⟨by rw [n1, hm], fun x => by rw [← hm, n2 x, hP x]⟩, h3⟩
theorem t_CR.fnd (h : t_CR gi gl r D m P) {i : Nat} {w X : Int64} (hi : (i : Int) < m) (ew : w = gl (r + 19) i) (hw : w = X) : P X.toInt := (h.2.1.2 _).mp ⟨i, hi, by rw [← ew, hw]⟩
theorem t_CR.nfnd (h : t_CR gi gl r D m P) {p : Int32} {X : Int64} (hp : m ≤ p.toInt) (hj : ∀ j : Nat, (j : Int) < p.toInt → gl (r + 19) j ≠ X) : ¬ P X.toInt := fun hh => by
  obtain ⟨i, hi, hx⟩ := (h.2.1.2 _).mpr hh
  exact hj i (by omega) (Int64.toInt_inj.mp hx)
theorem s_addP_o {nm bl : Int} {j : Nat} (h0 : j ≠ 0) (h1 : j ≠ 200 + (D 0).toNat) (h2 : j ≠ 10 + (D 0).toNat) : s_addP D nm bl j = D j := by
  unfold s_addP; rw [if_neg h0, if_neg h1, if_neg h2]
theorem t_CR.port (h : t_CR gi gl r D m P) {p z : Int32} {X Y : Int64} {nm : Int} (hp : p.toInt = D 0) (h6 : D 0 < 6) (hn : (gl (r + 18) p.toNatClampNeg).toInt = nm) (hY : Y = s_snd X) (hz : z.toInt = p.toInt + 1) (e1 : l1 = x_up2 gl (r + 2 + 1) p.toNatClampNeg X) (e2 : l2 = x_up2 l1 (r + 2 + 2) p.toNatClampNeg Y) (e3 : g1 = x_up2 gi (r + 2) 0 z) : t_CR g1 l2 r (s_addP D nm X.toInt) m P := by
  have hr : ∀ K, K ≠ r + 2 → g1 K = gi K := fun K hK => by rw [e3, x_up2_ne hK]
  have hl : ∀ K, K ≠ r + 2 + 1 → K ≠ r + 2 + 2 → l2 K = gl K := fun K hK hK2 => by rw [e2, x_up2_ne hK2, e1, x_up2_ne hK]
  have hf : ∀ j, j ≠ 0 → g1 (r + 2) j = gi (r + 2) j := fun j hj => by rw [e3, x_up2_off (Or.inr hj)]
  have hB : ∀ i, l2 (r + 2 + 1) i = x_up2 gl (r + 2 + 1) p.toNatClampNeg X (r + 2 + 1) i := fun i => by rw [e2, x_up2_ne (by omega), e1]
  have hC : ∀ i, l2 (r + 2 + 2) i = if i = p.toNatClampNeg then Y else gl (r + 2 + 2) i := fun i => by rw [e2, x_up2_same, e1, x_up2_ne (by omega)]
  obtain ⟨⟨⟨b1, b2⟩, ⟨b3, b4⟩, b5, b6⟩, ⟨n1, n2⟩, ⟨p1, p2⟩, ⟨⟨q1, q2, q3, q4⟩, q5, q6, q7⟩, ⟨s1, s2⟩, c1, c2⟩ := h
  have hc := t_clamp (i := p) (by omega)
  have a0 : s_addP D nm X.toInt 0 = D 0 + 1 := by unfold s_addP; rw [if_pos rfl]
  have ao : ∀ j : Nat, j ≠ 0 → (j < 10 ∨ (16 ≤ j ∧ j < 200) ∨ 206 ≤ j) → s_addP D nm X.toInt j = D j := fun j h0 hj => s_addP_o h0 (by omega) (by omega)
  refine ⟨⟨⟨?_, ?_⟩, ⟨?_, ?_⟩, ?_, ?_⟩, ⟨by rw [hr _ (by omega)]; exact n1, by rw [hl _ (by omega) (by omega)]; exact n2⟩, ⟨?_, fun i hi => ?_⟩, ⟨⟨?_, ?_, ?_, ?_⟩, ?_, ?_, ?_⟩, ⟨?_, fun s hs => ?_⟩, ?_, fun c hcc => ?_⟩
  · rw [a0]; omega
  · rw [a0]; omega
  · rw [ao 1 (by decide) (by omega)]; exact b3
  · rw [ao 1 (by decide) (by omega)]; exact b4
  · rw [ao 2 (by decide) (by omega)]; exact b5
  · rw [ao 2 (by decide) (by omega)]; exact b6
  · rw [a0, e3, x_up2_at]; omega
  · rw [a0] at hi
    rw [hl (r + 18) (by omega) (by omega), hB i, hC i]
    by_cases hip : i = p.toNatClampNeg
    · have hd : i = (D 0).toNat := by omega
      rw [hip, x_up2_at, if_pos rfl, ← hip]
      refine ⟨?_, ?_, hY⟩
      · rw [hip, hn]; unfold s_addP; rw [if_neg (by omega), if_pos (by omega)]
      · unfold s_addP; rw [if_neg (by omega), if_neg (by omega), if_pos (by omega)]
    · rw [x_up2_off (Or.inr hip), if_neg hip]
      have := p2 i (by omega)
      rw [s_addP_o (by omega) (by omega) (by omega), s_addP_o (by omega) (by omega) (by omega)]
      exact this
  · rw [ao 4 (by decide) (by omega), hf _ (by decide)]; exact q1
  · rw [ao 5 (by decide) (by omega), hf _ (by decide)]; exact q2
  · rw [ao 6 (by decide) (by omega), hf _ (by decide)]; exact q3
  · rw [ao 7 (by decide) (by omega), hf _ (by decide)]; exact q4
  · rw [ao 221 (by decide) (by omega), hr _ (by omega)]; exact q5
  · rw [ao 222 (by decide) (by omega), hr _ (by omega)]; exact q6
  · rw [ao 223 (by decide) (by omega), hr _ (by omega)]; exact q7
  · rw [ao 1 (by decide) (by omega), hr _ (by omega)]; exact s1
  · rw [ao 1 (by decide) (by omega)] at hs
    rw [ao _ (by omega) (by omega), ao _ (by omega) (by omega), ao _ (by omega) (by omega), ao _ (by omega) (by omega), ao _ (by omega) (by omega), hr _ (by omega), hr _ (by omega), hr _ (by omega), hr _ (by omega), hr _ (by omega)]
    exact s2 s hs
  · rw [ao 2 (by decide) (by omega), hr _ (by omega)]; exact c1
  · rw [ao 2 (by decide) (by omega)] at hcc
    rw [ao _ (by omega) (by omega), ao _ (by omega) (by omega), ao _ (by omega) (by omega), hr _ (by omega), hr _ (by omega), hr _ (by omega), hr _ (by omega)]
    exact c2 c hcc
theorem s_used_P {nm bl : Int} (hb : t_Cb D) (h6 : D 0 < 6) (x : Int) : (s_used D x ∨ x = nm) ↔ s_used (s_addP D nm bl) x := by
  obtain ⟨⟨b1, b2⟩, ⟨b3, b4⟩, b5, b6⟩ := hb
  have a0 : s_addP D nm bl 0 = D 0 + 1 := by unfold s_addP; rw [if_pos rfl]
  have ao : ∀ j : Nat, j ≠ 0 → (j < 10 ∨ (16 ≤ j ∧ j < 200) ∨ 206 ≤ j) → s_addP D nm bl j = D j := fun j h0 hj => s_addP_o h0 (by omega) (by omega)
  unfold s_used
  rw [a0, ao 1 (by decide) (by omega), ao 2 (by decide) (by omega)]
  constructor
  · rintro ((⟨i, hi, hx⟩ | ⟨i, hi, hx⟩ | ⟨i, hi, hx⟩) | hx)
    · exact Or.inl ⟨i, by omega, by rw [s_addP_o (by omega) (by omega) (by omega)]; exact hx⟩
    · exact Or.inr (Or.inl ⟨i, hi, by rw [ao _ (by omega) (by omega)]; exact hx⟩)
    · exact Or.inr (Or.inr ⟨i, hi, by rw [ao _ (by omega) (by omega)]; exact hx⟩)
    · exact Or.inl ⟨(D 0).toNat, by omega, by unfold s_addP; rw [if_neg (by omega), if_pos rfl]; exact hx.symm⟩
  · rintro (⟨i, hi, hx⟩ | ⟨i, hi, hx⟩ | ⟨i, hi, hx⟩)
    · by_cases hid : i = (D 0).toNat
      · right; rw [hid] at hx; unfold s_addP at hx; rw [if_neg (by omega), if_pos rfl] at hx; exact hx.symm
      · rw [s_addP_o (by omega) (by omega) (by omega)] at hx; exact Or.inl (Or.inl ⟨i, by omega, hx⟩)
    · rw [ao _ (by omega) (by omega)] at hx; exact Or.inl (Or.inr (Or.inl ⟨i, hi, hx⟩))
    · rw [ao _ (by omega) (by omega)] at hx; exact Or.inl (Or.inr (Or.inr ⟨i, hi, hx⟩))
theorem s_addP_m {nm bl : Int} (_ : t_Cb D) : D 0 + D 1 + D 2 + 1 = s_addP D nm bl 0 + s_addP D nm bl 1 + s_addP D nm bl 2 := by
  rw [show s_addP D nm bl 0 = D 0 + 1 from if_pos rfl, s_addP_o (j := 1) (by decide) (by omega) (by omega), s_addP_o (j := 2) (by decide) (by omega) (by omega)]; omega
theorem t_CR.pto {nm bl : Int} (h : t_CR gi gl r (s_addP D nm bl) (D 0 + D 1 + D 2 + 1) (fun x => s_used D x ∨ x = nm)) (hb : t_Cb D) (h6 : D 0 < 6) : t_CR gi gl r (s_addP D nm bl) (s_addP D nm bl 0 + s_addP D nm bl 1 + s_addP D nm bl 2) (s_used (s_addP D nm bl)) := h.to (s_addP_m hb) (fun x => s_used_P hb h6 x)
/-- a row with one place more told -/
noncomputable def t_ru (f f' : Nat → Int32) (c : Nat) (v : Int) : Prop := (f' c).toInt = v ∧ ∀ j, j ≠ c → f' j = f j
theorem t_ru_of {f f' : Nat → Int32} {c : Nat} {x : Int32} {v : Int} (h : ∀ j, f' j = if j = c then x else f j) (hx : x.toInt = v) : t_ru f f' c v := ⟨by rw [h, if_pos rfl]; exact hx, fun j hj => by rw [h, if_neg hj]⟩
theorem t_put5 {c : Nat} {v1 v2 v3 v4 v5 : Int32} (e : g1 = x_up2 (x_up2 (x_up2 (x_up2 (x_up2 gi (k + 1) c v1) (k + 2) c v2) (k + 3) c v3) (k + 4) c v4) (k + 5) c v5) : (∀ j, g1 (k + 2) j = if j = c then v2 else gi (k + 2) j) ∧ (∀ j, g1 (k + 3) j = if j = c then v3 else gi (k + 3) j) ∧ (∀ j, g1 (k + 4) j = if j = c then v4 else gi (k + 4) j) ∧ (∀ j, g1 (k + 5) j = if j = c then v5 else gi (k + 5) j) ∧ ∀ K, (K < k + 1 ∨ k + 5 < K) → g1 K = gi K := by
  subst e
  refine ⟨fun j => ?_, fun j => ?_, fun j => ?_, fun j => ?_, fun K hK => ?_⟩
  · rw [x_up2_ne (by omega), x_up2_ne (by omega), x_up2_ne (by omega), x_up2_same, x_up2_ne (by omega)]
  · rw [x_up2_ne (by omega), x_up2_ne (by omega), x_up2_same, x_up2_ne (by omega), x_up2_ne (by omega)]
  · rw [x_up2_ne (by omega), x_up2_same, x_up2_ne (by omega), x_up2_ne (by omega), x_up2_ne (by omega)]
  · rw [x_up2_same, x_up2_ne (by omega), x_up2_ne (by omega), x_up2_ne (by omega), x_up2_ne (by omega)]
  · rw [x_up2_ne (by omega), x_up2_ne (by omega), x_up2_ne (by omega), x_up2_ne (by omega), x_up2_ne (by omega)]
theorem t_put_xc {c : Nat} {v1 v2 v3 v4 v5 : Int32} (e : g1 = x_up2 (x_up2 (x_up2 (x_up2 (x_up2 gi (k + 1) c v1) (k + 2) c v2) (k + 3) c v3) (k + 4) c v4) (k + 5) c v5) (el : l1 = gl) (er : r1 = gr) : t_xc [k + 1, k + 2, k + 3, k + 4, k + 5] gi gl gr g1 l1 r1 := fun K hK => by
  have h1 := hK (k + 1) (by simp)
  have h2 := hK (k + 2) (by simp)
  have h3 := hK (k + 3) (by simp)
  have h4 := hK (k + 4) (by simp)
  have h5 := hK (k + 5) (by simp)
  exact ⟨(t_put5 e).2.2.2.2 K (by omega), by rw [el], by rw [er]⟩
/-- numbers told -/
theorem t_CR.tel (h : t_CR gi gl r D (D 0 + D 1 + D 2) (s_used D)) (hr : ∀ c, c ≤ 19 → c ≠ 0 → c ≠ 1 → c ≠ 2 → g1 (r + c) = gi (r + c)) (hl : ∀ c, c ≤ 19 → c ≠ 1 → l1 (r + c) = gl (r + c)) (h4 : g1 r 4 = gi r 4) (h0 : g1 (r + 2) 0 = gi (r + 2) 0) (hq : t_Cq g1 r D') (hD : ∀ j : Nat, (j < 4 ∨ (8 ≤ j ∧ j < 221) ∨ 224 ≤ j) → D' j = D j) : t_CR g1 l1 r D' (D' 0 + D' 1 + D' 2) (s_used D') := by
  have d0 := hD 0 (by omega)
  have d1 := hD 1 (by omega)
  have d2 := hD 2 (by omega)
  obtain ⟨⟨⟨b1, b2⟩, ⟨b3, b4⟩, b5, b6⟩, ⟨n1, n2⟩, ⟨p1, p2⟩, _, ⟨s1, s2⟩, c1, c2⟩ := h
  refine ⟨⟨⟨by omega, by omega⟩, ⟨by omega, by omega⟩, by omega, by omega⟩, ⟨by rw [h4, n1, d0, d1, d2], fun x => ?_⟩, ⟨by rw [h0, d0]; exact p1, fun i hi => ?_⟩, hq, ⟨?_, fun s hs => ?_⟩, ?_, fun c hc => ?_⟩
  · rw [d0, d1, d2, show l1 (r + 19) = gl (r + 19) from hl 19 (by decide) (by decide), n2 x]
    unfold s_used
    rw [d0, d1, d2]
    constructor
    · rintro (⟨i, hi, hx⟩ | ⟨i, hi, hx⟩ | ⟨i, hi, hx⟩)
      · exact Or.inl ⟨i, hi, by rw [hD _ (by omega)]; exact hx⟩
      · exact Or.inr (Or.inl ⟨i, hi, by rw [hD _ (by omega)]; exact hx⟩)
      · exact Or.inr (Or.inr ⟨i, hi, by rw [hD _ (by omega)]; exact hx⟩)
    · rintro (⟨i, hi, hx⟩ | ⟨i, hi, hx⟩ | ⟨i, hi, hx⟩)
      · exact Or.inl ⟨i, hi, by rw [hD _ (by omega)] at hx; exact hx⟩
      · exact Or.inr (Or.inl ⟨i, hi, by rw [hD _ (by omega)] at hx; exact hx⟩)
      · exact Or.inr (Or.inr ⟨i, hi, by rw [hD _ (by omega)] at hx; exact hx⟩)
  · rw [d0] at hi
    rw [show l1 (r + 18) = gl (r + 18) from hl 18 (by decide) (by decide), show l1 (r + 2 + 1) = gl (r + 2 + 1) from hl 3 (by decide) (by decide), show l1 (r + 2 + 2) = gl (r + 2 + 2) from hl 4 (by decide) (by decide), hD _ (by omega), hD _ (by omega)]
    exact p2 i hi
  · rw [show g1 (r + 2 + 3) = gi (r + 2 + 3) from hr 5 (by decide) (by decide) (by decide) (by decide), d1]; exact s1
  · rw [d1] at hs
    rw [show g1 (r + 2 + 9) = gi (r + 2 + 9) from hr 11 (by decide) (by decide) (by decide) (by decide), show g1 (r + 2 + 3 + 2) = gi (r + 2 + 3 + 2) from hr 7 (by decide) (by decide) (by decide) (by decide), show g1 (r + 2 + 3 + 3) = gi (r + 2 + 3 + 3) from hr 8 (by decide) (by decide) (by decide) (by decide), show g1 (r + 2 + 3 + 4) = gi (r + 2 + 3 + 4) from hr 9 (by decide) (by decide) (by decide) (by decide), show g1 (r + 2 + 3 + 5) = gi (r + 2 + 3 + 5) from hr 10 (by decide) (by decide) (by decide) (by decide), hD _ (by omega), hD _ (by omega), hD _ (by omega), hD _ (by omega), hD _ (by omega)]
    exact s2 s hs
  · rw [show g1 (r + 2 + 10) = gi (r + 2 + 10) from hr 12 (by decide) (by decide) (by decide) (by decide), d2]; exact c1
  · rw [d2] at hc
    rw [show g1 (r + 2 + 10 + 2) = gi (r + 2 + 10 + 2) from hr 14 (by decide) (by decide) (by decide) (by decide), show g1 (r + 2 + 10 + 3) = gi (r + 2 + 10 + 3) from hr 15 (by decide) (by decide) (by decide) (by decide), show g1 (r + 2 + 10 + 4) = gi (r + 2 + 10 + 4) from hr 16 (by decide) (by decide) (by decide) (by decide), show g1 (r + 2 + 10 + 5) = gi (r + 2 + 10 + 5) from hr 17 (by decide) (by decide) (by decide) (by decide), hD _ (by omega), hD _ (by omega), hD _ (by omega)]
    exact c2 c hc
/-- the NAME of the PORT that is not yet one -/
theorem t_CR.pn (h : t_CR gi gl r D m P) {p : Int32} {X : Int64} (hp : p.toInt = D 0) (e : l1 = x_up2 gl (r + 18) p.toNatClampNeg X) : t_CR gi l1 r D m P := by
  have hl : ∀ K, K ≠ r + 18 → l1 K = gl K := fun K hK => by rw [e, x_up2_ne hK]
  obtain ⟨hb, ⟨n1, n2⟩, ⟨p1, p2⟩, h4⟩ := h
  have hc := t_clamp (i := p) (by have := hb.1.1; omega)
  refine ⟨hb, ⟨n1, by rw [hl _ (by omega)]; exact n2⟩, ⟨p1, fun i hi => ?_⟩, h4⟩
  rw [hl (r + 2 + 1) (by omega), hl (r + 2 + 2) (by omega), e, x_up2_off (Or.inr (by omega))]
  exact p2 i hi
/-- a PORT by its NAME -/
theorem t_pn_s (h : t_Cp gi gl r D) {y z : Int32} {w X : Int64} (h0 : 0 ≤ y.toInt) (hy : y.toInt < (gi (r + 2) 0).toInt) (ew : w = gl (r + 18) y.toNatClampNeg) (hne : w ≠ X) (hz : z.toInt = y.toInt + 1) : s_fst (fun i => D (200 + i)) X.toInt ((D 0).toNat - y.toNatClampNeg) y.toNatClampNeg = s_fst (fun i => D (200 + i)) X.toInt ((D 0).toNat - z.toNatClampNeg) z.toNatClampNeg := by
  have h1 := t_clamp h0
  have h2 := t_clamp (i := z) (by omega)
  have h3 := h.1
  rw [show z.toNatClampNeg = y.toNatClampNeg + 1 by omega, show (D 0).toNat - y.toNatClampNeg = ((D 0).toNat - (y.toNatClampNeg + 1)) + 1 by omega]
  show (if D (200 + y.toNatClampNeg) = X.toInt then _ else _) = _
  rw [if_neg (fun hh => hne (Int64.toInt_inj.mp (by rw [ew, (h.2 _ (by omega)).1, hh])))]
theorem t_pn_e (h : t_Cp gi gl r D) {y : Int32} {X : Int64} {f : Nat → Int} {A : Int} (hy : (gi (r + 2) 0).toInt ≤ y.toInt ∧ 0 ≤ y.toInt) (hj : A = s_fst f X.toInt ((D 0).toNat - y.toNatClampNeg) y.toNatClampNeg) : A = -1 := by
  have h1 := t_clamp hy.2
  have h3 := h.1
  rw [hj, show (D 0).toNat - y.toNatClampNeg = 0 by omega]; rfl
theorem t_pn_f (h : t_Cp gi gl r D) {y : Int32} {w X : Int64} {A : Int} (h0 : 0 ≤ y.toInt) (hy : y.toInt < (gi (r + 2) 0).toInt) (ew : w = gl (r + 18) y.toNatClampNeg) (he : w = X) (hj : A = s_fst (fun i => D (200 + i)) X.toInt ((D 0).toNat - y.toNatClampNeg) y.toNatClampNeg) : A = y.toInt := by
  have h1 := t_clamp h0
  have h3 := h.1
  rw [hj, show (D 0).toNat - y.toNatClampNeg = ((D 0).toNat - (y.toNatClampNeg + 1)) + 1 by omega]
  show (if D (200 + y.toNatClampNeg) = X.toInt then _ else _) = _
  rw [if_pos (by rw [← (h.2 _ (by omega)).1, ← ew, he])]; exact h1
theorem t_ru_up {f f' f'' : Nat → Int32} {c : Nat} {v v' : Int} {x : Int32} (h : t_ru f f' c v) (e : ∀ j, f'' j = if j = c then x else f' j) (hx : x.toInt = v') : t_ru f f'' c v' := ⟨by rw [e, if_pos rfl]; exact hx, fun j hj => by rw [e, if_neg hj]; exact h.2 j hj⟩
theorem s_addS_1 {nm po at_ ta co sa : Int} : s_addS D nm po at_ ta co sa 1 = D 1 + 1 := if_pos rfl
theorem s_addS_o {nm po at_ ta co sa : Int} (hb : t_Cb D) {j : Nat} (h1 : j ≠ 1) (hj : j ≠ 206 + (D 1).toNat) (hk : j < 52 + 5 * (D 1).toNat ∨ 57 + 5 * (D 1).toNat ≤ j) : s_addS D nm po at_ ta co sa j = D j := by
  have := hb.2.1
  unfold s_addS
  rw [if_neg h1, if_neg hj, if_neg (by omega), if_neg (by omega), if_neg (by omega), if_neg (by omega), if_neg (by omega)]
theorem s_addS_n {nm po at_ ta co sa : Int} (hb : t_Cb D) : s_addS D nm po at_ ta co sa (206 + (D 1).toNat) = nm ∧ s_addS D nm po at_ ta co sa (52 + 5 * (D 1).toNat) = po ∧ s_addS D nm po at_ ta co sa (53 + 5 * (D 1).toNat) = at_ ∧ s_addS D nm po at_ ta co sa (54 + 5 * (D 1).toNat) = ta ∧ s_addS D nm po at_ ta co sa (55 + 5 * (D 1).toNat) = co ∧ s_addS D nm po at_ ta co sa (56 + 5 * (D 1).toNat) = sa := by
  have := hb.2.1
  unfold s_addS
  refine ⟨?_, ?_, ?_, ?_, ?_, ?_⟩
  · rw [if_neg (by omega), if_pos rfl]
  · rw [if_neg (by omega), if_neg (by omega), if_pos rfl]
  · rw [if_neg (by omega), if_neg (by omega), if_neg (by omega), if_pos rfl]
  · rw [if_neg (by omega), if_neg (by omega), if_neg (by omega), if_neg (by omega), if_pos rfl]
  · rw [if_neg (by omega), if_neg (by omega), if_neg (by omega), if_neg (by omega), if_neg (by omega), if_pos rfl]
  · rw [if_neg (by omega), if_neg (by omega), if_neg (by omega), if_neg (by omega), if_neg (by omega), if_neg (by omega), if_pos rfl]
theorem t_CR.ship (h : t_CR gi gl r D m P) {nm po at_ ta co sa : Int} {c : Nat} (hc : (c : Int) = D 1) (h6 : D 1 < 6) (h0 : (g1 (r + 2 + 3) 0).toInt = D 1 + 1) (hp : t_ru (gi (r + 2 + 9)) (g1 (r + 2 + 9)) c po) (ha : t_ru (gi (r + 2 + 3 + 2)) (g1 (r + 2 + 3 + 2)) c at_) (ht : t_ru (gi (r + 2 + 3 + 3)) (g1 (r + 2 + 3 + 3)) c ta) (ho : t_ru (gi (r + 2 + 3 + 4)) (g1 (r + 2 + 3 + 4)) c co) (hs : t_ru (gi (r + 2 + 3 + 5)) (g1 (r + 2 + 3 + 5)) c sa) (hr : ∀ c, c ≤ 19 → c ≠ 1 → (c < 5 ∨ 12 ≤ c) → g1 (r + c) = gi (r + c)) (hl : ∀ c, c ≤ 19 → c ≠ 1 → (c < 5 ∨ 12 ≤ c) → l1 (r + c) = gl (r + c)) : t_CR g1 l1 r (s_addS D nm po at_ ta co sa) m P := by
  have hb := h.1
  have hcn : (D 1).toNat = c := by omega
  have ao : ∀ j : Nat, j ≠ 1 → (j < 52 ∨ (82 ≤ j ∧ j < 206) ∨ 212 ≤ j) → s_addS D nm po at_ ta co sa j = D j := fun j h1 hj => s_addS_o hb h1 (by omega) (by omega)
  obtain ⟨_, ⟨n1, n2⟩, ⟨p1, p2⟩, ⟨⟨q1, q2, q3, q4⟩, q5, q6, q7⟩, ⟨s1, s2⟩, c1, c2⟩ := h
  obtain ⟨⟨b1, b2⟩, ⟨b3, b4⟩, b5, b6⟩ := id hb
  have e0 : g1 r = gi r := hr 0 (by decide) (by decide) (by omega)
  have e2 : g1 (r + 2) = gi (r + 2) := hr 2 (by decide) (by decide) (by omega)
  refine ⟨⟨⟨?_, ?_⟩, ⟨?_, ?_⟩, ?_, ?_⟩, ⟨by rw [e0]; exact n1, ?_⟩, ⟨?_, fun i hi => ?_⟩, ⟨⟨?_, ?_, ?_, ?_⟩, ?_, ?_, ?_⟩, ⟨?_, fun s hs2 => ?_⟩, ?_, fun x hx => ?_⟩
  · rw [ao 0 (by decide) (by omega)]; exact b1
  · rw [ao 0 (by decide) (by omega)]; exact b2
  · rw [s_addS_1]; omega
  · rw [s_addS_1]; omega
  · rw [ao 2 (by decide) (by omega)]; exact b5
  · rw [ao 2 (by decide) (by omega)]; exact b6
  · rw [show l1 (r + 19) = gl (r + 19) from hl 19 (by decide) (by decide) (by omega)]; exact n2
  · rw [ao 0 (by decide) (by omega), e2]; exact p1
  · rw [ao 0 (by decide) (by omega)] at hi
    rw [show l1 (r + 18) = gl (r + 18) from hl 18 (by decide) (by decide) (by omega), show l1 (r + 2 + 1) = gl (r + 2 + 1) from hl 3 (by decide) (by decide) (by omega), show l1 (r + 2 + 2) = gl (r + 2 + 2) from hl 4 (by decide) (by decide) (by omega), ao _ (by omega) (by omega), ao _ (by omega) (by omega)]
    exact p2 i hi
  · rw [ao 4 (by decide) (by omega), e2]; exact q1
  · rw [ao 5 (by decide) (by omega), e2]; exact q2
  · rw [ao 6 (by decide) (by omega), e2]; exact q3
  · rw [ao 7 (by decide) (by omega), e2]; exact q4
  · rw [ao 221 (by decide) (by omega), e0]; exact q5
  · rw [ao 222 (by decide) (by omega), e0]; exact q6
  · rw [ao 223 (by decide) (by omega), e0]; exact q7
  · rw [s_addS_1]; exact h0
  · rw [s_addS_1] at hs2
    by_cases hsc : s = c
    · obtain ⟨_, z1, z2, z3, z4, z5⟩ := s_addS_n (nm := nm) (po := po) (at_ := at_) (ta := ta) (co := co) (sa := sa) hb
      rw [hcn] at z1 z2 z3 z4 z5
      rw [hsc, z1, z2, z3, z4, z5]
      exact ⟨hp.1, ha.1, ht.1, ho.1, hs.1⟩
    · rw [hp.2 s hsc, ha.2 s hsc, ht.2 s hsc, ho.2 s hsc, hs.2 s hsc, s_addS_o hb (by omega) (by omega) (by omega), s_addS_o hb (by omega) (by omega) (by omega), s_addS_o hb (by omega) (by omega) (by omega), s_addS_o hb (by omega) (by omega) (by omega), s_addS_o hb (by omega) (by omega) (by omega)]
      exact s2 s (by omega)
  · rw [ao 2 (by decide) (by omega), show g1 (r + 2 + 10) = gi (r + 2 + 10) from hr 12 (by decide) (by decide) (by omega)]; exact c1
  · rw [ao 2 (by decide) (by omega)] at hx
    rw [show g1 (r + 2 + 10 + 2) = gi (r + 2 + 10 + 2) from hr 14 (by decide) (by decide) (by omega), show g1 (r + 2 + 10 + 3) = gi (r + 2 + 10 + 3) from hr 15 (by decide) (by decide) (by omega), show g1 (r + 2 + 10 + 4) = gi (r + 2 + 10 + 4) from hr 16 (by decide) (by decide) (by omega), show g1 (r + 2 + 10 + 5) = gi (r + 2 + 10 + 5) from hr 17 (by decide) (by decide) (by omega), ao _ (by omega) (by omega), ao _ (by omega) (by omega), ao _ (by omega) (by omega)]
    exact c2 x hx
theorem s_used_S {nm po at_ ta co sa : Int} (hb : t_Cb D) (h6 : D 1 < 6) (x : Int) : (s_used D x ∨ x = nm) ↔ s_used (s_addS D nm po at_ ta co sa) x := by
  have ao : ∀ j : Nat, j ≠ 1 → (j < 52 ∨ (82 ≤ j ∧ j < 206) ∨ 212 ≤ j) → s_addS D nm po at_ ta co sa j = D j := fun j h1 hj => s_addS_o hb h1 (by have := hb.2.1; omega) (by have := hb.2.1; omega)
  have an := (s_addS_n (nm := nm) (po := po) (at_ := at_) (ta := ta) (co := co) (sa := sa) hb).1
  obtain ⟨⟨b1, b2⟩, ⟨b3, b4⟩, b5, b6⟩ := id hb
  unfold s_used
  rw [s_addS_1, ao 0 (by decide) (by omega), ao 2 (by decide) (by omega)]
  constructor
  · rintro ((⟨i, hi, hx⟩ | ⟨i, hi, hx⟩ | ⟨i, hi, hx⟩) | hx)
    · exact Or.inl ⟨i, hi, by rw [ao _ (by omega) (by omega)]; exact hx⟩
    · exact Or.inr (Or.inl ⟨i, by omega, by rw [s_addS_o hb (by omega) (by omega) (by omega)]; exact hx⟩)
    · exact Or.inr (Or.inr ⟨i, hi, by rw [ao _ (by omega) (by omega)]; exact hx⟩)
    · exact Or.inr (Or.inl ⟨(D 1).toNat, by omega, by rw [an]; exact hx.symm⟩)
  · rintro (⟨i, hi, hx⟩ | ⟨i, hi, hx⟩ | ⟨i, hi, hx⟩)
    · rw [ao _ (by omega) (by omega)] at hx; exact Or.inl (Or.inl ⟨i, hi, hx⟩)
    · by_cases hid : i = (D 1).toNat
      · right; rw [hid, an] at hx; exact hx.symm
      · rw [s_addS_o hb (by omega) (by omega) (by omega)] at hx; exact Or.inl (Or.inr (Or.inl ⟨i, by omega, hx⟩))
    · rw [ao _ (by omega) (by omega)] at hx; exact Or.inl (Or.inr (Or.inr ⟨i, hi, hx⟩))
theorem t_CR.sto {nm po at_ ta co sa : Int} (h : t_CR gi gl r (s_addS D nm po at_ ta co sa) (D 0 + D 1 + D 2 + 1) (fun x => s_used D x ∨ x = nm)) (hb : t_Cb D) (h6 : D 1 < 6) : t_CR gi gl r (s_addS D nm po at_ ta co sa) (s_addS D nm po at_ ta co sa 0 + s_addS D nm po at_ ta co sa 1 + s_addS D nm po at_ ta co sa 2) (s_used (s_addS D nm po at_ ta co sa)) :=
  h.to (by rw [s_addS_1, s_addS_o hb (j := 0) (by decide) (by have := hb.2.1; omega) (by have := hb.2.1; omega), s_addS_o hb (j := 2) (by decide) (by have := hb.2.1; omega) (by have := hb.2.1; omega)]; omega) (fun x => s_used_S hb h6 x)
theorem s_addC_2 {nm at_ ta co : Int} : s_addC D nm at_ ta co 2 = D 2 + 1 := if_pos rfl
theorem s_addC_o {nm at_ ta co : Int} {j : Nat} (h1 : j ≠ 2) (hj : j ≠ 212 + (D 2).toNat) (hk : j < 82 + 3 * (D 2).toNat ∨ 85 + 3 * (D 2).toNat ≤ j) : s_addC D nm at_ ta co j = D j := by
  unfold s_addC
  rw [if_neg h1, if_neg hj, if_neg (by omega), if_neg (by omega), if_neg (by omega)]
theorem s_addC_n {nm at_ ta co : Int} (hb : t_Cb D) : s_addC D nm at_ ta co (212 + (D 2).toNat) = nm ∧ s_addC D nm at_ ta co (82 + 3 * (D 2).toNat) = at_ ∧ s_addC D nm at_ ta co (83 + 3 * (D 2).toNat) = ta ∧ s_addC D nm at_ ta co (84 + 3 * (D 2).toNat) = co := by
  have := hb.2.2
  unfold s_addC
  refine ⟨?_, ?_, ?_, ?_⟩
  · rw [if_neg (by omega), if_pos rfl]
  · rw [if_neg (by omega), if_neg (by omega), if_pos rfl]
  · rw [if_neg (by omega), if_neg (by omega), if_neg (by omega), if_pos rfl]
  · rw [if_neg (by omega), if_neg (by omega), if_neg (by omega), if_neg (by omega), if_pos rfl]
theorem t_CR.cart (h : t_CR gi gl r D m P) {nm at_ ta co : Int} {c : Nat} (hc : (c : Int) = D 2) (h6 : D 2 < 6) (h0 : (g1 (r + 2 + 10) 0).toInt = D 2 + 1) (ha : t_ru (gi (r + 2 + 10 + 2)) (g1 (r + 2 + 10 + 2)) c at_) (ht : t_ru (gi (r + 2 + 10 + 3)) (g1 (r + 2 + 10 + 3)) c ta) (ho : t_ru (gi (r + 2 + 10 + 4)) (g1 (r + 2 + 10 + 4)) c co) (hsl : t_ru (gi (r + 2 + 10 + 5)) (g1 (r + 2 + 10 + 5)) c 0) (hr : ∀ c, c ≤ 19 → c ≠ 1 → (c < 12 ∨ 18 ≤ c) → g1 (r + c) = gi (r + c)) (hl : ∀ c, c ≤ 19 → c ≠ 1 → (c < 12 ∨ 18 ≤ c) → l1 (r + c) = gl (r + c)) : t_CR g1 l1 r (s_addC D nm at_ ta co) m P := by
  have hb := h.1
  have hcn : (D 2).toNat = c := by omega
  obtain ⟨_, ⟨n1, n2⟩, ⟨p1, p2⟩, ⟨⟨q1, q2, q3, q4⟩, q5, q6, q7⟩, ⟨s1, s2⟩, c1, c2⟩ := h
  obtain ⟨⟨b1, b2⟩, ⟨b3, b4⟩, b5, b6⟩ := id hb
  have ao : ∀ j : Nat, j ≠ 2 → (j < 82 ∨ (100 ≤ j ∧ j < 212) ∨ 218 ≤ j) → s_addC D nm at_ ta co j = D j := fun j h1 hj => s_addC_o h1 (by omega) (by omega)
  have e0 : g1 r = gi r := hr 0 (by decide) (by decide) (by omega)
  have e2 : g1 (r + 2) = gi (r + 2) := hr 2 (by decide) (by decide) (by omega)
  refine ⟨⟨⟨?_, ?_⟩, ⟨?_, ?_⟩, ?_, ?_⟩, ⟨by rw [e0]; exact n1, ?_⟩, ⟨?_, fun i hi => ?_⟩, ⟨⟨?_, ?_, ?_, ?_⟩, ?_, ?_, ?_⟩, ⟨?_, fun s hs2 => ?_⟩, ?_, fun x hx => ?_⟩
  · rw [ao 0 (by decide) (by omega)]; exact b1
  · rw [ao 0 (by decide) (by omega)]; exact b2
  · rw [ao 1 (by decide) (by omega)]; exact b3
  · rw [ao 1 (by decide) (by omega)]; exact b4
  · rw [s_addC_2]; omega
  · rw [s_addC_2]; omega
  · rw [show l1 (r + 19) = gl (r + 19) from hl 19 (by decide) (by decide) (by omega)]; exact n2
  · rw [ao 0 (by decide) (by omega), e2]; exact p1
  · rw [ao 0 (by decide) (by omega)] at hi
    rw [show l1 (r + 18) = gl (r + 18) from hl 18 (by decide) (by decide) (by omega), show l1 (r + 2 + 1) = gl (r + 2 + 1) from hl 3 (by decide) (by decide) (by omega), show l1 (r + 2 + 2) = gl (r + 2 + 2) from hl 4 (by decide) (by decide) (by omega), ao _ (by omega) (by omega), ao _ (by omega) (by omega)]
    exact p2 i hi
  · rw [ao 4 (by decide) (by omega), e2]; exact q1
  · rw [ao 5 (by decide) (by omega), e2]; exact q2
  · rw [ao 6 (by decide) (by omega), e2]; exact q3
  · rw [ao 7 (by decide) (by omega), e2]; exact q4
  · rw [ao 221 (by decide) (by omega), e0]; exact q5
  · rw [ao 222 (by decide) (by omega), e0]; exact q6
  · rw [ao 223 (by decide) (by omega), e0]; exact q7
  · rw [ao 1 (by decide) (by omega), show g1 (r + 2 + 3) = gi (r + 2 + 3) from hr 5 (by decide) (by decide) (by omega)]; exact s1
  · rw [ao 1 (by decide) (by omega)] at hs2
    rw [show g1 (r + 2 + 9) = gi (r + 2 + 9) from hr 11 (by decide) (by decide) (by omega), show g1 (r + 2 + 3 + 2) = gi (r + 2 + 3 + 2) from hr 7 (by decide) (by decide) (by omega), show g1 (r + 2 + 3 + 3) = gi (r + 2 + 3 + 3) from hr 8 (by decide) (by decide) (by omega), show g1 (r + 2 + 3 + 4) = gi (r + 2 + 3 + 4) from hr 9 (by decide) (by decide) (by omega), show g1 (r + 2 + 3 + 5) = gi (r + 2 + 3 + 5) from hr 10 (by decide) (by decide) (by omega), ao _ (by omega) (by omega), ao _ (by omega) (by omega), ao _ (by omega) (by omega), ao _ (by omega) (by omega), ao _ (by omega) (by omega)]
    exact s2 s hs2
  · rw [s_addC_2]; exact h0
  · rw [s_addC_2] at hx
    by_cases hsc : x = c
    · obtain ⟨_, z1, z2, z3⟩ := s_addC_n (nm := nm) (at_ := at_) (ta := ta) (co := co) hb
      rw [hcn] at z1 z2 z3
      rw [hsc, z1, z2, z3]
      exact ⟨ha.1, ht.1, ho.1, hsl.1⟩
    · rw [ha.2 x hsc, ht.2 x hsc, ho.2 x hsc, hsl.2 x hsc, s_addC_o (by omega) (by omega) (by omega), s_addC_o (by omega) (by omega) (by omega), s_addC_o (by omega) (by omega) (by omega)]
      exact c2 x (by omega)
theorem s_used_C {nm at_ ta co : Int} (hb : t_Cb D) (h6 : D 2 < 6) (x : Int) : (s_used D x ∨ x = nm) ↔ s_used (s_addC D nm at_ ta co) x := by
  have an := (s_addC_n (nm := nm) (at_ := at_) (ta := ta) (co := co) hb).1
  obtain ⟨⟨b1, b2⟩, ⟨b3, b4⟩, b5, b6⟩ := id hb
  have ao : ∀ j : Nat, j ≠ 2 → (j < 82 ∨ (100 ≤ j ∧ j < 212) ∨ 218 ≤ j) → s_addC D nm at_ ta co j = D j := fun j h1 hj => s_addC_o h1 (by omega) (by omega)
  unfold s_used
  rw [s_addC_2, ao 0 (by decide) (by omega), ao 1 (by decide) (by omega)]
  constructor
  · rintro ((⟨i, hi, hx⟩ | ⟨i, hi, hx⟩ | ⟨i, hi, hx⟩) | hx)
    · exact Or.inl ⟨i, hi, by rw [ao _ (by omega) (by omega)]; exact hx⟩
    · exact Or.inr (Or.inl ⟨i, hi, by rw [ao _ (by omega) (by omega)]; exact hx⟩)
    · exact Or.inr (Or.inr ⟨i, by omega, by rw [s_addC_o (by omega) (by omega) (by omega)]; exact hx⟩)
    · exact Or.inr (Or.inr ⟨(D 2).toNat, by omega, by rw [an]; exact hx.symm⟩)
  · rintro (⟨i, hi, hx⟩ | ⟨i, hi, hx⟩ | ⟨i, hi, hx⟩)
    · rw [ao _ (by omega) (by omega)] at hx; exact Or.inl (Or.inl ⟨i, hi, hx⟩)
    · rw [ao _ (by omega) (by omega)] at hx; exact Or.inl (Or.inr (Or.inl ⟨i, hi, hx⟩))
    · by_cases hid : i = (D 2).toNat
      · right; rw [hid, an] at hx; exact hx.symm
      · rw [s_addC_o (by omega) (by omega) (by omega)] at hx; exact Or.inl (Or.inr (Or.inr ⟨i, by omega, hx⟩))
theorem t_CR.cto {nm at_ ta co : Int} (h : t_CR gi gl r (s_addC D nm at_ ta co) (D 0 + D 1 + D 2 + 1) (fun x => s_used D x ∨ x = nm)) (hb : t_Cb D) (h6 : D 2 < 6) : t_CR gi gl r (s_addC D nm at_ ta co) (s_addC D nm at_ ta co 0 + s_addC D nm at_ ta co 1 + s_addC D nm at_ ta co 2) (s_used (s_addC D nm at_ ta co)) :=
  h.to (by rw [s_addC_2, s_addC_o (j := 0) (by decide) (by omega) (by omega), s_addC_o (j := 1) (by decide) (by omega) (by omega)]; omega) (fun x => s_used_C hb h6 x)
end CRL
section RVT
variable {sh : List (Nat ⊕ (Nat × Nat))} {gr : Nat → Nat → Value} {k : Nat}
theorem t_LQ.Ln (h : t_LQ sh gr k) : t_Ln sh gr k := by
  obtain ⟨h0, h1, h2, h3, h4, h5, h6⟩ := h
  exact ⟨h0, ⟨_, h2.1, h2.2, Or.inr (by omega)⟩, ⟨_, h3.1, h3.2, Or.inr (by omega)⟩, ⟨_, h4.1, h4.2, Or.inr (by omega)⟩, ⟨_, h5.1, h5.2, Or.inr (by omega)⟩, ⟨_, h6.1, h6.2, Or.inr (by omega)⟩⟩
theorem t_VQ.Rv (h : t_VQ sh gr k) : t_Rv sh gr k := by
  obtain ⟨h0, h1, h2, h3, h4, h5, h6⟩ := h
  exact ⟨h0, ⟨_, h2.1, h2.2, Or.inr (by omega)⟩, ⟨_, h3.1, h3.2, Or.inr (by omega)⟩, ⟨_, h4.1, h4.2, Or.inr (by omega)⟩, ⟨_, h5.1, h5.2.Ln⟩, ⟨_, h6.1, h6.2.Ln⟩⟩
end RVT
/-- all but the cell 0 below r is as it was -/
noncomputable def t_l0 (r : Nat) (gi : Nat → Nat → Int32) (gl : Nat → Nat → Int64) (gr : Nat → Nat → Value) (g1 : Nat → Nat → Int32) (l1 : Nat → Nat → Int64) (r1 : Nat → Nat → Value) : Prop := ∀ K, K ≠ 0 → K < r → g1 K = gi K ∧ l1 K = gl K ∧ r1 K = gr K
theorem t_row0 {wl : List (Nat × Nat)} {sh : List (Nat ⊕ (Nat × Nat))} {gi g : Nat → Nat → Int32} {gl l : Nat → Nat → Int64} {gr r : Nat → Nat → Value} (h : t_X wl sh gi gl gr g l r) (hw : wl.all (fun q => q.1 == 0) = true) {K : Nat} (hK : K ≠ 0) : g K = gi K ∧ l K = gl K ∧ r K = gr K := by
  have hc : t_cd sh K ≠ 0 := by
    unfold t_cd
    split
    · exact hK
    · split
      · rename_i s _
        cases s with
        | inl c => show 110 + c ≠ 0; omega
        | inr q => show 130 + q.1 ≠ 0; omega
      · decide
  have hn : ∀ j, t_in wl (t_cd sh K) j = false := fun j => by
    unfold t_in
    rw [List.any_eq_false]
    intro q hq hh
    have h1 := eq_of_beq (List.all_eq_true.mp hw q hq)
    have h2 := eq_of_beq ((Bool.and_eq_true _ _).mp hh).1
    exact hc (h2.symm.trans h1)
  exact ⟨funext fun j => (h.1 K j (hn j)).1, funext fun j => (h.1 K j (hn j)).2.1, funext fun j => (h.1 K j (hn j)).2.2⟩
theorem t_CR_0 {gi : Nat → Nat → Int32} {gl : Nat → Nat → Int64} {N : Nat} (zR4 : (gi N 4).toInt = 0) (zV0 : (gi (N + 2) 0).toInt = 0) (zV3 : (gi (N + 2) 3).toInt = 5) (zV4 : (gi (N + 2) 4).toInt = 0) (zV5 : (gi (N + 2) 5).toInt = 0) (zV6 : (gi (N + 2) 6).toInt = 0) (zR5 : (gi N 5).toInt = 0) (zR6 : (gi N 6).toInt = 0) (zR7 : (gi N 7).toInt = 0) (zS0 : (gi (N + 2 + 3) 0).toInt = 0) (zC0 : (gi (N + 2 + 10) 0).toInt = 0) : t_CR gi gl N s_D0 (s_D0 0 + s_D0 1 + s_D0 2) (s_used s_D0) := by
  have d0 : ∀ j, j ≠ 4 → s_D0 j = 0 := fun j hj => if_neg hj
  have hu : ∀ x, ¬ s_used s_D0 x := by
    rintro x (⟨i, hi, _⟩ | ⟨i, hi, _⟩ | ⟨i, hi, _⟩)
    · rw [d0 0 (by decide)] at hi; omega
    · rw [d0 1 (by decide)] at hi; omega
    · rw [d0 2 (by decide)] at hi; omega
  refine ⟨?_, ⟨?_, fun x => ⟨?_, fun hx => absurd hx (hu x)⟩⟩, ⟨?_, fun i hi => ?_⟩, ⟨⟨?_, ?_, ?_, ?_⟩, ?_, ?_, ?_⟩, ⟨?_, fun i hi => ?_⟩, ?_, fun i hi => ?_⟩
  · unfold t_Cb; rw [d0 0 (by decide), d0 1 (by decide), d0 2 (by decide)]; decide
  · rw [zR4, d0 0 (by decide), d0 1 (by decide), d0 2 (by decide)]; rfl
  · rintro ⟨i, hi, _⟩; rw [d0 0 (by decide), d0 1 (by decide), d0 2 (by decide)] at hi; omega
  · exact zV0.trans (d0 0 (by decide)).symm
  · rw [d0 0 (by decide)] at hi; omega
  · exact zV3.trans (if_pos rfl).symm
  · exact zV4.trans (d0 5 (by decide)).symm
  · exact zV5.trans (d0 6 (by decide)).symm
  · exact zV6.trans (d0 7 (by decide)).symm
  · exact zR5.trans (d0 221 (by decide)).symm
  · exact zR6.trans (d0 222 (by decide)).symm
  · exact zR7.trans (d0 223 (by decide)).symm
  · exact zS0.trans (d0 1 (by decide)).symm
  · rw [d0 1 (by decide)] at hi; omega
  · exact zC0.trans (d0 2 (by decide)).symm
  · rw [d0 2 (by decide)] at hi; omega
/-- a RIVER's cells, by number -/
noncomputable def t_VL (gr : Nat → Nat → Value) (v : Nat) : Prop := (gr v 1 = .ref (v + 1) ∧ gr v 2 = .ref (v + 2) ∧ gr v 8 = .ref (v + 9) ∧ gr v 7 = .ref (v + 3) ∧ gr v 9 = .ref (v + 10)) ∧ (gr (v + 3) 1 = .ref (v + 3 + 1) ∧ gr (v + 3) 2 = .ref (v + 3 + 2) ∧ gr (v + 3) 3 = .ref (v + 3 + 3) ∧ gr (v + 3) 4 = .ref (v + 3 + 4) ∧ gr (v + 3) 5 = .ref (v + 3 + 5)) ∧ gr (v + 10) 1 = .ref (v + 10 + 1) ∧ gr (v + 10) 2 = .ref (v + 10 + 2) ∧ gr (v + 10) 3 = .ref (v + 10 + 3) ∧ gr (v + 10) 4 = .ref (v + 10 + 4) ∧ gr (v + 10) 5 = .ref (v + 10 + 5)
theorem t_VQ.l {sh : List (Nat ⊕ (Nat × Nat))} {gr : Nat → Nat → Value} {v : Nat} (h : t_VQ sh gr v) : t_VL gr v := by
  obtain ⟨-, -, ⟨a1, -⟩, ⟨a2, -⟩, ⟨a8, -⟩, ⟨a7, l1⟩, a9, l2⟩ := h
  obtain ⟨-, -, ⟨b1, -⟩, ⟨b2, -⟩, ⟨b3, -⟩, ⟨b4, -⟩, b5, -⟩ := l1
  obtain ⟨-, -, ⟨c1, -⟩, ⟨c2, -⟩, ⟨c3, -⟩, ⟨c4, -⟩, c5, -⟩ := l2
  exact ⟨⟨a1, a2, a8, a7, a9⟩, ⟨b1, b2, b3, b4, b5⟩, c1, c2, c3, c4, c5⟩
/-! ===== printed by riv.py: the RIVER of the class ===== -/
noncomputable def wl_s_takeNewName : List (Nat × Nat) := [(115, 4), (118, 2), (118, 3), (118, 4), (118, 5), (118, 6), (118, 7), (118, 8), (118, 9), (118, 10), (118, 11), (131, 9999)]
noncomputable def Q_s_takeNewName (gi : Nat → Nat → Int32) (gl : Nat → Nat → Int64) (gr : Nat → Nat → Value) (ar0 : Nat) : Int32 → (Nat → Nat → Int32) → (Nat → Nat → Int64) → (Nat → Nat → Value) → Prop := fun (v : Int32) (gi2 : Nat → Nat → Int32) (gl2 : Nat → Nat → Int64) (gr2 : Nat → Nat → Value) => (∀ (b : Nat → Int32) (n q : Nat) (D : s_D) (m : Int) (P : Int → Prop), t_CS b n q D m P gi gl gr ar0 → m < 18 → (v.toInt = 1 ∧ s_isN b n q ∧ ¬ P (s_L b n q).toInt ∧ t_CS b n (s_E b n q) D (m + 1) (fun x => P x ∨ x = (s_L b n q).toInt) gi2 gl2 gr2 ar0) ∨ (v.toInt = 0 ∧ ¬ s_isN b n q ∧ t_FL gi2 (ar0 + 1) (s_fk b n q 2) (s_F b n q)) ∨ (v.toInt = 0 ∧ s_isN b n q ∧ P (s_L b n q).toInt ∧ t_FL gi2 (ar0 + 1) (s_fk b n q 3) (s_F b n q))) ∧ t_xc [ar0, ar0 + 1, ar0 + 19] gi gl gr gi2 gl2 gr2
theorem c_s_takeNewName {X : x_Ext} {d : Nat} {sh : List (Nat ⊕ (Nat × Nat))} {gi : Nat → Nat → Int32} {gl : Nat → Nat → Int64} {gr : Nat → Nat → Value} (hI : t_I sh gi gr) (ar0 : Nat) (p_a0 : t_RQ sh gr ar0) : x_Me X (d + 3) n_X6_takeNewName [.ref ar0] (sh, gi, gl, gr) (t_PI wl_s_takeNewName sh gi gl gr 0 1 (Q_s_takeNewName gi gl gr ar0)) := by
  have hX : t_X wl_s_takeNewName sh gi gl gr gi gl gr := t_X.rf
  refine me_i f_X6_takeNewName p_a0.1 rfl rfl rfl ?_
  refine ev_loc f_X6_takeNewName (nx := 1) rfl rfl rfl rfl ?_
  have e1 := p_a0.2.2.2.2.1.1
  have p1 := p_a0.2.2.2.2.1.2
  refine ev_getR f_X6_takeNewName (nx := 4) rfl p_a0.1 rfl rfl e1 rfl rfl ?_
  refine ev_qI0 f_X6_takeNewName (nx := 7) (r := []) rfl rfl rfl rfl rfl rfl rfl (c_s_isName hI ((ar0 + 1)) p1) rfl (fun w2 l2 u2 q2 => ?_)
  have q2 : ∀ (b : Nat → Int32) (n q : Nat), t_TC b n q gi gl gr (ar0 + 1) → (w2.toInt = 1 ↔ s_isN b n q) := q2
  refine ev_if f_X6_takeNewName (t1 := 10) (t2 := 19) rfl rfl rfl (fun h3 => ?_) (fun h3 => ?_)
  · have u4 : w2.toInt ≤ 0 := t_equ h3 (by decide : (0:Int32).toInt ≤ (0:Int))
    refine ev_loc f_X6_takeNewName (nx := 11) rfl rfl rfl rfl ?_
    refine ev_getR f_X6_takeNewName (nx := 14) (v := .ref (ar0 + 1)) rfl p_a0.1 rfl rfl e1 rfl rfl ?_
    refine ev_ic f_X6_takeNewName (nx := 15) (v := 2) rfl (by decide) rfl ?_
    refine ev_qI f_X6_takeNewName (nx := 18) (r := []) rfl rfl rfl rfl rfl rfl rfl (c_s_refuse hI ((ar0 + 1)) p1 (2) (by decide : (2:Int) ≤ (2:Int32).toInt) (Int.le_trans (by decide : (2:Int32).toInt ≤ (2:Int)) (by decide : (2:Int) ≤ 7))) rfl hX rfl (fun w5 gi5 gl5 gr5 l5 u5 hI hX hC5 q5 => ?_)
    have q5 : (∀ (b : Nat → Int32) (n q : Nat), t_TC b n q gi gl gr (ar0 + 1) → t_FL gi5 (ar0 + 1) (s_fk b n q 2) (s_F b n q)) ∧ w5.toInt = 0 ∧ t_on (ar0 + 1) gi gl gr gi5 gl5 gr5 := q5
    replace p_a0 := p_a0.ext hC5.2
    replace p1 := p1.ext hC5.2
    exact ev_retZ f_X6_takeNewName rfl l5 (Int.le_trans u5 (by decide : (0:Int) ≤ 1)) ⟨_, _, _, rfl, hI, hX, ⟨_, rfl, l5, (Int.le_trans u5 (by decide : (0:Int) ≤ 1)), (show (∀ (b : Nat → Int32) (n q : Nat) (D : s_D) (m : Int) (P : Int → Prop), t_CS b n q D m P gi gl gr ar0 → m < 18 → (w5.toInt = 1 ∧ s_isN b n q ∧ ¬ P (s_L b n q).toInt ∧ t_CS b n (s_E b n q) D (m + 1) (fun x => P x ∨ x = (s_L b n q).toInt) gi5 gl5 gr5 ar0) ∨ (w5.toInt = 0 ∧ ¬ s_isN b n q ∧ t_FL gi5 (ar0 + 1) (s_fk b n q 2) (s_F b n q)) ∨ (w5.toInt = 0 ∧ s_isN b n q ∧ P (s_L b n q).toInt ∧ t_FL gi5 (ar0 + 1) (s_fk b n q 3) (s_F b n q))) ∧ t_xc [ar0, ar0 + 1, ar0 + 19] gi gl gr gi5 gl5 gr5 from ⟨(by
                                                            intro b n q D m P h hm
                                                            have h102 := p_a0.2.1
                                                            exact Or.inr (Or.inl ⟨q5.2.1, fun hh => absurd ((q2 b n q h.1).mpr hh) (by omega), q5.1 b n q h.1⟩)), (t_xc.on t_xc.rf q5.2.2 (by simp))⟩)⟩⟩
  · have r6 : w2.toInt ≠ 0 := fun e => h3 (Int32.toInt_inj.mp (e.trans (by decide : (0:Int) = (0 : Int32).toInt)))
    have l7 : 1 ≤ w2.toInt := t_nel h3 l2 rfl rfl
    refine ev_ic f_X6_takeNewName (nx := 20) (v := 0) rfl (by decide) rfl ?_
    refine ev_loc f_X6_takeNewName (nx := 21) (lo' := [(1, .int 0), (0, .ref ar0)]) rfl rfl rfl rfl ?_
    have L8 : ∀ (m8 : Nat) (y8_1 : Int32), 0 ≤ y8_1.toInt → y8_1.toInt ≤ 18 → (∀ j : Nat, (j : Int) < y8_1.toInt → gl (ar0 + 19) j ≠ (gl (ar0 + 1) 6)) → (18 - y8_1.toInt).toNat = m8 → x_Ev X (d + 3) n_X6_takeNewName 21 [(1, .int y8_1), (0, .ref ar0)] [] (sh, gi, gl, gr) (t_PI wl_s_takeNewName sh gi gl gr 0 1 (Q_s_takeNewName gi gl gr ar0)) := by
      intro m8
      induction m8 using Nat.strongRecOn with
      | _ m8 ih8 =>
      intro y8_1 l8_1 u8_1 j8_0 hm8
      refine ev_loc f_X6_takeNewName (nx := 22) rfl rfl rfl rfl ?_
      refine ev_loc f_X6_takeNewName (nx := 23) rfl rfl rfl rfl ?_
      refine ev_getI f_X6_takeNewName (nx := 26) rfl p_a0.1 rfl rfl rfl ?_
      obtain ⟨l9, u9⟩ := hI.b p_a0.1 (t_bdK rfl : t_bd 5 4 = some (0, 18))
      refine ev_if f_X6_takeNewName (t1 := 61) (t2 := 29) rfl rfl rfl (fun h10 => ?_) (fun h10 => ?_)
      · have r11 : (gi ar0 4).toInt ≤ y8_1.toInt := Int32.le_iff_toInt_le.mp h10
        refine ev_loc f_X6_takeNewName (nx := 62) rfl rfl rfl rfl ?_
        refine ev_gvI f_X6_takeNewName (nx := 65) (w := (gi ar0 4)) rfl p_a0.1 rfl rfl rfl rfl ?_
        refine ev_loc f_X6_takeNewName (nx := 66) rfl rfl rfl rfl ?_
        have e12 := p_a0.2.2.2.1.1
        have p12 := p_a0.2.2.2.1.2
        refine ev_getR f_X6_takeNewName (nx := 69) rfl p_a0.1 rfl rfl e12 rfl rfl ?_
        refine ev_alenv f_X6_takeNewName (nx := 70) (w := 18) rfl p12 rfl (by decide) rfl ?_
        refine ev_if f_X6_takeNewName (t1 := 99) (t2 := 73) rfl rfl rfl (fun h13 => ?_) (fun h13 => ?_)
        · have l14 : 18 ≤ (gi ar0 4).toInt := t_lel h13 (by decide : (18:Int) ≤ (18:Int32).toInt)
          refine ev_loc f_X6_takeNewName (nx := 100) rfl rfl rfl rfl ?_
          refine ev_getR f_X6_takeNewName (nx := 103) (v := .ref (ar0 + 1)) rfl p_a0.1 rfl rfl e1 rfl rfl ?_
          refine ev_qN f_X6_takeNewName (nx := 106) (r := []) rfl rfl rfl rfl rfl rfl rfl (c_s_step hI ((ar0 + 1)) p1) rfl hX rfl (fun gi15 gl15 gr15 hI hX hC15 q15 => ?_)
          have q15 : (∀ (b : Nat → Int32) (n q : Nat), t_Sp b n q gi (ar0 + 1) → t_TC b n q gi15 gl15 gr15 (ar0 + 1)) ∧ t_nf gi gi15 (ar0 + 1) ∧ t_on (ar0 + 1) gi gl gr gi15 gl15 gr15 := q15
          replace p_a0 := p_a0.ext hC15.2
          replace p1 := p1.ext hC15.2
          refine ev_ic f_X6_takeNewName (nx := 107) (v := 1) rfl (by decide) rfl ?_
          exact ev_ret f_X6_takeNewName rfl rfl rfl ⟨_, _, _, rfl, hI, hX, ⟨_, rfl, (Int.le_trans (by decide : (0:Int) ≤ 1) (by decide : (1:Int) ≤ (1:Int32).toInt)), (by decide : (1:Int32).toInt ≤ (1:Int)), (show (∀ (b : Nat → Int32) (n q : Nat) (D : s_D) (m : Int) (P : Int → Prop), t_CS b n q D m P gi gl gr ar0 → m < 18 → ((1 : Int) = 1 ∧ s_isN b n q ∧ ¬ P (s_L b n q).toInt ∧ t_CS b n (s_E b n q) D (m + 1) (fun x => P x ∨ x = (s_L b n q).toInt) gi15 gl15 gr15 ar0) ∨ ((1 : Int) = 0 ∧ ¬ s_isN b n q ∧ t_FL gi15 (ar0 + 1) (s_fk b n q 2) (s_F b n q)) ∨ ((1 : Int) = 0 ∧ s_isN b n q ∧ P (s_L b n q).toInt ∧ t_FL gi15 (ar0 + 1) (s_fk b n q 3) (s_F b n q))) ∧ t_xc [ar0, ar0 + 1, ar0 + 19] gi gl gr gi15 gl15 gr15 from ⟨(by
                                                            intro b n q D m P h hm
                                                            have h102 := p_a0.2.1
                                                            have hm0 : (gi ar0 4).toInt = m := h.2.1.2.1.1
                                                            exact absurd hm (by omega)), (t_xc.on t_xc.rf q15.2.2 (by simp))⟩)⟩⟩
        · have u16 : (gi ar0 4).toInt ≤ 17 := t_ltu (t_nle h13) (by decide : (18:Int32).toInt ≤ (18:Int)) rfl
          refine ev_loc f_X6_takeNewName (nx := 74) rfl rfl rfl rfl ?_
          refine ev_getR f_X6_takeNewName (nx := 77) (v := .ref (ar0 + 19)) rfl p_a0.1 rfl rfl e12 rfl rfl ?_
          refine ev_loc f_X6_takeNewName (nx := 78) rfl rfl rfl rfl ?_
          refine ev_gvI f_X6_takeNewName (nx := 81) (w := (gi ar0 4)) rfl p_a0.1 rfl rfl rfl rfl ?_
          refine ev_loc f_X6_takeNewName (nx := 82) rfl rfl rfl rfl ?_
          refine ev_getR f_X6_takeNewName (nx := 85) (v := .ref (ar0 + 1)) rfl p_a0.1 rfl rfl e1 rfl rfl ?_
          refine ev_getL f_X6_takeNewName (nx := 88) rfl p1.1 rfl rfl rfl ?_
          refine ev_lastT f_X6_takeNewName (nx := 89) rfl p12 l9 (by decide) u16 (by decide) rfl (hX.upL (t_inOA hI.wf p12 (Or.inr (by have := p_a0.2.1; omega)) rfl)) (fun g17 e17 hX => ?_)
          refine ev_loc f_X6_takeNewName (nx := 90) rfl rfl rfl rfl ?_
          refine ev_alu f_X6_takeNewName (nx := 91) rfl rfl rfl rfl ?_
          refine ev_gvI f_X6_takeNewName (nx := 94) (w := (gi ar0 4)) rfl p_a0.1 rfl rfl rfl rfl ?_
          refine ev_ic f_X6_takeNewName (nx := 95) (v := 1) rfl (by decide) rfl ?_
          refine ev_addC f_X6_takeNewName (nx := 96) (c := 1) (l := 1) (u := 18) rfl (by decide) l9 u16 rfl rfl (by decide) (by decide) rfl (fun z18 e18 l18 u18 => ?_)
          refine ev_putIT f_X6_takeNewName (nx := 99) rfl p_a0.1 rfl rfl rfl (hI.putB p_a0.1 rfl rfl l18 (by decide) u18 (by decide)) (hX.upI (t_inO hI.wf p_a0.1 (t_outO hI.wf p_a0.1 rfl) rfl)) (fun g19 e19 hI hX => ?_)
          refine ev_loc f_X6_takeNewName (nx := 100) rfl rfl rfl rfl ?_
          refine ev_getR f_X6_takeNewName (nx := 103) (v := .ref (ar0 + 1)) rfl p_a0.1 rfl rfl e1 rfl rfl ?_
          refine ev_qN f_X6_takeNewName (nx := 106) (r := []) rfl rfl rfl rfl rfl rfl rfl (c_s_step hI ((ar0 + 1)) p1) rfl hX rfl (fun gi20 gl20 gr20 hI hX hC20 q20 => ?_)
          have q20 : (∀ (b : Nat → Int32) (n q : Nat), t_Sp b n q g19 (ar0 + 1) → t_TC b n q gi20 gl20 gr20 (ar0 + 1)) ∧ t_nf g19 gi20 (ar0 + 1) ∧ t_on (ar0 + 1) g19 g17 gr gi20 gl20 gr20 := q20
          replace p_a0 := p_a0.ext hC20.2
          replace p1 := p1.ext hC20.2
          refine ev_ic f_X6_takeNewName (nx := 107) (v := 1) rfl (by decide) rfl ?_
          exact ev_ret f_X6_takeNewName rfl rfl rfl ⟨_, _, _, rfl, hI, hX, ⟨_, rfl, (Int.le_trans (by decide : (0:Int) ≤ 1) (by decide : (1:Int) ≤ (1:Int32).toInt)), (by decide : (1:Int32).toInt ≤ (1:Int)), (show (∀ (b : Nat → Int32) (n q : Nat) (D : s_D) (m : Int) (P : Int → Prop), t_CS b n q D m P gi gl gr ar0 → m < 18 → ((1 : Int) = 1 ∧ s_isN b n q ∧ ¬ P (s_L b n q).toInt ∧ t_CS b n (s_E b n q) D (m + 1) (fun x => P x ∨ x = (s_L b n q).toInt) gi20 gl20 gr20 ar0) ∨ ((1 : Int) = 0 ∧ ¬ s_isN b n q ∧ t_FL gi20 (ar0 + 1) (s_fk b n q 2) (s_F b n q)) ∨ ((1 : Int) = 0 ∧ s_isN b n q ∧ P (s_L b n q).toInt ∧ t_FL gi20 (ar0 + 1) (s_fk b n q 3) (s_F b n q))) ∧ t_xc [ar0, ar0 + 1, ar0 + 19] gi gl gr gi20 gl20 gr20 from ⟨(by
                                                            intro b n q D m P h hm
                                                            have h102 := p_a0.2.1
                                                            have hN := (q2 b n q h.1).mp (by omega)
                                                            have hL : (gl (ar0 + 1) 6) = s_L b n q := (h.1.2.2.2.2.2.1 hN.1).2
                                                            have hm0 : (gi ar0 4).toInt = m := h.2.1.2.1.1
                                                            have hR := h.2.1.nm (p := (gi ar0 4)) hm0 (by omega) (z := z18) (by omega) e17 e19
                                                            rw [hL] at hR
                                                            have h2 := h.mk (S := [ar0, ar0 + 19]) (t_xc.I (t_xc.L t_xc.rf (by simp) e17) (by simp) e19) (by intro x hx; simp only [List.mem_cons, List.not_mem_nil, or_false] at hx; omega) hR
                                                            exact Or.inl ⟨rfl, hN, by rw [← hL]; exact h.2.1.nfnd (p := y8_1) (by omega) (fun j hj => j8_0 j hj), h2.on (q20.1 b n _ h2.1.S) q20.2.1 q20.2.2⟩), (t_xc.on (t_xc.I (t_xc.L t_xc.rf (by simp) e17) (by simp) e19) q20.2.2 (by simp))⟩)⟩⟩
      · have r21 : y8_1.toInt < (gi ar0 4).toInt := Int32.lt_iff_toInt_lt.mp (t_nle h10)
        have u22 : y8_1.toInt ≤ 17 := t_ltu (t_nle h10) u9 rfl
        have l23 : 1 ≤ (gi ar0 4).toInt := t_ltl (t_nle h10) l8_1 rfl
        refine ev_loc f_X6_takeNewName (nx := 30) rfl rfl rfl rfl ?_
        have e24 := p_a0.2.2.2.1.1
        have p24 := p_a0.2.2.2.1.2
        refine ev_getR f_X6_takeNewName (nx := 33) rfl p_a0.1 rfl rfl e24 rfl rfl ?_
        refine ev_loc f_X6_takeNewName (nx := 34) rfl rfl rfl rfl ?_
        refine ev_laldT f_X6_takeNewName (nx := 35) rfl p24 l8_1 (by decide) u22 (by decide) rfl (fun w25 e25 => ?_)
        refine ev_loc f_X6_takeNewName (nx := 36) rfl rfl rfl rfl ?_
        refine ev_getR f_X6_takeNewName (nx := 39) (v := .ref (ar0 + 1)) rfl p_a0.1 rfl rfl e1 rfl rfl ?_
        refine ev_getL f_X6_takeNewName (nx := 42) rfl p1.1 rfl rfl rfl ?_
        refine ev_anyIE f_X6_takeNewName (nx := 43) rfl rfl rfl rfl (fun z26 e26 => ?_)
        refine ev_if f_X6_takeNewName (t1 := 46) (t2 := 55) rfl rfl rfl (fun h27 => ?_) (fun h27 => ?_)
        · have u28 : z26.toInt ≤ 0 := t_equ h27 (by decide : (0:Int32).toInt ≤ (0:Int))
          have l29 : 0 ≤ z26.toInt := t_eql h27 (by decide : (0:Int) ≤ (0:Int32).toInt)
          refine ev_loc f_X6_takeNewName (nx := 47) rfl rfl rfl rfl ?_
          refine ev_getR f_X6_takeNewName (nx := 50) (v := .ref (ar0 + 1)) rfl p_a0.1 rfl rfl e1 rfl rfl ?_
          refine ev_ic f_X6_takeNewName (nx := 51) (v := 3) rfl (by decide) rfl ?_
          refine ev_qI f_X6_takeNewName (nx := 54) (r := []) rfl rfl rfl rfl rfl rfl rfl (c_s_refuse hI ((ar0 + 1)) p1 (3) (Int.le_trans (by decide : (2:Int) ≤ 3) (by decide : (3:Int) ≤ (3:Int32).toInt)) (Int.le_trans (by decide : (3:Int32).toInt ≤ (3:Int)) (by decide : (3:Int) ≤ 7))) rfl hX rfl (fun w30 gi30 gl30 gr30 l30 u30 hI hX hC30 q30 => ?_)
          have q30 : (∀ (b : Nat → Int32) (n q : Nat), t_TC b n q gi gl gr (ar0 + 1) → t_FL gi30 (ar0 + 1) (s_fk b n q 3) (s_F b n q)) ∧ w30.toInt = 0 ∧ t_on (ar0 + 1) gi gl gr gi30 gl30 gr30 := q30
          replace p_a0 := p_a0.ext hC30.2
          replace p1 := p1.ext hC30.2
          exact ev_retZ f_X6_takeNewName rfl l30 (Int.le_trans u30 (by decide : (0:Int) ≤ 1)) ⟨_, _, _, rfl, hI, hX, ⟨_, rfl, l30, (Int.le_trans u30 (by decide : (0:Int) ≤ 1)), (show (∀ (b : Nat → Int32) (n q : Nat) (D : s_D) (m : Int) (P : Int → Prop), t_CS b n q D m P gi gl gr ar0 → m < 18 → (w30.toInt = 1 ∧ s_isN b n q ∧ ¬ P (s_L b n q).toInt ∧ t_CS b n (s_E b n q) D (m + 1) (fun x => P x ∨ x = (s_L b n q).toInt) gi30 gl30 gr30 ar0) ∨ (w30.toInt = 0 ∧ ¬ s_isN b n q ∧ t_FL gi30 (ar0 + 1) (s_fk b n q 2) (s_F b n q)) ∨ (w30.toInt = 0 ∧ s_isN b n q ∧ P (s_L b n q).toInt ∧ t_FL gi30 (ar0 + 1) (s_fk b n q 3) (s_F b n q))) ∧ t_xc [ar0, ar0 + 1, ar0 + 19] gi gl gr gi30 gl30 gr30 from ⟨(by
                                                            intro b n q D m P h hm
                                                            have h102 := p_a0.2.1
                                                            have hN := (q2 b n q h.1).mp (by omega)
                                                            have hL : (gl (ar0 + 1) 6) = s_L b n q := (h.1.2.2.2.2.2.1 hN.1).2
                                                            have hm0 : (gi ar0 4).toInt = m := h.2.1.2.1.1
                                                            exact Or.inr (Or.inr ⟨q30.2.1, hN, by rw [← hL]; exact h.2.1.fnd (i := y8_1.toNatClampNeg) (by have h1 := t_clamp (i := y8_1) (by omega); omega) e25 ((lg_cmp_eq _ _).mp (e26.symm.trans h27)), q30.1 b n q h.1⟩)), (t_xc.on t_xc.rf q30.2.2 (by simp))⟩)⟩⟩
        · have r31 : z26.toInt ≠ 0 := fun e => h27 (Int32.toInt_inj.mp (e.trans (by decide : (0:Int) = (0 : Int32).toInt)))
          refine ev_incR f_X6_takeNewName (nx := 58) (c := 1) (l := 1) (u := 18) rfl rfl (by decide) (by decide) l8_1 u22 rfl rfl (by decide) (by decide) rfl (fun z32 e32 l32 u32 => ?_)
          refine ev_jmp f_X6_takeNewName (nx := 21) rfl rfl rfl ?_
          refine ev_sub (lo := [(1, .int z32), (0, .ref ar0)]) rfl (t_sc rfl (t_sc rfl t_sn)) ?_
          exact ih8 _ (by omega) (z32) (Int.le_trans (by decide : (0:Int) ≤ 1) l32) u32 (fun j hj hx => by by_cases hji : j = y8_1.toNatClampNeg; (exact h27 (e26.trans ((lg_cmp_eq _ _).mpr (by rw [e25, ← hji]; exact hx)))); (exact j8_0 j (by have h1 := t_clamp (i := y8_1) (by omega); omega) hx)) rfl
    refine ev_sub (lo := [(1, .int 0), (0, .ref ar0)]) rfl (t_sc rfl (t_sc rfl t_sn)) ?_
    exact L8 _ (0) (by decide : (0:Int) ≤ (0:Int32).toInt) (Int.le_trans (by decide : (0:Int32).toInt ≤ (0:Int)) (by decide : (0:Int) ≤ 18)) (fun j hj => absurd hj (by have : (0 : Int32).toInt = 0 := rfl; omega)) rfl
noncomputable def wl_s_soundOf : List (Nat × Nat) := []
noncomputable def Q_s_soundOf (gi : Nat → Nat → Int32) (gl : Nat → Nat → Int64) (gr : Nat → Nat → Value) (ar0 : Int64) : Int64 → (Nat → Nat → Int32) → (Nat → Nat → Int64) → (Nat → Nat → Value) → Prop := fun (v : Int64) (gi2 : Nat → Nat → Int32) (gl2 : Nat → Nat → Int64) (gr2 : Nat → Nat → Value) => v = s_snd ar0
theorem c_s_soundOf {X : x_Ext} {d : Nat} {sh : List (Nat ⊕ (Nat × Nat))} {gi : Nat → Nat → Int32} {gl : Nat → Nat → Int64} {gr : Nat → Nat → Value} (hI : t_I sh gi gr) (ar0 : Int64) : x_Me X (d + 1) n_X5_soundOf [.long ar0] (sh, gi, gl, gr) (t_PL wl_s_soundOf sh gi gl gr (Q_s_soundOf gi gl gr ar0)) := by
  have hX : t_X wl_s_soundOf sh gi gl gr gi gl gr := t_X.rf
  refine me_s f_X5_soundOf rfl rfl ?_
  refine ev_lc f_X5_soundOf (nx := 1) (v := 0) rfl (by decide) rfl ?_
  refine ev_loc f_X5_soundOf (nx := 2) (lo' := [(2, .long 0), (0, .long ar0)]) rfl rfl rfl rfl ?_
  refine ev_loc f_X5_soundOf (nx := 3) rfl rfl rfl rfl ?_
  refine ev_loc f_X5_soundOf (nx := 5) (lo' := [(4, .long ar0), (2, .long 0), (0, .long ar0)]) rfl rfl rfl rfl ?_
  refine ev_ic f_X5_soundOf (nx := 6) (v := 0) rfl (by decide) rfl ?_
  refine ev_loc f_X5_soundOf (nx := 8) (lo' := [(6, .int 0), (4, .long ar0), (2, .long 0), (0, .long ar0)]) rfl rfl rfl rfl ?_
  have L1 : ∀ (m1 : Nat) (y1_6 : Int32) (y1_4 : Int64) (y1_2 : Int64), 0 ≤ y1_6.toInt → y1_6.toInt ≤ 6 → s_snr (6 - y1_6.toInt).toNat y1_4 y1_2 = s_snd ar0 → (6 - y1_6.toInt).toNat = m1 → x_Ev X (d + 1) n_X5_soundOf 8 [(6, .int y1_6), (4, .long y1_4), (2, .long y1_2), (0, .long ar0)] [] (sh, gi, gl, gr) (t_PL wl_s_soundOf sh gi gl gr (Q_s_soundOf gi gl gr ar0)) := by
    intro m1
    induction m1 using Nat.strongRecOn with
    | _ m1 ih1 =>
    intro y1_6 y1_4 y1_2 l1_6 u1_6 j1_0 hm1
    refine ev_loc f_X5_soundOf (nx := 10) rfl rfl rfl rfl ?_
    refine ev_bp f_X5_soundOf (nx := 12) (v := 6) rfl (by decide) rfl ?_
    refine ev_if f_X5_soundOf (t1 := 65) (t2 := 15) rfl rfl rfl (fun h2 => ?_) (fun h2 => ?_)
    · have l3 : 6 ≤ y1_6.toInt := t_lel h2 (by decide : (6:Int) ≤ (6:Int32).toInt)
      refine ev_loc f_X5_soundOf (nx := 66) rfl rfl rfl rfl ?_
      exact ev_ret f_X5_soundOf rfl rfl rfl ⟨_, _, _, rfl, hI, hX, ⟨_, rfl, (show y1_2 = s_snd ar0 from (by rw [← j1_0, show (6 - y1_6.toInt).toNat = 0 from (by omega)]; rfl))⟩⟩
    · have u4 : y1_6.toInt ≤ 5 := t_ltu (t_nle h2) (by decide : (6:Int32).toInt ≤ (6:Int)) rfl
      refine ev_loc f_X5_soundOf (nx := 17) rfl rfl rfl rfl ?_
      refine ev_lc f_X5_soundOf (nx := 18) (v := 0) rfl (by decide) rfl ?_
      refine ev_anyIE f_X5_soundOf (nx := 19) rfl rfl rfl rfl (fun z5 e5 => ?_)
      refine ev_if f_X5_soundOf (t1 := 65) (t2 := 22) rfl rfl rfl (fun h6 => ?_) (fun h6 => ?_)
      · have u7 : z5.toInt ≤ 0 := t_equ h6 (by decide : (0:Int32).toInt ≤ (0:Int))
        have l8 : 0 ≤ z5.toInt := t_eql h6 (by decide : (0:Int) ≤ (0:Int32).toInt)
        refine ev_loc f_X5_soundOf (nx := 66) rfl rfl rfl rfl ?_
        exact ev_ret f_X5_soundOf rfl rfl rfl ⟨_, _, _, rfl, hI, hX, ⟨_, rfl, (show y1_2 = s_snd ar0 from (by rw [← j1_0]; exact (s_snr_0 ((lg_cmp_eq _ _).mp (e5.symm.trans h6))).symm))⟩⟩
      · have r9 : z5.toInt ≠ 0 := fun e => h6 (Int32.toInt_inj.mp (e.trans (by decide : (0:Int) = (0 : Int32).toInt)))
        refine ev_loc f_X5_soundOf (nx := 24) rfl rfl rfl rfl ?_
        refine ev_ldL f_X5_soundOf (nx := 27) (v := 32) rfl (by decide) rfl ?_
        refine ev_lremN f_X5_soundOf (nx := 28) rfl (by decide) rfl (fun z10 e10 => ?_)
        refine ev_ldL f_X5_soundOf (nx := 31) (v := 12) rfl (by decide) rfl ?_
        refine ev_anyIE f_X5_soundOf (nx := 32) rfl rfl rfl rfl (fun z11 e11 => ?_)
        refine ev_if f_X5_soundOf (t1 := 35) (t2 := 45) rfl rfl rfl (fun h12 => ?_) (fun h12 => ?_)
        · have u13 : z11.toInt ≤ 0 := t_equ h12 (by decide : (0:Int32).toInt ≤ (0:Int))
          have l14 : 0 ≤ z11.toInt := t_eql h12 (by decide : (0:Int) ≤ (0:Int32).toInt)
          refine ev_ldL f_X5_soundOf (nx := 38) (v := 7) rfl (by decide) rfl ?_
          refine ev_loc f_X5_soundOf (nx := 39) rfl rfl rfl rfl ?_
          refine ev_ic f_X5_soundOf (nx := 40) (v := 4) rfl (by decide) rfl ?_
          refine ev_anyLE f_X5_soundOf (nx := 41) rfl rfl rfl rfl (fun z15 e15 => ?_)
          refine ev_anyLE f_X5_soundOf (nx := 42) rfl rfl rfl rfl (fun z16 e16 => ?_)
          refine ev_jmp f_X5_soundOf (nx := 50) rfl rfl rfl ?_
          refine ev_loc f_X5_soundOf (nx := 51) (lo' := [(2, .long z16), (6, .int y1_6), (4, .long y1_4), (0, .long ar0)]) rfl rfl rfl rfl ?_
          refine ev_loc f_X5_soundOf (nx := 53) rfl rfl rfl rfl ?_
          refine ev_ldL f_X5_soundOf (nx := 56) (v := 32) rfl (by decide) rfl ?_
          refine ev_ldivN f_X5_soundOf (nx := 57) rfl (by decide) rfl (fun z17 e17 => ?_)
          refine ev_loc f_X5_soundOf (nx := 59) (lo' := [(4, .long z17), (2, .long z16), (6, .int y1_6), (0, .long ar0)]) rfl rfl rfl rfl ?_
          refine ev_incR f_X5_soundOf (nx := 62) (c := 1) (l := 1) (u := 6) rfl rfl (by decide) (by decide) l1_6 u4 rfl rfl (by decide) (by decide) rfl (fun z18 e18 l18 u18 => ?_)
          refine ev_jmp f_X5_soundOf (nx := 8) rfl rfl rfl ?_
          refine ev_sub (lo := [(6, .int z18), (4, .long z17), (2, .long z16), (0, .long ar0)]) rfl (t_sc rfl (t_sc rfl (t_sc rfl (t_sc rfl t_sn)))) ?_
          exact ih1 _ (by omega) (z18) (z17) (z16) (Int.le_trans (by decide : (0:Int) ≤ 1) l18) u18 (by rw [← j1_0, show (6 - y1_6.toInt).toNat = (6 - z18.toInt).toNat + 1 from (by omega)]; exact (s_snr_t (fun hh => h6 (e5.trans ((lg_cmp_eq _ _).mpr hh))) (by rw [← e10]; exact (lg_cmp_eq _ _).mp (e11.symm.trans h12)) e17 e15 e16).symm) rfl
        · have r19 : z11.toInt ≠ 0 := fun e => h12 (Int32.toInt_inj.mp (e.trans (by decide : (0:Int) = (0 : Int32).toInt)))
          refine ev_lc f_X5_soundOf (nx := 46) (v := 1) rfl (by decide) rfl ?_
          refine ev_loc f_X5_soundOf (nx := 47) rfl rfl rfl rfl ?_
          refine ev_ic f_X5_soundOf (nx := 48) (v := 2) rfl (by decide) rfl ?_
          refine ev_anyLE f_X5_soundOf (nx := 49) rfl rfl rfl rfl (fun z20 e20 => ?_)
          refine ev_anyLE f_X5_soundOf (nx := 50) rfl rfl rfl rfl (fun z21 e21 => ?_)
          refine ev_loc f_X5_soundOf (nx := 51) (lo' := [(2, .long z21), (6, .int y1_6), (4, .long y1_4), (0, .long ar0)]) rfl rfl rfl rfl ?_
          refine ev_loc f_X5_soundOf (nx := 53) rfl rfl rfl rfl ?_
          refine ev_ldL f_X5_soundOf (nx := 56) (v := 32) rfl (by decide) rfl ?_
          refine ev_ldivN f_X5_soundOf (nx := 57) rfl (by decide) rfl (fun z22 e22 => ?_)
          refine ev_loc f_X5_soundOf (nx := 59) (lo' := [(4, .long z22), (2, .long z21), (6, .int y1_6), (0, .long ar0)]) rfl rfl rfl rfl ?_
          refine ev_incR f_X5_soundOf (nx := 62) (c := 1) (l := 1) (u := 6) rfl rfl (by decide) (by decide) l1_6 u4 rfl rfl (by decide) (by decide) rfl (fun z23 e23 l23 u23 => ?_)
          refine ev_jmp f_X5_soundOf (nx := 8) rfl rfl rfl ?_
          refine ev_sub (lo := [(6, .int z23), (4, .long z22), (2, .long z21), (0, .long ar0)]) rfl (t_sc rfl (t_sc rfl (t_sc rfl (t_sc rfl t_sn)))) ?_
          exact ih1 _ (by omega) (z23) (z22) (z21) (Int.le_trans (by decide : (0:Int) ≤ 1) l23) u23 (by rw [← j1_0, show (6 - y1_6.toInt).toNat = (6 - z23.toInt).toNat + 1 from (by omega)]; exact (s_snr_f (fun hh => h6 (e5.trans ((lg_cmp_eq _ _).mpr hh))) (fun hh => h12 (e11.trans ((lg_cmp_eq _ _).mpr (by rw [e10]; exact hh)))) e22 e20 e21).symm) rfl
  refine ev_sub (lo := [(6, .int 0), (4, .long ar0), (2, .long 0), (0, .long ar0)]) rfl (t_sc rfl (t_sc rfl (t_sc rfl (t_sc rfl t_sn)))) ?_
  exact L1 _ (0) (ar0) (0) (by decide : (0:Int) ≤ (0:Int32).toInt) (Int.le_trans (by decide : (0:Int32).toInt ≤ (0:Int)) (by decide : (0:Int) ≤ 6)) rfl rfl
noncomputable def wl_s_portNamed : List (Nat × Nat) := []
noncomputable def Q_s_portNamed (gi : Nat → Nat → Int32) (gl : Nat → Nat → Int64) (gr : Nat → Nat → Value) (ar0 : Nat) (ar1 : Int64) : Int32 → (Nat → Nat → Int32) → (Nat → Nat → Int64) → (Nat → Nat → Value) → Prop := fun (v : Int32) (gi2 : Nat → Nat → Int32) (gl2 : Nat → Nat → Int64) (gr2 : Nat → Nat → Value) => ∀ (b : Nat → Int32) (n q : Nat) (D : s_D) (m : Int) (P : Int → Prop), t_CS b n q D m P gi gl gr ar0 → v.toInt = s_fst (fun i => D (200 + i)) ar1.toInt (D 0).toNat 0
theorem c_s_portNamed {X : x_Ext} {d : Nat} {sh : List (Nat ⊕ (Nat × Nat))} {gi : Nat → Nat → Int32} {gl : Nat → Nat → Int64} {gr : Nat → Nat → Value} (hI : t_I sh gi gr) (ar0 : Nat) (p_a0 : t_RQ sh gr ar0) (ar1 : Int64) : x_Me X (d + 1) n_X6_portNamed [.ref ar0, .long ar1] (sh, gi, gl, gr) (t_PI wl_s_portNamed sh gi gl gr (-1) 5 (Q_s_portNamed gi gl gr ar0 ar1)) := by
  have hX : t_X wl_s_portNamed sh gi gl gr gi gl gr := t_X.rf
  refine me_i f_X6_portNamed p_a0.1 rfl rfl rfl ?_
  refine ev_ic f_X6_portNamed (nx := 1) (v := 0) rfl (by decide) rfl ?_
  refine ev_loc f_X6_portNamed (nx := 2) (lo' := [(3, .int 0), (0, .ref ar0), (1, .long ar1)]) rfl rfl rfl rfl ?_
  have L1 : ∀ (m1 : Nat) (y1_3 : Int32), 0 ≤ y1_3.toInt → y1_3.toInt ≤ 6 → (∀ (b : Nat → Int32) (n q : Nat) (D : s_D) (m : Int) (P : Int → Prop), t_CS b n q D m P gi gl gr ar0 → s_fst (fun i => D (200 + i)) ar1.toInt (D 0).toNat 0 = s_fst (fun i => D (200 + i)) ar1.toInt ((D 0).toNat - y1_3.toNatClampNeg) y1_3.toNatClampNeg) → (6 - y1_3.toInt).toNat = m1 → x_Ev X (d + 1) n_X6_portNamed 2 [(3, .int y1_3), (0, .ref ar0), (1, .long ar1)] [] (sh, gi, gl, gr) (t_PI wl_s_portNamed sh gi gl gr (-1) 5 (Q_s_portNamed gi gl gr ar0 ar1)) := by
    intro m1
    induction m1 using Nat.strongRecOn with
    | _ m1 ih1 =>
    intro y1_3 l1_3 u1_3 j1_0 hm1
    refine ev_loc f_X6_portNamed (nx := 3) rfl rfl rfl rfl ?_
    refine ev_loc f_X6_portNamed (nx := 4) rfl rfl rfl rfl ?_
    have e2 := p_a0.2.2.2.2.2.1
    have p2 := p_a0.2.2.2.2.2.2
    refine ev_getR f_X6_portNamed (nx := 7) rfl p_a0.1 rfl rfl e2 rfl rfl ?_
    refine ev_getI f_X6_portNamed (nx := 10) rfl p2.1 rfl rfl rfl ?_
    obtain ⟨l3, u3⟩ := hI.b p2.1 (t_bdK rfl : t_bd 4 0 = some (0, 6))
    refine ev_if f_X6_portNamed (t1 := 32) (t2 := 13) rfl rfl rfl (fun h4 => ?_) (fun h4 => ?_)
    · have r5 : (gi (ar0 + 2) 0).toInt ≤ y1_3.toInt := Int32.le_iff_toInt_le.mp h4
      refine ev_ic f_X6_portNamed (nx := 33) (v := -1) rfl (by decide) rfl ?_
      exact ev_ret f_X6_portNamed rfl rfl rfl ⟨_, _, _, rfl, hI, hX, ⟨_, rfl, (by decide : ((-1):Int) ≤ ((-1):Int32).toInt), (Int.le_trans (by decide : ((-1):Int32).toInt ≤ ((-1):Int)) (by decide : ((-1):Int) ≤ 5)), (show ∀ (b : Nat → Int32) (n q : Nat) (D : s_D) (m : Int) (P : Int → Prop), t_CS b n q D m P gi gl gr ar0 → ((-1) : Int) = s_fst (fun i => D (200 + i)) ar1.toInt (D 0).toNat 0 from (fun b n q D m P h => (t_pn_e h.2.1.2.2.1 (y := y1_3) (by omega) (j1_0 b n q D m P h)).symm))⟩⟩
    · have r6 : y1_3.toInt < (gi (ar0 + 2) 0).toInt := Int32.lt_iff_toInt_lt.mp (t_nle h4)
      have u7 : y1_3.toInt ≤ 5 := t_ltu (t_nle h4) u3 rfl
      have l8 : 1 ≤ (gi (ar0 + 2) 0).toInt := t_ltl (t_nle h4) l1_3 rfl
      refine ev_loc f_X6_portNamed (nx := 14) rfl rfl rfl rfl ?_
      have e9 := p_a0.2.2.1.1
      have p9 := p_a0.2.2.1.2
      refine ev_getR f_X6_portNamed (nx := 17) rfl p_a0.1 rfl rfl e9 rfl rfl ?_
      refine ev_loc f_X6_portNamed (nx := 18) rfl rfl rfl rfl ?_
      refine ev_laldT f_X6_portNamed (nx := 19) rfl p9 l1_3 (by decide) u7 (by decide) rfl (fun w10 e10 => ?_)
      refine ev_loc f_X6_portNamed (nx := 20) rfl rfl rfl rfl ?_
      refine ev_anyIE f_X6_portNamed (nx := 21) rfl rfl rfl rfl (fun z11 e11 => ?_)
      refine ev_if f_X6_portNamed (t1 := 24) (t2 := 26) rfl rfl rfl (fun h12 => ?_) (fun h12 => ?_)
      · have u13 : z11.toInt ≤ 0 := t_equ h12 (by decide : (0:Int32).toInt ≤ (0:Int))
        have l14 : 0 ≤ z11.toInt := t_eql h12 (by decide : (0:Int) ≤ (0:Int32).toInt)
        refine ev_loc f_X6_portNamed (nx := 25) rfl rfl rfl rfl ?_
        exact ev_ret f_X6_portNamed rfl rfl rfl ⟨_, _, _, rfl, hI, hX, ⟨_, rfl, (Int.le_trans (by decide : ((-1):Int) ≤ 0) l1_3), u7, (show ∀ (b : Nat → Int32) (n q : Nat) (D : s_D) (m : Int) (P : Int → Prop), t_CS b n q D m P gi gl gr ar0 → y1_3.toInt = s_fst (fun i => D (200 + i)) ar1.toInt (D 0).toNat 0 from (fun b n q D m P h => (t_pn_f h.2.1.2.2.1 (by omega) (by omega) e10 ((lg_cmp_eq _ _).mp (e11.symm.trans h12)) (j1_0 b n q D m P h)).symm))⟩⟩
      · have r15 : z11.toInt ≠ 0 := fun e => h12 (Int32.toInt_inj.mp (e.trans (by decide : (0:Int) = (0 : Int32).toInt)))
        refine ev_incR f_X6_portNamed (nx := 29) (c := 1) (l := 1) (u := 6) rfl rfl (by decide) (by decide) l1_3 u7 rfl rfl (by decide) (by decide) rfl (fun z16 e16 l16 u16 => ?_)
        refine ev_jmp f_X6_portNamed (nx := 2) rfl rfl rfl ?_
        refine ev_sub (lo := [(3, .int z16), (0, .ref ar0), (1, .long ar1)]) rfl (t_sc rfl (t_sc rfl (t_sc rfl t_sn))) ?_
        exact ih1 _ (by omega) (z16) (Int.le_trans (by decide : (0:Int) ≤ 1) l16) u16 (fun b n q D m P h => (j1_0 b n q D m P h).trans (t_pn_s h.2.1.2.2.1 (by omega) (by omega) e10 (fun hh => h12 (e11.trans ((lg_cmp_eq _ _).mpr hh))) (by omega))) rfl
  refine ev_sub (lo := [(3, .int 0), (0, .ref ar0), (1, .long ar1)]) rfl (t_sc rfl (t_sc rfl (t_sc rfl t_sn))) ?_
  exact L1 _ (0) (by decide : (0:Int) ≤ (0:Int32).toInt) (Int.le_trans (by decide : (0:Int32).toInt ≤ (0:Int)) (by decide : (0:Int) ≤ 6)) (fun b n q D m P h => rfl) rfl
noncomputable def wl_s_readTurns : List (Nat × Nat) := [(3, 3), (114, 3), (115, 5), (118, 2), (118, 3), (118, 4), (118, 5), (118, 6), (118, 7), (118, 8), (118, 9), (118, 10), (118, 11)]
noncomputable def Q_s_readTurns (gi : Nat → Nat → Int32) (gl : Nat → Nat → Int64) (gr : Nat → Nat → Value) (ar0 : Nat) : Int32 → (Nat → Nat → Int32) → (Nat → Nat → Int64) → (Nat → Nat → Value) → Prop := fun (v : Int32) (gi2 : Nat → Nat → Int32) (gl2 : Nat → Nat → Int64) (gr2 : Nat → Nat → Value) => (∀ (b : Nat → Int32) (n q : Nat) (D : s_D), t_CN b n q D gi gl gr ar0 → (v.toInt = 1 ∧ ∃ q2 D2, s_turns b n q D = s_ok q2 D2 ∧ t_CN b n q2 D2 gi2 gl2 gr2 ar0) ∨ (v.toInt = 0 ∧ ∃ p x D2, x ≠ 0 ∧ s_turns b n q D = s_bad b n p x D2 ∧ t_FL gi2 (ar0 + 1) (s_fk b n p x) (s_F b n p))) ∧ t_lq ar0 gi gl gr gi2 gl2 gr2
theorem c_s_readTurns {X : x_Ext} {d : Nat} {sh : List (Nat ⊕ (Nat × Nat))} {gi : Nat → Nat → Int32} {gl : Nat → Nat → Int64} {gr : Nat → Nat → Value} (hI : t_I sh gi gr) (ar0 : Nat) (p_a0 : t_RQ sh gr ar0) : x_Me X (d + 4) n_X6_readTurns [.ref ar0] (sh, gi, gl, gr) (t_PI wl_s_readTurns sh gi gl gr 0 1 (Q_s_readTurns gi gl gr ar0)) := by
  have hX : t_X wl_s_readTurns sh gi gl gr gi gl gr := t_X.rf
  refine me_i f_X6_readTurns p_a0.1 rfl rfl rfl ?_
  refine ev_loc f_X6_readTurns (nx := 1) rfl rfl rfl rfl ?_
  refine ev_getI f_X6_readTurns (nx := 4) rfl p_a0.1 rfl rfl rfl ?_
  refine ev_if f_X6_readTurns (t1 := 16) (t2 := 7) rfl rfl rfl (fun h1 => ?_) (fun h1 => ?_)
  · have u2 : (gi ar0 5).toInt ≤ 0 := t_equ h1 (by decide : (0:Int32).toInt ≤ (0:Int))
    have l3 : 0 ≤ (gi ar0 5).toInt := t_eql h1 (by decide : (0:Int) ≤ (0:Int32).toInt)
    refine ev_loc f_X6_readTurns (nx := 17) rfl rfl rfl rfl ?_
    refine ev_ic f_X6_readTurns (nx := 18) (v := 1) rfl (by decide) rfl ?_
    refine ev_putZT f_X6_readTurns (nx := 21) rfl p_a0.1 rfl rfl (Int.le_trans (by decide : (0:Int) ≤ 1) (by decide : (1:Int) ≤ (1:Int32).toInt)) (by decide : (1:Int32).toInt ≤ (1:Int)) rfl (hI.put0 p_a0.1 rfl rfl) (hX.upI (t_inO hI.wf p_a0.1 (t_outO hI.wf p_a0.1 rfl) rfl)) (fun g4 e4 hI hX => ?_)
    refine ev_loc f_X6_readTurns (nx := 22) rfl rfl rfl rfl ?_
    have e5 := p_a0.2.2.2.2.1.1
    have p5 := p_a0.2.2.2.2.1.2
    refine ev_getR f_X6_readTurns (nx := 25) rfl p_a0.1 rfl rfl e5 rfl rfl ?_
    refine ev_qN f_X6_readTurns (nx := 28) (r := []) rfl rfl rfl rfl rfl rfl rfl (c_s_step hI ((ar0 + 1)) p5) rfl hX rfl (fun gi6 gl6 gr6 hI hX hC6 q6 => ?_)
    have q6 : (∀ (b : Nat → Int32) (n q : Nat), t_Sp b n q g4 (ar0 + 1) → t_TC b n q gi6 gl6 gr6 (ar0 + 1)) ∧ t_nf g4 gi6 (ar0 + 1) ∧ t_on (ar0 + 1) g4 gl gr gi6 gl6 gr6 := q6
    replace p_a0 := p_a0.ext hC6.2
    replace p5 := p5.ext hC6.2
    refine ev_loc f_X6_readTurns (nx := 29) rfl rfl rfl rfl ?_
    have e7 := p_a0.2.2.2.2.2.1
    have p7 := p_a0.2.2.2.2.2.2
    refine ev_getR f_X6_readTurns (nx := 32) rfl p_a0.1 rfl rfl e7 rfl rfl ?_
    refine ev_loc f_X6_readTurns (nx := 33) rfl rfl rfl rfl ?_
    refine ev_getR f_X6_readTurns (nx := 36) (v := .ref (ar0 + 1)) rfl p_a0.1 rfl rfl ((hC6.1 ar0 0 (t_ninO hI.wf p_a0.1 (t_outO hI.wf p_a0.1 rfl) rfl)).2.2.trans e5) rfl rfl ?_
    refine ev_getI f_X6_readTurns (nx := 39) rfl p5.1 rfl rfl rfl ?_
    refine ev_putIT f_X6_readTurns (nx := 42) rfl p7.1 rfl rfl rfl (hI.put0 p7.1 rfl rfl) (hX.upI (t_inO hI.wf p7.1 (t_outO hI.wf p7.1 rfl) rfl)) (fun g8 e8 hI hX => ?_)
    refine ev_loc f_X6_readTurns (nx := 43) rfl rfl rfl rfl ?_
    refine ev_getR f_X6_readTurns (nx := 46) (v := .ref (ar0 + 1)) rfl p_a0.1 rfl rfl ((hC6.1 ar0 0 (t_ninO hI.wf p_a0.1 (t_outO hI.wf p_a0.1 rfl) rfl)).2.2.trans e5) rfl rfl ?_
    refine ev_ic f_X6_readTurns (nx := 47) (v := 1) rfl (by decide) rfl ?_
    refine ev_bp f_X6_readTurns (nx := 49) (v := 20) rfl (by decide) rfl ?_
    refine ev_qI f_X6_readTurns (nx := 52) (r := []) rfl rfl rfl rfl rfl rfl rfl (c_s_takeNumber hI ((ar0 + 1)) p5 (1) (20)) rfl hX rfl (fun w9 gi9 gl9 gr9 l9 u9 hI hX hC9 q9 => ?_)
    have q9 : (∀ (b : Nat → Int32) (n q : Nat), t_TC b n q g8 gl6 gr6 (ar0 + 1) → (w9.toInt = 1 ∧ s_isV b n q 1 20 ∧ t_TC b n (s_E b n q) gi9 gl9 gr9 (ar0 + 1) ∧ t_nf g8 gi9 (ar0 + 1)) ∨ (w9.toInt = 0 ∧ s_K b n q ≠ 3 ∧ t_FL gi9 (ar0 + 1) (s_fk b n q 2) (s_F b n q)) ∨ (w9.toInt = 0 ∧ (s_K b n q = 3 ∧ ¬ s_isV b n q 1 20) ∧ t_FL gi9 (ar0 + 1) (s_fk b n q 4) (s_F b n q))) ∧ t_on (ar0 + 1) g8 gl6 gr6 gi9 gl9 gr9 := q9
    replace p_a0 := p_a0.ext hC9.2
    replace p5 := p5.ext hC9.2
    replace p7 := p7.ext hC9.2
    exact ev_retZ f_X6_readTurns rfl l9 u9 ⟨_, _, _, rfl, hI, hX, ⟨_, rfl, l9, u9, (show (∀ (b : Nat → Int32) (n q : Nat) (D : s_D), t_CN b n q D gi gl gr ar0 → (w9.toInt = 1 ∧ ∃ q2 D2, s_turns b n q D = s_ok q2 D2 ∧ t_CN b n q2 D2 gi9 gl9 gr9 ar0) ∨ (w9.toInt = 0 ∧ ∃ p x D2, x ≠ 0 ∧ s_turns b n q D = s_bad b n p x D2 ∧ t_FL gi9 (ar0 + 1) (s_fk b n p x) (s_F b n p))) ∧ t_lq ar0 gi gl gr gi9 gl9 gr9 from ⟨(by
                                                            intro b n q D h
                                                            have h102 := p_a0.2.1
                                                            have h : t_CS b n q D (D 0 + D 1 + D 2) (s_used D) gi gl gr ar0 := h
                                                            obtain ⟨⟨hb1, hb2⟩, ⟨hb3, hb4⟩, hb5, hb6⟩ := h.2.1.1
                                                            have hf : (gi ar0 5).toInt = D 221 := h.2.1.2.2.2.1.2.1
                                                            have hS : t_Sp b n (s_E b n q) g4 (ar0 + 1) := ⟨by rw [e4, x_up2_ne (by omega)]; exact h.1.S.1, by rw [e4, x_up2_ne (by omega)]; exact h.1.S.2.1, by rw [e4, x_up2_ne (by omega)]; exact h.1.S.2.2.1, h.1.S.2.2.2⟩
                                                            have h1 := q6.1 b n _ hS
                                                            have f1 : t_FL gi6 (ar0 + 1) 0 (-1) := ⟨by rw [q6.2.1.1, e4, x_up2_ne (by omega)]; exact h.2.2.1, by rw [q6.2.1.2, e4, x_up2_ne (by omega)]; exact h.2.2.2⟩
                                                            have g1 : t_TC b n _ g8 gl6 gr6 (ar0 + 1) := h1.eq (by rw [e8, x_up2_ne (by omega)]) (by rw [e8, x_up2_ne (by omega)]) rfl rfl
                                                            have k1 : t_FL g8 (ar0 + 1) 0 (-1) := ⟨by rw [e8, x_up2_ne (by omega)]; exact f1.1, by rw [e8, x_up2_ne (by omega)]; exact f1.2⟩
                                                            rcases q9.1 b n _ g1 with hh | hh | hh
                                                            · have hq := h.2.1.2.2.2.1
                                                              have hr : ∀ K, K ≠ ar0 → K ≠ ar0 + 1 → K ≠ ar0 + 2 → gi9 K = gi K := fun K h0 h1 h2 => by rw [(q9.2 K (by omega)).1, e8, x_up2_ne (by omega), (q6.2.2 K (by omega)).1, e4, x_up2_ne (by omega)]
                                                              have hl : ∀ K, K ≠ ar0 + 1 → gl9 K = gl K := fun K h1 => by rw [(q9.2 K (by omega)).2.1, (q6.2.2 K (by omega)).2.1]
                                                              have r04 : gi9 ar0 4 = gi ar0 4 := by rw [(q9.2 (ar0) (by omega)).1, e8, x_up2_ne (by omega), (q6.2.2 (ar0) (by omega)).1, e4, x_up2_off (Or.inr (by decide))]
                                                              have r05 : gi9 ar0 5 = (1 : Int32) := by rw [(q9.2 (ar0) (by omega)).1, e8, x_up2_ne (by omega), (q6.2.2 (ar0) (by omega)).1, e4, x_up2_at]
                                                              have r06 : gi9 ar0 6 = gi ar0 6 := by rw [(q9.2 (ar0) (by omega)).1, e8, x_up2_ne (by omega), (q6.2.2 (ar0) (by omega)).1, e4, x_up2_off (Or.inr (by decide))]
                                                              have r07 : gi9 ar0 7 = gi ar0 7 := by rw [(q9.2 (ar0) (by omega)).1, e8, x_up2_ne (by omega), (q6.2.2 (ar0) (by omega)).1, e4, x_up2_off (Or.inr (by decide))]
                                                              have r20 : gi9 (ar0 + 2) 0 = gi (ar0 + 2) 0 := by rw [(q9.2 (ar0 + 2) (by omega)).1, e8, x_up2_off (Or.inr (by decide)), (q6.2.2 (ar0 + 2) (by omega)).1, e4, x_up2_ne (by omega)]
                                                              have r23 : gi9 (ar0 + 2) 3 = (gi6 (ar0 + 1) 8) := by rw [(q9.2 (ar0 + 2) (by omega)).1, e8, x_up2_at]
                                                              have r24 : gi9 (ar0 + 2) 4 = gi (ar0 + 2) 4 := by rw [(q9.2 (ar0 + 2) (by omega)).1, e8, x_up2_off (Or.inr (by decide)), (q6.2.2 (ar0 + 2) (by omega)).1, e4, x_up2_ne (by omega)]
                                                              have r25 : gi9 (ar0 + 2) 5 = gi (ar0 + 2) 5 := by rw [(q9.2 (ar0 + 2) (by omega)).1, e8, x_up2_off (Or.inr (by decide)), (q6.2.2 (ar0 + 2) (by omega)).1, e4, x_up2_ne (by omega)]
                                                              have r26 : gi9 (ar0 + 2) 6 = gi (ar0 + 2) 6 := by rw [(q9.2 (ar0 + 2) (by omega)).1, e8, x_up2_off (Or.inr (by decide)), (q6.2.2 (ar0 + 2) (by omega)).1, e4, x_up2_ne (by omega)]
                                                              have v4 : (gi6 (ar0 + 1) 8).toInt = s_V b n _ := congrArg Int32.toInt (h1.2.2.2.2.2.2.1 hh.2.1.1)
                                                              exact Or.inl ⟨hh.1, _, (s_set (s_set D 221 1) 4 (s_V b n (s_E b n q))), by simp only [s_turns, s_num, s_ifT (show D 221 = 0 by omega), s_ifT hh.2.1.1, s_ifT hh.2.1], hh.2.2.1, h.2.1.tel (fun c _ h0 h1 h2 => hr _ (by omega) (by omega) (by omega)) (fun c _ h1 => hl _ (by omega)) r04 r20 ⟨⟨(congrArg Int32.toInt r23).trans v4, (congrArg Int32.toInt r24).trans hq.1.2.1, (congrArg Int32.toInt r25).trans hq.1.2.2.1, (congrArg Int32.toInt r26).trans hq.1.2.2.2⟩, (congrArg Int32.toInt r05).trans rfl, (congrArg Int32.toInt r06).trans hq.2.2.1, (congrArg Int32.toInt r07).trans hq.2.2.2⟩ (fun j hj => (by unfold s_set; rw [if_neg (by omega), if_neg (by omega)])), by rw [hh.2.2.2.1]; exact k1.1, by rw [hh.2.2.2.2]; exact k1.2⟩
                                                            · exact Or.inr ⟨hh.1, _, 2, D, by decide, by simp only [s_turns, s_num, s_ifT (show D 221 = 0 by omega), s_ifF hh.2.1], hh.2.2⟩
                                                            · exact Or.inr ⟨hh.1, _, 4, D, by decide, by simp only [s_turns, s_num, s_ifT (show D 221 = 0 by omega), s_ifT hh.2.1.1, s_ifF hh.2.1.2], hh.2.2⟩), (t_lq.on (t_lq.I (t_lq.on (t_lq.I t_lq.rf (by omega) e4) q6.2.2 (by omega)) (by omega) e8) q9.2 (by omega))⟩)⟩⟩
  · have r10 : (gi ar0 5).toInt ≠ 0 := fun e => h1 (Int32.toInt_inj.mp (e.trans (by decide : (0:Int) = (0 : Int32).toInt)))
    refine ev_loc f_X6_readTurns (nx := 8) rfl rfl rfl rfl ?_
    have e11 := p_a0.2.2.2.2.1.1
    have p11 := p_a0.2.2.2.2.1.2
    refine ev_getR f_X6_readTurns (nx := 11) rfl p_a0.1 rfl rfl e11 rfl rfl ?_
    refine ev_ic f_X6_readTurns (nx := 12) (v := 5) rfl (by decide) rfl ?_
    refine ev_qI f_X6_readTurns (nx := 15) (r := []) rfl rfl rfl rfl rfl rfl rfl (c_s_refuse hI ((ar0 + 1)) p11 (5) (Int.le_trans (by decide : (2:Int) ≤ 5) (by decide : (5:Int) ≤ (5:Int32).toInt)) (Int.le_trans (by decide : (5:Int32).toInt ≤ (5:Int)) (by decide : (5:Int) ≤ 7))) rfl hX rfl (fun w12 gi12 gl12 gr12 l12 u12 hI hX hC12 q12 => ?_)
    have q12 : (∀ (b : Nat → Int32) (n q : Nat), t_TC b n q gi gl gr (ar0 + 1) → t_FL gi12 (ar0 + 1) (s_fk b n q 5) (s_F b n q)) ∧ w12.toInt = 0 ∧ t_on (ar0 + 1) gi gl gr gi12 gl12 gr12 := q12
    replace p_a0 := p_a0.ext hC12.2
    replace p11 := p11.ext hC12.2
    exact ev_retZ f_X6_readTurns rfl l12 (Int.le_trans u12 (by decide : (0:Int) ≤ 1)) ⟨_, _, _, rfl, hI, hX, ⟨_, rfl, l12, (Int.le_trans u12 (by decide : (0:Int) ≤ 1)), (show (∀ (b : Nat → Int32) (n q : Nat) (D : s_D), t_CN b n q D gi gl gr ar0 → (w12.toInt = 1 ∧ ∃ q2 D2, s_turns b n q D = s_ok q2 D2 ∧ t_CN b n q2 D2 gi12 gl12 gr12 ar0) ∨ (w12.toInt = 0 ∧ ∃ p x D2, x ≠ 0 ∧ s_turns b n q D = s_bad b n p x D2 ∧ t_FL gi12 (ar0 + 1) (s_fk b n p x) (s_F b n p))) ∧ t_lq ar0 gi gl gr gi12 gl12 gr12 from ⟨(by
                                                            intro b n q D h
                                                            have h102 := p_a0.2.1
                                                            have h : t_CS b n q D (D 0 + D 1 + D 2) (s_used D) gi gl gr ar0 := h
                                                            obtain ⟨⟨hb1, hb2⟩, ⟨hb3, hb4⟩, hb5, hb6⟩ := h.2.1.1
                                                            have hf : (gi ar0 5).toInt = D 221 := h.2.1.2.2.2.1.2.1
                                                            exact Or.inr ⟨q12.2.1, _, 5, D, by decide, by simp only [s_turns, s_ifF (show ¬ D 221 = 0 by omega)], q12.1 b n q h.1⟩), (t_lq.on t_lq.rf q12.2.2 (by omega))⟩)⟩⟩
noncomputable def wl_s_readEcho : List (Nat × Nat) := [(3, 6), (114, 6), (115, 7), (118, 2), (118, 3), (118, 4), (118, 5), (118, 6), (118, 7), (118, 8), (118, 9), (118, 10), (118, 11)]
noncomputable def Q_s_readEcho (gi : Nat → Nat → Int32) (gl : Nat → Nat → Int64) (gr : Nat → Nat → Value) (ar0 : Nat) : Int32 → (Nat → Nat → Int32) → (Nat → Nat → Int64) → (Nat → Nat → Value) → Prop := fun (v : Int32) (gi2 : Nat → Nat → Int32) (gl2 : Nat → Nat → Int64) (gr2 : Nat → Nat → Value) => (∀ (b : Nat → Int32) (n q : Nat) (D : s_D), t_CN b n q D gi gl gr ar0 → (v.toInt = 1 ∧ ∃ q2 D2, s_echo b n q D = s_ok q2 D2 ∧ t_CN b n q2 D2 gi2 gl2 gr2 ar0) ∨ (v.toInt = 0 ∧ ∃ p x D2, x ≠ 0 ∧ s_echo b n q D = s_bad b n p x D2 ∧ t_FL gi2 (ar0 + 1) (s_fk b n p x) (s_F b n p))) ∧ t_lq ar0 gi gl gr gi2 gl2 gr2
theorem c_s_readEcho {X : x_Ext} {d : Nat} {sh : List (Nat ⊕ (Nat × Nat))} {gi : Nat → Nat → Int32} {gl : Nat → Nat → Int64} {gr : Nat → Nat → Value} (hI : t_I sh gi gr) (ar0 : Nat) (p_a0 : t_RQ sh gr ar0) : x_Me X (d + 4) n_X6_readEcho [.ref ar0] (sh, gi, gl, gr) (t_PI wl_s_readEcho sh gi gl gr 0 1 (Q_s_readEcho gi gl gr ar0)) := by
  have hX : t_X wl_s_readEcho sh gi gl gr gi gl gr := t_X.rf
  refine me_i f_X6_readEcho p_a0.1 rfl rfl rfl ?_
  refine ev_loc f_X6_readEcho (nx := 1) rfl rfl rfl rfl ?_
  refine ev_getI f_X6_readEcho (nx := 4) rfl p_a0.1 rfl rfl rfl ?_
  refine ev_if f_X6_readEcho (t1 := 16) (t2 := 7) rfl rfl rfl (fun h1 => ?_) (fun h1 => ?_)
  · have u2 : (gi ar0 7).toInt ≤ 0 := t_equ h1 (by decide : (0:Int32).toInt ≤ (0:Int))
    have l3 : 0 ≤ (gi ar0 7).toInt := t_eql h1 (by decide : (0:Int) ≤ (0:Int32).toInt)
    refine ev_loc f_X6_readEcho (nx := 17) rfl rfl rfl rfl ?_
    refine ev_ic f_X6_readEcho (nx := 18) (v := 1) rfl (by decide) rfl ?_
    refine ev_putZT f_X6_readEcho (nx := 21) rfl p_a0.1 rfl rfl (Int.le_trans (by decide : (0:Int) ≤ 1) (by decide : (1:Int) ≤ (1:Int32).toInt)) (by decide : (1:Int32).toInt ≤ (1:Int)) rfl (hI.put0 p_a0.1 rfl rfl) (hX.upI (t_inO hI.wf p_a0.1 (t_outO hI.wf p_a0.1 rfl) rfl)) (fun g4 e4 hI hX => ?_)
    refine ev_loc f_X6_readEcho (nx := 22) rfl rfl rfl rfl ?_
    have e5 := p_a0.2.2.2.2.1.1
    have p5 := p_a0.2.2.2.2.1.2
    refine ev_getR f_X6_readEcho (nx := 25) rfl p_a0.1 rfl rfl e5 rfl rfl ?_
    refine ev_qN f_X6_readEcho (nx := 28) (r := []) rfl rfl rfl rfl rfl rfl rfl (c_s_step hI ((ar0 + 1)) p5) rfl hX rfl (fun gi6 gl6 gr6 hI hX hC6 q6 => ?_)
    have q6 : (∀ (b : Nat → Int32) (n q : Nat), t_Sp b n q g4 (ar0 + 1) → t_TC b n q gi6 gl6 gr6 (ar0 + 1)) ∧ t_nf g4 gi6 (ar0 + 1) ∧ t_on (ar0 + 1) g4 gl gr gi6 gl6 gr6 := q6
    replace p_a0 := p_a0.ext hC6.2
    replace p5 := p5.ext hC6.2
    refine ev_loc f_X6_readEcho (nx := 29) rfl rfl rfl rfl ?_
    have e7 := p_a0.2.2.2.2.2.1
    have p7 := p_a0.2.2.2.2.2.2
    refine ev_getR f_X6_readEcho (nx := 32) rfl p_a0.1 rfl rfl e7 rfl rfl ?_
    refine ev_loc f_X6_readEcho (nx := 33) rfl rfl rfl rfl ?_
    refine ev_getR f_X6_readEcho (nx := 36) (v := .ref (ar0 + 1)) rfl p_a0.1 rfl rfl ((hC6.1 ar0 0 (t_ninO hI.wf p_a0.1 (t_outO hI.wf p_a0.1 rfl) rfl)).2.2.trans e5) rfl rfl ?_
    refine ev_getI f_X6_readEcho (nx := 39) rfl p5.1 rfl rfl rfl ?_
    refine ev_putIT f_X6_readEcho (nx := 42) rfl p7.1 rfl rfl rfl (hI.put0 p7.1 rfl rfl) (hX.upI (t_inO hI.wf p7.1 (t_outO hI.wf p7.1 rfl) rfl)) (fun g8 e8 hI hX => ?_)
    refine ev_loc f_X6_readEcho (nx := 43) rfl rfl rfl rfl ?_
    refine ev_getR f_X6_readEcho (nx := 46) (v := .ref (ar0 + 1)) rfl p_a0.1 rfl rfl ((hC6.1 ar0 0 (t_ninO hI.wf p_a0.1 (t_outO hI.wf p_a0.1 rfl) rfl)).2.2.trans e5) rfl rfl ?_
    refine ev_ic f_X6_readEcho (nx := 47) (v := 0) rfl (by decide) rfl ?_
    refine ev_bp f_X6_readEcho (nx := 49) (v := 9) rfl (by decide) rfl ?_
    refine ev_qI f_X6_readEcho (nx := 52) (r := []) rfl rfl rfl rfl rfl rfl rfl (c_s_takeNumber hI ((ar0 + 1)) p5 (0) (9)) rfl hX rfl (fun w9 gi9 gl9 gr9 l9 u9 hI hX hC9 q9 => ?_)
    have q9 : (∀ (b : Nat → Int32) (n q : Nat), t_TC b n q g8 gl6 gr6 (ar0 + 1) → (w9.toInt = 1 ∧ s_isV b n q 0 9 ∧ t_TC b n (s_E b n q) gi9 gl9 gr9 (ar0 + 1) ∧ t_nf g8 gi9 (ar0 + 1)) ∨ (w9.toInt = 0 ∧ s_K b n q ≠ 3 ∧ t_FL gi9 (ar0 + 1) (s_fk b n q 2) (s_F b n q)) ∨ (w9.toInt = 0 ∧ (s_K b n q = 3 ∧ ¬ s_isV b n q 0 9) ∧ t_FL gi9 (ar0 + 1) (s_fk b n q 4) (s_F b n q))) ∧ t_on (ar0 + 1) g8 gl6 gr6 gi9 gl9 gr9 := q9
    replace p_a0 := p_a0.ext hC9.2
    replace p5 := p5.ext hC9.2
    replace p7 := p7.ext hC9.2
    exact ev_retZ f_X6_readEcho rfl l9 u9 ⟨_, _, _, rfl, hI, hX, ⟨_, rfl, l9, u9, (show (∀ (b : Nat → Int32) (n q : Nat) (D : s_D), t_CN b n q D gi gl gr ar0 → (w9.toInt = 1 ∧ ∃ q2 D2, s_echo b n q D = s_ok q2 D2 ∧ t_CN b n q2 D2 gi9 gl9 gr9 ar0) ∨ (w9.toInt = 0 ∧ ∃ p x D2, x ≠ 0 ∧ s_echo b n q D = s_bad b n p x D2 ∧ t_FL gi9 (ar0 + 1) (s_fk b n p x) (s_F b n p))) ∧ t_lq ar0 gi gl gr gi9 gl9 gr9 from ⟨(by
                                                            intro b n q D h
                                                            have h102 := p_a0.2.1
                                                            have h : t_CS b n q D (D 0 + D 1 + D 2) (s_used D) gi gl gr ar0 := h
                                                            obtain ⟨⟨hb1, hb2⟩, ⟨hb3, hb4⟩, hb5, hb6⟩ := h.2.1.1
                                                            have hf : (gi ar0 7).toInt = D 223 := h.2.1.2.2.2.1.2.2.2
                                                            have hS : t_Sp b n (s_E b n q) g4 (ar0 + 1) := ⟨by rw [e4, x_up2_ne (by omega)]; exact h.1.S.1, by rw [e4, x_up2_ne (by omega)]; exact h.1.S.2.1, by rw [e4, x_up2_ne (by omega)]; exact h.1.S.2.2.1, h.1.S.2.2.2⟩
                                                            have h1 := q6.1 b n _ hS
                                                            have f1 : t_FL gi6 (ar0 + 1) 0 (-1) := ⟨by rw [q6.2.1.1, e4, x_up2_ne (by omega)]; exact h.2.2.1, by rw [q6.2.1.2, e4, x_up2_ne (by omega)]; exact h.2.2.2⟩
                                                            have g1 : t_TC b n _ g8 gl6 gr6 (ar0 + 1) := h1.eq (by rw [e8, x_up2_ne (by omega)]) (by rw [e8, x_up2_ne (by omega)]) rfl rfl
                                                            have k1 : t_FL g8 (ar0 + 1) 0 (-1) := ⟨by rw [e8, x_up2_ne (by omega)]; exact f1.1, by rw [e8, x_up2_ne (by omega)]; exact f1.2⟩
                                                            rcases q9.1 b n _ g1 with hh | hh | hh
                                                            · have hq := h.2.1.2.2.2.1
                                                              have hr : ∀ K, K ≠ ar0 → K ≠ ar0 + 1 → K ≠ ar0 + 2 → gi9 K = gi K := fun K h0 h1 h2 => by rw [(q9.2 K (by omega)).1, e8, x_up2_ne (by omega), (q6.2.2 K (by omega)).1, e4, x_up2_ne (by omega)]
                                                              have hl : ∀ K, K ≠ ar0 + 1 → gl9 K = gl K := fun K h1 => by rw [(q9.2 K (by omega)).2.1, (q6.2.2 K (by omega)).2.1]
                                                              have r04 : gi9 ar0 4 = gi ar0 4 := by rw [(q9.2 (ar0) (by omega)).1, e8, x_up2_ne (by omega), (q6.2.2 (ar0) (by omega)).1, e4, x_up2_off (Or.inr (by decide))]
                                                              have r05 : gi9 ar0 5 = gi ar0 5 := by rw [(q9.2 (ar0) (by omega)).1, e8, x_up2_ne (by omega), (q6.2.2 (ar0) (by omega)).1, e4, x_up2_off (Or.inr (by decide))]
                                                              have r06 : gi9 ar0 6 = gi ar0 6 := by rw [(q9.2 (ar0) (by omega)).1, e8, x_up2_ne (by omega), (q6.2.2 (ar0) (by omega)).1, e4, x_up2_off (Or.inr (by decide))]
                                                              have r07 : gi9 ar0 7 = (1 : Int32) := by rw [(q9.2 (ar0) (by omega)).1, e8, x_up2_ne (by omega), (q6.2.2 (ar0) (by omega)).1, e4, x_up2_at]
                                                              have r20 : gi9 (ar0 + 2) 0 = gi (ar0 + 2) 0 := by rw [(q9.2 (ar0 + 2) (by omega)).1, e8, x_up2_off (Or.inr (by decide)), (q6.2.2 (ar0 + 2) (by omega)).1, e4, x_up2_ne (by omega)]
                                                              have r23 : gi9 (ar0 + 2) 3 = gi (ar0 + 2) 3 := by rw [(q9.2 (ar0 + 2) (by omega)).1, e8, x_up2_off (Or.inr (by decide)), (q6.2.2 (ar0 + 2) (by omega)).1, e4, x_up2_ne (by omega)]
                                                              have r24 : gi9 (ar0 + 2) 4 = gi (ar0 + 2) 4 := by rw [(q9.2 (ar0 + 2) (by omega)).1, e8, x_up2_off (Or.inr (by decide)), (q6.2.2 (ar0 + 2) (by omega)).1, e4, x_up2_ne (by omega)]
                                                              have r25 : gi9 (ar0 + 2) 5 = gi (ar0 + 2) 5 := by rw [(q9.2 (ar0 + 2) (by omega)).1, e8, x_up2_off (Or.inr (by decide)), (q6.2.2 (ar0 + 2) (by omega)).1, e4, x_up2_ne (by omega)]
                                                              have r26 : gi9 (ar0 + 2) 6 = (gi6 (ar0 + 1) 8) := by rw [(q9.2 (ar0 + 2) (by omega)).1, e8, x_up2_at]
                                                              have v7 : (gi6 (ar0 + 1) 8).toInt = s_V b n _ := congrArg Int32.toInt (h1.2.2.2.2.2.2.1 hh.2.1.1)
                                                              exact Or.inl ⟨hh.1, _, (s_set (s_set D 223 1) 7 (s_V b n (s_E b n q))), by simp only [s_echo, s_num, s_ifT (show D 223 = 0 by omega), s_ifT hh.2.1.1, s_ifT hh.2.1], hh.2.2.1, h.2.1.tel (fun c _ h0 h1 h2 => hr _ (by omega) (by omega) (by omega)) (fun c _ h1 => hl _ (by omega)) r04 r20 ⟨⟨(congrArg Int32.toInt r23).trans hq.1.1, (congrArg Int32.toInt r24).trans hq.1.2.1, (congrArg Int32.toInt r25).trans hq.1.2.2.1, (congrArg Int32.toInt r26).trans v7⟩, (congrArg Int32.toInt r05).trans hq.2.1, (congrArg Int32.toInt r06).trans hq.2.2.1, (congrArg Int32.toInt r07).trans rfl⟩ (fun j hj => (by unfold s_set; rw [if_neg (by omega), if_neg (by omega)])), by rw [hh.2.2.2.1]; exact k1.1, by rw [hh.2.2.2.2]; exact k1.2⟩
                                                            · exact Or.inr ⟨hh.1, _, 2, D, by decide, by simp only [s_echo, s_num, s_ifT (show D 223 = 0 by omega), s_ifF hh.2.1], hh.2.2⟩
                                                            · exact Or.inr ⟨hh.1, _, 4, D, by decide, by simp only [s_echo, s_num, s_ifT (show D 223 = 0 by omega), s_ifT hh.2.1.1, s_ifF hh.2.1.2], hh.2.2⟩), (t_lq.on (t_lq.I (t_lq.on (t_lq.I t_lq.rf (by omega) e4) q6.2.2 (by omega)) (by omega) e8) q9.2 (by omega))⟩)⟩⟩
  · have r10 : (gi ar0 7).toInt ≠ 0 := fun e => h1 (Int32.toInt_inj.mp (e.trans (by decide : (0:Int) = (0 : Int32).toInt)))
    refine ev_loc f_X6_readEcho (nx := 8) rfl rfl rfl rfl ?_
    have e11 := p_a0.2.2.2.2.1.1
    have p11 := p_a0.2.2.2.2.1.2
    refine ev_getR f_X6_readEcho (nx := 11) rfl p_a0.1 rfl rfl e11 rfl rfl ?_
    refine ev_ic f_X6_readEcho (nx := 12) (v := 5) rfl (by decide) rfl ?_
    refine ev_qI f_X6_readEcho (nx := 15) (r := []) rfl rfl rfl rfl rfl rfl rfl (c_s_refuse hI ((ar0 + 1)) p11 (5) (Int.le_trans (by decide : (2:Int) ≤ 5) (by decide : (5:Int) ≤ (5:Int32).toInt)) (Int.le_trans (by decide : (5:Int32).toInt ≤ (5:Int)) (by decide : (5:Int) ≤ 7))) rfl hX rfl (fun w12 gi12 gl12 gr12 l12 u12 hI hX hC12 q12 => ?_)
    have q12 : (∀ (b : Nat → Int32) (n q : Nat), t_TC b n q gi gl gr (ar0 + 1) → t_FL gi12 (ar0 + 1) (s_fk b n q 5) (s_F b n q)) ∧ w12.toInt = 0 ∧ t_on (ar0 + 1) gi gl gr gi12 gl12 gr12 := q12
    replace p_a0 := p_a0.ext hC12.2
    replace p11 := p11.ext hC12.2
    exact ev_retZ f_X6_readEcho rfl l12 (Int.le_trans u12 (by decide : (0:Int) ≤ 1)) ⟨_, _, _, rfl, hI, hX, ⟨_, rfl, l12, (Int.le_trans u12 (by decide : (0:Int) ≤ 1)), (show (∀ (b : Nat → Int32) (n q : Nat) (D : s_D), t_CN b n q D gi gl gr ar0 → (w12.toInt = 1 ∧ ∃ q2 D2, s_echo b n q D = s_ok q2 D2 ∧ t_CN b n q2 D2 gi12 gl12 gr12 ar0) ∨ (w12.toInt = 0 ∧ ∃ p x D2, x ≠ 0 ∧ s_echo b n q D = s_bad b n p x D2 ∧ t_FL gi12 (ar0 + 1) (s_fk b n p x) (s_F b n p))) ∧ t_lq ar0 gi gl gr gi12 gl12 gr12 from ⟨(by
                                                            intro b n q D h
                                                            have h102 := p_a0.2.1
                                                            have h : t_CS b n q D (D 0 + D 1 + D 2) (s_used D) gi gl gr ar0 := h
                                                            obtain ⟨⟨hb1, hb2⟩, ⟨hb3, hb4⟩, hb5, hb6⟩ := h.2.1.1
                                                            have hf : (gi ar0 7).toInt = D 223 := h.2.1.2.2.2.1.2.2.2
                                                            exact Or.inr ⟨q12.2.1, _, 5, D, by decide, by simp only [s_echo, s_ifF (show ¬ D 223 = 0 by omega)], q12.1 b n q h.1⟩), (t_lq.on t_lq.rf q12.2.2 (by omega))⟩)⟩⟩
noncomputable def wl_s_readFrost : List (Nat × Nat) := [(3, 4), (3, 5), (114, 4), (114, 5), (115, 6), (118, 2), (118, 3), (118, 4), (118, 5), (118, 6), (118, 7), (118, 8), (118, 9), (118, 10), (118, 11)]
noncomputable def Q_s_readFrost (gi : Nat → Nat → Int32) (gl : Nat → Nat → Int64) (gr : Nat → Nat → Value) (ar0 : Nat) : Int32 → (Nat → Nat → Int32) → (Nat → Nat → Int64) → (Nat → Nat → Value) → Prop := fun (v : Int32) (gi2 : Nat → Nat → Int32) (gl2 : Nat → Nat → Int64) (gr2 : Nat → Nat → Value) => (∀ (b : Nat → Int32) (n q : Nat) (D : s_D), t_CN b n q D gi gl gr ar0 → (v.toInt = 1 ∧ ∃ q2 D2, s_frost b n q D = s_ok q2 D2 ∧ t_CN b n q2 D2 gi2 gl2 gr2 ar0) ∨ (v.toInt = 0 ∧ ∃ p x D2, x ≠ 0 ∧ s_frost b n q D = s_bad b n p x D2 ∧ t_FL gi2 (ar0 + 1) (s_fk b n p x) (s_F b n p))) ∧ t_lq ar0 gi gl gr gi2 gl2 gr2
theorem c_s_readFrost {X : x_Ext} {d : Nat} {sh : List (Nat ⊕ (Nat × Nat))} {gi : Nat → Nat → Int32} {gl : Nat → Nat → Int64} {gr : Nat → Nat → Value} (hI : t_I sh gi gr) (ar0 : Nat) (p_a0 : t_RQ sh gr ar0) : x_Me X (d + 4) n_X6_readFrost [.ref ar0] (sh, gi, gl, gr) (t_PI wl_s_readFrost sh gi gl gr 0 1 (Q_s_readFrost gi gl gr ar0)) := by
  have hX : t_X wl_s_readFrost sh gi gl gr gi gl gr := t_X.rf
  refine me_i f_X6_readFrost p_a0.1 rfl rfl rfl ?_
  refine ev_loc f_X6_readFrost (nx := 1) rfl rfl rfl rfl ?_
  refine ev_getI f_X6_readFrost (nx := 4) rfl p_a0.1 rfl rfl rfl ?_
  refine ev_if f_X6_readFrost (t1 := 16) (t2 := 7) rfl rfl rfl (fun h1 => ?_) (fun h1 => ?_)
  · have u2 : (gi ar0 6).toInt ≤ 0 := t_equ h1 (by decide : (0:Int32).toInt ≤ (0:Int))
    have l3 : 0 ≤ (gi ar0 6).toInt := t_eql h1 (by decide : (0:Int) ≤ (0:Int32).toInt)
    refine ev_loc f_X6_readFrost (nx := 17) rfl rfl rfl rfl ?_
    refine ev_ic f_X6_readFrost (nx := 18) (v := 1) rfl (by decide) rfl ?_
    refine ev_putZT f_X6_readFrost (nx := 21) rfl p_a0.1 rfl rfl (Int.le_trans (by decide : (0:Int) ≤ 1) (by decide : (1:Int) ≤ (1:Int32).toInt)) (by decide : (1:Int32).toInt ≤ (1:Int)) rfl (hI.put0 p_a0.1 rfl rfl) (hX.upI (t_inO hI.wf p_a0.1 (t_outO hI.wf p_a0.1 rfl) rfl)) (fun g4 e4 hI hX => ?_)
    refine ev_loc f_X6_readFrost (nx := 22) rfl rfl rfl rfl ?_
    have e5 := p_a0.2.2.2.2.1.1
    have p5 := p_a0.2.2.2.2.1.2
    refine ev_getR f_X6_readFrost (nx := 25) rfl p_a0.1 rfl rfl e5 rfl rfl ?_
    refine ev_qN f_X6_readFrost (nx := 28) (r := []) rfl rfl rfl rfl rfl rfl rfl (c_s_step hI ((ar0 + 1)) p5) rfl hX rfl (fun gi6 gl6 gr6 hI hX hC6 q6 => ?_)
    have q6 : (∀ (b : Nat → Int32) (n q : Nat), t_Sp b n q g4 (ar0 + 1) → t_TC b n q gi6 gl6 gr6 (ar0 + 1)) ∧ t_nf g4 gi6 (ar0 + 1) ∧ t_on (ar0 + 1) g4 gl gr gi6 gl6 gr6 := q6
    replace p_a0 := p_a0.ext hC6.2
    replace p5 := p5.ext hC6.2
    refine ev_loc f_X6_readFrost (nx := 29) rfl rfl rfl rfl ?_
    have e7 := p_a0.2.2.2.2.2.1
    have p7 := p_a0.2.2.2.2.2.2
    refine ev_getR f_X6_readFrost (nx := 32) rfl p_a0.1 rfl rfl e7 rfl rfl ?_
    refine ev_loc f_X6_readFrost (nx := 33) rfl rfl rfl rfl ?_
    refine ev_getR f_X6_readFrost (nx := 36) (v := .ref (ar0 + 1)) rfl p_a0.1 rfl rfl ((hC6.1 ar0 0 (t_ninO hI.wf p_a0.1 (t_outO hI.wf p_a0.1 rfl) rfl)).2.2.trans e5) rfl rfl ?_
    refine ev_getI f_X6_readFrost (nx := 39) rfl p5.1 rfl rfl rfl ?_
    refine ev_putIT f_X6_readFrost (nx := 42) rfl p7.1 rfl rfl rfl (hI.put0 p7.1 rfl rfl) (hX.upI (t_inO hI.wf p7.1 (t_outO hI.wf p7.1 rfl) rfl)) (fun g8 e8 hI hX => ?_)
    refine ev_loc f_X6_readFrost (nx := 43) rfl rfl rfl rfl ?_
    refine ev_getR f_X6_readFrost (nx := 46) (v := .ref (ar0 + 1)) rfl p_a0.1 rfl rfl ((hC6.1 ar0 0 (t_ninO hI.wf p_a0.1 (t_outO hI.wf p_a0.1 rfl) rfl)).2.2.trans e5) rfl rfl ?_
    refine ev_ic f_X6_readFrost (nx := 47) (v := 0) rfl (by decide) rfl ?_
    refine ev_bp f_X6_readFrost (nx := 49) (v := 20) rfl (by decide) rfl ?_
    refine ev_qI f_X6_readFrost (nx := 52) (r := []) rfl rfl rfl rfl rfl rfl rfl (c_s_takeNumber hI ((ar0 + 1)) p5 (0) (20)) rfl hX rfl (fun w9 gi9 gl9 gr9 l9 u9 hI hX hC9 q9 => ?_)
    have q9 : (∀ (b : Nat → Int32) (n q : Nat), t_TC b n q g8 gl6 gr6 (ar0 + 1) → (w9.toInt = 1 ∧ s_isV b n q 0 20 ∧ t_TC b n (s_E b n q) gi9 gl9 gr9 (ar0 + 1) ∧ t_nf g8 gi9 (ar0 + 1)) ∨ (w9.toInt = 0 ∧ s_K b n q ≠ 3 ∧ t_FL gi9 (ar0 + 1) (s_fk b n q 2) (s_F b n q)) ∨ (w9.toInt = 0 ∧ (s_K b n q = 3 ∧ ¬ s_isV b n q 0 20) ∧ t_FL gi9 (ar0 + 1) (s_fk b n q 4) (s_F b n q))) ∧ t_on (ar0 + 1) g8 gl6 gr6 gi9 gl9 gr9 := q9
    replace p_a0 := p_a0.ext hC9.2
    replace p5 := p5.ext hC9.2
    replace p7 := p7.ext hC9.2
    refine ev_if f_X6_readFrost (t1 := 68) (t2 := 55) rfl rfl rfl (fun h10 => ?_) (fun h10 => ?_)
    · have u11 : w9.toInt ≤ 0 := t_equ h10 (by decide : (0:Int32).toInt ≤ (0:Int))
      refine ev_ic f_X6_readFrost (nx := 69) (v := 0) rfl (by decide) rfl ?_
      exact ev_ret f_X6_readFrost rfl rfl rfl ⟨_, _, _, rfl, hI, hX, ⟨_, rfl, (by decide : (0:Int) ≤ (0:Int32).toInt), (Int.le_trans (by decide : (0:Int32).toInt ≤ (0:Int)) (by decide : (0:Int) ≤ 1)), (show (∀ (b : Nat → Int32) (n q : Nat) (D : s_D), t_CN b n q D gi gl gr ar0 → ((0 : Int) = 1 ∧ ∃ q2 D2, s_frost b n q D = s_ok q2 D2 ∧ t_CN b n q2 D2 gi9 gl9 gr9 ar0) ∨ ((0 : Int) = 0 ∧ ∃ p x D2, x ≠ 0 ∧ s_frost b n q D = s_bad b n p x D2 ∧ t_FL gi9 (ar0 + 1) (s_fk b n p x) (s_F b n p))) ∧ t_lq ar0 gi gl gr gi9 gl9 gr9 from ⟨(by
                                                            intro b n q D h
                                                            have h102 := p_a0.2.1
                                                            have h : t_CS b n q D (D 0 + D 1 + D 2) (s_used D) gi gl gr ar0 := h
                                                            obtain ⟨⟨hb1, hb2⟩, ⟨hb3, hb4⟩, hb5, hb6⟩ := h.2.1.1
                                                            have hf : (gi ar0 6).toInt = D 222 := h.2.1.2.2.2.1.2.2.1
                                                            have hS : t_Sp b n (s_E b n q) g4 (ar0 + 1) := ⟨by rw [e4, x_up2_ne (by omega)]; exact h.1.S.1, by rw [e4, x_up2_ne (by omega)]; exact h.1.S.2.1, by rw [e4, x_up2_ne (by omega)]; exact h.1.S.2.2.1, h.1.S.2.2.2⟩
                                                            have h1 := q6.1 b n _ hS
                                                            have f1 : t_FL gi6 (ar0 + 1) 0 (-1) := ⟨by rw [q6.2.1.1, e4, x_up2_ne (by omega)]; exact h.2.2.1, by rw [q6.2.1.2, e4, x_up2_ne (by omega)]; exact h.2.2.2⟩
                                                            have g1 : t_TC b n _ g8 gl6 gr6 (ar0 + 1) := h1.eq (by rw [e8, x_up2_ne (by omega)]) (by rw [e8, x_up2_ne (by omega)]) rfl rfl
                                                            have k1 : t_FL g8 (ar0 + 1) 0 (-1) := ⟨by rw [e8, x_up2_ne (by omega)]; exact f1.1, by rw [e8, x_up2_ne (by omega)]; exact f1.2⟩
                                                            rcases q9.1 b n _ g1 with hh | hh | hh
                                                            · exact absurd hh.1 (by omega)
                                                            · exact Or.inr ⟨rfl, _, 2, D, by decide, by simp only [s_frost, s_num, s_kw, s_ifT (show D 222 = 0 by omega), s_ifF hh.2.1], hh.2.2⟩
                                                            · exact Or.inr ⟨rfl, _, 4, D, by decide, by simp only [s_frost, s_num, s_kw, s_ifT (show D 222 = 0 by omega), s_ifT hh.2.1.1, s_ifF hh.2.1.2], hh.2.2⟩), (t_lq.on (t_lq.I (t_lq.on (t_lq.I t_lq.rf (by omega) e4) q6.2.2 (by omega)) (by omega) e8) q9.2 (by omega))⟩)⟩⟩
    · have r12 : w9.toInt ≠ 0 := fun e => h10 (Int32.toInt_inj.mp (e.trans (by decide : (0:Int) = (0 : Int32).toInt)))
      have l13 : 1 ≤ w9.toInt := t_nel h10 l9 rfl rfl
      refine ev_loc f_X6_readFrost (nx := 56) rfl rfl rfl rfl ?_
      refine ev_getR f_X6_readFrost (nx := 59) (v := .ref (ar0 + 1)) rfl p_a0.1 rfl rfl ((hC9.1 ar0 0 (t_ninO hI.wf p_a0.1 (t_outO hI.wf p_a0.1 rfl) rfl)).2.2.trans ((hC6.1 ar0 0 (t_ninO hI.wf p_a0.1 (t_outO hI.wf p_a0.1 rfl) rfl)).2.2.trans e5)) rfl rfl ?_
      refine ev_heap f_X6_readFrost (nx := 62) rfl rfl rfl rfl ?_
      refine ev_qI f_X6_readFrost (nx := 65) (r := []) rfl rfl rfl rfl rfl rfl rfl (c_s_takeFrom hI ((ar0 + 1)) p5) rfl hX rfl (fun w14 gi14 gl14 gr14 l14 u14 hI hX hC14 q14 => ?_)
      have q14 : (∀ (b : Nat → Int32) (n q : Nat), t_TC b n q gi9 gl9 gr9 (ar0 + 1) → (w14.toInt = 1 ∧ s_W b n q = some 4 ∧ t_TC b n (s_E b n q) gi14 gl14 gr14 (ar0 + 1) ∧ t_nf gi9 gi14 (ar0 + 1)) ∨ (w14.toInt = 0 ∧ s_W b n q ≠ some 4 ∧ t_FL gi14 (ar0 + 1) (s_fk b n q 2) (s_F b n q))) ∧ t_on (ar0 + 1) gi9 gl9 gr9 gi14 gl14 gr14 := q14
      replace p_a0 := p_a0.ext hC14.2
      replace p5 := p5.ext hC14.2
      replace p7 := p7.ext hC14.2
      refine ev_if f_X6_readFrost (t1 := 68) (t2 := 70) rfl rfl rfl (fun h15 => ?_) (fun h15 => ?_)
      · have u16 : w14.toInt ≤ 0 := t_equ h15 (by decide : (0:Int32).toInt ≤ (0:Int))
        refine ev_ic f_X6_readFrost (nx := 69) (v := 0) rfl (by decide) rfl ?_
        exact ev_ret f_X6_readFrost rfl rfl rfl ⟨_, _, _, rfl, hI, hX, ⟨_, rfl, (by decide : (0:Int) ≤ (0:Int32).toInt), (Int.le_trans (by decide : (0:Int32).toInt ≤ (0:Int)) (by decide : (0:Int) ≤ 1)), (show (∀ (b : Nat → Int32) (n q : Nat) (D : s_D), t_CN b n q D gi gl gr ar0 → ((0 : Int) = 1 ∧ ∃ q2 D2, s_frost b n q D = s_ok q2 D2 ∧ t_CN b n q2 D2 gi14 gl14 gr14 ar0) ∨ ((0 : Int) = 0 ∧ ∃ p x D2, x ≠ 0 ∧ s_frost b n q D = s_bad b n p x D2 ∧ t_FL gi14 (ar0 + 1) (s_fk b n p x) (s_F b n p))) ∧ t_lq ar0 gi gl gr gi14 gl14 gr14 from ⟨(by
                                                            intro b n q D h
                                                            have h102 := p_a0.2.1
                                                            have h : t_CS b n q D (D 0 + D 1 + D 2) (s_used D) gi gl gr ar0 := h
                                                            obtain ⟨⟨hb1, hb2⟩, ⟨hb3, hb4⟩, hb5, hb6⟩ := h.2.1.1
                                                            have hf : (gi ar0 6).toInt = D 222 := h.2.1.2.2.2.1.2.2.1
                                                            have hS : t_Sp b n (s_E b n q) g4 (ar0 + 1) := ⟨by rw [e4, x_up2_ne (by omega)]; exact h.1.S.1, by rw [e4, x_up2_ne (by omega)]; exact h.1.S.2.1, by rw [e4, x_up2_ne (by omega)]; exact h.1.S.2.2.1, h.1.S.2.2.2⟩
                                                            have h1 := q6.1 b n _ hS
                                                            have f1 : t_FL gi6 (ar0 + 1) 0 (-1) := ⟨by rw [q6.2.1.1, e4, x_up2_ne (by omega)]; exact h.2.2.1, by rw [q6.2.1.2, e4, x_up2_ne (by omega)]; exact h.2.2.2⟩
                                                            have g1 : t_TC b n _ g8 gl6 gr6 (ar0 + 1) := h1.eq (by rw [e8, x_up2_ne (by omega)]) (by rw [e8, x_up2_ne (by omega)]) rfl rfl
                                                            have k1 : t_FL g8 (ar0 + 1) 0 (-1) := ⟨by rw [e8, x_up2_ne (by omega)]; exact f1.1, by rw [e8, x_up2_ne (by omega)]; exact f1.2⟩
                                                            obtain ⟨hv1, hV1, h2, n1⟩ := (q9.1 b n _ g1).resolve_right (fun hh => by rcases hh with hh | hh <;> exact absurd hh.1 (by omega))
                                                            have f2 : t_FL gi9 (ar0 + 1) 0 (-1) := ⟨by rw [n1.1]; exact k1.1, by rw [n1.2]; exact k1.2⟩
                                                            rcases q14.1 b n _ h2 with hh | hh
                                                            · exact absurd hh.1 (by omega)
                                                            · exact Or.inr ⟨rfl, _, 2, D, by decide, by simp only [s_frost, s_num, s_kw, s_ifT (show D 222 = 0 by omega), s_ifT hV1.1, s_ifT hV1, s_ifF hh.2.1], hh.2.2⟩), (t_lq.on (t_lq.on (t_lq.I (t_lq.on (t_lq.I t_lq.rf (by omega) e4) q6.2.2 (by omega)) (by omega) e8) q9.2 (by omega)) q14.2 (by omega))⟩)⟩⟩
      · have r17 : w14.toInt ≠ 0 := fun e => h15 (Int32.toInt_inj.mp (e.trans (by decide : (0:Int) = (0 : Int32).toInt)))
        have l18 : 1 ≤ w14.toInt := t_nel h15 l14 rfl rfl
        refine ev_loc f_X6_readFrost (nx := 71) rfl rfl rfl rfl ?_
        refine ev_getR f_X6_readFrost (nx := 74) (v := .ref (ar0 + 2)) rfl p_a0.1 rfl rfl ((hC14.1 ar0 1 (t_ninO hI.wf p_a0.1 (t_outO hI.wf p_a0.1 rfl) rfl)).2.2.trans ((hC9.1 ar0 1 (t_ninO hI.wf p_a0.1 (t_outO hI.wf p_a0.1 rfl) rfl)).2.2.trans e7)) rfl rfl ?_
        refine ev_loc f_X6_readFrost (nx := 75) rfl rfl rfl rfl ?_
        refine ev_getR f_X6_readFrost (nx := 78) (v := .ref (ar0 + 1)) rfl p_a0.1 rfl rfl ((hC14.1 ar0 0 (t_ninO hI.wf p_a0.1 (t_outO hI.wf p_a0.1 rfl) rfl)).2.2.trans ((hC9.1 ar0 0 (t_ninO hI.wf p_a0.1 (t_outO hI.wf p_a0.1 rfl) rfl)).2.2.trans ((hC6.1 ar0 0 (t_ninO hI.wf p_a0.1 (t_outO hI.wf p_a0.1 rfl) rfl)).2.2.trans e5))) rfl rfl ?_
        refine ev_getI f_X6_readFrost (nx := 81) rfl p5.1 rfl rfl rfl ?_
        refine ev_putIT f_X6_readFrost (nx := 84) rfl p7.1 rfl rfl rfl (hI.put0 p7.1 rfl rfl) (hX.upI (t_inO hI.wf p7.1 (t_outO hI.wf p7.1 rfl) rfl)) (fun g19 e19 hI hX => ?_)
        refine ev_loc f_X6_readFrost (nx := 85) rfl rfl rfl rfl ?_
        refine ev_getR f_X6_readFrost (nx := 88) (v := .ref (ar0 + 1)) rfl p_a0.1 rfl rfl ((hC14.1 ar0 0 (t_ninO hI.wf p_a0.1 (t_outO hI.wf p_a0.1 rfl) rfl)).2.2.trans ((hC9.1 ar0 0 (t_ninO hI.wf p_a0.1 (t_outO hI.wf p_a0.1 rfl) rfl)).2.2.trans ((hC6.1 ar0 0 (t_ninO hI.wf p_a0.1 (t_outO hI.wf p_a0.1 rfl) rfl)).2.2.trans e5))) rfl rfl ?_
        refine ev_ic f_X6_readFrost (nx := 89) (v := 0) rfl (by decide) rfl ?_
        refine ev_sp f_X6_readFrost (nx := 92) (v := 200) rfl (by decide) rfl ?_
        refine ev_qI f_X6_readFrost (nx := 95) (r := []) rfl rfl rfl rfl rfl rfl rfl (c_s_takeNumber hI ((ar0 + 1)) p5 (0) (200)) rfl hX rfl (fun w20 gi20 gl20 gr20 l20 u20 hI hX hC20 q20 => ?_)
        have q20 : (∀ (b : Nat → Int32) (n q : Nat), t_TC b n q g19 gl14 gr14 (ar0 + 1) → (w20.toInt = 1 ∧ s_isV b n q 0 200 ∧ t_TC b n (s_E b n q) gi20 gl20 gr20 (ar0 + 1) ∧ t_nf g19 gi20 (ar0 + 1)) ∨ (w20.toInt = 0 ∧ s_K b n q ≠ 3 ∧ t_FL gi20 (ar0 + 1) (s_fk b n q 2) (s_F b n q)) ∨ (w20.toInt = 0 ∧ (s_K b n q = 3 ∧ ¬ s_isV b n q 0 200) ∧ t_FL gi20 (ar0 + 1) (s_fk b n q 4) (s_F b n q))) ∧ t_on (ar0 + 1) g19 gl14 gr14 gi20 gl20 gr20 := q20
        replace p_a0 := p_a0.ext hC20.2
        replace p5 := p5.ext hC20.2
        replace p7 := p7.ext hC20.2
        exact ev_retZ f_X6_readFrost rfl l20 u20 ⟨_, _, _, rfl, hI, hX, ⟨_, rfl, l20, u20, (show (∀ (b : Nat → Int32) (n q : Nat) (D : s_D), t_CN b n q D gi gl gr ar0 → (w20.toInt = 1 ∧ ∃ q2 D2, s_frost b n q D = s_ok q2 D2 ∧ t_CN b n q2 D2 gi20 gl20 gr20 ar0) ∨ (w20.toInt = 0 ∧ ∃ p x D2, x ≠ 0 ∧ s_frost b n q D = s_bad b n p x D2 ∧ t_FL gi20 (ar0 + 1) (s_fk b n p x) (s_F b n p))) ∧ t_lq ar0 gi gl gr gi20 gl20 gr20 from ⟨(by
                                                            intro b n q D h
                                                            have h102 := p_a0.2.1
                                                            have h : t_CS b n q D (D 0 + D 1 + D 2) (s_used D) gi gl gr ar0 := h
                                                            obtain ⟨⟨hb1, hb2⟩, ⟨hb3, hb4⟩, hb5, hb6⟩ := h.2.1.1
                                                            have hf : (gi ar0 6).toInt = D 222 := h.2.1.2.2.2.1.2.2.1
                                                            have hS : t_Sp b n (s_E b n q) g4 (ar0 + 1) := ⟨by rw [e4, x_up2_ne (by omega)]; exact h.1.S.1, by rw [e4, x_up2_ne (by omega)]; exact h.1.S.2.1, by rw [e4, x_up2_ne (by omega)]; exact h.1.S.2.2.1, h.1.S.2.2.2⟩
                                                            have h1 := q6.1 b n _ hS
                                                            have f1 : t_FL gi6 (ar0 + 1) 0 (-1) := ⟨by rw [q6.2.1.1, e4, x_up2_ne (by omega)]; exact h.2.2.1, by rw [q6.2.1.2, e4, x_up2_ne (by omega)]; exact h.2.2.2⟩
                                                            have g1 : t_TC b n _ g8 gl6 gr6 (ar0 + 1) := h1.eq (by rw [e8, x_up2_ne (by omega)]) (by rw [e8, x_up2_ne (by omega)]) rfl rfl
                                                            have k1 : t_FL g8 (ar0 + 1) 0 (-1) := ⟨by rw [e8, x_up2_ne (by omega)]; exact f1.1, by rw [e8, x_up2_ne (by omega)]; exact f1.2⟩
                                                            obtain ⟨hv1, hV1, h2, n1⟩ := (q9.1 b n _ g1).resolve_right (fun hh => by rcases hh with hh | hh <;> exact absurd hh.1 (by omega))
                                                            have f2 : t_FL gi9 (ar0 + 1) 0 (-1) := ⟨by rw [n1.1]; exact k1.1, by rw [n1.2]; exact k1.2⟩
                                                            obtain ⟨hv2, hV2, h3, n2⟩ := (q14.1 b n _ h2).resolve_right (fun hh => absurd hh.1 (by omega))
                                                            have f3 : t_FL gi14 (ar0 + 1) 0 (-1) := ⟨by rw [n2.1]; exact f2.1, by rw [n2.2]; exact f2.2⟩
                                                            have g3 : t_TC b n _ g19 gl14 gr14 (ar0 + 1) := h3.eq (by rw [e19, x_up2_ne (by omega)]) (by rw [e19, x_up2_ne (by omega)]) rfl rfl
                                                            have k3 : t_FL g19 (ar0 + 1) 0 (-1) := ⟨by rw [e19, x_up2_ne (by omega)]; exact f3.1, by rw [e19, x_up2_ne (by omega)]; exact f3.2⟩
                                                            rcases q20.1 b n _ g3 with hh | hh | hh
                                                            · have hq := h.2.1.2.2.2.1
                                                              have hr : ∀ K, K ≠ ar0 → K ≠ ar0 + 1 → K ≠ ar0 + 2 → gi20 K = gi K := fun K h0 h1 h2 => by rw [(q20.2 K (by omega)).1, e19, x_up2_ne (by omega), (q14.2 K (by omega)).1, (q9.2 K (by omega)).1, e8, x_up2_ne (by omega), (q6.2.2 K (by omega)).1, e4, x_up2_ne (by omega)]
                                                              have hl : ∀ K, K ≠ ar0 + 1 → gl20 K = gl K := fun K h1 => by rw [(q20.2 K (by omega)).2.1, (q14.2 K (by omega)).2.1, (q9.2 K (by omega)).2.1, (q6.2.2 K (by omega)).2.1]
                                                              have r04 : gi20 ar0 4 = gi ar0 4 := by rw [(q20.2 (ar0) (by omega)).1, e19, x_up2_ne (by omega), (q14.2 (ar0) (by omega)).1, (q9.2 (ar0) (by omega)).1, e8, x_up2_ne (by omega), (q6.2.2 (ar0) (by omega)).1, e4, x_up2_off (Or.inr (by decide))]
                                                              have r05 : gi20 ar0 5 = gi ar0 5 := by rw [(q20.2 (ar0) (by omega)).1, e19, x_up2_ne (by omega), (q14.2 (ar0) (by omega)).1, (q9.2 (ar0) (by omega)).1, e8, x_up2_ne (by omega), (q6.2.2 (ar0) (by omega)).1, e4, x_up2_off (Or.inr (by decide))]
                                                              have r06 : gi20 ar0 6 = (1 : Int32) := by rw [(q20.2 (ar0) (by omega)).1, e19, x_up2_ne (by omega), (q14.2 (ar0) (by omega)).1, (q9.2 (ar0) (by omega)).1, e8, x_up2_ne (by omega), (q6.2.2 (ar0) (by omega)).1, e4, x_up2_at]
                                                              have r07 : gi20 ar0 7 = gi ar0 7 := by rw [(q20.2 (ar0) (by omega)).1, e19, x_up2_ne (by omega), (q14.2 (ar0) (by omega)).1, (q9.2 (ar0) (by omega)).1, e8, x_up2_ne (by omega), (q6.2.2 (ar0) (by omega)).1, e4, x_up2_off (Or.inr (by decide))]
                                                              have r20 : gi20 (ar0 + 2) 0 = gi (ar0 + 2) 0 := by rw [(q20.2 (ar0 + 2) (by omega)).1, e19, x_up2_off (Or.inr (by decide)), (q14.2 (ar0 + 2) (by omega)).1, (q9.2 (ar0 + 2) (by omega)).1, e8, x_up2_off (Or.inr (by decide)), (q6.2.2 (ar0 + 2) (by omega)).1, e4, x_up2_ne (by omega)]
                                                              have r23 : gi20 (ar0 + 2) 3 = gi (ar0 + 2) 3 := by rw [(q20.2 (ar0 + 2) (by omega)).1, e19, x_up2_off (Or.inr (by decide)), (q14.2 (ar0 + 2) (by omega)).1, (q9.2 (ar0 + 2) (by omega)).1, e8, x_up2_off (Or.inr (by decide)), (q6.2.2 (ar0 + 2) (by omega)).1, e4, x_up2_ne (by omega)]
                                                              have r24 : gi20 (ar0 + 2) 4 = (gi6 (ar0 + 1) 8) := by rw [(q20.2 (ar0 + 2) (by omega)).1, e19, x_up2_off (Or.inr (by decide)), (q14.2 (ar0 + 2) (by omega)).1, (q9.2 (ar0 + 2) (by omega)).1, e8, x_up2_at]
                                                              have r25 : gi20 (ar0 + 2) 5 = (gi14 (ar0 + 1) 8) := by rw [(q20.2 (ar0 + 2) (by omega)).1, e19, x_up2_at]
                                                              have r26 : gi20 (ar0 + 2) 6 = gi (ar0 + 2) 6 := by rw [(q20.2 (ar0 + 2) (by omega)).1, e19, x_up2_off (Or.inr (by decide)), (q14.2 (ar0 + 2) (by omega)).1, (q9.2 (ar0 + 2) (by omega)).1, e8, x_up2_off (Or.inr (by decide)), (q6.2.2 (ar0 + 2) (by omega)).1, e4, x_up2_ne (by omega)]
                                                              have v5 : (gi6 (ar0 + 1) 8).toInt = s_V b n _ := congrArg Int32.toInt (h1.2.2.2.2.2.2.1 hV1.1)
                                                              have v6 : (gi14 (ar0 + 1) 8).toInt = s_V b n _ := congrArg Int32.toInt (h3.2.2.2.2.2.2.1 hh.2.1.1)
                                                              exact Or.inl ⟨hh.1, _, (s_set (s_set (s_set D 222 1) 5 (s_V b n (s_E b n q))) 6 (s_V b n (s_E b n (s_E b n (s_E b n q))))), by simp only [s_frost, s_num, s_kw, s_ifT (show D 222 = 0 by omega), s_ifT hV1.1, s_ifT hV1, s_ifT hV2, s_ifT hh.2.1.1, s_ifT hh.2.1], hh.2.2.1, h.2.1.tel (fun c _ h0 h1 h2 => hr _ (by omega) (by omega) (by omega)) (fun c _ h1 => hl _ (by omega)) r04 r20 ⟨⟨(congrArg Int32.toInt r23).trans hq.1.1, (congrArg Int32.toInt r24).trans v5, (congrArg Int32.toInt r25).trans v6, (congrArg Int32.toInt r26).trans hq.1.2.2.2⟩, (congrArg Int32.toInt r05).trans hq.2.1, (congrArg Int32.toInt r06).trans rfl, (congrArg Int32.toInt r07).trans hq.2.2.2⟩ (fun j hj => (by unfold s_set; rw [if_neg (by omega), if_neg (by omega), if_neg (by omega)])), by rw [hh.2.2.2.1]; exact k3.1, by rw [hh.2.2.2.2]; exact k3.2⟩
                                                            · exact Or.inr ⟨hh.1, _, 2, D, by decide, by simp only [s_frost, s_num, s_kw, s_ifT (show D 222 = 0 by omega), s_ifT hV1.1, s_ifT hV1, s_ifT hV2, s_ifF hh.2.1], hh.2.2⟩
                                                            · exact Or.inr ⟨hh.1, _, 4, D, by decide, by simp only [s_frost, s_num, s_kw, s_ifT (show D 222 = 0 by omega), s_ifT hV1.1, s_ifT hV1, s_ifT hV2, s_ifT hh.2.1.1, s_ifF hh.2.1.2], hh.2.2⟩), (t_lq.on (t_lq.I (t_lq.on (t_lq.on (t_lq.I (t_lq.on (t_lq.I t_lq.rf (by omega) e4) q6.2.2 (by omega)) (by omega) e8) q9.2 (by omega)) q14.2 (by omega)) (by omega) e19) q20.2 (by omega))⟩)⟩⟩
  · have r21 : (gi ar0 6).toInt ≠ 0 := fun e => h1 (Int32.toInt_inj.mp (e.trans (by decide : (0:Int) = (0 : Int32).toInt)))
    refine ev_loc f_X6_readFrost (nx := 8) rfl rfl rfl rfl ?_
    have e22 := p_a0.2.2.2.2.1.1
    have p22 := p_a0.2.2.2.2.1.2
    refine ev_getR f_X6_readFrost (nx := 11) rfl p_a0.1 rfl rfl e22 rfl rfl ?_
    refine ev_ic f_X6_readFrost (nx := 12) (v := 5) rfl (by decide) rfl ?_
    refine ev_qI f_X6_readFrost (nx := 15) (r := []) rfl rfl rfl rfl rfl rfl rfl (c_s_refuse hI ((ar0 + 1)) p22 (5) (Int.le_trans (by decide : (2:Int) ≤ 5) (by decide : (5:Int) ≤ (5:Int32).toInt)) (Int.le_trans (by decide : (5:Int32).toInt ≤ (5:Int)) (by decide : (5:Int) ≤ 7))) rfl hX rfl (fun w23 gi23 gl23 gr23 l23 u23 hI hX hC23 q23 => ?_)
    have q23 : (∀ (b : Nat → Int32) (n q : Nat), t_TC b n q gi gl gr (ar0 + 1) → t_FL gi23 (ar0 + 1) (s_fk b n q 5) (s_F b n q)) ∧ w23.toInt = 0 ∧ t_on (ar0 + 1) gi gl gr gi23 gl23 gr23 := q23
    replace p_a0 := p_a0.ext hC23.2
    replace p22 := p22.ext hC23.2
    exact ev_retZ f_X6_readFrost rfl l23 (Int.le_trans u23 (by decide : (0:Int) ≤ 1)) ⟨_, _, _, rfl, hI, hX, ⟨_, rfl, l23, (Int.le_trans u23 (by decide : (0:Int) ≤ 1)), (show (∀ (b : Nat → Int32) (n q : Nat) (D : s_D), t_CN b n q D gi gl gr ar0 → (w23.toInt = 1 ∧ ∃ q2 D2, s_frost b n q D = s_ok q2 D2 ∧ t_CN b n q2 D2 gi23 gl23 gr23 ar0) ∨ (w23.toInt = 0 ∧ ∃ p x D2, x ≠ 0 ∧ s_frost b n q D = s_bad b n p x D2 ∧ t_FL gi23 (ar0 + 1) (s_fk b n p x) (s_F b n p))) ∧ t_lq ar0 gi gl gr gi23 gl23 gr23 from ⟨(by
                                                            intro b n q D h
                                                            have h102 := p_a0.2.1
                                                            have h : t_CS b n q D (D 0 + D 1 + D 2) (s_used D) gi gl gr ar0 := h
                                                            obtain ⟨⟨hb1, hb2⟩, ⟨hb3, hb4⟩, hb5, hb6⟩ := h.2.1.1
                                                            have hf : (gi ar0 6).toInt = D 222 := h.2.1.2.2.2.1.2.2.1
                                                            exact Or.inr ⟨q23.2.1, _, 5, D, by decide, by simp only [s_frost, s_ifF (show ¬ D 222 = 0 by omega)], q23.1 b n q h.1⟩), (t_lq.on t_lq.rf q23.2.2 (by omega))⟩)⟩⟩
