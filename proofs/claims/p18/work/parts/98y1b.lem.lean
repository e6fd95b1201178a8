/-! ===== what is asked of a TOKEN ===== -/
/-- BLASTS, looked at to x -/
noncomputable def t_BL (b : Nat → Int32) (n q : Nat) (x : Int32) : Prop := (s_K b n q = 2 ∧ s_E b n q - s_F b n q ≤ 6) ∧ ((s_F b n q : Nat) : Int) ≤ x.toInt ∧ ∀ k : Nat, s_F b n q ≤ k → (k : Int) < x.toInt → (b k).toInt = 108 ∨ (b k).toInt = 115
section ASK
variable {b : Nat → Int32} {n q k : Nat} {gi g1 g2 : Nat → Nat → Int32} {gl : Nat → Nat → Int64} {gr : Nat → Nat → Value}
theorem s_K_le : s_K b n q ≤ 4 := by
  unfold s_K
  split
  · decide
  split
  · decide
  split
  · split <;> decide
  split <;> decide
theorem t_TC.S (h : t_TC b n q gi gl gr k) : t_Sp b n (s_E b n q) gi k := t_TC_S h
theorem t_TC.K (h : t_TC b n q gi gl gr k) : (s_K b n q = 0 ∧ (gi k 3).toInt = 3) ∨ (s_K b n q = 1 ∧ (gi k 3).toInt = 4) ∨ (s_K b n q = 2 ∧ (gi k 3).toInt = 0) ∨ (s_K b n q = 3 ∧ (gi k 3).toInt = 1) ∨ (s_K b n q = 4 ∧ (gi k 3).toInt = 2) := by
  have h3 := h.2.2.2.1
  have hk := s_K_le (b := b) (n := n) (q := q)
  have hc : s_K b n q = 0 ∨ s_K b n q = 1 ∨ s_K b n q = 2 ∨ s_K b n q = 3 ∨ s_K b n q = 4 := by omega
  rcases hc with e | e | e | e | e <;> rw [e] at h3 ⊢
  · exact Or.inl ⟨rfl, h3⟩
  · exact Or.inr (Or.inl ⟨rfl, h3⟩)
  · exact Or.inr (Or.inr (Or.inl ⟨rfl, h3⟩))
  · exact Or.inr (Or.inr (Or.inr (Or.inl ⟨rfl, h3⟩)))
  · exact Or.inr (Or.inr (Or.inr (Or.inr ⟨rfl, h3⟩)))
theorem s_kvN {o : Option Nat} : s_kv o = .null ↔ o = none := by
  cases o with
  | none => exact ⟨fun _ => rfl, fun _ => rfl⟩
  | some i => exact ⟨fun h => (by cases h), fun h => (by cases h)⟩
theorem s_kvS {o : Option Nat} {i : Nat} : s_kv o = .retAddr i ↔ o = some i := by
  cases o with
  | none => exact ⟨fun h => (by cases h), fun h => (by cases h)⟩
  | some j => exact ⟨fun h => (by cases h; rfl), fun h => (by cases h; rfl)⟩
theorem t_TC.isN (h : t_TC b n q gi gl gr k) : ((gi k 3).toInt = 0 ∧ gr k 7 = .null ∧ (gi k 5).toInt ≤ 8) ↔ s_isN b n q := by
  have hK := h.K
  have h7 := h.2.2.2.2.1
  have h5 := h.2.2.2.2.2.1
  unfold s_isN
  rw [h7, s_kvN]
  constructor
  · rintro ⟨a, c, d⟩
    have e : s_K b n q = 2 := by omega
    exact ⟨e, c, by have := (h5 e).1; omega⟩
  · rintro ⟨a, c, d⟩
    exact ⟨by omega, c, by rw [(h5 a).1]; omega⟩
theorem t_TC.isS (h : t_TC b n q gi gl gr k) {c : Int} : ((gi k 3).toInt = 2 ∧ (gi k 9).toInt = c) ↔ s_isS b n q c := by
  have hK := h.K
  have h9 := h.2.2.2.2.2.2.2
  unfold s_isS
  constructor
  · rintro ⟨a, d⟩
    have e : s_K b n q = 4 := by omega
    exact ⟨e, by rw [← h9 e]; exact d⟩
  · rintro ⟨a, d⟩
    exact ⟨by omega, by rw [h9 a]; exact d⟩
theorem t_TC.isB0 (h : t_TC b n q gi gl gr k) (h3 : (gi k 3).toInt = 0) (h5 : (gi k 5).toInt ≤ 6) : t_BL b n q (gi k 4) := by
  have hK := h.K
  have e : s_K b n q = 2 := by omega
  have := (h.2.2.2.2.2.1 e).1
  have h4 := h.2.2.1
  exact ⟨⟨e, by omega⟩, by omega, fun j hj hj2 => by omega⟩
theorem t_TC.wi (h : t_TC b n q gi gl gr k) {i w : Int32} (hi : ((s_F b n q : Nat) : Int) ≤ i.toInt) (ew : w = gi 2 i.toNatClampNeg) : b i.toNatClampNeg = w ∧ (i.toNatClampNeg : Int) = i.toInt := ⟨by rw [ew, h.1.1], t_clamp (by omega)⟩
theorem t_TC.isB1 (h : t_TC b n q gi gl gr k) {i w z : Int32} (hb : t_BL b n q i) (_ : i.toInt < (gi k 2).toInt) (ew : w = gi 2 i.toNatClampNeg) (hw : w.toInt = 108 ∨ w.toInt = 115) (hz : z.toInt = i.toInt + 1) : t_BL b n q z := by
  obtain ⟨h1, h2, h3⟩ := hb
  obtain ⟨hc, hc2⟩ := h.wi h2 ew
  refine ⟨h1, by omega, fun j hj hj2 => ?_⟩
  by_cases hji : j = i.toNatClampNeg
  · rw [hji, hc]; exact hw
  · exact h3 j hj (by omega)
theorem t_TC.isB2 (h : t_TC b n q gi gl gr k) {i : Int32} (hb : t_BL b n q i) (hge : (gi k 2).toInt ≤ i.toInt) : s_isB b n q := ⟨hb.1, fun j hj hj2 => hb.2.2 j hj (by have := h.2.1; omega)⟩
theorem t_TC.isB3 (h : t_TC b n q gi gl gr k) {P : Prop} (hh : s_isB b n q) (hx : (gi k 3).toInt ≠ 0 ∨ 6 < (gi k 5).toInt) : P := by
  exfalso
  have hK := h.K
  have := (h.2.2.2.2.2.1 hh.1.1).1
  have := hh.1
  omega
theorem t_TC.isB4 (h : t_TC b n q gi gl gr k) {P : Prop} {i w : Int32} (hb : t_BL b n q i) (hh : s_isB b n q) (hlt : i.toInt < (gi k 2).toInt) (ew : w = gi 2 i.toNatClampNeg) (hw : w.toInt ≠ 108 ∧ w.toInt ≠ 115) : P := by
  exfalso
  obtain ⟨hc, hc2⟩ := h.wi hb.2.1 ew
  have h2 := h.2.1
  have h3 := hh.2 i.toNatClampNeg (by have := hb.2.1; omega) (by omega)
  rw [hc] at h3
  omega
theorem t_TC.fl (h : t_TC b n q gi gl gr k) {x : Int} {v : Int32} (e1 : g1 = x_up2 gi k 10 v) (e2 : g2 = x_up2 g1 k 11 (g1 k 4)) (hv : ((gi k 3).toInt = 4 ∧ v.toInt = 1) ∨ ((gi k 3).toInt ≠ 4 ∧ v.toInt = x)) : t_FL g2 k (s_fk b n q x) (s_F b n q) := by
  have hK := h.K
  refine ⟨?_, ?_⟩
  · rw [e2, x_up2_off (Or.inr (by decide)), e1, x_up2_at]
    unfold s_fk
    rcases hv with ⟨a, c⟩ | ⟨a, c⟩
    · rw [if_pos (by omega), c]
    · rw [if_neg (by omega), c]
  · rw [e2, x_up2_at, e1, x_up2_off (Or.inr (by decide))]; exact h.2.2.1
theorem t_TC.kwT (h : t_TC b n q gi gl gr k) {v : Value} {i : Nat} (e : gr k 7 = v) (hv : v = .retAddr i) : s_W b n q = some i := s_kvS.mp (h.2.2.2.2.1.symm.trans (e.trans hv))
theorem t_TC.kwF (h : t_TC b n q gi gl gr k) {v : Value} {i : Nat} (e : gr k 7 = v) (hv : ¬ v = .retAddr i) : s_W b n q ≠ some i := fun hh => hv (e.symm.trans (h.2.2.2.2.1.trans (s_kvS.mpr hh)))
theorem t_TC.vT (h : t_TC b n q gi gl gr k) {lo hi : Int} (h3 : (gi k 3).toInt = 1) (h1 : lo ≤ (gi k 8).toInt) (h2 : (gi k 8).toInt ≤ hi) : s_isV b n q lo hi := by
  have hK := h.K
  have e : s_K b n q = 3 := by omega
  have h8 := h.2.2.2.2.2.2.1 e
  unfold s_isV s_V
  rw [← h8]
  exact ⟨e, h1, h2⟩
theorem t_TC.vF (h : t_TC b n q gi gl gr k) {lo hi : Int} (h3 : (gi k 3).toInt = 1) (h1 : (gi k 8).toInt < lo ∨ hi < (gi k 8).toInt) : s_K b n q = 3 ∧ ¬ s_isV b n q lo hi := by
  have hK := h.K
  have e : s_K b n q = 3 := by omega
  have h8 := h.2.2.2.2.2.2.1 e
  unfold s_isV s_V
  rw [← h8]
  exact ⟨e, fun hh => by omega⟩
theorem t_TC.vK (h : t_TC b n q gi gl gr k) (h3 : (gi k 3).toInt ≠ 1) : s_K b n q ≠ 3 := by
  have hK := h.K
  omega
end ASK
