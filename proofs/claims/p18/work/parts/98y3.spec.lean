/-! ===== the RIVER read: what it comes to ===== -/
noncomputable def s_if {α : Type} (c : Prop) (x y : α) : α := @ite α c (Classical.propDecidable c) x y
theorem s_ifT {α : Type} {c : Prop} {x y : α} (h : c) : s_if c x y = x := @if_pos c (Classical.propDecidable c) h α x y
theorem s_ifF {α : Type} {c : Prop} {x y : α} (h : ¬ c) : s_if c x y = y := @if_neg c (Classical.propDecidable c) h α x y
/-- what was told so far: 0 PORTS, 1 SHIPS, 2 CARTS, 4 TURNS, 5 FROST, 6 from, 7 ECHO, 10 on BLASTS, 52 on SHIPS, 82 on CARTS, 200 on NAMES, 221 on what is told -/
noncomputable abbrev s_D : Type := Nat → Int
/-- a FAULT (0 none), its place; where it goes on, what is told -/
noncomputable abbrev s_R : Type := (Int × Int) × (Nat × s_D)
noncomputable def s_bad (b : Nat → Int32) (n p : Nat) (x : Int) (D : s_D) : s_R := ((s_fk b n p x, ((s_F b n p : Nat) : Int)), (p, D))
noncomputable def s_ok (p : Nat) (D : s_D) : s_R := ((0, 0), (p, D))
noncomputable def s_set (D : s_D) (i : Nat) (v : Int) : s_D := fun j => if j = i then v else D j
noncomputable def s_used (D : s_D) (x : Int) : Prop := (∃ i : Nat, (i : Int) < D 0 ∧ D (200 + i) = x) ∨ (∃ i : Nat, (i : Int) < D 1 ∧ D (206 + i) = x) ∨ ∃ i : Nat, (i : Int) < D 2 ∧ D (212 + i) = x
/-- the first place from i on, of m, with this number -/
noncomputable def s_fst (f : Nat → Int) (x : Int) : Nat → Nat → Int
  | 0, _ => -1
  | m + 1, i => if f i = x then (i : Int) else s_fst f x m (i + 1)
noncomputable def s_kw (b : Nat → Int32) (n p i : Nat) (D : s_D) (k : Nat → s_R) : s_R := s_if (s_W b n p = some i) (k (s_E b n p)) (s_bad b n p 2 D)
noncomputable def s_num (b : Nat → Int32) (n p : Nat) (lo hi : Int) (D : s_D) (k : Nat → s_R) : s_R := s_if (s_K b n p = 3) (s_if (s_isV b n p lo hi) (k (s_E b n p)) (s_bad b n p 4 D)) (s_bad b n p 2 D)
noncomputable def s_name (b : Nat → Int32) (n p : Nat) (D : s_D) (k : Nat → s_R) : s_R := s_if (s_isN b n p) (s_if (s_used D (s_L b n p).toInt) (s_bad b n p 3 D) (k (s_E b n p))) (s_bad b n p 2 D)
noncomputable def s_addP (D : s_D) (nm bl : Int) : s_D := fun j => if j = 0 then D 0 + 1 else if j = 200 + (D 0).toNat then nm else if j = 10 + (D 0).toNat then bl else D j
noncomputable def s_addS (D : s_D) (nm po at_ ta co sa : Int) : s_D := fun j => if j = 1 then D 1 + 1 else if j = 206 + (D 1).toNat then nm else if j = 52 + 5 * (D 1).toNat then po else if j = 53 + 5 * (D 1).toNat then at_ else if j = 54 + 5 * (D 1).toNat then ta else if j = 55 + 5 * (D 1).toNat then co else if j = 56 + 5 * (D 1).toNat then sa else D j
noncomputable def s_addC (D : s_D) (nm at_ ta co : Int) : s_D := fun j => if j = 2 then D 2 + 1 else if j = 212 + (D 2).toNat then nm else if j = 82 + 3 * (D 2).toNat then at_ else if j = 83 + 3 * (D 2).toNat then ta else if j = 84 + 3 * (D 2).toNat then co else D j
noncomputable def s_port (b : Nat → Int32) (n p : Nat) (D : s_D) : s_R := s_if (D 0 = 6) (s_bad b n p 6 D) (s_name b n (s_E b n p) D fun p2 => s_kw b n p2 1 D fun p3 => s_if (s_isB b n p3) (s_if (∃ i : Nat, (i : Int) < D 0 ∧ D (10 + i) = (s_L b n p3).toInt) (s_bad b n p3 5 D) (s_ok (s_E b n p3) (s_addP D (s_L b n (s_E b n p)).toInt (s_L b n p3).toInt))) (s_bad b n p3 2 D))
noncomputable def s_turns (b : Nat → Int32) (n p : Nat) (D : s_D) : s_R := s_if (D 221 = 0) (s_num b n (s_E b n p) 1 20 D fun p2 => s_ok p2 (s_set (s_set D 221 1) 4 (s_V b n (s_E b n p)))) (s_bad b n p 5 D)
noncomputable def s_frost (b : Nat → Int32) (n p : Nat) (D : s_D) : s_R := s_if (D 222 = 0) (s_num b n (s_E b n p) 0 20 D fun p2 => s_kw b n p2 4 D fun p3 => s_num b n p3 0 200 D fun p4 => s_ok p4 (s_set (s_set (s_set D 222 1) 5 (s_V b n (s_E b n p))) 6 (s_V b n p3))) (s_bad b n p 5 D)
noncomputable def s_echo (b : Nat → Int32) (n p : Nat) (D : s_D) : s_R := s_if (D 223 = 0) (s_num b n (s_E b n p) 0 9 D fun p2 => s_ok p2 (s_set (s_set D 223 1) 7 (s_V b n (s_E b n p)))) (s_bad b n p 5 D)
noncomputable def s_come (b : Nat → Int32) (n p : Nat) (D : s_D) (k : Nat → Int → Int → Int → s_R) : s_R := s_kw b n p 8 D fun p1 => s_num b n p1 0 120 D fun p2 => s_kw b n p2 9 D fun p3 => s_num b n p3 1 20 D fun p4 => s_kw b n p4 10 D fun p5 => s_num b n p5 0 99 D fun p6 => k p6 (s_V b n p1) (s_V b n p3) (s_V b n p5)
noncomputable def s_fp (D : s_D) (x : Int) : Int := s_fst (fun i => D (200 + i)) x (D 0).toNat 0
noncomputable def s_ship (b : Nat → Int32) (n p : Nat) (D : s_D) : s_R := s_if (D 1 = 6) (s_bad b n p 6 D) (s_name b n (s_E b n p) D fun p2 => s_kw b n p2 7 D fun p3 => s_if (s_isN b n p3) (s_if (s_fp D (s_L b n p3).toInt = -1) (s_bad b n p3 3 D) (s_come b n (s_E b n p3) D fun p5 at_ ta co => s_if (s_W b n p5 = some 11) (s_ok (s_E b n p5) (s_addS D (s_L b n (s_E b n p)).toInt (s_fp D (s_L b n p3).toInt) at_ ta co 1)) (s_ok p5 (s_addS D (s_L b n (s_E b n p)).toInt (s_fp D (s_L b n p3).toInt) at_ ta co 0)))) (s_bad b n p3 2 D))
noncomputable def s_cart (b : Nat → Int32) (n p : Nat) (D : s_D) : s_R := s_if (D 2 = 6) (s_bad b n p 6 D) (s_name b n (s_E b n p) D fun p2 => s_come b n p2 D fun p3 at_ ta co => s_ok p3 (s_addC D (s_L b n (s_E b n p)).toInt at_ ta co))
noncomputable def s_part (b : Nat → Int32) (n p : Nat) (D : s_D) : s_R := s_if (s_W b n p = some 0) (s_port b n p D) (s_if (s_W b n p = some 2) (s_turns b n p D) (s_if (s_W b n p = some 3) (s_frost b n p D) (s_if (s_W b n p = some 5) (s_echo b n p D) (s_if (s_W b n p = some 6) (s_ship b n p D) (s_if (s_W b n p = some 12) (s_cart b n p D) (s_bad b n p 2 D))))))
noncomputable def s_semi (b : Nat → Int32) (n : Nat) (r : s_R) : s_R := s_if (r.1.1 = 0) (s_if (s_isS b n r.2.1 59) (s_ok (s_E b n r.2.1) r.2.2) (s_bad b n r.2.1 2 r.2.2)) r
noncomputable def s_rv (b : Nat → Int32) (n : Nat) : Nat → Nat → s_D → s_R
  | 0, p, D => s_ok p D
  | m + 1, p, D => s_if (s_K b n p = 0) (s_ok p D) (s_if ((s_semi b n (s_part b n p D)).1.1 = 0) (s_rv b n m (s_semi b n (s_part b n p D)).2.1 (s_semi b n (s_part b n p D)).2.2) (s_semi b n (s_part b n p D)))
noncomputable def s_D0 : s_D := fun j => if j = 4 then 5 else 0
theorem s_fk_ne {b : Nat → Int32} {n p : Nat} {x : Int} (h : x ≠ 0) : s_fk b n p x ≠ 0 := by
  unfold s_fk; split
  · decide
  · exact h
/-- the sound of letters, as it is reckoned -/
noncomputable def s_snr : Nat → Int64 → Int64 → Int64
  | 0, _, s => s
  | m + 1, x, s => if x = 0 then s else s_snr m (x / 32) (if x - x / 32 * 32 = 12 then 7 ||| s <<< ((4 : Int32).toInt64 &&& 63) else 1 ||| s <<< ((2 : Int32).toInt64 &&& 63))
noncomputable def s_snd (x : Int64) : Int64 := s_snr 6 x 0
theorem s_snr_0 {m : Nat} {x s : Int64} (hx : x = 0) : s_snr m x s = s := by
  cases m with
  | zero => rfl
  | succ m => show (if x = 0 then s else _) = s; rw [if_pos hx]
theorem s_snr_t {m : Nat} {x x' s s' w : Int64} (hx : x ≠ 0) (hr : x - x / 32 * 32 = 12) (e1 : x' = x / 32) (ew : w = s <<< ((4 : Int32).toInt64 &&& 63)) (e2 : s' = 7 ||| w) : s_snr (m + 1) x s = s_snr m x' s' := by
  show (if x = 0 then s else s_snr m (x / 32) (if x - x / 32 * 32 = 12 then _ else _)) = _
  rw [if_neg hx, if_pos hr, e1, e2, ew]
theorem s_snr_f {m : Nat} {x x' s s' w : Int64} (hx : x ≠ 0) (hr : ¬ x - x / 32 * 32 = 12) (e1 : x' = x / 32) (ew : w = s <<< ((2 : Int32).toInt64 &&& 63)) (e2 : s' = 1 ||| w) : s_snr (m + 1) x s = s_snr m x' s' := by
  show (if x = 0 then s else s_snr m (x / 32) (if x - x / 32 * 32 = 12 then _ else _)) = _
  rw [if_neg hx, if_neg hr, e1, e2, ew]
/-! ===== the class's reader: what stands in its cells ===== -/
section LAY
variable (sh : List (Nat ⊕ (Nat × Nat))) (gr : Nat → Nat → Value)
noncomputable def t_LQ (k : Nat) : Prop := sh[k]? = some (.inl 3) ∧ 102 ≤ k ∧ (gr k 1 = .ref (k + 1) ∧ sh[k + 1]? = some (.inr (0, 6))) ∧ (gr k 2 = .ref (k + 2) ∧ sh[k + 2]? = some (.inr (0, 6))) ∧ (gr k 3 = .ref (k + 3) ∧ sh[k + 3]? = some (.inr (0, 6))) ∧ (gr k 4 = .ref (k + 4) ∧ sh[k + 4]? = some (.inr (0, 6))) ∧ gr k 5 = .ref (k + 5) ∧ sh[k + 5]? = some (.inr (3, 6))
noncomputable def t_VQ (k : Nat) : Prop := sh[k]? = some (.inl 4) ∧ 102 ≤ k ∧ (gr k 1 = .ref (k + 1) ∧ sh[k + 1]? = some (.inr (1, 6))) ∧ (gr k 2 = .ref (k + 2) ∧ sh[k + 2]? = some (.inr (1, 6))) ∧ (gr k 8 = .ref (k + 9) ∧ sh[k + 9]? = some (.inr (0, 6))) ∧ (gr k 7 = .ref (k + 3) ∧ t_LQ sh gr (k + 3)) ∧ gr k 9 = .ref (k + 10) ∧ t_LQ sh gr (k + 10)
noncomputable def t_RQ (k : Nat) : Prop := sh[k]? = some (.inl 5) ∧ 102 ≤ k ∧ (gr k 2 = .ref (k + 18) ∧ sh[k + 18]? = some (.inr (1, 6))) ∧ (gr k 3 = .ref (k + 19) ∧ sh[k + 19]? = some (.inr (1, 18))) ∧ (gr k 0 = .ref (k + 1) ∧ t_Tk sh gr (k + 1)) ∧ gr k 1 = .ref (k + 2) ∧ t_VQ sh gr (k + 2)
end LAY
section LAY2
variable {sh : List (Nat ⊕ (Nat × Nat))} {gr gr' : Nat → Nat → Value} {k : Nat}
theorem t_LQ.ext (h : t_LQ sh gr k) (he : t_eqf sh gr gr') : t_LQ sh gr' k := by
  obtain ⟨h0, h1, h2, h3, h4, h5, h6, h7⟩ := h
  exact ⟨h0, h1, ⟨by rw [he k 3 1 h0 rfl]; exact h2.1, h2.2⟩, ⟨by rw [he k 3 2 h0 rfl]; exact h3.1, h3.2⟩, ⟨by rw [he k 3 3 h0 rfl]; exact h4.1, h4.2⟩, ⟨by rw [he k 3 4 h0 rfl]; exact h5.1, h5.2⟩, by rw [he k 3 5 h0 rfl]; exact h6, h7⟩
theorem t_VQ.ext (h : t_VQ sh gr k) (he : t_eqf sh gr gr') : t_VQ sh gr' k := by
  obtain ⟨h0, h1, h2, h3, h4, h5, h6, h7⟩ := h
  exact ⟨h0, h1, ⟨by rw [he k 4 1 h0 rfl]; exact h2.1, h2.2⟩, ⟨by rw [he k 4 2 h0 rfl]; exact h3.1, h3.2⟩, ⟨by rw [he k 4 8 h0 rfl]; exact h4.1, h4.2⟩, ⟨by rw [he k 4 7 h0 rfl]; exact h5.1, h5.2.ext he⟩, by rw [he k 4 9 h0 rfl]; exact h6, h7.ext he⟩
theorem t_RQ.ext (h : t_RQ sh gr k) (he : t_eqf sh gr gr') : t_RQ sh gr' k := by
  obtain ⟨h0, h1, h2, h3, h4, h5, h6⟩ := h
  exact ⟨h0, h1, ⟨by rw [he k 5 2 h0 rfl]; exact h2.1, h2.2⟩, ⟨by rw [he k 5 3 h0 rfl]; exact h3.1, h3.2⟩, ⟨by rw [he k 5 0 h0 rfl]; exact h4.1, h4.2.ext he⟩, by rw [he k 5 1 h0 rfl]; exact h5, h6.ext he⟩
end LAY2
/-- NAMES, as many as m: those that P says -/
noncomputable def t_Cn (gi : Nat → Nat → Int32) (gl : Nat → Nat → Int64) (r : Nat) (m : Int) (P : Int → Prop) : Prop := (gi r 4).toInt = m ∧ ∀ x : Int, (∃ i : Nat, (i : Int) < m ∧ (gl (r + 19) i).toInt = x) ↔ P x
noncomputable def t_Cp (gi : Nat → Nat → Int32) (gl : Nat → Nat → Int64) (r : Nat) (D : s_D) : Prop := (gi (r + 2) 0).toInt = D 0 ∧ ∀ i : Nat, (i : Int) < D 0 → (gl (r + 18) i).toInt = D (200 + i) ∧ (gl (r + 2 + 1) i).toInt = D (10 + i) ∧ gl (r + 2 + 2) i = s_snd (gl (r + 2 + 1) i)
noncomputable def t_Cq (gi : Nat → Nat → Int32) (r : Nat) (D : s_D) : Prop := ((gi (r + 2) 3).toInt = D 4 ∧ (gi (r + 2) 4).toInt = D 5 ∧ (gi (r + 2) 5).toInt = D 6 ∧ (gi (r + 2) 6).toInt = D 7) ∧ (gi r 5).toInt = D 221 ∧ (gi r 6).toInt = D 222 ∧ (gi r 7).toInt = D 223
noncomputable def t_Cs (gi : Nat → Nat → Int32) (r : Nat) (D : s_D) : Prop := (gi (r + 2 + 3) 0).toInt = D 1 ∧ ∀ s : Nat, (s : Int) < D 1 → (gi (r + 2 + 9) s).toInt = D (52 + 5 * s) ∧ (gi (r + 2 + 3 + 2) s).toInt = D (53 + 5 * s) ∧ (gi (r + 2 + 3 + 3) s).toInt = D (54 + 5 * s) ∧ (gi (r + 2 + 3 + 4) s).toInt = D (55 + 5 * s) ∧ (gi (r + 2 + 3 + 5) s).toInt = D (56 + 5 * s)
noncomputable def t_Cc (gi : Nat → Nat → Int32) (r : Nat) (D : s_D) : Prop := (gi (r + 2 + 10) 0).toInt = D 2 ∧ ∀ c : Nat, (c : Int) < D 2 → (gi (r + 2 + 10 + 2) c).toInt = D (82 + 3 * c) ∧ (gi (r + 2 + 10 + 3) c).toInt = D (83 + 3 * c) ∧ (gi (r + 2 + 10 + 4) c).toInt = D (84 + 3 * c)
noncomputable def t_Cb (D : s_D) : Prop := (0 ≤ D 0 ∧ D 0 ≤ 6) ∧ (0 ≤ D 1 ∧ D 1 ≤ 6) ∧ 0 ≤ D 2 ∧ D 2 ≤ 6
noncomputable def t_CR (gi : Nat → Nat → Int32) (gl : Nat → Nat → Int64) (r : Nat) (D : s_D) (m : Int) (P : Int → Prop) : Prop := t_Cb D ∧ t_Cn gi gl r m P ∧ t_Cp gi gl r D ∧ t_Cq gi r D ∧ t_Cs gi r D ∧ t_Cc gi r D
/-- the reader stands at q with D told -/
noncomputable def t_CS (b : Nat → Int32) (n q : Nat) (D : s_D) (m : Int) (P : Int → Prop) (gi : Nat → Nat → Int32) (gl : Nat → Nat → Int64) (gr : Nat → Nat → Value) (r : Nat) : Prop := t_TC b n q gi gl gr (r + 1) ∧ t_CR gi gl r D m P ∧ t_FL gi (r + 1) 0 (-1)
noncomputable def t_CN (b : Nat → Int32) (n q : Nat) (D : s_D) (gi : Nat → Nat → Int32) (gl : Nat → Nat → Int64) (gr : Nat → Nat → Value) (r : Nat) : Prop := t_CS b n q D (D 0 + D 1 + D 2) (s_used D) gi gl gr r
/-- the cells below r are as they were -/
noncomputable def t_lq (r : Nat) (gi : Nat → Nat → Int32) (gl : Nat → Nat → Int64) (gr : Nat → Nat → Value) (g1 : Nat → Nat → Int32) (l1 : Nat → Nat → Int64) (r1 : Nat → Nat → Value) : Prop := ∀ K, K < r → g1 K = gi K ∧ l1 K = gl K ∧ r1 K = gr K
/-- but these cells all are as they were -/
noncomputable def t_xc (S : List Nat) (gi : Nat → Nat → Int32) (gl : Nat → Nat → Int64) (gr : Nat → Nat → Value) (g1 : Nat → Nat → Int32) (l1 : Nat → Nat → Int64) (r1 : Nat → Nat → Value) : Prop := ∀ K, (∀ x, x ∈ S → K ≠ x) → g1 K = gi K ∧ l1 K = gl K ∧ r1 K = gr K
section CELLS
variable {k r : Nat} {gi g1 g2 : Nat → Nat → Int32} {gl l1 l2 : Nat → Nat → Int64} {gr r1 r2 : Nat → Nat → Value} {S S' : List Nat}
theorem t_lq.rf : t_lq r gi gl gr gi gl gr := fun _ _ => ⟨rfl, rfl, rfl⟩
theorem t_lq.tr (h : t_lq r gi gl gr g1 l1 r1) (h' : t_lq r g1 l1 r1 g2 l2 r2) : t_lq r gi gl gr g2 l2 r2 := fun K hK => ⟨(h' K hK).1.trans (h K hK).1, (h' K hK).2.1.trans (h K hK).2.1, (h' K hK).2.2.trans (h K hK).2.2⟩
theorem t_lq.I {j : Nat} {v : Int32} (h : t_lq r gi gl gr g1 l1 r1) (hr : r ≤ k) (e : g2 = x_up2 g1 k j v) : t_lq r gi gl gr g2 l1 r1 := fun K hK => ⟨by rw [e, x_up2_ne (by omega)]; exact (h K hK).1, (h K hK).2⟩
theorem t_lq.L {j : Nat} {v : Int64} (h : t_lq r gi gl gr g1 l1 r1) (hr : r ≤ k) (e : l2 = x_up2 l1 k j v) : t_lq r gi gl gr g1 l2 r1 := fun K hK => ⟨(h K hK).1, by rw [e, x_up2_ne (by omega)]; exact (h K hK).2.1, (h K hK).2.2⟩
theorem t_lq.on (h : t_lq r gi gl gr g1 l1 r1) (h' : t_on k g1 l1 r1 g2 l2 r2) (hr : r ≤ k) : t_lq r gi gl gr g2 l2 r2 := fun K hK => have q := h' K (by omega); ⟨q.1.trans (h K hK).1, q.2.1.trans (h K hK).2.1, q.2.2.trans (h K hK).2.2⟩
theorem t_lq.ex (h : t_lq r gi gl gr g1 l1 r1) (h' : t_xc S g1 l1 r1 g2 l2 r2) (hr : ∀ x, x ∈ S → r ≤ x) : t_lq r gi gl gr g2 l2 r2 := fun K hK => have q := h' K (fun x hx => by have := hr x hx; omega); ⟨q.1.trans (h K hK).1, q.2.1.trans (h K hK).2.1, q.2.2.trans (h K hK).2.2⟩
theorem t_xc.rf : t_xc S gi gl gr gi gl gr := fun _ _ => ⟨rfl, rfl, rfl⟩
theorem t_xc.tr (h : t_xc S gi gl gr g1 l1 r1) (h' : t_xc S' g1 l1 r1 g2 l2 r2) (hs : ∀ x, x ∈ S' → x ∈ S) : t_xc S gi gl gr g2 l2 r2 := fun K hK => have q := h' K (fun x hx => hK x (hs x hx)); ⟨q.1.trans (h K hK).1, q.2.1.trans (h K hK).2.1, q.2.2.trans (h K hK).2.2⟩
theorem t_xc.I {j : Nat} {v : Int32} (h : t_xc S gi gl gr g1 l1 r1) (hk : k ∈ S) (e : g2 = x_up2 g1 k j v) : t_xc S gi gl gr g2 l1 r1 := fun K hK => ⟨by rw [e, x_up2_ne (hK k hk)]; exact (h K hK).1, (h K hK).2⟩
theorem t_xc.L {j : Nat} {v : Int64} (h : t_xc S gi gl gr g1 l1 r1) (hk : k ∈ S) (e : l2 = x_up2 l1 k j v) : t_xc S gi gl gr g1 l2 r1 := fun K hK => ⟨(h K hK).1, by rw [e, x_up2_ne (hK k hk)]; exact (h K hK).2.1, (h K hK).2.2⟩
theorem t_xc.on (h : t_xc S gi gl gr g1 l1 r1) (h' : t_on k g1 l1 r1 g2 l2 r2) (hk : k ∈ S) : t_xc S gi gl gr g2 l2 r2 := fun K hK => have q := h' K (hK k hk); ⟨q.1.trans (h K hK).1, q.2.1.trans (h K hK).2.1, q.2.2.trans (h K hK).2.2⟩
theorem t_on.ex (h : t_on k gi gl gr g1 l1 r1) : t_xc [k] gi gl gr g1 l1 r1 := fun K hK => h K (hK k (List.mem_cons_self))
end CELLS
section RVL
variable {b : Nat → Int32} {n p q p' m : Nat} {D D' : s_D} {x : Int}
theorem s_part_0 (h : s_W b n p = some 0) : s_part b n p D = s_port b n p D := by unfold s_part; rw [s_ifT h]
theorem s_part_2 (h : s_W b n p = some 2) : s_part b n p D = s_turns b n p D := by unfold s_part; rw [s_ifF (by rw [h]; decide), s_ifT h]
theorem s_part_3 (h : s_W b n p = some 3) : s_part b n p D = s_frost b n p D := by unfold s_part; rw [s_ifF (by rw [h]; decide), s_ifF (by rw [h]; decide), s_ifT h]
theorem s_part_5 (h : s_W b n p = some 5) : s_part b n p D = s_echo b n p D := by unfold s_part; rw [s_ifF (by rw [h]; decide), s_ifF (by rw [h]; decide), s_ifF (by rw [h]; decide), s_ifT h]
theorem s_part_6 (h : s_W b n p = some 6) : s_part b n p D = s_ship b n p D := by unfold s_part; rw [s_ifF (by rw [h]; decide), s_ifF (by rw [h]; decide), s_ifF (by rw [h]; decide), s_ifF (by rw [h]; decide), s_ifT h]
theorem s_part_12 (h : s_W b n p = some 12) : s_part b n p D = s_cart b n p D := by unfold s_part; rw [s_ifF (by rw [h]; decide), s_ifF (by rw [h]; decide), s_ifF (by rw [h]; decide), s_ifF (by rw [h]; decide), s_ifF (by rw [h]; decide), s_ifT h]
theorem s_part_x (h0 : s_W b n p ≠ some 0) (h2 : s_W b n p ≠ some 2) (h3 : s_W b n p ≠ some 3) (h5 : s_W b n p ≠ some 5) (h6 : s_W b n p ≠ some 6) (h12 : s_W b n p ≠ some 12) : s_part b n p D = s_bad b n p 2 D := by unfold s_part; rw [s_ifF h0, s_ifF h2, s_ifF h3, s_ifF h5, s_ifF h6, s_ifF h12]
theorem s_semi_ok (hp : s_part b n p D = s_ok q D') (hs : s_isS b n q 59) : s_semi b n (s_part b n p D) = s_ok (s_E b n q) D' := by
  rw [hp]; unfold s_semi; rw [s_ifT (show (s_ok q D').1.1 = 0 from rfl), s_ifT (show s_isS b n (s_ok q D').2.1 59 from hs)]; rfl
theorem s_rv_ok (hK : s_K b n p ≠ 0) (hp : s_part b n p D = s_ok q D') (hs : s_isS b n q 59) : s_rv b n (m + 1) p D = s_rv b n m (s_E b n q) D' := by
  show s_if _ _ _ = _
  rw [s_ifF hK, s_semi_ok hp hs, s_ifT (show (s_ok (s_E b n q) D').1.1 = 0 from rfl)]; rfl
theorem s_rv_b1 (hK : s_K b n p ≠ 0) (hx : x ≠ 0) (hp : s_part b n p D = s_bad b n p' x D') : s_rv b n (m + 1) p D = s_bad b n p' x D' := by
  have h1 : ¬ (s_bad b n p' x D').1.1 = 0 := s_fk_ne hx
  have h2 : s_semi b n (s_part b n p D) = s_bad b n p' x D' := by rw [hp]; unfold s_semi; rw [s_ifF h1]
  show s_if _ _ _ = _
  rw [s_ifF hK, h2, s_ifF h1]
theorem s_rv_b2 (hK : s_K b n p ≠ 0) (hp : s_part b n p D = s_ok q D') (hs : ¬ s_isS b n q 59) : s_rv b n (m + 1) p D = s_bad b n q 2 D' := by
  have h1 : ¬ (s_bad b n q 2 D').1.1 = 0 := s_fk_ne (by decide)
  have h2 : s_semi b n (s_part b n p D) = s_bad b n q 2 D' := by
    rw [hp]; unfold s_semi; rw [s_ifT (show (s_ok q D').1.1 = 0 from rfl), s_ifF (show ¬ s_isS b n (s_ok q D').2.1 59 from hs)]; rfl
  show s_if _ _ _ = _
  rw [s_ifF hK, h2, s_ifF h1]
theorem s_rv_e (hK : s_K b n p = 0) : s_rv b n m p D = s_ok p D := by
  cases m with
  | zero => rfl
  | succ m => show s_if _ _ _ = _; rw [s_ifT hK]
end RVL
