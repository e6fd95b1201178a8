/-! ===== the class's reader: how its cells change ===== -/
section CRL
variable {b : Nat → Int32} {n q q' k r : Nat} {gi g1 g2 : Nat → Nat → Int32} {gl l1 l2 : Nat → Nat → Int64} {gr r1 r2 : Nat → Nat → Value} {S : List Nat} {D D' : s_D} {m m' : Int} {P P' : Int → Prop}
theorem t_CR.eqs (h : t_CR gi gl r D m P) (hr : ∀ c, c ≤ 19 → c ≠ 1 → g1 (r + c) = gi (r + c) ∧ l1 (r + c) = gl (r + c)) : t_CR g1 l1 r D m P := by
  have e := fun c h1 h2 => (hr c h1 h2).1
  have f := fun c h1 h2 => (hr c h1 h2).2
  have e0 : g1 r = gi r := e 0 (by decide) (by decide)
  have e2 : g1 (r + 2) = gi (r + 2) := e 2 (by decide) (by decide)
  obtain ⟨hb, ⟨n1, n2⟩, ⟨p1, p2⟩, ⟨⟨q1, q2, q3, q4⟩, q5, q6, q7⟩, ⟨s1, s2⟩, c1, c2⟩ := h
  refine ⟨hb, ⟨by rw [e0]; exact n1, ?_⟩, ⟨by rw [e2]; exact p1, ?_⟩, ⟨⟨by rw [e2]; exact q1, by rw [e2]; exact q2, by rw [e2]; exact q3, by rw [e2]; exact q4⟩, by rw [e0]; exact q5, by rw [e0]; exact q6, by rw [e0]; exact q7⟩, ⟨?_, ?_⟩, ?_, ?_⟩
  · rw [show l1 (r + 19) = gl (r + 19) from f 19 (by decide) (by decide)]; exact n2
  · rw [show l1 (r + 18) = gl (r + 18) from f 18 (by decide) (by decide), show l1 (r + 2 + 1) = gl (r + 2 + 1) from f 3 (by decide) (by decide), show l1 (r + 2 + 2) = gl (r + 2 + 2) from f 4 (by decide) (by decide)]; exact p2
  · rw [show g1 (r + 2 + 3) = gi (r + 2 + 3) from e 5 (by decide) (by decide)]; exact s1
  · rw [show g1 (r + 2 + 9) = gi (r + 2 + 9) from e 11 (by decide) (by decide), show g1 (r + 2 + 3 + 2) = gi (r + 2 + 3 + 2) from e 7 (by decide) (by decide), show g1 (r + 2 + 3 + 3) = gi (r + 2 + 3 + 3) from e 8 (by decide) (by decide), show g1 (r + 2 + 3 + 4) = gi (r + 2 + 3 + 4) from e 9 (by decide) (by decide), show g1 (r + 2 + 3 + 5) = gi (r + 2 + 3 + 5) from e 10 (by decide) (by decide)]; exact s2
  · rw [show g1 (r + 2 + 10) = gi (r + 2 + 10) from e 12 (by decide) (by decide)]; exact c1
  · rw [show g1 (r + 2 + 10 + 2) = gi (r + 2 + 10 + 2) from e 14 (by decide) (by decide), show g1 (r + 2 + 10 + 3) = gi (r + 2 + 10 + 3) from e 15 (by decide) (by decide), show g1 (r + 2 + 10 + 4) = gi (r + 2 + 10 + 4) from e 16 (by decide) (by decide)]; exact c2
theorem t_TC.eq (h : t_TC b n q gi gl gr k) (e2 : g1 2 = gi 2) (e : g1 k = gi k) (el : l1 k = gl k) (er : r1 k = gr k) : t_TC b n q g1 l1 r1 k := by
  unfold t_TC; rw [e2, e, el, er]; exact h
/-- a TOKEN more, nothing else -/
theorem t_CS.on (h : t_CS b n q D m P gi gl gr r) (ht : t_TC b n q' g1 l1 r1 (r + 1)) (hf : t_nf gi g1 (r + 1)) (ho : t_on (r + 1) gi gl gr g1 l1 r1) : t_CS b n q' D m P g1 l1 r1 r :=
  ⟨ht, h.2.1.eqs (fun c _ hc1 => ⟨(ho (r + c) (by omega)).1, (ho (r + c) (by omega)).2.1⟩), by rw [hf.1]; exact h.2.2.1, by rw [hf.2]; exact h.2.2.2⟩
/-- other cells of the reader -/
theorem t_CS.mk (h : t_CS b n q D m P gi gl gr r) (f : t_xc S gi gl gr g1 l1 r1) (h1 : ∀ x, x ∈ S → r + 1 ≠ x ∧ 2 ≠ x) (hR : t_CR g1 l1 r D' m' P') : t_CS b n q D' m' P' g1 l1 r1 r := by
  have f1 := f (r + 1) (fun x hx => (h1 x hx).1)
  have f2 := f 2 (fun x hx => (h1 x hx).2)
  exact ⟨h.1.eq f2.1 f1.1 f1.2.1 f1.2.2, hR, by rw [f1.1]; exact h.2.2.1, by rw [f1.1]; exact h.2.2.2⟩
/-- a NAME more -/
theorem t_CR.nm (h : t_CR gi gl r D m P) {p z : Int32} {X : Int64} (hp : p.toInt = m) (hm : 0 ≤ m) (hz : z.toInt = p.toInt + 1) (e1 : l1 = x_up2 gl (r + 19) p.toNatClampNeg X) (e2 : g1 = x_up2 gi r 4 z) : t_CR g1 l1 r D (m + 1) (fun x => P x ∨ x = X.toInt) := by
  have hc := t_clamp (i := p) (by omega)
  have hr : ∀ K, K ≠ r → g1 K = gi K := fun K hK => by rw [e2, x_up2_ne hK]
  have hl : ∀ K, K ≠ r + 19 → l1 K = gl K := fun K hK => by rw [e1, x_up2_ne hK]
  have hf : ∀ j, j ≠ 4 → g1 r j = gi r j := fun j hj => by rw [e2, x_up2_off (Or.inr hj)]
  obtain ⟨hb, ⟨n1, n2⟩, ⟨p1, p2⟩, ⟨⟨q1, q2, q3, q4⟩, q5, q6, q7⟩, ⟨s1, s2⟩, c1, c2⟩ := h
  refine ⟨hb, ⟨?_, fun x => ?_⟩, ⟨by rw [hr _ (by omega)]; exact p1, by rw [hl _ (by omega), hl _ (by omega), hl _ (by omega)]; exact p2⟩, ⟨⟨by rw [hr _ (by omega)]; exact q1, by rw [hr _ (by omega)]; exact q2, by rw [hr _ (by omega)]; exact q3, by rw [hr _ (by omega)]; exact q4⟩, by rw [hf _ (by decide)]; exact q5, by rw [hf _ (by decide)]; exact q6, by rw [hf _ (by decide)]; exact q7⟩, ⟨by rw [hr _ (by omega)]; exact s1, by rw [hr _ (by omega), hr _ (by omega), hr _ (by omega), hr _ (by omega), hr _ (by omega)]; exact s2⟩, by rw [hr _ (by omega)]; exact c1, by rw [hr _ (by omega), hr _ (by omega), hr _ (by omega)]; exact c2⟩
  · rw [e2, x_up2_at]; omega
  · show _ ↔ P x ∨ x = X.toInt
    rw [← n2 x]
    constructor
    · rintro ⟨i, hi, hx⟩
      by_cases hip : i = p.toNatClampNeg
      · right; rw [e1, hip, x_up2_at] at hx; exact hx.symm
      · left; rw [e1, x_up2_off (Or.inr hip)] at hx; exact ⟨i, by omega, hx⟩
    · rintro (⟨i, hi, hx⟩ | hx)
      · exact ⟨i, by omega, by rw [e1, x_up2_off (Or.inr (by omega))]; exact hx⟩
      · exact ⟨p.toNatClampNeg, by omega, by rw [e1, x_up2_at]; exact hx.symm⟩
theorem t_CR.to (h : t_CR gi gl r D m P) (hm : m = m') (hP : ∀ x, P x ↔ P' x) : t_CR gi gl r D m' P' := by
  obtain ⟨hb, ⟨n1, n2⟩, h3⟩ := h
  exact ⟨hb, ⟨by rw [n1, hm], fun x => by rw [← hm, n2 x, hP x]⟩, h3⟩
theorem t_CR.fnd (h : t_CR gi gl r D m P) {i : Nat} {w X : Int64} (hi : (i : Int) < m) (ew : w = gl (r + 19) i) (hw : w = X) : P X.toInt := (h.2.1.2 _).mp ⟨i, hi, by rw [← ew, hw]⟩
theorem t_CR.nfnd (h : t_CR gi gl r D m P) {p : Int32} {X : Int64} (hp : m ≤ p.toInt) (hj : ∀ j : Nat, (j : Int) < p.toInt → gl (r + 19) j ≠ X) : ¬ P X.toInt := fun hh => by
  obtain ⟨i, hi, hx⟩ := (h.2.1.2 _).mpr hh
  exact hj i (by omega) (Int64.toInt_inj.mp hx)
theorem s_addP_o {nm bl : Int} {j : Nat} (h0 : j ≠ 0) (h1 : j ≠ 200 + (D 0).toNat) (h2 : j ≠ 10 + (D 0).toNat) : s_addP D nm bl j = D j := by
  unfold s_addP; rw [if_neg h0, if_neg h1, if_neg h2]
theorem t_CR.port (h : t_CR gi gl r D m P) {p z : Int32} {X Y : Int64} {nm : Int} (hp : p.toInt = D 0) (h6 : D 0 < 6) (hn : (gl (r + 18) p.toNatClampNeg).toInt = nm) (hY : Y = s_snd X) (hz : z.toInt = p.toInt + 1) (e1 : l1 = x_up2 gl (r + 2 + 1) p.toNatClampNeg X) (e2 : l2 = x_up2 l1 (r + 2 + 2) p.toNatClampNeg Y) (e3 : g1 = x_up2 gi (r + 2) 0 z) : t_CR g1 l2 r (s_addP D nm X.toInt) m P := by
  have hr : ∀ K, K ≠ r + 2 → g1 K = gi K := fun K hK => by rw [e3, x_up2_ne hK]
  have hl : ∀ K, K ≠ r + 2 + 1 → K ≠ r + 2 + 2 → l2 K = gl K := fun K hK hK2 => by rw [e2, x_up2_ne hK2, e1, x_up2_ne hK]
  have hf : ∀ j, j ≠ 0 → g1 (r + 2) j = gi (r + 2) j := fun j hj => by rw [e3, x_up2_off (Or.inr hj)]
  have hB : ∀ i, l2 (r + 2 + 1) i = x_up2 gl (r + 2 + 1) p.toNatClampNeg X (r + 2 + 1) i := fun i => by rw [e2, x_up2_ne (by omega), e1]
  have hC : ∀ i, l2 (r + 2 + 2) i = if i = p.toNatClampNeg then Y else gl (r + 2 + 2) i := fun i => by rw [e2, x_up2_same, e1, x_up2_ne (by omega)]
  obtain ⟨⟨⟨b1, b2⟩, ⟨b3, b4⟩, b5, b6⟩, ⟨n1, n2⟩, ⟨p1, p2⟩, ⟨⟨q1, q2, q3, q4⟩, q5, q6, q7⟩, ⟨s1, s2⟩, c1, c2⟩ := h
  have hc := t_clamp (i := p) (by omega)
  have a0 : s_addP D nm X.toInt 0 = D 0 + 1 := by unfold s_addP; rw [if_pos rfl]
  have ao : ∀ j : Nat, j ≠ 0 → (j < 10 ∨ (16 ≤ j ∧ j < 200) ∨ 206 ≤ j) → s_addP D nm X.toInt j = D j := fun j h0 hj => s_addP_o h0 (by omega) (by omega)
  refine ⟨⟨⟨?_, ?_⟩, ⟨?_, ?_⟩, ?_, ?_⟩, ⟨by rw [hr _ (by omega)]; exact n1, by rw [hl _ (by omega) (by omega)]; exact n2⟩, ⟨?_, fun i hi => ?_⟩, ⟨⟨?_, ?_, ?_, ?_⟩, ?_, ?_, ?_⟩, ⟨?_, fun s hs => ?_⟩, ?_, fun c hcc => ?_⟩
  · rw [a0]; omega
  · rw [a0]; omega
  · rw [ao 1 (by decide) (by omega)]; exact b3
  · rw [ao 1 (by decide) (by omega)]; exact b4
  · rw [ao 2 (by decide) (by omega)]; exact b5
  · rw [ao 2 (by decide) (by omega)]; exact b6
  · rw [a0, e3, x_up2_at]; omega
  · rw [a0] at hi
    rw [hl (r + 18) (by omega) (by omega), hB i, hC i]
    by_cases hip : i = p.toNatClampNeg
    · have hd : i = (D 0).toNat := by omega
      rw [hip, x_up2_at, if_pos rfl, ← hip]
      refine ⟨?_, ?_, hY⟩
      · rw [hip, hn]; unfold s_addP; rw [if_neg (by omega), if_pos (by omega)]
      · unfold s_addP; rw [if_neg (by omega), if_neg (by omega), if_pos (by omega)]
    · rw [x_up2_off (Or.inr hip), if_neg hip]
      have := p2 i (by omega)
      rw [s_addP_o (by omega) (by omega) (by omega), s_addP_o (by omega) (by omega) (by omega)]
      exact this
  · rw [ao 4 (by decide) (by omega), hf _ (by decide)]; exact q1
  · rw [ao 5 (by decide) (by omega), hf _ (by decide)]; exact q2
  · rw [ao 6 (by decide) (by omega), hf _ (by decide)]; exact q3
  · rw [ao 7 (by decide) (by omega), hf _ (by decide)]; exact q4
  · rw [ao 221 (by decide) (by omega), hr _ (by omega)]; exact q5
  · rw [ao 222 (by decide) (by omega), hr _ (by omega)]; exact q6
  · rw [ao 223 (by decide) (by omega), hr _ (by omega)]; exact q7
  · rw [ao 1 (by decide) (by omega), hr _ (by omega)]; exact s1
  · rw [ao 1 (by decide) (by omega)] at hs
    rw [ao _ (by omega) (by omega), ao _ (by omega) (by omega), ao _ (by omega) (by omega), ao _ (by omega) (by omega), ao _ (by omega) (by omega), hr _ (by omega), hr _ (by omega), hr _ (by omega), hr _ (by omega), hr _ (by omega)]
    exact s2 s hs
  · rw [ao 2 (by decide) (by omega), hr _ (by omega)]; exact c1
  · rw [ao 2 (by decide) (by omega)] at hcc
    rw [ao _ (by omega) (by omega), ao _ (by omega) (by omega), ao _ (by omega) (by omega), hr _ (by omega), hr _ (by omega), hr _ (by omega)]
    exact c2 c hcc
theorem s_used_P {nm bl : Int} (hb : t_Cb D) (h6 : D 0 < 6) (x : Int) : (s_used D x ∨ x = nm) ↔ s_used (s_addP D nm bl) x := by
  obtain ⟨⟨b1, b2⟩, ⟨b3, b4⟩, b5, b6⟩ := hb
  have a0 : s_addP D nm bl 0 = D 0 + 1 := by unfold s_addP; rw [if_pos rfl]
  have ao : ∀ j : Nat, j ≠ 0 → (j < 10 ∨ (16 ≤ j ∧ j < 200) ∨ 206 ≤ j) → s_addP D nm bl j = D j := fun j h0 hj => s_addP_o h0 (by omega) (by omega)
  unfold s_used
  rw [a0, ao 1 (by decide) (by omega), ao 2 (by decide) (by omega)]
  constructor
  · rintro ((⟨i, hi, hx⟩ | ⟨i, hi, hx⟩ | ⟨i, hi, hx⟩) | hx)
    · exact Or.inl ⟨i, by omega, by rw [s_addP_o (by omega) (by omega) (by omega)]; exact hx⟩
    · exact Or.inr (Or.inl ⟨i, hi, by rw [ao _ (by omega) (by omega)]; exact hx⟩)
    · exact Or.inr (Or.inr ⟨i, hi, by rw [ao _ (by omega) (by omega)]; exact hx⟩)
    · exact Or.inl ⟨(D 0).toNat, by omega, by unfold s_addP; rw [if_neg (by omega), if_pos rfl]; exact hx.symm⟩
  · rintro (⟨i, hi, hx⟩ | ⟨i, hi, hx⟩ | ⟨i, hi, hx⟩)
    · by_cases hid : i = (D 0).toNat
      · right; rw [hid] at hx; unfold s_addP at hx; rw [if_neg (by omega), if_pos rfl] at hx; exact hx.symm
      · rw [s_addP_o (by omega) (by omega) (by omega)] at hx; exact Or.inl (Or.inl ⟨i, by omega, hx⟩)
    · rw [ao _ (by omega) (by omega)] at hx; exact Or.inl (Or.inr (Or.inl ⟨i, hi, hx⟩))
    · rw [ao _ (by omega) (by omega)] at hx; exact Or.inl (Or.inr (Or.inr ⟨i, hi, hx⟩))
theorem s_addP_m {nm bl : Int} (_ : t_Cb D) : D 0 + D 1 + D 2 + 1 = s_addP D nm bl 0 + s_addP D nm bl 1 + s_addP D nm bl 2 := by
  rw [show s_addP D nm bl 0 = D 0 + 1 from if_pos rfl, s_addP_o (j := 1) (by decide) (by omega) (by omega), s_addP_o (j := 2) (by decide) (by omega) (by omega)]; omega
theorem t_CR.pto {nm bl : Int} (h : t_CR gi gl r (s_addP D nm bl) (D 0 + D 1 + D 2 + 1) (fun x => s_used D x ∨ x = nm)) (hb : t_Cb D) (h6 : D 0 < 6) : t_CR gi gl r (s_addP D nm bl) (s_addP D nm bl 0 + s_addP D nm bl 1 + s_addP D nm bl 2) (s_used (s_addP D nm bl)) := h.to (s_addP_m hb) (fun x => s_used_P hb h6 x)
/-- a row with one place more told -/
noncomputable def t_ru (f f' : Nat → Int32) (c : Nat) (v : Int) : Prop := (f' c).toInt = v ∧ ∀ j, j ≠ c → f' j = f j
theorem t_ru_of {f f' : Nat → Int32} {c : Nat} {x : Int32} {v : Int} (h : ∀ j, f' j = if j = c then x else f j) (hx : x.toInt = v) : t_ru f f' c v := ⟨by rw [h, if_pos rfl]; exact hx, fun j hj => by rw [h, if_neg hj]⟩
theorem t_put5 {c : Nat} {v1 v2 v3 v4 v5 : Int32} (e : g1 = x_up2 (x_up2 (x_up2 (x_up2 (x_up2 gi (k + 1) c v1) (k + 2) c v2) (k + 3) c v3) (k + 4) c v4) (k + 5) c v5) : (∀ j, g1 (k + 2) j = if j = c then v2 else gi (k + 2) j) ∧ (∀ j, g1 (k + 3) j = if j = c then v3 else gi (k + 3) j) ∧ (∀ j, g1 (k + 4) j = if j = c then v4 else gi (k + 4) j) ∧ (∀ j, g1 (k + 5) j = if j = c then v5 else gi (k + 5) j) ∧ ∀ K, (K < k + 1 ∨ k + 5 < K) → g1 K = gi K := by
  subst e
  refine ⟨fun j => ?_, fun j => ?_, fun j => ?_, fun j => ?_, fun K hK => ?_⟩
  · rw [x_up2_ne (by omega), x_up2_ne (by omega), x_up2_ne (by omega), x_up2_same, x_up2_ne (by omega)]
  · rw [x_up2_ne (by omega), x_up2_ne (by omega), x_up2_same, x_up2_ne (by omega), x_up2_ne (by omega)]
  · rw [x_up2_ne (by omega), x_up2_same, x_up2_ne (by omega), x_up2_ne (by omega), x_up2_ne (by omega)]
  · rw [x_up2_same, x_up2_ne (by omega), x_up2_ne (by omega), x_up2_ne (by omega), x_up2_ne (by omega)]
  · rw [x_up2_ne (by omega), x_up2_ne (by omega), x_up2_ne (by omega), x_up2_ne (by omega), x_up2_ne (by omega)]
theorem t_put_xc {c : Nat} {v1 v2 v3 v4 v5 : Int32} (e : g1 = x_up2 (x_up2 (x_up2 (x_up2 (x_up2 gi (k + 1) c v1) (k + 2) c v2) (k + 3) c v3) (k + 4) c v4) (k + 5) c v5) (el : l1 = gl) (er : r1 = gr) : t_xc [k + 1, k + 2, k + 3, k + 4, k + 5] gi gl gr g1 l1 r1 := fun K hK => by
  have h1 := hK (k + 1) (by simp)
  have h2 := hK (k + 2) (by simp)
  have h3 := hK (k + 3) (by simp)
  have h4 := hK (k + 4) (by simp)
  have h5 := hK (k + 5) (by simp)
  exact ⟨(t_put5 e).2.2.2.2 K (by omega), by rw [el], by rw [er]⟩
/-- numbers told -/
theorem t_CR.tel (h : t_CR gi gl r D (D 0 + D 1 + D 2) (s_used D)) (hr : ∀ c, c ≤ 19 → c ≠ 0 → c ≠ 1 → c ≠ 2 → g1 (r + c) = gi (r + c)) (hl : ∀ c, c ≤ 19 → c ≠ 1 → l1 (r + c) = gl (r + c)) (h4 : g1 r 4 = gi r 4) (h0 : g1 (r + 2) 0 = gi (r + 2) 0) (hq : t_Cq g1 r D') (hD : ∀ j : Nat, (j < 4 ∨ (8 ≤ j ∧ j < 221) ∨ 224 ≤ j) → D' j = D j) : t_CR g1 l1 r D' (D' 0 + D' 1 + D' 2) (s_used D') := by
  have d0 := hD 0 (by omega)
  have d1 := hD 1 (by omega)
  have d2 := hD 2 (by omega)
  obtain ⟨⟨⟨b1, b2⟩, ⟨b3, b4⟩, b5, b6⟩, ⟨n1, n2⟩, ⟨p1, p2⟩, _, ⟨s1, s2⟩, c1, c2⟩ := h
  refine ⟨⟨⟨by omega, by omega⟩, ⟨by omega, by omega⟩, by omega, by omega⟩, ⟨by rw [h4, n1, d0, d1, d2], fun x => ?_⟩, ⟨by rw [h0, d0]; exact p1, fun i hi => ?_⟩, hq, ⟨?_, fun s hs => ?_⟩, ?_, fun c hc => ?_⟩
  · rw [d0, d1, d2, show l1 (r + 19) = gl (r + 19) from hl 19 (by decide) (by decide), n2 x]
    unfold s_used
    rw [d0, d1, d2]
    constructor
    · rintro (⟨i, hi, hx⟩ | ⟨i, hi, hx⟩ | ⟨i, hi, hx⟩)
      · exact Or.inl ⟨i, hi, by rw [hD _ (by omega)]; exact hx⟩
      · exact Or.inr (Or.inl ⟨i, hi, by rw [hD _ (by omega)]; exact hx⟩)
      · exact Or.inr (Or.inr ⟨i, hi, by rw [hD _ (by omega)]; exact hx⟩)
    · rintro (⟨i, hi, hx⟩ | ⟨i, hi, hx⟩ | ⟨i, hi, hx⟩)
      · exact Or.inl ⟨i, hi, by rw [hD _ (by omega)] at hx; exact hx⟩
      · exact Or.inr (Or.inl ⟨i, hi, by rw [hD _ (by omega)] at hx; exact hx⟩)
      · exact Or.inr (Or.inr ⟨i, hi, by rw [hD _ (by omega)] at hx; exact hx⟩)
  · rw [d0] at hi
    rw [show l1 (r + 18) = gl (r + 18) from hl 18 (by decide) (by decide), show l1 (r + 2 + 1) = gl (r + 2 + 1) from hl 3 (by decide) (by decide), show l1 (r + 2 + 2) = gl (r + 2 + 2) from hl 4 (by decide) (by decide), hD _ (by omega), hD _ (by omega)]
    exact p2 i hi
  · rw [show g1 (r + 2 + 3) = gi (r + 2 + 3) from hr 5 (by decide) (by decide) (by decide) (by decide), d1]; exact s1
  · rw [d1] at hs
    rw [show g1 (r + 2 + 9) = gi (r + 2 + 9) from hr 11 (by decide) (by decide) (by decide) (by decide), show g1 (r + 2 + 3 + 2) = gi (r + 2 + 3 + 2) from hr 7 (by decide) (by decide) (by decide) (by decide), show g1 (r + 2 + 3 + 3) = gi (r + 2 + 3 + 3) from hr 8 (by decide) (by decide) (by decide) (by decide), show g1 (r + 2 + 3 + 4) = gi (r + 2 + 3 + 4) from hr 9 (by decide) (by decide) (by decide) (by decide), show g1 (r + 2 + 3 + 5) = gi (r + 2 + 3 + 5) from hr 10 (by decide) (by decide) (by decide) (by decide), hD _ (by omega), hD _ (by omega), hD _ (by omega), hD _ (by omega), hD _ (by omega)]
    exact s2 s hs
  · rw [show g1 (r + 2 + 10) = gi (r + 2 + 10) from hr 12 (by decide) (by decide) (by decide) (by decide), d2]; exact c1
  · rw [d2] at hc
    rw [show g1 (r + 2 + 10 + 2) = gi (r + 2 + 10 + 2) from hr 14 (by decide) (by decide) (by decide) (by decide), show g1 (r + 2 + 10 + 3) = gi (r + 2 + 10 + 3) from hr 15 (by decide) (by decide) (by decide) (by decide), show g1 (r + 2 + 10 + 4) = gi (r + 2 + 10 + 4) from hr 16 (by decide) (by decide) (by decide) (by decide), hD _ (by omega), hD _ (by omega), hD _ (by omega)]
    exact c2 c hc
/-- the NAME of the PORT that is not yet one -/
theorem t_CR.pn (h : t_CR gi gl r D m P) {p : Int32} {X : Int64} (hp : p.toInt = D 0) (e : l1 = x_up2 gl (r + 18) p.toNatClampNeg X) : t_CR gi l1 r D m P := by
  have hl : ∀ K, K ≠ r + 18 → l1 K = gl K := fun K hK => by rw [e, x_up2_ne hK]
  obtain ⟨hb, ⟨n1, n2⟩, ⟨p1, p2⟩, h4⟩ := h
  have hc := t_clamp (i := p) (by have := hb.1.1; omega)
  refine ⟨hb, ⟨n1, by rw [hl _ (by omega)]; exact n2⟩, ⟨p1, fun i hi => ?_⟩, h4⟩
  rw [hl (r + 2 + 1) (by omega), hl (r + 2 + 2) (by omega), e, x_up2_off (Or.inr (by omega))]
  exact p2 i hi
/-- a PORT by its NAME -/
theorem t_pn_s (h : t_Cp gi gl r D) {y z : Int32} {w X : Int64} (h0 : 0 ≤ y.toInt) (hy : y.toInt < (gi (r + 2) 0).toInt) (ew : w = gl (r + 18) y.toNatClampNeg) (hne : w ≠ X) (hz : z.toInt = y.toInt + 1) : s_fst (fun i => D (200 + i)) X.toInt ((D 0).toNat - y.toNatClampNeg) y.toNatClampNeg = s_fst (fun i => D (200 + i)) X.toInt ((D 0).toNat - z.toNatClampNeg) z.toNatClampNeg := by
  have h1 := t_clamp h0
  have h2 := t_clamp (i := z) (by omega)
  have h3 := h.1
  rw [show z.toNatClampNeg = y.toNatClampNeg + 1 by omega, show (D 0).toNat - y.toNatClampNeg = ((D 0).toNat - (y.toNatClampNeg + 1)) + 1 by omega]
  show (if D (200 + y.toNatClampNeg) = X.toInt then _ else _) = _
  rw [if_neg (fun hh => hne (Int64.toInt_inj.mp (by rw [ew, (h.2 _ (by omega)).1, hh])))]
theorem t_pn_e (h : t_Cp gi gl r D) {y : Int32} {X : Int64} {f : Nat → Int} {A : Int} (hy : (gi (r + 2) 0).toInt ≤ y.toInt ∧ 0 ≤ y.toInt) (hj : A = s_fst f X.toInt ((D 0).toNat - y.toNatClampNeg) y.toNatClampNeg) : A = -1 := by
  have h1 := t_clamp hy.2
  have h3 := h.1
  rw [hj, show (D 0).toNat - y.toNatClampNeg = 0 by omega]; rfl
theorem t_pn_f (h : t_Cp gi gl r D) {y : Int32} {w X : Int64} {A : Int} (h0 : 0 ≤ y.toInt) (hy : y.toInt < (gi (r + 2) 0).toInt) (ew : w = gl (r + 18) y.toNatClampNeg) (he : w = X) (hj : A = s_fst (fun i => D (200 + i)) X.toInt ((D 0).toNat - y.toNatClampNeg) y.toNatClampNeg) : A = y.toInt := by
  have h1 := t_clamp h0
  have h3 := h.1
  rw [hj, show (D 0).toNat - y.toNatClampNeg = ((D 0).toNat - (y.toNatClampNeg + 1)) + 1 by omega]
  show (if D (200 + y.toNatClampNeg) = X.toInt then _ else _) = _
  rw [if_pos (by rw [← (h.2 _ (by omega)).1, ← ew, he])]; exact h1
theorem t_ru_up {f f' f'' : Nat → Int32} {c : Nat} {v v' : Int} {x : Int32} (h : t_ru f f' c v) (e : ∀ j, f'' j = if j = c then x else f' j) (hx : x.toInt = v') : t_ru f f'' c v' := ⟨by rw [e, if_pos rfl]; exact hx, fun j hj => by rw [e, if_neg hj]; exact h.2 j hj⟩
theorem s_addS_1 {nm po at_ ta co sa : Int} : s_addS D nm po at_ ta co sa 1 = D 1 + 1 := if_pos rfl
theorem s_addS_o {nm po at_ ta co sa : Int} (hb : t_Cb D) {j : Nat} (h1 : j ≠ 1) (hj : j ≠ 206 + (D 1).toNat) (hk : j < 52 + 5 * (D 1).toNat ∨ 57 + 5 * (D 1).toNat ≤ j) : s_addS D nm po at_ ta co sa j = D j := by
  have := hb.2.1
  unfold s_addS
  rw [if_neg h1, if_neg hj, if_neg (by omega), if_neg (by omega), if_neg (by omega), if_neg (by omega), if_neg (by omega)]
theorem s_addS_n {nm po at_ ta co sa : Int} (hb : t_Cb D) : s_addS D nm po at_ ta co sa (206 + (D 1).toNat) = nm ∧ s_addS D nm po at_ ta co sa (52 + 5 * (D 1).toNat) = po ∧ s_addS D nm po at_ ta co sa (53 + 5 * (D 1).toNat) = at_ ∧ s_addS D nm po at_ ta co sa (54 + 5 * (D 1).toNat) = ta ∧ s_addS D nm po at_ ta co sa (55 + 5 * (D 1).toNat) = co ∧ s_addS D nm po at_ ta co sa (56 + 5 * (D 1).toNat) = sa := by
  have := hb.2.1
  unfold s_addS
  refine ⟨?_, ?_, ?_, ?_, ?_, ?_⟩
  · rw [if_neg (by omega), if_pos rfl]
  · rw [if_neg (by omega), if_neg (by omega), if_pos rfl]
  · rw [if_neg (by omega), if_neg (by omega), if_neg (by omega), if_pos rfl]
  · rw [if_neg (by omega), if_neg (by omega), if_neg (by omega), if_neg (by omega), if_pos rfl]
  · rw [if_neg (by omega), if_neg (by omega), if_neg (by omega), if_neg (by omega), if_neg (by omega), if_pos rfl]
  · rw [if_neg (by omega), if_neg (by omega), if_neg (by omega), if_neg (by omega), if_neg (by omega), if_neg (by omega), if_pos rfl]
theorem t_CR.ship (h : t_CR gi gl r D m P) {nm po at_ ta co sa : Int} {c : Nat} (hc : (c : Int) = D 1) (h6 : D 1 < 6) (h0 : (g1 (r + 2 + 3) 0).toInt = D 1 + 1) (hp : t_ru (gi (r + 2 + 9)) (g1 (r + 2 + 9)) c po) (ha : t_ru (gi (r + 2 + 3 + 2)) (g1 (r + 2 + 3 + 2)) c at_) (ht : t_ru (gi (r + 2 + 3 + 3)) (g1 (r + 2 + 3 + 3)) c ta) (ho : t_ru (gi (r + 2 + 3 + 4)) (g1 (r + 2 + 3 + 4)) c co) (hs : t_ru (gi (r + 2 + 3 + 5)) (g1 (r + 2 + 3 + 5)) c sa) (hr : ∀ c, c ≤ 19 → c ≠ 1 → (c < 5 ∨ 12 ≤ c) → g1 (r + c) = gi (r + c)) (hl : ∀ c, c ≤ 19 → c ≠ 1 → (c < 5 ∨ 12 ≤ c) → l1 (r + c) = gl (r + c)) : t_CR g1 l1 r (s_addS D nm po at_ ta co sa) m P := by
  have hb := h.1
  have hcn : (D 1).toNat = c := by omega
  have ao : ∀ j : Nat, j ≠ 1 → (j < 52 ∨ (82 ≤ j ∧ j < 206) ∨ 212 ≤ j) → s_addS D nm po at_ ta co sa j = D j := fun j h1 hj => s_addS_o hb h1 (by omega) (by omega)
  obtain ⟨_, ⟨n1, n2⟩, ⟨p1, p2⟩, ⟨⟨q1, q2, q3, q4⟩, q5, q6, q7⟩, ⟨s1, s2⟩, c1, c2⟩ := h
  obtain ⟨⟨b1, b2⟩, ⟨b3, b4⟩, b5, b6⟩ := id hb
  have e0 : g1 r = gi r := hr 0 (by decide) (by decide) (by omega)
  have e2 : g1 (r + 2) = gi (r + 2) := hr 2 (by decide) (by decide) (by omega)
  refine ⟨⟨⟨?_, ?_⟩, ⟨?_, ?_⟩, ?_, ?_⟩, ⟨by rw [e0]; exact n1, ?_⟩, ⟨?_, fun i hi => ?_⟩, ⟨⟨?_, ?_, ?_, ?_⟩, ?_, ?_, ?_⟩, ⟨?_, fun s hs2 => ?_⟩, ?_, fun x hx => ?_⟩
  · rw [ao 0 (by decide) (by omega)]; exact b1
  · rw [ao 0 (by decide) (by omega)]; exact b2
  · rw [s_addS_1]; omega
  · rw [s_addS_1]; omega
  · rw [ao 2 (by decide) (by omega)]; exact b5
  · rw [ao 2 (by decide) (by omega)]; exact b6
  · rw [show l1 (r + 19) = gl (r + 19) from hl 19 (by decide) (by decide) (by omega)]; exact n2
  · rw [ao 0 (by decide) (by omega), e2]; exact p1
  · rw [ao 0 (by decide) (by omega)] at hi
    rw [show l1 (r + 18) = gl (r + 18) from hl 18 (by decide) (by decide) (by omega), show l1 (r + 2 + 1) = gl (r + 2 + 1) from hl 3 (by decide) (by decide) (by omega), show l1 (r + 2 + 2) = gl (r + 2 + 2) from hl 4 (by decide) (by decide) (by omega), ao _ (by omega) (by omega), ao _ (by omega) (by omega)]
    exact p2 i hi
  · rw [ao 4 (by decide) (by omega), e2]; exact q1
  · rw [ao 5 (by decide) (by omega), e2]; exact q2
  · rw [ao 6 (by decide) (by omega), e2]; exact q3
  · rw [ao 7 (by decide) (by omega), e2]; exact q4
  · rw [ao 221 (by decide) (by omega), e0]; exact q5
  · rw [ao 222 (by decide) (by omega), e0]; exact q6
  · rw [ao 223 (by decide) (by omega), e0]; exact q7
  · rw [s_addS_1]; exact h0
  · rw [s_addS_1] at hs2
    by_cases hsc : s = c
    · obtain ⟨_, z1, z2, z3, z4, z5⟩ := s_addS_n (nm := nm) (po := po) (at_ := at_) (ta := ta) (co := co) (sa := sa) hb
      rw [hcn] at z1 z2 z3 z4 z5
      rw [hsc, z1, z2, z3, z4, z5]
      exact ⟨hp.1, ha.1, ht.1, ho.1, hs.1⟩
    · rw [hp.2 s hsc, ha.2 s hsc, ht.2 s hsc, ho.2 s hsc, hs.2 s hsc, s_addS_o hb (by omega) (by omega) (by omega), s_addS_o hb (by omega) (by omega) (by omega), s_addS_o hb (by omega) (by omega) (by omega), s_addS_o hb (by omega) (by omega) (by omega), s_addS_o hb (by omega) (by omega) (by omega)]
      exact s2 s (by omega)
  · rw [ao 2 (by decide) (by omega), show g1 (r + 2 + 10) = gi (r + 2 + 10) from hr 12 (by decide) (by decide) (by omega)]; exact c1
  · rw [ao 2 (by decide) (by omega)] at hx
    rw [show g1 (r + 2 + 10 + 2) = gi (r + 2 + 10 + 2) from hr 14 (by decide) (by decide) (by omega), show g1 (r + 2 + 10 + 3) = gi (r + 2 + 10 + 3) from hr 15 (by decide) (by decide) (by omega), show g1 (r + 2 + 10 + 4) = gi (r + 2 + 10 + 4) from hr 16 (by decide) (by decide) (by omega), ao _ (by omega) (by omega), ao _ (by omega) (by omega), ao _ (by omega) (by omega)]
    exact c2 x hx
theorem s_used_S {nm po at_ ta co sa : Int} (hb : t_Cb D) (h6 : D 1 < 6) (x : Int) : (s_used D x ∨ x = nm) ↔ s_used (s_addS D nm po at_ ta co sa) x := by
  have ao : ∀ j : Nat, j ≠ 1 → (j < 52 ∨ (82 ≤ j ∧ j < 206) ∨ 212 ≤ j) → s_addS D nm po at_ ta co sa j = D j := fun j h1 hj => s_addS_o hb h1 (by have := hb.2.1; omega) (by have := hb.2.1; omega)
  have an := (s_addS_n (nm := nm) (po := po) (at_ := at_) (ta := ta) (co := co) (sa := sa) hb).1
  obtain ⟨⟨b1, b2⟩, ⟨b3, b4⟩, b5, b6⟩ := id hb
  unfold s_used
  rw [s_addS_1, ao 0 (by decide) (by omega), ao 2 (by decide) (by omega)]
  constructor
  · rintro ((⟨i, hi, hx⟩ | ⟨i, hi, hx⟩ | ⟨i, hi, hx⟩) | hx)
    · exact Or.inl ⟨i, hi, by rw [ao _ (by omega) (by omega)]; exact hx⟩
    · exact Or.inr (Or.inl ⟨i, by omega, by rw [s_addS_o hb (by omega) (by omega) (by omega)]; exact hx⟩)
    · exact Or.inr (Or.inr ⟨i, hi, by rw [ao _ (by omega) (by omega)]; exact hx⟩)
    · exact Or.inr (Or.inl ⟨(D 1).toNat, by omega, by rw [an]; exact hx.symm⟩)
  · rintro (⟨i, hi, hx⟩ | ⟨i, hi, hx⟩ | ⟨i, hi, hx⟩)
    · rw [ao _ (by omega) (by omega)] at hx; exact Or.inl (Or.inl ⟨i, hi, hx⟩)
    · by_cases hid : i = (D 1).toNat
      · right; rw [hid, an] at hx; exact hx.symm
      · rw [s_addS_o hb (by omega) (by omega) (by omega)] at hx; exact Or.inl (Or.inr (Or.inl ⟨i, by omega, hx⟩))
    · rw [ao _ (by omega) (by omega)] at hx; exact Or.inl (Or.inr (Or.inr ⟨i, hi, hx⟩))
theorem t_CR.sto {nm po at_ ta co sa : Int} (h : t_CR gi gl r (s_addS D nm po at_ ta co sa) (D 0 + D 1 + D 2 + 1) (fun x => s_used D x ∨ x = nm)) (hb : t_Cb D) (h6 : D 1 < 6) : t_CR gi gl r (s_addS D nm po at_ ta co sa) (s_addS D nm po at_ ta co sa 0 + s_addS D nm po at_ ta co sa 1 + s_addS D nm po at_ ta co sa 2) (s_used (s_addS D nm po at_ ta co sa)) :=
  h.to (by rw [s_addS_1, s_addS_o hb (j := 0) (by decide) (by have := hb.2.1; omega) (by have := hb.2.1; omega), s_addS_o hb (j := 2) (by decide) (by have := hb.2.1; omega) (by have := hb.2.1; omega)]; omega) (fun x => s_used_S hb h6 x)
theorem s_addC_2 {nm at_ ta co : Int} : s_addC D nm at_ ta co 2 = D 2 + 1 := if_pos rfl
theorem s_addC_o {nm at_ ta co : Int} {j : Nat} (h1 : j ≠ 2) (hj : j ≠ 212 + (D 2).toNat) (hk : j < 82 + 3 * (D 2).toNat ∨ 85 + 3 * (D 2).toNat ≤ j) : s_addC D nm at_ ta co j = D j := by
  unfold s_addC
  rw [if_neg h1, if_neg hj, if_neg (by omega), if_neg (by omega), if_neg (by omega)]
theorem s_addC_n {nm at_ ta co : Int} (hb : t_Cb D) : s_addC D nm at_ ta co (212 + (D 2).toNat) = nm ∧ s_addC D nm at_ ta co (82 + 3 * (D 2).toNat) = at_ ∧ s_addC D nm at_ ta co (83 + 3 * (D 2).toNat) = ta ∧ s_addC D nm at_ ta co (84 + 3 * (D 2).toNat) = co := by
  have := hb.2.2
  unfold s_addC
  refine ⟨?_, ?_, ?_, ?_⟩
  · rw [if_neg (by omega), if_pos rfl]
  · rw [if_neg (by omega), if_neg (by omega), if_pos rfl]
  · rw [if_neg (by omega), if_neg (by omega), if_neg (by omega), if_pos rfl]
  · rw [if_neg (by omega), if_neg (by omega), if_neg (by omega), if_neg (by omega), if_pos rfl]
theorem t_CR.cart (h : t_CR gi gl r D m P) {nm at_ ta co : Int} {c : Nat} (hc : (c : Int) = D 2) (h6 : D 2 < 6) (h0 : (g1 (r + 2 + 10) 0).toInt = D 2 + 1) (ha : t_ru (gi (r + 2 + 10 + 2)) (g1 (r + 2 + 10 + 2)) c at_) (ht : t_ru (gi (r + 2 + 10 + 3)) (g1 (r + 2 + 10 + 3)) c ta) (ho : t_ru (gi (r + 2 + 10 + 4)) (g1 (r + 2 + 10 + 4)) c co) (hr : ∀ c, c ≤ 19 → c ≠ 1 → (c < 12 ∨ 18 ≤ c) → g1 (r + c) = gi (r + c)) (hl : ∀ c, c ≤ 19 → c ≠ 1 → (c < 12 ∨ 18 ≤ c) → l1 (r + c) = gl (r + c)) : t_CR g1 l1 r (s_addC D nm at_ ta co) m P := by
  have hb := h.1
  have hcn : (D 2).toNat = c := by omega
  obtain ⟨_, ⟨n1, n2⟩, ⟨p1, p2⟩, ⟨⟨q1, q2, q3, q4⟩, q5, q6, q7⟩, ⟨s1, s2⟩, c1, c2⟩ := h
  obtain ⟨⟨b1, b2⟩, ⟨b3, b4⟩, b5, b6⟩ := id hb
  have ao : ∀ j : Nat, j ≠ 2 → (j < 82 ∨ (100 ≤ j ∧ j < 212) ∨ 218 ≤ j) → s_addC D nm at_ ta co j = D j := fun j h1 hj => s_addC_o h1 (by omega) (by omega)
  have e0 : g1 r = gi r := hr 0 (by decide) (by decide) (by omega)
  have e2 : g1 (r + 2) = gi (r + 2) := hr 2 (by decide) (by decide) (by omega)
  refine ⟨⟨⟨?_, ?_⟩, ⟨?_, ?_⟩, ?_, ?_⟩, ⟨by rw [e0]; exact n1, ?_⟩, ⟨?_, fun i hi => ?_⟩, ⟨⟨?_, ?_, ?_, ?_⟩, ?_, ?_, ?_⟩, ⟨?_, fun s hs2 => ?_⟩, ?_, fun x hx => ?_⟩
  · rw [ao 0 (by decide) (by omega)]; exact b1
  · rw [ao 0 (by decide) (by omega)]; exact b2
  · rw [ao 1 (by decide) (by omega)]; exact b3
  · rw [ao 1 (by decide) (by omega)]; exact b4
  · rw [s_addC_2]; omega
  · rw [s_addC_2]; omega
  · rw [show l1 (r + 19) = gl (r + 19) from hl 19 (by decide) (by decide) (by omega)]; exact n2
  · rw [ao 0 (by decide) (by omega), e2]; exact p1
  · rw [ao 0 (by decide) (by omega)] at hi
    rw [show l1 (r + 18) = gl (r + 18) from hl 18 (by decide) (by decide) (by omega), show l1 (r + 2 + 1) = gl (r + 2 + 1) from hl 3 (by decide) (by decide) (by omega), show l1 (r + 2 + 2) = gl (r + 2 + 2) from hl 4 (by decide) (by decide) (by omega), ao _ (by omega) (by omega), ao _ (by omega) (by omega)]
    exact p2 i hi
  · rw [ao 4 (by decide) (by omega), e2]; exact q1
  · rw [ao 5 (by decide) (by omega), e2]; exact q2
  · rw [ao 6 (by decide) (by omega), e2]; exact q3
  · rw [ao 7 (by decide) (by omega), e2]; exact q4
  · rw [ao 221 (by decide) (by omega), e0]; exact q5
  · rw [ao 222 (by decide) (by omega), e0]; exact q6
  · rw [ao 223 (by decide) (by omega), e0]; exact q7
  · rw [ao 1 (by decide) (by omega), show g1 (r + 2 + 3) = gi (r + 2 + 3) from hr 5 (by decide) (by decide) (by omega)]; exact s1
  · rw [ao 1 (by decide) (by omega)] at hs2
    rw [show g1 (r + 2 + 9) = gi (r + 2 + 9) from hr 11 (by decide) (by decide) (by omega), show g1 (r + 2 + 3 + 2) = gi (r + 2 + 3 + 2) from hr 7 (by decide) (by decide) (by omega), show g1 (r + 2 + 3 + 3) = gi (r + 2 + 3 + 3) from hr 8 (by decide) (by decide) (by omega), show g1 (r + 2 + 3 + 4) = gi (r + 2 + 3 + 4) from hr 9 (by decide) (by decide) (by omega), show g1 (r + 2 + 3 + 5) = gi (r + 2 + 3 + 5) from hr 10 (by decide) (by decide) (by omega), ao _ (by omega) (by omega), ao _ (by omega) (by omega), ao _ (by omega) (by omega), ao _ (by omega) (by omega), ao _ (by omega) (by omega)]
    exact s2 s hs2
  · rw [s_addC_2]; exact h0
  · rw [s_addC_2] at hx
    by_cases hsc : x = c
    · obtain ⟨_, z1, z2, z3⟩ := s_addC_n (nm := nm) (at_ := at_) (ta := ta) (co := co) hb
      rw [hcn] at z1 z2 z3
      rw [hsc, z1, z2, z3]
      exact ⟨ha.1, ht.1, ho.1⟩
    · rw [ha.2 x hsc, ht.2 x hsc, ho.2 x hsc, s_addC_o (by omega) (by omega) (by omega), s_addC_o (by omega) (by omega) (by omega), s_addC_o (by omega) (by omega) (by omega)]
      exact c2 x (by omega)
theorem s_used_C {nm at_ ta co : Int} (hb : t_Cb D) (h6 : D 2 < 6) (x : Int) : (s_used D x ∨ x = nm) ↔ s_used (s_addC D nm at_ ta co) x := by
  have an := (s_addC_n (nm := nm) (at_ := at_) (ta := ta) (co := co) hb).1
  obtain ⟨⟨b1, b2⟩, ⟨b3, b4⟩, b5, b6⟩ := id hb
  have ao : ∀ j : Nat, j ≠ 2 → (j < 82 ∨ (100 ≤ j ∧ j < 212) ∨ 218 ≤ j) → s_addC D nm at_ ta co j = D j := fun j h1 hj => s_addC_o h1 (by omega) (by omega)
  unfold s_used
  rw [s_addC_2, ao 0 (by decide) (by omega), ao 1 (by decide) (by omega)]
  constructor
  · rintro ((⟨i, hi, hx⟩ | ⟨i, hi, hx⟩ | ⟨i, hi, hx⟩) | hx)
    · exact Or.inl ⟨i, hi, by rw [ao _ (by omega) (by omega)]; exact hx⟩
    · exact Or.inr (Or.inl ⟨i, hi, by rw [ao _ (by omega) (by omega)]; exact hx⟩)
    · exact Or.inr (Or.inr ⟨i, by omega, by rw [s_addC_o (by omega) (by omega) (by omega)]; exact hx⟩)
    · exact Or.inr (Or.inr ⟨(D 2).toNat, by omega, by rw [an]; exact hx.symm⟩)
  · rintro (⟨i, hi, hx⟩ | ⟨i, hi, hx⟩ | ⟨i, hi, hx⟩)
    · rw [ao _ (by omega) (by omega)] at hx; exact Or.inl (Or.inl ⟨i, hi, hx⟩)
    · rw [ao _ (by omega) (by omega)] at hx; exact Or.inl (Or.inr (Or.inl ⟨i, hi, hx⟩))
    · by_cases hid : i = (D 2).toNat
      · right; rw [hid, an] at hx; exact hx.symm
      · rw [s_addC_o (by omega) (by omega) (by omega)] at hx; exact Or.inl (Or.inr (Or.inr ⟨i, by omega, hx⟩))
theorem t_CR.cto {nm at_ ta co : Int} (h : t_CR gi gl r (s_addC D nm at_ ta co) (D 0 + D 1 + D 2 + 1) (fun x => s_used D x ∨ x = nm)) (hb : t_Cb D) (h6 : D 2 < 6) : t_CR gi gl r (s_addC D nm at_ ta co) (s_addC D nm at_ ta co 0 + s_addC D nm at_ ta co 1 + s_addC D nm at_ ta co 2) (s_used (s_addC D nm at_ ta co)) :=
  h.to (by rw [s_addC_2, s_addC_o (j := 0) (by decide) (by omega) (by omega), s_addC_o (j := 1) (by decide) (by omega) (by omega)]; omega) (fun x => s_used_C hb h6 x)
end CRL
section RVT
variable {sh : List (Nat ⊕ (Nat × Nat))} {gr : Nat → Nat → Value} {k : Nat}
theorem t_LQ.Ln (h : t_LQ sh gr k) : t_Ln sh gr k := by
  obtain ⟨h0, h1, h2, h3, h4, h5, h6⟩ := h
  exact ⟨h0, ⟨_, h2.1, h2.2, Or.inr (by omega)⟩, ⟨_, h3.1, h3.2, Or.inr (by omega)⟩, ⟨_, h4.1, h4.2, Or.inr (by omega)⟩, ⟨_, h5.1, h5.2, Or.inr (by omega)⟩, ⟨_, h6.1, h6.2, Or.inr (by omega)⟩⟩
theorem t_VQ.Rv (h : t_VQ sh gr k) : t_Rv sh gr k := by
  obtain ⟨h0, h1, h2, h3, h4, h5, h6⟩ := h
  exact ⟨h0, ⟨_, h2.1, h2.2, Or.inr (by omega)⟩, ⟨_, h3.1, h3.2, Or.inr (by omega)⟩, ⟨_, h4.1, h4.2, Or.inr (by omega)⟩, ⟨_, h5.1, h5.2.Ln⟩, ⟨_, h6.1, h6.2.Ln⟩⟩
end RVT
/-- all but the cell 0 below r is as it was -/
noncomputable def t_l0 (r : Nat) (gi : Nat → Nat → Int32) (gl : Nat → Nat → Int64) (gr : Nat → Nat → Value) (g1 : Nat → Nat → Int32) (l1 : Nat → Nat → Int64) (r1 : Nat → Nat → Value) : Prop := ∀ K, K ≠ 0 → K < r → g1 K = gi K ∧ l1 K = gl K ∧ r1 K = gr K
theorem t_row0 {wl : List (Nat × Nat)} {sh : List (Nat ⊕ (Nat × Nat))} {gi g : Nat → Nat → Int32} {gl l : Nat → Nat → Int64} {gr r : Nat → Nat → Value} (h : t_X wl sh gi gl gr g l r) (hw : wl.all (fun q => q.1 == 0) = true) {K : Nat} (hK : K ≠ 0) : g K = gi K ∧ l K = gl K ∧ r K = gr K := by
  have hc : t_cd sh K ≠ 0 := by
    unfold t_cd
    split
    · exact hK
    · split
      · rename_i s _
        cases s with
        | inl c => show 110 + c ≠ 0; omega
        | inr q => show 130 + q.1 ≠ 0; omega
      · decide
  have hn : ∀ j, t_in wl (t_cd sh K) j = false := fun j => by
    unfold t_in
    rw [List.any_eq_false]
    intro q hq hh
    have h1 := eq_of_beq (List.all_eq_true.mp hw q hq)
    have h2 := eq_of_beq ((Bool.and_eq_true _ _).mp hh).1
    exact hc (h2.symm.trans h1)
  exact ⟨funext fun j => (h.1 K j (hn j)).1, funext fun j => (h.1 K j (hn j)).2.1, funext fun j => (h.1 K j (hn j)).2.2⟩
theorem t_CR_0 {gi : Nat → Nat → Int32} {gl : Nat → Nat → Int64} {N : Nat} (zR4 : (gi N 4).toInt = 0) (zV0 : (gi (N + 2) 0).toInt = 0) (zV3 : (gi (N + 2) 3).toInt = 5) (zV4 : (gi (N + 2) 4).toInt = 0) (zV5 : (gi (N + 2) 5).toInt = 0) (zV6 : (gi (N + 2) 6).toInt = 0) (zR5 : (gi N 5).toInt = 0) (zR6 : (gi N 6).toInt = 0) (zR7 : (gi N 7).toInt = 0) (zS0 : (gi (N + 2 + 3) 0).toInt = 0) (zC0 : (gi (N + 2 + 10) 0).toInt = 0) : t_CR gi gl N s_D0 (s_D0 0 + s_D0 1 + s_D0 2) (s_used s_D0) := by
  have d0 : ∀ j, j ≠ 4 → s_D0 j = 0 := fun j hj => if_neg hj
  have hu : ∀ x, ¬ s_used s_D0 x := by
    rintro x (⟨i, hi, _⟩ | ⟨i, hi, _⟩ | ⟨i, hi, _⟩)
    · rw [d0 0 (by decide)] at hi; omega
    · rw [d0 1 (by decide)] at hi; omega
    · rw [d0 2 (by decide)] at hi; omega
  refine ⟨?_, ⟨?_, fun x => ⟨?_, fun hx => absurd hx (hu x)⟩⟩, ⟨?_, fun i hi => ?_⟩, ⟨⟨?_, ?_, ?_, ?_⟩, ?_, ?_, ?_⟩, ⟨?_, fun i hi => ?_⟩, ?_, fun i hi => ?_⟩
  · unfold t_Cb; rw [d0 0 (by decide), d0 1 (by decide), d0 2 (by decide)]; decide
  · rw [zR4, d0 0 (by decide), d0 1 (by decide), d0 2 (by decide)]; rfl
  · rintro ⟨i, hi, _⟩; rw [d0 0 (by decide), d0 1 (by decide), d0 2 (by decide)] at hi; omega
  · exact zV0.trans (d0 0 (by decide)).symm
  · rw [d0 0 (by decide)] at hi; omega
  · exact zV3.trans (if_pos rfl).symm
  · exact zV4.trans (d0 5 (by decide)).symm
  · exact zV5.trans (d0 6 (by decide)).symm
  · exact zV6.trans (d0 7 (by decide)).symm
  · exact zR5.trans (d0 221 (by decide)).symm
  · exact zR6.trans (d0 222 (by decide)).symm
  · exact zR7.trans (d0 223 (by decide)).symm
  · exact zS0.trans (d0 1 (by decide)).symm
  · rw [d0 1 (by decide)] at hi; omega
  · exact zC0.trans (d0 2 (by decide)).symm
  · rw [d0 2 (by decide)] at hi; omega
/-- a RIVER's cells, by number -/
noncomputable def t_VL (gr : Nat → Nat → Value) (v : Nat) : Prop := (gr v 1 = .ref (v + 1) ∧ gr v 2 = .ref (v + 2) ∧ gr v 8 = .ref (v + 9) ∧ gr v 7 = .ref (v + 3) ∧ gr v 9 = .ref (v + 10)) ∧ (gr (v + 3) 1 = .ref (v + 3 + 1) ∧ gr (v + 3) 2 = .ref (v + 3 + 2) ∧ gr (v + 3) 3 = .ref (v + 3 + 3) ∧ gr (v + 3) 4 = .ref (v + 3 + 4) ∧ gr (v + 3) 5 = .ref (v + 3 + 5)) ∧ gr (v + 10) 1 = .ref (v + 10 + 1) ∧ gr (v + 10) 2 = .ref (v + 10 + 2) ∧ gr (v + 10) 3 = .ref (v + 10 + 3) ∧ gr (v + 10) 4 = .ref (v + 10 + 4) ∧ gr (v + 10) 5 = .ref (v + 10 + 5)
theorem t_VQ.l {sh : List (Nat ⊕ (Nat × Nat))} {gr : Nat → Nat → Value} {v : Nat} (h : t_VQ sh gr v) : t_VL gr v := by
  obtain ⟨-, -, ⟨a1, -⟩, ⟨a2, -⟩, ⟨a8, -⟩, ⟨a7, l1⟩, a9, l2⟩ := h
  obtain ⟨-, -, ⟨b1, -⟩, ⟨b2, -⟩, ⟨b3, -⟩, ⟨b4, -⟩, b5, -⟩ := l1
  obtain ⟨-, -, ⟨c1, -⟩, ⟨c2, -⟩, ⟨c3, -⟩, ⟨c4, -⟩, c5, -⟩ := l2
  exact ⟨⟨a1, a2, a8, a7, a9⟩, ⟨b1, b2, b3, b4, b5⟩, c1, c2, c3, c4, c5⟩
