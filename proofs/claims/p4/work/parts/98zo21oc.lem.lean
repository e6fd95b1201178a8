/-! ===== the steps that the other side lays, its pile told as a list ===== -/
noncomputable def s_sl (f : Nat → Int32) : Nat → List Int
  | 0 => []
  | h + 1 => (f h).toInt :: s_sl f h
noncomputable def s_SL (g : Nat → Nat → Int32) : List Int := s_sl (g 77) (g 69 22).toInt.toNat
noncomputable def t_AK (g : Nat → Nat → Int32) (E : List Int) : Prop := (g 69 25).toInt = (E.length : Int) ∧ ∀ i, i < E.length → (g 70 (1540 + i)).toInt = E.getD i 0
section TAK
variable {f f' : Nat → Int32} {g g1 : Nat → Nat → Int32} {E K : List Int} {v w : Int32} {b : Nat → Int32} {n q q' : Nat}
theorem t_AK.ps (h : t_AK g E) (e25 : (g1 69 25).toInt = (g 69 25).toInt + 1) (ho : (∀ j, j ≠ 1540 + (g 69 25).toInt.toNat → g1 70 j = g 70 j) ∧ g1 70 (1540 + (g 69 25).toInt.toNat) = v) : t_AK g1 (E ++ [v.toInt]) := by
  have h1 := h.1
  rw [show (g 69 25).toInt.toNat = E.length by omega] at ho
  refine ⟨by rw [e25, List.length_append, List.length_singleton]; omega, fun i hi => ?_⟩
  rw [List.length_append, List.length_singleton] at hi
  rw [s_gd_a]
  by_cases hk : i = E.length
  · rw [if_pos hk, hk, ho.2]
  · rw [if_neg hk, ho.1 _ (by omega)]; exact h.2 i (by omega)
theorem t_AK.sm (h : t_AK g E) (e25 : (g1 69 25).toInt = (g 69 25).toInt) (e : g1 70 = g 70) : t_AK g1 E := ⟨e25.trans h.1, fun i hi => by rw [e]; exact h.2 i hi⟩
theorem s_sl_eq : ∀ h : Nat, (∀ j, j < h → f' j = f j) → s_sl f' h = s_sl f h
  | 0, _ => rfl
  | h + 1, e => by
    have ih := s_sl_eq h (fun j hj => e j (by omega))
    unfold s_sl
    rw [e h (by omega), ih]
theorem t_SL_t (h1 : 1 ≤ (g 69 22).toInt) (ht : w = g 77 ((g 69 22).toInt.toNat - 1)) : s_SL g = w.toInt :: s_sl (g 77) ((g 69 22).toInt.toNat - 1) := by
  unfold s_SL
  obtain ⟨k, hk⟩ : ∃ k, (g 69 22).toInt.toNat = k + 1 := ⟨(g 69 22).toInt.toNat - 1, by omega⟩
  rw [hk] at ht ⊢
  rw [ht]; rfl
theorem t_SL_p (h1 : 1 ≤ (g 69 22).toInt) (ht : w = g 77 ((g 69 22).toInt.toNat - 1)) (e22 : (g1 69 22).toInt = (g 69 22).toInt - 1) (e : g1 77 = g 77) : s_SL g = w.toInt :: s_SL g1 := by
  rw [t_SL_t h1 ht]; unfold s_SL; rw [e, show (g1 69 22).toInt.toNat = (g 69 22).toInt.toNat - 1 by omega]
theorem t_SL_k (e22 : (g1 69 22).toInt = (g 69 22).toInt) (e : g1 77 = g 77) : s_SL g1 = s_SL g := by unfold s_SL; rw [e22, e]
theorem t_SL_q (h0 : 0 ≤ (g 69 22).toInt) (e22 : (g1 69 22).toInt = (g 69 22).toInt + 1) (ho : (∀ j, j ≠ (g 69 22).toInt.toNat → g1 77 j = g 77 j) ∧ g1 77 (g 69 22).toInt.toNat = v) : s_SL g1 = v.toInt :: s_SL g := by
  unfold s_SL
  rw [show (g1 69 22).toInt.toNat = (g 69 22).toInt.toNat + 1 by omega]
  show (g1 77 (g 69 22).toInt.toNat).toInt :: s_sl (g1 77) (g 69 22).toInt.toNat = _
  rw [ho.2, s_sl_eq _ (fun j hj => ho.1 j (by omega))]
theorem t_SL_0 (h : (g 69 22).toInt ≤ 0) : s_SL g = [] := by unfold s_SL; rw [show (g 69 22).toInt.toNat = 0 by omega]; rfl
theorem s_sl_m {x : Int} : ∀ h : Nat, x ∈ s_sl f h ↔ ∃ i, i < h ∧ (f i).toInt = x
  | 0 => ⟨fun h => absurd h List.not_mem_nil, fun ⟨i, hi, _⟩ => by omega⟩
  | h + 1 => by
    show x ∈ (f h).toInt :: s_sl f h ↔ _
    rw [List.mem_cons, s_sl_m h]
    constructor
    · rintro (h1 | ⟨i, hi, h2⟩)
      · exact ⟨h, by omega, h1.symm⟩
      · exact ⟨i, by omega, h2⟩
    · rintro ⟨i, hi, h2⟩
      by_cases hk : i = h
      · left; rw [← hk]; exact h2.symm
      · exact Or.inr ⟨i, by omega, h2⟩
theorem t_SL_ex (he : t_ex g) : 40 ∈ s_SL g := (s_sl_m _).mpr (he.elim fun j hj => ⟨j, by have := hj.1; omega, hj.2⟩)
theorem t_SL_nx (he : t_n40 g) : 40 ∉ s_SL g := fun h => by obtain ⟨i, hi, hv⟩ := (s_sl_m _).mp h; exact he i (by omega) hv
/-- the TOKEN, the pile, the steps laid -/
noncomputable def t_OM (b : Nat → Int32) (n q : Nat) (K E : List Int) (g : Nat → Nat → Int32) : Prop := t_TM b n q g ∧ s_SL g = K ∧ t_AK g E
theorem t_OM.qn (h : t_OM b n q K E g) : q ≤ n := h.1.1.2
theorem t_OM.ah (h : t_OM b n q K E g) (ht : t_TM b n q' g1) (e22 : (g1 69 22).toInt = (g 69 22).toInt) (e25 : (g1 69 25).toInt = (g 69 25).toInt) (e77 : g1 77 = g 77) (e70 : g1 70 = g 70) : t_OM b n q' K E g1 := ⟨ht, (t_SL_k e22 e77).trans h.2.1, h.2.2.sm e25 e70⟩
theorem t_OM.sm (h : t_OM b n q K E g) (f : t_fM g g1) (e22 : (g1 69 22).toInt = (g 69 22).toInt) (e25 : (g1 69 25).toInt = (g 69 25).toInt) (e77 : g1 77 = g 77) (e70 : g1 70 = g 70) : t_OM b n q K E g1 := h.ah (h.1.fM f) e22 e25 e77 e70
/-- a step is laid -/
theorem t_OM.em (h : t_OM b n q K E g) (f : t_fM g g1) (e22 : (g1 69 22).toInt = (g 69 22).toInt) (e25 : (g1 69 25).toInt = (g 69 25).toInt + 1) (e77 : g1 77 = g 77) (ho : (∀ j, j ≠ 1540 + (g 69 25).toInt.toNat → g1 70 j = g 70 j) ∧ g1 70 (1540 + (g 69 25).toInt.toNat) = v) : t_OM b n q K (E ++ [v.toInt]) g1 := ⟨h.1.fM f, (t_SL_k e22 e77).trans h.2.1, h.2.2.ps e25 ho⟩
/-- one is taken off, and laid -/
theorem t_OM.pe (h : t_OM b n q K E g) (f : t_fM g g1) (h1 : 1 ≤ (g 69 22).toInt) (ht : w = g 77 ((g 69 22).toInt.toNat - 1)) (e22 : (g1 69 22).toInt = (g 69 22).toInt - 1) (e25 : (g1 69 25).toInt = (g 69 25).toInt + 1) (e77 : g1 77 = g 77) (ho : (∀ j, j ≠ 1540 + (g 69 25).toInt.toNat → g1 70 j = g 70 j) ∧ g1 70 (1540 + (g 69 25).toInt.toNat) = w) : ∃ K2, K = w.toInt :: K2 ∧ t_OM b n q K2 (E ++ [w.toInt]) g1 :=
  ⟨s_SL g1, h.2.1.symm.trans (t_SL_p h1 ht e22 e77), h.1.fM f, rfl, h.2.2.ps e25 ho⟩
/-- one is taken off -/
theorem t_OM.po (h : t_OM b n q K E g) (f : t_fM g g1) (h1 : 1 ≤ (g 69 22).toInt) (ht : w = g 77 ((g 69 22).toInt.toNat - 1)) (e22 : (g1 69 22).toInt = (g 69 22).toInt - 1) (e25 : (g1 69 25).toInt = (g 69 25).toInt) (e77 : g1 77 = g 77) (e70 : g1 70 = g 70) : ∃ K2, K = w.toInt :: K2 ∧ t_OM b n q K2 E g1 :=
  ⟨s_SL g1, h.2.1.symm.trans (t_SL_p h1 ht e22 e77), h.1.fM f, rfl, h.2.2.sm e25 e70⟩
/-- one more -/
theorem t_OM.pu (h : t_OM b n q K E g) (f : t_fM g g1) (h0 : 0 ≤ (g 69 22).toInt) (e22 : (g1 69 22).toInt = (g 69 22).toInt + 1) (e25 : (g1 69 25).toInt = (g 69 25).toInt) (ho : (∀ j, j ≠ (g 69 22).toInt.toNat → g1 77 j = g 77 j) ∧ g1 77 (g 69 22).toInt.toNat = v) (e70 : g1 70 = g 70) : t_OM b n q (v.toInt :: K) E g1 :=
  ⟨h.1.fM f, by rw [t_SL_q h0 e22 ho, h.2.1], h.2.2.sm e25 e70⟩
theorem t_OM.ex (h : t_OM b n q K E g) (he : t_ex g) : 40 ∈ K := h.2.1 ▸ t_SL_ex he
theorem t_OM.nx (h : t_OM b n q K E g) (he : t_n40 g) : 40 ∉ K := h.2.1 ▸ t_SL_nx he
theorem t_OM.tp (h : t_OM b n q K E g) (h1 : 1 ≤ (g 69 22).toInt) (ht : w = g 77 ((g 69 22).toInt.toNat - 1)) : ∃ K2, K = w.toInt :: K2 := ⟨_, h.2.1.symm.trans (t_SL_t h1 ht)⟩
theorem t_OM.e0 (h : t_OM b n q K E g) (h1 : (g 69 22).toInt ≤ 0) : K = [] := h.2.1.symm.trans (t_SL_0 h1)
end TAK
section TAJ
variable {K K2 F : List Int} {x k : Int}
theorem s_pj_c (h : x = 19 ∨ (k = 18 ∧ x = 18)) : s_pj k (x :: K) F = s_pj k K (F ++ [x]) := if_pos h
theorem s_pj_z (h : ∀ x L, K = x :: L → ¬ (x = 19 ∨ (k = 18 ∧ x = 18))) : s_pj k K F = (K, F) := by
  cases K with
  | nil => rfl
  | cons y L => exact if_neg (h y L rfl)
theorem s_pj_n : s_pj k [] F = ([], F) := rfl
theorem s_pj_y (h : ¬ (x = 19 ∨ (k = 18 ∧ x = 18))) : s_pj k (x :: K) F = (x :: K, F) := if_neg h
theorem s_pk_c (h : x ≠ 40) : s_pkb (x :: K) F = s_pkb K (F ++ [x]) := if_neg h
theorem s_pk_z : s_pkb (40 :: K) F = (K, F) := if_pos rfl
end TAJ
section TAL
variable {b : Nat → Int32} {n q q' c r m : Nat} {g g1 : Nat → Nat → Int32} {K E : List Int} {v w : Int32} {R : List (List Int × Int)} {p : List Int × Int}
theorem s_jk_mi (h : s_jnd b n q) : s_jk b n q = s_mi (s_W b n q) := by
  rcases h with h | h
  · exact (s_jk18 h).trans (show (18 : Int) = s_mi (s_W b n q) from ((s_mi_W (i := 18) (by decide)).mpr h).symm)
  · exact (s_jk19 h).trans (show (19 : Int) = s_mi (s_W b n q) from ((s_mi_W (i := 19) (by decide)).mpr h).symm)
theorem s_cc_o (h : s_opn b n q) : s_ccd b n q = s_mi (s_W b n q) := s_ifT h
theorem s_cx_o (h : s_opn b n q) : s_cx b n q = s_E b n q := s_ifT h
theorem s_cx_c (h : ¬ s_opn b n q) : s_cx b n q = s_E b n (s_E b n (s_E b n q)) := s_ifF h
theorem s_cc_0 (h : ¬ s_opn b n q) (h1 : s_isS b n (s_E b n q) 60) : s_ccd b n q = 100000 * s_mi (s_W b n q) + 1000 * 0 + s_V b n (s_E b n (s_E b n q)) := by unfold s_ccd; rw [s_ifF h, s_ifT h1]
theorem s_cc_1 (h : ¬ s_opn b n q) (h1 : ¬ s_isS b n (s_E b n q) 60) (h2 : s_isS b n (s_E b n q) 62) : s_ccd b n q = 100000 * s_mi (s_W b n q) + 1000 * 1 + s_V b n (s_E b n (s_E b n q)) := by unfold s_ccd; rw [s_ifF h, s_ifF h1, s_ifT h2]
theorem s_cc_2 (h : ¬ s_opn b n q) (h1 : ¬ s_isS b n (s_E b n q) 60) (h2 : ¬ s_isS b n (s_E b n q) 62) : s_ccd b n q = 100000 * s_mi (s_W b n q) + 1000 * 2 + s_V b n (s_E b n (s_E b n q)) := by unfold s_ccd; rw [s_ifF h, s_ifF h1, s_ifF h2]
theorem t_OM_0 (ht : t_TM b n q g) (hE : t_AK g E) (f : t_fM g g1) (e22 : (g1 69 22).toInt = 0) (e25 : (g1 69 25).toInt = (g 69 25).toInt) (e70 : g1 70 = g 70) : t_OM b n q [] E g1 := ⟨ht.fM f, t_SL_0 (by omega), hE.sm e25 e70⟩
/-- the RULES read so far, as the other side holds them while it reads -/
noncomputable def t_MK (g : Nat → Nat → Int32) (R : List (List Int × Int)) : Prop := ((g 70 1403).toInt = (R.length : Int) ∧ R.length ≤ 12) ∧ t_AK g (s_flr R) ∧ (∀ i, i < R.length → (g 70 (1500 + 3 * i)).toInt = ((s_re R i : Nat) : Int) ∧ (g 70 (1501 + 3 * i)).toInt = ((s_re R (i + 1) : Nat) : Int) ∧ (g 70 (1502 + 3 * i)).toInt = s_ra R i + 15) ∧ s_gd R
/-- the RULES that are read, as it holds them -/
noncomputable def t_MQ (f : Nat → Int32) (R : List (List Int × Int)) : Prop := ((f 3).toInt = (R.length : Int) ∧ R.length ≤ 12 ∧ (s_flr R).length ≤ 210) ∧ (∀ i, i < (s_flr R).length → (f (140 + i)).toInt = (s_flr R).getD i 0) ∧ (∀ i, i < R.length → (f (100 + 3 * i)).toInt = ((s_re R i : Nat) : Int) ∧ (f (101 + 3 * i)).toInt = ((s_re R (i + 1) : Nat) : Int) ∧ (f (102 + 3 * i)).toInt = s_ra R i + 15) ∧ s_gd R
theorem t_AK.fr (h : t_AK g E) (e25 : (g1 69 25).toInt = (g 69 25).toInt) (ho : ∀ j, 1540 ≤ j → g1 70 j = g 70 j) : t_AK g1 E := ⟨e25.trans h.1, fun i hi => by rw [ho _ (by omega)]; exact h.2 i hi⟩
theorem t_MQ.ext {f f' : Nat → Int32} (h : t_MQ f R) (e : ∀ j, j < 350 → f' j = f j) : t_MQ f' R := by
  obtain ⟨⟨h1, h2, h3⟩, h4, h5, h6⟩ := h
  refine ⟨⟨by rw [e 3 (by decide)]; exact h1, h2, h3⟩, fun i hi => by rw [e _ (by omega)]; exact h4 i hi, fun i hi => ?_, h6⟩
  rw [e _ (by omega), e _ (by omega), e _ (by omega)]; exact h5 i hi
theorem s_Em_f {a : Bool} : s_Em b n a q K E = E ++ s_Em b n a q K [] := by
  have h := s_Em_pre (b := b) (n := n) (p := q) (K := K) (F := []) (a := a) (P := E)
  rw [List.append_nil] at h; exact h
theorem t_em_hr {lo a : Nat} {S : List Int} (h : t_em (g 70) lo a 1) (hlo : lo = E.length) (ha : a = (g 69 25).toInt.toNat) (hE : t_AK g (E ++ S)) : s_hr S 0 = some 1 := by
  obtain ⟨h1, h2⟩ := h
  obtain ⟨h3, h4⟩ := hE
  rw [List.length_append] at h3 h4
  rw [show a - lo = S.length by omega] at h2
  rw [← h2]
  refine (s_hr_run S lo 0 (fun i hi => ?_)).symm
  show (g 70 (350 * 4 + 140 + (lo + i))).toInt = S.getD i 0
  rw [show 350 * 4 + 140 + (lo + i) = 1540 + (E.length + i) by omega, h4 _ (by omega), List.getD_eq_getElem?_getD, List.getElem?_append_right (by omega), show E.length + i - E.length = i by omega, List.getD_eq_getElem?_getD]
theorem s_re_l : s_re R R.length = (s_flr R).length := by unfold s_re; rw [List.take_length]
theorem t_MK_0 (h3 : (g 70 1403).toInt = 0) (h25 : (g 69 25).toInt = 0) : t_MK g [] := ⟨⟨h3, by decide⟩, ⟨h25, fun i hi => absurd hi (by show ¬ i < 0; omega)⟩, fun i hi => absurd hi (by show ¬ i < 0; omega), fun i hi => absurd hi (by show ¬ i < 0; omega)⟩
/-- one more: g is the world ahead of it, g1 the one behind -/
theorem t_MK.add (h : t_MK g R) (h12 : R.length < 12) (hA : t_AK g1 (s_flr R ++ p.1)) (h3 : (g1 70 1403).toInt = (R.length : Int) + 1) (e0 : (g1 70 (1500 + 3 * R.length)).toInt = (g 69 25).toInt) (e1 : (g1 70 (1501 + 3 * R.length)).toInt = (g1 69 25).toInt) (e2 : (g1 70 (1502 + 3 * R.length)).toInt = p.2 + 15) (ho : ∀ j, 1500 ≤ j → j < 1500 + 3 * R.length → g1 70 j = g 70 j) (hg : s_hr p.1 0 = some 1) : t_MK g1 (R ++ [p]) := by
  refine ⟨⟨by rw [h3, List.length_append, List.length_singleton]; omega, by rw [List.length_append, List.length_singleton]; omega⟩, by rw [s_fl_a]; exact hA, fun i hi => ?_, s_gd_p h.2.2.2 hg⟩
  rw [List.length_append, List.length_singleton] at hi
  by_cases hk : i = R.length
  · rw [hk, s_ra_a, if_pos rfl, s_re_a (Nat.le_refl _), s_re_l, s_re_e]
    exact ⟨e0.trans h.2.1.1, e1.trans hA.1, e2⟩
  · rw [ho _ (by omega) (by omega), ho _ (by omega) (by omega), ho _ (by omega) (by omega), s_ra_a, if_neg hk, s_re_a (by omega), s_re_a (by omega)]
    exact h.2.2.1 i (by omega)
theorem t_MK.eq (h : t_MK g R) (e3 : g1 70 1403 = g 70 1403) (e25 : (g1 69 25).toInt = (g 69 25).toInt) (ho : ∀ j, 1500 ≤ j → g1 70 j = g 70 j) : t_MK g1 R := by
  refine ⟨⟨by rw [e3]; exact h.1.1, h.1.2⟩, ⟨e25.trans h.2.1.1, fun i hi => by rw [ho _ (by omega)]; exact h.2.1.2 i hi⟩, fun i hi => ?_, h.2.2.2⟩
  rw [ho _ (by omega), ho _ (by omega), ho _ (by omega)]; exact h.2.2.1 i hi
theorem t_MK.mq (h : t_MK g R) (h3 : g 70 3 = g 70 1403) (h210 : (g 69 25).toInt ≤ 210) (hc : ∀ j : Nat, 100 ≤ j → j < 350 → g 70 j = g 70 (1400 + j)) : t_MQ (g 70) R := by
  have hl := h.2.1.1
  have h12 := h.1.2
  refine ⟨⟨by rw [h3]; exact h.1.1, h12, by omega⟩, fun i hi => ?_, fun i hi => ?_, h.2.2.2⟩
  · rw [hc _ (by omega) (by omega), show 1400 + (140 + i) = 1540 + i by omega]; exact h.2.1.2 i hi
  · rw [hc (100 + 3 * i) (by omega) (by omega), hc (101 + 3 * i) (by omega) (by omega), hc (102 + 3 * i) (by omega) (by omega), show 1400 + (100 + 3 * i) = 1500 + 3 * i by omega, show 1400 + (101 + 3 * i) = 1501 + 3 * i by omega, show 1400 + (102 + 3 * i) = 1502 + 3 * i by omega]; exact h.2.2.1 i hi
/-- so far: the RULES read -/
noncomputable def t_OQ (b : Nat → Int32) (n : Nat) (v : Int32) (g : Nat → Nat → Int32) : Prop := v.toInt = 1 → ∃ (q c : Nat) (R : List (List Int × Int)), s_rle b n 301 0 0 = R ++ s_rle b n (301 - R.length) q c ∧ n ≤ 300 ∧ t_TM b n q g ∧ t_MF g 0 (-1) ∧ (g 69 24).toInt = (c : Int) ∧ t_MK g R
theorem t_OQ_s (h : t_OQ b n v g) (hv : v.toInt = 1) (h12 : (g 69 12).toInt ≠ 0) (hq : ∀ (q c : Nat) (R : List (List Int × Int)), t_TM b n q g → t_MF g 0 (-1) → n ≤ 300 → (g 69 24).toInt = (c : Int) → s_K b n q ≠ 0 → t_MK g R → w.toInt = 1 → ∃ (q2 c2 : Nat) (x : List Int × Int), (∀ m, s_rle b n (m + 1) q c = x :: s_rle b n m q2 c2) ∧ t_TM b n q2 g1 ∧ t_MF g1 0 (-1) ∧ (g1 69 24).toInt = (c2 : Int) ∧ t_MK g1 (R ++ [x])) : t_OQ b n w g1 := by
  intro hw
  obtain ⟨q, c, R, e, hn, ht, hf, hc, hR⟩ := h hv
  have hK : s_K b n q ≠ 0 := by have := ht.2.2.2.1; omega
  obtain ⟨q2, c2, x, hx, a1, a2, a3, a4⟩ := hq q c R ht hf hn hc hK hR hw
  refine ⟨q2, c2, R ++ [x], ?_, hn, a1, a2, a3, a4⟩
  have hl := hR.1.2
  rw [e, show 301 - R.length = (301 - (R ++ [x]).length) + 1 by rw [List.length_append, List.length_singleton]; omega, hx, List.append_assoc]; rfl
theorem t_OQ_e (h : t_OQ b n v g) (hv : v.toInt = 1) (h12 : (g 69 12).toInt = 0) : t_MK g (s_rle b n 301 0 0) := by
  obtain ⟨q, c, R, e, hn, ht, hf, hc, hR⟩ := h hv
  have hl := hR.1.2
  have h4 := ht.2.2.2.1
  rw [e, show 301 - R.length = (300 - R.length) + 1 by omega, s_rle_e (by omega), List.append_nil]; exact hR
end TAL
