/-! ===== the steps that the class's reader has laid ===== -/
/-- a step as the class lays it: what it is, of what, with which number -/
noncomputable def s_cdr (x y z : Int32) (c : Int) : Prop := (c = 20 ∧ x.toInt = 3) ∨ (c = 19 ∧ x.toInt = 4) ∨ (c = 18 ∧ x.toInt = 5) ∨ (c = 15 ∧ x.toInt = 2 ∧ y.toInt = 0 ∧ z.toInt = 1) ∨ (c = 16 ∧ x.toInt = 2 ∧ y.toInt = 0 ∧ z.toInt = 0) ∨ (c = 100000 * (21 + y.toInt) + 1000 * x.toInt + z.toInt ∧ (0 ≤ x.toInt ∧ x.toInt ≤ 2) ∧ (1 ≤ y.toInt ∧ y.toInt ≤ 5) ∧ 0 ≤ z.toInt ∧ z.toInt ≤ 300)
theorem s_cdr_n {x y z : Int32} {c : Int} (h : c = 20) (hx : x.toInt = 3) : s_cdr x y z c := Or.inl ⟨h, hx⟩
theorem s_cdr_a {x y z : Int32} {c : Int} (h : c = 19) (hx : x.toInt = 4) : s_cdr x y z c := Or.inr (Or.inl ⟨h, hx⟩)
theorem s_cdr_r {x y z : Int32} {c : Int} (h : c = 18) (hx : x.toInt = 5) : s_cdr x y z c := Or.inr (Or.inr (Or.inl ⟨h, hx⟩))
theorem s_cdr_o {x y z : Int32} {c : Int} (h : c = 15) (hx : x.toInt = 2) (hy : y.toInt = 0) (hz : z.toInt = 1) : s_cdr x y z c := Or.inr (Or.inr (Or.inr (Or.inl ⟨h, hx, hy, hz⟩)))
theorem s_cdr_s {x y z : Int32} {c : Int} (h : c = 16) (hx : x.toInt = 2) (hy : y.toInt = 0) (hz : z.toInt = 0) : s_cdr x y z c := Or.inr (Or.inr (Or.inr (Or.inr (Or.inl ⟨h, hx, hy, hz⟩))))
theorem s_cdr_c {x y z : Int32} {c : Int} (h : c = 100000 * (21 + y.toInt) + 1000 * x.toInt + z.toInt) (hx : 0 ≤ x.toInt ∧ x.toInt ≤ 2) (hy : 1 ≤ y.toInt ∧ y.toInt ≤ 5) (hz : 0 ≤ z.toInt ∧ z.toInt ≤ 300) : s_cdr x y z c := Or.inr (Or.inr (Or.inr (Or.inr (Or.inr ⟨h, hx, hy, hz⟩))))
theorem t_lenE {n : Nat} (h : n ≤ 300) : (Int32.ofNat n).toInt = (n : Int) := Int32.toInt_ofNat_of_lt (by omega)
/-- one step more -/
noncomputable def t_AS (gi g : Nat → Nat → Int32) (u : Nat) (x y z : Int32) : Prop := (g u 3).toInt = (gi u 3).toInt + 1 ∧ ∀ k : Nat, g (u + 3) k = (if (k : Int) = (gi u 3).toInt then x else gi (u + 3) k) ∧ g (u + 4) k = (if (k : Int) = (gi u 3).toInt then y else gi (u + 4) k) ∧ g (u + 5) k = (if (k : Int) = (gi u 3).toInt then z else gi (u + 5) k)
/-- one RULE more -/
noncomputable def t_AR (gi g : Nat → Nat → Int32) (u : Nat) (x : Int32) : Prop := g u 3 = gi u 3 ∧ ∀ k : Nat, g (u + 1) k = (if (k : Int) = (gi u 0).toInt then x else gi (u + 1) k) ∧ g (u + 2) k = (if (k : Int) = (gi u 0).toInt then gi u 3 else gi (u + 2) k)
section UEA
variable {sh : List (Nat ⊕ (Nat × Nat))} {gi g g1 g2 g3 g4 : Nat → Nat → Int32} {gl l1 : Nat → Nat → Int64} {gr r1 : Nat → Nat → Value} {r u n q q' k : Nat} {E : List Int} {c : Int} {x y z w : Int32} {R : List (List Int × Int)} {S : List Int}
theorem t_up_if {f : Nat → Nat → Int32} {i : Int32} (h0 : 0 ≤ i.toInt) : x_up2 f u i.toNatClampNeg x u k = (if (k : Int) = i.toInt then x else f u k) := by
  have hc := t_clamp h0
  by_cases hk : (k : Int) = i.toInt
  · rw [if_pos hk, show k = i.toNatClampNeg by omega, x_up2_at]
  · rw [if_neg hk, x_up2_off (Or.inr (by omega))]
theorem t_AS_of (h0 : 0 ≤ (gi u 3).toInt) (e1 : g1 = x_up2 gi (u + 3) (gi u 3).toNatClampNeg x) (e2 : g2 = x_up2 g1 (u + 4) (gi u 3).toNatClampNeg y) (e3 : g3 = x_up2 g2 (u + 5) (gi u 3).toNatClampNeg z) (e4 : g4 = x_up2 g3 u 3 w) (hw : w.toInt = (gi u 3).toInt + 1) : t_AS gi g4 u x y z := by
  refine ⟨by rw [e4, x_up2_at]; exact hw, fun k => ⟨?_, ?_, ?_⟩⟩
  · rw [e4, x_up2_ne (by omega), e3, x_up2_ne (by omega), e2, x_up2_ne (by omega), e1, t_up_if h0]
  · rw [e4, x_up2_ne (by omega), e3, x_up2_ne (by omega), e2, t_up_if h0, e1, x_up2_ne (by omega)]
  · rw [e4, x_up2_ne (by omega), e3, t_up_if h0, e2, x_up2_ne (by omega), e1, x_up2_ne (by omega)]
theorem t_AR_of (h0 : 0 ≤ (gi u 0).toInt) (e1 : g1 = x_up2 gi (u + 1) (gi u 0).toNatClampNeg x) (e2 : g2 = x_up2 g1 (u + 2) (gi u 0).toNatClampNeg (g1 u 3)) (e3 : g3 = x_up2 g2 u 0 w) : t_AR gi g3 u x := by
  refine ⟨by rw [e3, x_up2_off (Or.inr (by decide)), e2, x_up2_ne (by omega), e1, x_up2_ne (by omega)], fun k => ⟨?_, ?_⟩⟩
  · rw [e3, x_up2_ne (by omega), e2, x_up2_ne (by omega), e1, t_up_if h0]
  · rw [e3, x_up2_ne (by omega), e2, t_up_if h0, e1, x_up2_ne (by omega), x_up2_ne (by omega)]
noncomputable def t_UE (sh : List (Nat ⊕ (Nat × Nat))) (gi : Nat → Nat → Int32) (r n q : Nat) (E : List Int) : Prop := sh[r + 2 + 3]? = some (.inr (0, n)) ∧ ((gi (r + 2) 3).toInt = (E.length : Int) ∧ E.length ≤ q) ∧ ∀ i, i < E.length → s_cdr (gi (r + 2 + 3) i) (gi (r + 2 + 4) i) (gi (r + 2 + 5) i) (E.getD i 0)
/-- acts and ends are as they were -/
noncomputable def t_UT (gi g : Nat → Nat → Int32) (r : Nat) : Prop := g (r + 2 + 1) = gi (r + 2 + 1) ∧ g (r + 2 + 2) = gi (r + 2 + 2)
theorem t_UE.eq (h : t_UE sh gi r n q E) (e3 : g1 (r + 2) 3 = gi (r + 2) 3) (e : ∀ K, r + 5 ≤ K → K ≤ r + 7 → g1 K = gi K) (hq : q ≤ q') : t_UE sh g1 r n q' E := by
  refine ⟨h.1, ⟨by rw [e3]; exact h.2.1.1, by have := h.2.1.2; omega⟩, fun i hi => ?_⟩
  rw [e (r + 2 + 3) (by omega) (by omega), e (r + 2 + 4) (by omega) (by omega), e (r + 2 + 5) (by omega) (by omega)]
  exact h.2.2 i hi
theorem t_UE.on (h : t_UE sh gi r n q E) (ho : t_on k gi gl gr g1 l1 r1) (hk : k < r + 2) (hq : q ≤ q') : t_UE sh g1 r n q' E :=
  h.eq (by rw [(ho (r + 2) (by omega)).1]) (fun K a _ => (ho K (by omega)).1) hq
theorem t_UE.st {j : Nat} (h : t_UE sh gi r n q E) (e : g1 = x_up2 gi r j z) : t_UE sh g1 r n q E :=
  h.eq (by rw [e, x_up2_ne (by omega)]) (fun K a _ => by rw [e, x_up2_ne (by omega)]) (Nat.le_refl _)
theorem t_UT.rf : t_UT gi gi r := ⟨rfl, rfl⟩
theorem t_UT.tr (h : t_UT gi g r) (h2 : t_UT g g1 r) : t_UT gi g1 r := ⟨h2.1.trans h.1, h2.2.trans h.2⟩
theorem t_UT.on (h : t_UT gi g r) (ho : t_on k g gl gr g1 l1 r1) (hk : k < r + 2) : t_UT gi g1 r := h.tr ⟨(ho _ (by omega)).1, (ho _ (by omega)).1⟩
theorem t_UT.st {j : Nat} (h : t_UT gi g r) (e : g1 = x_up2 g r j z) : t_UT gi g1 r := h.tr ⟨by rw [e, x_up2_ne (by omega)], by rw [e, x_up2_ne (by omega)]⟩
theorem t_UT.xc (h : t_UT gi g r) (hx : t_xc [r + 2, r + 2 + 3, r + 2 + 4, r + 2 + 5] g gl gr g1 l1 r1) : t_UT gi g1 r :=
  h.tr ⟨(hx _ (by intro x hx; simp only [List.mem_cons, List.not_mem_nil, or_false] at hx; omega)).1, (hx _ (by intro x hx; simp only [List.mem_cons, List.not_mem_nil, or_false] at hx; omega)).1⟩
theorem s_gd_a {i : Nat} : (E ++ [c]).getD i 0 = if i = E.length then c else E.getD i 0 := by
  rw [List.getD_eq_getElem?_getD, List.getD_eq_getElem?_getD]
  by_cases hi : i = E.length
  · rw [if_pos hi, hi, List.getElem?_append_right (Nat.le_refl _), Nat.sub_self]; rfl
  · rw [if_neg hi]
    by_cases hl : i < E.length
    · rw [List.getElem?_append_left hl]
    · rw [List.getElem?_append_right (by omega), List.getElem?_eq_none (by rw [List.length_singleton]; omega), List.getElem?_eq_none (by omega)]
theorem t_UE.ad2 (h : t_UE sh gi r n q E) (hn : E.length < n) (hq : E.length + 1 ≤ q') (ha : ∀ n : Nat, sh[r + 2 + 3]? = some (.inr (0, n)) → (gi (r + 2) 3).toInt < (n : Int) → t_AS gi g (r + 2) x y z) (hc : s_cdr x y z c) : t_UE sh g r n q' (E ++ [c]) := by
  obtain ⟨a1, a2⟩ := ha n h.1 (by have := h.2.1.1; omega)
  have h3 := h.2.1.1
  refine ⟨h.1, ⟨by rw [a1, List.length_append, List.length_singleton]; omega, by rw [List.length_append, List.length_singleton]; omega⟩, fun i hi => ?_⟩
  rw [List.length_append, List.length_singleton] at hi
  obtain ⟨b1, b2, b3⟩ := a2 i
  rw [b1, b2, b3, s_gd_a, h3]
  by_cases hk : i = E.length
  · rw [if_pos (by omega), if_pos (by omega), if_pos (by omega), if_pos hk]; exact hc
  · rw [if_neg (by omega), if_neg (by omega), if_neg (by omega), if_neg hk]; exact h.2.2 i (by omega)
theorem t_UE.ad (h : t_UE sh gi r n q E) (hn : q < n) (hq : E.length + 1 ≤ q') (ha : ∀ n : Nat, sh[r + 2 + 3]? = some (.inr (0, n)) → (gi (r + 2) 3).toInt < (n : Int) → t_AS gi g (r + 2) x y z) (hc : s_cdr x y z c) : t_UE sh g r n q' (E ++ [c]) :=
  h.ad2 (by have := h.2.1.2; omega) hq ha hc
/-! RULES: their steps one behind the other, their acts, where each ends -/
noncomputable def s_flr (R : List (List Int × Int)) : List Int := (R.map (fun x => x.1)).flatten
noncomputable def s_ra (R : List (List Int × Int)) (i : Nat) : Int := (R.getD i ([], 0)).2
noncomputable def s_re (R : List (List Int × Int)) (i : Nat) : Nat := (s_flr (R.take i)).length
theorem s_fl_a {p : List Int × Int} : s_flr (R ++ [p]) = s_flr R ++ p.1 := by
  unfold s_flr
  rw [List.map_append, List.flatten_append]
  show _ ++ ([p.1] : List (List Int)).flatten = _
  rw [List.flatten_cons, List.flatten_nil, List.append_nil]
theorem s_ra_a {p : List Int × Int} {i : Nat} : s_ra (R ++ [p]) i = if i = R.length then p.2 else s_ra R i := by
  unfold s_ra
  rw [List.getD_eq_getElem?_getD, List.getD_eq_getElem?_getD]
  by_cases hi : i = R.length
  · rw [if_pos hi, hi, List.getElem?_append_right (Nat.le_refl _), Nat.sub_self]; rfl
  · rw [if_neg hi]
    by_cases hl : i < R.length
    · rw [List.getElem?_append_left hl]
    · rw [List.getElem?_append_right (by omega), List.getElem?_eq_none (by rw [List.length_singleton]; omega), List.getElem?_eq_none (by omega)]
theorem s_re_a {p : List Int × Int} {i : Nat} (h : i ≤ R.length) : s_re (R ++ [p]) i = s_re R i := by
  unfold s_re
  rw [List.take_append_of_le_length h]
theorem s_re_e {p : List Int × Int} : s_re (R ++ [p]) (R.length + 1) = (s_flr R ++ p.1).length := by
  unfold s_re
  rw [List.take_of_length_le (by rw [List.length_append, List.length_singleton]; omega), s_fl_a]
noncomputable def t_UL (sh : List (Nat ⊕ (Nat × Nat))) (gi : Nat → Nat → Int32) (r n q : Nat) (R : List (List Int × Int)) : Prop := t_UE sh gi r n q (s_flr R) ∧ ∀ i, i < R.length → (gi (r + 2 + 1) i).toInt = s_ra R i ∧ (gi (r + 2 + 2) i).toInt = ((s_re R (i + 1) : Nat) : Int)
/-- the same, of RULES at u, without the room -/
noncomputable def t_UK (gi : Nat → Nat → Int32) (u : Nat) (R : List (List Int × Int)) : Prop := ((gi u 0).toInt = (R.length : Int) ∧ (gi u 3).toInt = ((s_flr R).length : Int)) ∧ (∀ i, i < (s_flr R).length → s_cdr (gi (u + 3) i) (gi (u + 4) i) (gi (u + 5) i) ((s_flr R).getD i 0)) ∧ ∀ i, i < R.length → (gi (u + 1) i).toInt = s_ra R i ∧ (gi (u + 2) i).toInt = ((s_re R (i + 1) : Nat) : Int)
theorem t_UL.on (h : t_UL sh gi r n q R) (ho : t_on k gi gl gr g1 l1 r1) (hk : k < r + 2) (hq : q ≤ q') : t_UL sh g1 r n q' R := by
  refine ⟨h.1.on ho hk hq, fun i hi => ?_⟩
  rw [(ho (r + 2 + 1) (by omega)).1, (ho (r + 2 + 2) (by omega)).1]; exact h.2 i hi
theorem t_UL.add (h : t_UL sh gi r n q R) (hT : t_UT gi g r) (h0 : (g (r + 2) 0).toInt = (R.length : Int)) (u : t_UE sh g r n q' (s_flr R ++ S)) (ha : t_AR g g1 (r + 2) x) (hx : t_xc [r + 2, r + 2 + 1, r + 2 + 2] g gl gr g1 l1 r1) : t_UL sh g1 r n q' (R ++ [(S, x.toInt)]) := by
  obtain ⟨a3, ak⟩ := ha
  refine ⟨?_, fun i hi => ?_⟩
  · rw [s_fl_a]
    exact u.eq a3 (fun K b1 b2 => (hx K (by intro y hy; simp only [List.mem_cons, List.not_mem_nil, or_false] at hy; omega)).1) (Nat.le_refl _)
  · rw [List.length_append, List.length_singleton] at hi
    obtain ⟨b1, b2⟩ := ak i
    rw [b1, b2, h0, s_ra_a]
    by_cases hk : i = R.length
    · have hk2 : (i : Int) = (R.length : Int) := by omega
      rw [if_pos hk2, if_pos hk2, if_pos hk, hk, s_re_e]; exact ⟨rfl, u.2.1.1⟩
    · have hk2 : ¬ (i : Int) = (R.length : Int) := by omega
      rw [if_neg hk2, if_neg hk2, if_neg hk, s_re_a (by omega), hT.1, hT.2]; exact h.2 i (by omega)
theorem t_UL.uk (h : t_UL sh gi r n q R) (hm : (gi (r + 2) 0).toInt = (R.length : Int)) : t_UK gi (r + 2) R := ⟨⟨hm, h.1.2.1.1⟩, h.1.2.2, h.2⟩
theorem t_UK.eq (h : t_UK gi u R) (e : ∀ K, u ≤ K → K ≤ u + 5 → g1 K = gi K) : t_UK g1 u R := by
  unfold t_UK
  rw [e u (by omega) (by omega), e (u + 1) (by omega) (by omega), e (u + 2) (by omega) (by omega), e (u + 3) (by omega) (by omega), e (u + 4) (by omega) (by omega), e (u + 5) (by omega) (by omega)]
  exact h
theorem t_UK.s0 {j : Nat} (h : t_UK gi u R) (hu : 1 ≤ u) (e : g1 = x_up2 gi 0 j z) : t_UK g1 u R := h.eq (fun K a _ => by rw [e, x_up2_ne (by omega)])
end UEA
/-- the RULES that a text tells, from q on, with c CASES so far -/
noncomputable def s_rle (b : Nat → Int32) (n : Nat) : Nat → Nat → Nat → List (List Int × Int)
  | 0, _, _ => []
  | m + 1, q, c => s_if (s_K b n q = 0) [] ((s_Em b n false (s_E b n q) [] [], s_mi (s_W b n (s_E b n (s_Cnd b n false (s_E b n q) c []).2.1)) - 15) :: s_rle b n m (s_E b n (s_E b n (s_E b n (s_Cnd b n false (s_E b n q) c []).2.1))) (s_Cnd b n false (s_E b n q) c []).2.2)
theorem s_rle_e {b : Nat → Int32} {n q c m : Nat} (hK : s_K b n q = 0) : s_rle b n (m + 1) q c = [] := s_ifT hK
theorem s_rle_k {b : Nat → Int32} {n q q2 c c2 m : Nat} {S : List Int} {x : Int} (hK : s_K b n q ≠ 0) (hX : s_Cnd b n false (s_E b n q) c [] = s_qk q2 c2) (hS : s_Em b n false (s_E b n q) [] [] = S) (ha : s_mi (s_W b n (s_E b n q2)) = 15 + x) : s_rle b n (m + 1) q c = (S, x) :: s_rle b n m (s_E b n (s_E b n (s_E b n q2))) c2 := by
  show s_if _ _ _ = _
  rw [s_ifF hK, hX, hS]
  show (S, s_mi (s_W b n (s_E b n q2)) - 15) :: _ = _
  rw [ha, show (15 + x - 15 : Int) = x by omega]; rfl
