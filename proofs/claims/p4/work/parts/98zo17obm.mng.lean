/-! ===== what a RULE's steps come to, in a minute: F 0 open (1), F 1 SHIPS, F 2 CARTS, F 3 NEXT, F 4 MINUTE, F 5 TURNED ===== -/
noncomputable def s_cs (F : Nat → Int) (c : Int) : Int := if c = 15 then (if F 0 = 1 then 1 else 0) else if c = 16 then (if F 0 = 1 then 0 else 1) else if c / 1000 % 100 = 0 then (if F (c / 100000 - 21).toNat < c % 1000 then 1 else 0) else if c / 1000 % 100 = 1 then (if c % 1000 < F (c / 100000 - 21).toNat then 1 else 0) else (if F (c / 100000 - 21).toNat = c % 1000 then 1 else 0)
noncomputable def s_xn : List Int → List Int
  | [] => []
  | a :: t => (1 - a) :: t
noncomputable def s_xa : List Int → List Int
  | a :: b :: t => (if a = 1 ∧ b = 1 then 1 else 0) :: t
  | t => t
noncomputable def s_xo : List Int → List Int
  | a :: b :: t => (if a = 1 ∨ b = 1 then 1 else 0) :: t
  | t => t
noncomputable def s_x1 (F : Nat → Int) (c : Int) (st : List Int) : List Int := if c = 20 then s_xn st else if c = 19 then s_xa st else if c = 18 then s_xo st else s_cs F c :: st
noncomputable def s_ex (F : Nat → Int) : List Int → List Int → List Int
  | [], st => st
  | c :: S, st => s_ex F S (s_x1 F c st)
noncomputable def s_hr : List Int → Nat → Option Nat
  | [], h => some h
  | c :: S, h => (t_hs c h).bind (s_hr S)
noncomputable def s_tpx : List Int → Int
  | [] => 0
  | a :: _ => a
/-- what the first RULE that holds does: 0 open, 1 shut, 2 rest -/
noncomputable def s_ac (F : Nat → Int) : List (List Int × Int) → Int
  | [] => 2
  | x :: R => if s_tpx (s_ex F x.1 []) = 1 then x.2 else s_ac F R
noncomputable def s_01 (st : List Int) : Prop := ∀ x, x ∈ st → x = 0 ∨ x = 1
/-- in the midst of a RULE -/
noncomputable def s_HI (F : Nat → Int) (S : List Int) (j : Nat) (st : List Int) : Prop := (s_ex F S [] = s_ex F (S.drop j) st ∧ s_hr (S.drop j) st.length = some 1) ∧ s_01 st ∧ st.length ≤ 30 ∧ j ≤ S.length
noncomputable def s_gd (R : List (List Int × Int)) : Prop := ∀ i, i < R.length → s_hr (R.getD i ([], 0)).1 0 = some 1
section MNG
variable {F : Nat → Int} {S st : List Int} {j h h2 i : Nat} {c : Int} {R : List (List Int × Int)}
theorem s_dr (hj : j < S.length) : S.drop j = S.getD j 0 :: S.drop (j + 1) := by
  rw [List.drop_eq_getElem_cons hj, List.getD_eq_getElem?_getD, List.getElem?_eq_getElem hj]; rfl
theorem t_hs_n (h1 : t_hs 20 h = some h2) : 1 ≤ h ∧ h2 = h := by
  unfold t_hs at h1
  rw [if_pos rfl] at h1
  split at h1
  · cases h1; omega
  · cases h1
theorem t_hs_j (hc : c = 18 ∨ c = 19) (h1 : t_hs c h = some h2) : 2 ≤ h ∧ h2 = h - 1 := by
  unfold t_hs at h1
  rw [if_neg (by omega), if_pos hc] at h1
  split at h1
  · cases h1; omega
  · cases h1
theorem t_hs_c (h1 : c ≠ 20) (h3 : c ≠ 19) (h4 : c ≠ 18) (e : t_hs c h = some h2) : h < 30 ∧ h2 = h + 1 := by
  unfold t_hs at e
  rw [if_neg h1, if_neg (by omega)] at e
  split at e
  · cases e; omega
  · cases e
theorem s_HI_0 (hg : s_hr S 0 = some 1) : s_HI F S 0 [] := ⟨⟨rfl, hg⟩, fun x hx => absurd hx List.not_mem_nil, by decide, Nat.zero_le _⟩
theorem s_HI_1 (H : s_HI F S j st) (hj : j < S.length) : ∃ h2, t_hs (S.getD j 0) st.length = some h2 ∧ s_hr (S.drop (j + 1)) h2 = some 1 ∧ s_ex F S [] = s_ex F (S.drop (j + 1)) (s_x1 F (S.getD j 0) st) := by
  obtain ⟨⟨h1, h2⟩, _⟩ := H
  rw [s_dr hj] at h1 h2
  have h2 : (t_hs (S.getD j 0) st.length).bind (s_hr (S.drop (j + 1))) = some 1 := h2
  cases hc : t_hs (S.getD j 0) st.length with
  | none => rw [hc] at h2; cases h2
  | some x => rw [hc] at h2; exact ⟨x, rfl, h2, h1⟩
/-- not -/
theorem s_HI_n (H : s_HI F S j st) (hj : j < S.length) (hc : S.getD j 0 = 20) : ∃ a t, st = a :: t ∧ (a = 0 ∨ a = 1) ∧ s_HI F S (j + 1) ((1 - a) :: t) := by
  obtain ⟨h2, e1, e2, e3⟩ := s_HI_1 H hj
  rw [hc] at e1 e3
  obtain ⟨f1, f2⟩ := t_hs_n e1
  cases st with
  | nil => exact absurd f1 (by decide)
  | cons a t =>
    have ha := H.2.1 a List.mem_cons_self
    refine ⟨a, t, rfl, ha, ⟨e3, ?_⟩, fun x hx => ?_, H.2.2.1, hj⟩
    · rw [f2] at e2; exact e2
    · rcases List.mem_cons.mp hx with h | h
      · omega
      · exact H.2.1 x (List.mem_cons_of_mem _ h)
/-- and, or -/
theorem s_HI_j (H : s_HI F S j st) (hj : j < S.length) (hc : S.getD j 0 = 18 ∨ S.getD j 0 = 19) : ∃ a b t, st = a :: b :: t ∧ (a = 0 ∨ a = 1) ∧ (b = 0 ∨ b = 1) ∧ s_HI F S (j + 1) ((if (S.getD j 0 = 19 ∧ a = 1 ∧ b = 1) ∨ (S.getD j 0 = 18 ∧ (a = 1 ∨ b = 1)) then 1 else 0) :: t) := by
  obtain ⟨h2, e1, e2, e3⟩ := s_HI_1 H hj
  obtain ⟨f1, f2⟩ := t_hs_j hc e1
  cases st with
  | nil => exact absurd f1 (by decide)
  | cons a t =>
    cases t with
    | nil => rw [List.length_singleton] at f1; omega
    | cons b t =>
      have ha := H.2.1 a List.mem_cons_self
      have hb := H.2.1 b (List.mem_cons_of_mem _ List.mem_cons_self)
      have hx : s_x1 F (S.getD j 0) (a :: b :: t) = (if (S.getD j 0 = 19 ∧ a = 1 ∧ b = 1) ∨ (S.getD j 0 = 18 ∧ (a = 1 ∨ b = 1)) then 1 else 0) :: t := by
        unfold s_x1
        rw [if_neg (by omega)]
        rcases hc with hc | hc
        · rw [if_neg (by omega), if_pos hc]
          show (if a = 1 ∨ b = 1 then (1 : Int) else 0) :: t = _
          by_cases hab : a = 1 ∨ b = 1
          · rw [if_pos hab, if_pos (Or.inr ⟨hc, hab⟩)]
          · rw [if_neg hab, if_neg (fun hh => hh.elim (fun x => by omega) (fun x => hab x.2))]
        · rw [if_pos hc]
          show (if a = 1 ∧ b = 1 then (1 : Int) else 0) :: t = _
          by_cases hab : a = 1 ∧ b = 1
          · rw [if_pos hab, if_pos (Or.inl ⟨hc, hab⟩)]
          · rw [if_neg hab, if_neg (fun hh => hh.elim (fun x => hab x.2) (fun x => by omega))]
      rw [hx] at e3
      refine ⟨a, b, t, rfl, ha, hb, ⟨e3, ?_⟩, fun x hx => ?_, by have h4 := H.2.2.1; rw [List.length_cons, List.length_cons] at h4; rw [List.length_cons]; omega, hj⟩
      · rw [f2] at e2; exact e2
      · rcases List.mem_cons.mp hx with h | h
        · rw [h]; split
          · exact Or.inr rfl
          · exact Or.inl rfl
        · exact H.2.1 x (List.mem_cons_of_mem _ (List.mem_cons_of_mem _ h))
theorem s_cs_01 : s_cs F c = 0 ∨ s_cs F c = 1 := by
  unfold s_cs
  split
  · split
    · exact Or.inr rfl
    · exact Or.inl rfl
  · split
    · split
      · exact Or.inl rfl
      · exact Or.inr rfl
    · split
      · split
        · exact Or.inr rfl
        · exact Or.inl rfl
      · split
        · split
          · exact Or.inr rfl
          · exact Or.inl rfl
        · split
          · exact Or.inr rfl
          · exact Or.inl rfl
/-- a CASE -/
theorem s_HI_c (H : s_HI F S j st) (hj : j < S.length) (h1 : S.getD j 0 ≠ 20) (h3 : S.getD j 0 ≠ 19) (h4 : S.getD j 0 ≠ 18) : st.length < 30 ∧ s_HI F S (j + 1) (s_cs F (S.getD j 0) :: st) := by
  obtain ⟨h2, e1, e2, e3⟩ := s_HI_1 H hj
  obtain ⟨f1, f2⟩ := t_hs_c h1 h3 h4 e1
  have hx : s_x1 F (S.getD j 0) st = s_cs F (S.getD j 0) :: st := by unfold s_x1; rw [if_neg h1, if_neg h3, if_neg h4]
  rw [hx] at e3
  refine ⟨f1, ⟨e3, by rw [f2] at e2; exact e2⟩, fun x hx => ?_, by rw [List.length_cons]; omega, hj⟩
  rcases List.mem_cons.mp hx with h | h
  · rw [h]; exact s_cs_01
  · exact H.2.1 x h
theorem s_HI_e (H : s_HI F S S.length st) : ∃ v, st = [v] ∧ (v = 0 ∨ v = 1) ∧ s_tpx (s_ex F S []) = v := by
  obtain ⟨⟨h1, h2⟩, h3, _⟩ := H
  rw [List.drop_length] at h1 h2
  have h4 : st.length = 1 := Option.some.inj h2
  cases st with
  | nil => cases h4
  | cons a t =>
    cases t with
    | nil => exact ⟨a, rfl, h3 a List.mem_cons_self, by rw [h1]; rfl⟩
    | cons b t => rw [List.length_cons, List.length_cons] at h4; omega
/-! RULES, one behind the other -/
theorem s_fl_at : ∀ (R : List (List Int × Int)) (i k : Nat), i < R.length → k < (R.getD i ([], 0)).1.length → (s_flr R).getD (s_re R i + k) 0 = (R.getD i ([], 0)).1.getD k 0 ∧ s_re R i + k < (s_flr R).length
  | [], _, _, h, _ => absurd h (Nat.not_lt_zero _)
  | x :: R, 0, k, _, hk => by
    have hk : k < x.1.length := hk
    show (x.1 ++ s_flr R).getD (s_re (x :: R) 0 + k) 0 = x.1.getD k 0 ∧ s_re (x :: R) 0 + k < (x.1 ++ s_flr R).length
    rw [show s_re (x :: R) 0 = 0 from rfl, Nat.zero_add, List.getD_eq_getElem?_getD, List.getElem?_append_left hk, List.length_append]
    exact ⟨(List.getD_eq_getElem?_getD).symm, by omega⟩
  | x :: R, i + 1, k, h, hk => by
    have ih := s_fl_at R i k (Nat.lt_of_succ_lt_succ h) hk
    show (x.1 ++ s_flr R).getD ((x.1 ++ s_flr (R.take i)).length + k) 0 = (R.getD i ([], 0)).1.getD k 0 ∧ (x.1 ++ s_flr (R.take i)).length + k < (x.1 ++ s_flr R).length
    rw [List.length_append, List.length_append, List.getD_eq_getElem?_getD, List.getElem?_append_right (by omega), show x.1.length + (s_flr (R.take i)).length + k - x.1.length = s_re R i + k by show _ = (s_flr (R.take i)).length + k; omega, ← List.getD_eq_getElem?_getD]
    exact ⟨ih.1, by have := ih.2; show x.1.length + s_re R i + k < _; omega⟩
theorem s_re_s : ∀ (R : List (List Int × Int)) (i : Nat), i < R.length → s_re R (i + 1) = s_re R i + (R.getD i ([], 0)).1.length ∧ s_re R (i + 1) ≤ (s_flr R).length
  | [], _, h => absurd h (Nat.not_lt_zero _)
  | x :: R, 0, _ => by
    show (x.1 ++ ([] : List Int)).length = 0 + x.1.length ∧ (x.1 ++ ([] : List Int)).length ≤ (x.1 ++ s_flr R).length
    rw [List.append_nil, List.length_append]; omega
  | x :: R, i + 1, h => by
    have ih := s_re_s R i (Nat.lt_of_succ_lt_succ h)
    show (x.1 ++ s_flr (R.take (i + 1))).length = (x.1 ++ s_flr (R.take i)).length + (R.getD i ([], 0)).1.length ∧ (x.1 ++ s_flr (R.take (i + 1))).length ≤ (x.1 ++ s_flr R).length
    rw [List.length_append, List.length_append, List.length_append]
    have h1 : (s_flr (R.take (i + 1))).length = (s_flr (R.take i)).length + (R.getD i ([], 0)).1.length := ih.1
    have h2 : (s_flr (R.take (i + 1))).length ≤ (s_flr R).length := ih.2
    omega
theorem s_dr2 (hi : i < R.length) : R.drop i = R.getD i ([], 0) :: R.drop (i + 1) := by
  rw [List.drop_eq_getElem_cons hi, List.getD_eq_getElem?_getD, List.getElem?_eq_getElem hi]; rfl
theorem s_ac_y (hi : i < R.length) (h : s_tpx (s_ex F (R.getD i ([], 0)).1 []) = 1) : s_ac F (R.drop i) = s_ra R i := by
  rw [s_dr2 hi]; exact if_pos h
theorem s_ac_n (hi : i < R.length) (h : s_tpx (s_ex F (R.getD i ([], 0)).1 []) ≠ 1) : s_ac F (R.drop i) = s_ac F (R.drop (i + 1)) := by
  rw [s_dr2 hi]; exact if_neg h
theorem s_ac_e (hi : R.length ≤ i) : s_ac F (R.drop i) = 2 := by rw [List.drop_eq_nil_of_le hi]; rfl
theorem s_gd_p {p : List Int × Int} (h : s_gd R) (hp : s_hr p.1 0 = some 1) : s_gd (R ++ [p]) := by
  intro i hi
  rw [List.length_append, List.length_singleton] at hi
  rw [List.getD_eq_getElem?_getD]
  by_cases hk : i = R.length
  · rw [hk, List.getElem?_append_right (Nat.le_refl _), Nat.sub_self]; exact hp
  · rw [List.getElem?_append_left (by omega), ← List.getD_eq_getElem?_getD]; exact h i (by omega)
theorem s_hr_run {f : Nat → Int32} : ∀ (S : List Int) (k h : Nat), (∀ i, i < S.length → (f (k + i)).toInt = S.getD i 0) → t_run f S.length k h = s_hr S h
  | [], _, _, _ => rfl
  | c :: S, k, h, e => by
    have e0 : (f k).toInt = c := e 0 (Nat.zero_lt_succ _)
    have ih : t_run f S.length (k + 1) = s_hr S := funext fun x => s_hr_run S (k + 1) x (fun i hi => by
      have h1 := e (i + 1) (Nat.succ_lt_succ hi)
      rw [show k + 1 + i = k + (i + 1) by omega, h1]; rfl)
    show (t_hs (f k).toInt h).bind (t_run f S.length (k + 1)) = (t_hs c h).bind (s_hr S)
    rw [e0, ih]
end MNG
