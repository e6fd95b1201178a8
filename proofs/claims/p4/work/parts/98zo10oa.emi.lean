/-! ===== the steps that CONDITIONS come to, by the other side's numbers: 15 open, 16 shut, 18 or, 19 and, 20 not, or a CASE that compares ===== -/
noncomputable def s_pp : List Int → List Int → List Int × List Int
  | [], F => ([], F)
  | x :: K, F => if x = 20 then s_pp K (F ++ [20]) else (x :: K, F)
/-- joiners ahead of an and, an or are taken off -/
noncomputable def s_pj (k : Int) : List Int → List Int → List Int × List Int
  | [], F => ([], F)
  | x :: K, F => if x = 19 ∨ (k = 18 ∧ x = 18) then s_pj k K (F ++ [x]) else (x :: K, F)
/-- down to the bracket -/
noncomputable def s_pkb : List Int → List Int → List Int × List Int
  | [], F => ([], F)
  | x :: K, F => if x = 40 then (K, F) else s_pkb K (F ++ [x])
noncomputable def s_ccd (b : Nat → Int32) (n p : Nat) : Int := s_if (s_opn b n p) (s_mi (s_W b n p)) (100000 * s_mi (s_W b n p) + 1000 * (s_if (s_isS b n (s_E b n p) 60) 0 (s_if (s_isS b n (s_E b n p) 62) 1 2)) + s_V b n (s_E b n (s_E b n p)))
noncomputable def s_cx (b : Nat → Int32) (n p : Nat) : Nat := s_if (s_opn b n p) (s_E b n p) (s_E b n (s_E b n (s_E b n p)))
noncomputable def s_cok (b : Nat → Int32) (n p : Nat) : Prop := s_fct b n p ∧ (s_opn b n p ∨ (s_cmp b n (s_E b n p) ∧ s_K b n (s_E b n (s_E b n p)) = 3))
noncomputable def s_jk (b : Nat → Int32) (n p : Nat) : Int := s_if (s_W b n p = some 19) 19 18
noncomputable def s_em (b : Nat → Int32) (n : Nat) : Nat → Bool → Nat → List Int → List Int → List Int
  | 0, _, _, K, F => F ++ K
  | m + 1, false, p, K, F => s_if (s_nst b n p) (s_em b n m false (s_E b n p) (s_brk b n p :: K) F) (s_if (s_cok b n p) (s_em b n m true (s_cx b n p) (s_pp K (F ++ [s_ccd b n p])).1 (s_pp K (F ++ [s_ccd b n p])).2) F)
  | m + 1, true, p, K, F => s_if (s_isS b n p 41 ∧ 40 ∈ K) (s_em b n m true (s_E b n p) (s_pp (s_pkb K F).1 (s_pkb K F).2).1 (s_pp (s_pkb K F).1 (s_pkb K F).2).2) (s_if (s_jnd b n p) (s_em b n m false (s_E b n p) (s_jk b n p :: (s_pj (s_jk b n p) K F).1) (s_pj (s_jk b n p) K F).2) (F ++ K))
noncomputable def s_Em (b : Nat → Int32) (n : Nat) (a : Bool) (p : Nat) (K F : List Int) : List Int := s_em b n (n + 1 - p) a p K F
/-- behind a ONE: what is taken off told as a couple -/
noncomputable def s_Tr (b : Nat → Int32) (n p : Nat) (r : List Int × List Int) : List Int := s_Em b n true p r.1 r.2
section EMI
variable {b : Nat → Int32} {n p q q2 q3 : Nat} {K F J S S2 F2 : List Int} {k x : Int}
theorem s_cok_gt (h : s_cok b n p) : p < s_cx b n p ∧ s_cx b n p ≤ n := by
  unfold s_cx
  have h1 := s_fct_gt h.1
  by_cases ho : s_opn b n p
  · rw [s_ifT ho]; exact h1
  · rw [s_ifF ho]
    obtain ⟨h2, h3⟩ := h.2.resolve_left ho
    have h4 := s_cmp_gt h2
    have h5 := s_E_gt (b := b) (n := n) (p := s_E b n (s_E b n p)) (by rw [h3]; decide)
    omega
theorem s_em_m : ∀ (m m' : Nat) (a : Bool) (p : Nat) (K F : List Int), p ≤ n → n + 1 - p ≤ m → n + 1 - p ≤ m' → s_em b n m a p K F = s_em b n m' a p K F
  | 0, _, _, p, _, _, hp, h1, _ => by omega
  | _ + 1, 0, _, p, _, _, hp, _, h2 => by omega
  | m + 1, m' + 1, false, p, K, F, hp, h1, h2 => by
    unfold s_em
    refine s_if_c (fun h => ?_) (fun _ => s_if_c (fun h => ?_) (fun _ => rfl))
    · have := s_nst_gt h; exact s_em_m m m' _ _ _ _ this.2 (by omega) (by omega)
    · have := s_cok_gt h; exact s_em_m m m' _ _ _ _ this.2 (by omega) (by omega)
  | m + 1, m' + 1, true, p, K, F, hp, h1, h2 => by
    unfold s_em
    refine s_if_c (fun h => ?_) (fun _ => s_if_c (fun h => ?_) (fun _ => rfl))
    · have := s_isS_gt h.1; exact s_em_m m m' _ _ _ _ this.2 (by omega) (by omega)
    · have := s_jnd_gt h; exact s_em_m m m' _ _ _ _ this.2 (by omega) (by omega)
theorem s_em_f {m : Nat} : s_em b n (m + 1) false p K F = s_if (s_nst b n p) (s_em b n m false (s_E b n p) (s_brk b n p :: K) F) (s_if (s_cok b n p) (s_em b n m true (s_cx b n p) (s_pp K (F ++ [s_ccd b n p])).1 (s_pp K (F ++ [s_ccd b n p])).2) F) := rfl
theorem s_em_t {m : Nat} : s_em b n (m + 1) true p K F = s_if (s_isS b n p 41 ∧ 40 ∈ K) (s_em b n m true (s_E b n p) (s_pp (s_pkb K F).1 (s_pkb K F).2).1 (s_pp (s_pkb K F).1 (s_pkb K F).2).2) (s_if (s_jnd b n p) (s_em b n m false (s_E b n p) (s_jk b n p :: (s_pj (s_jk b n p) K F).1) (s_pj (s_jk b n p) K F).2) (F ++ K)) := rfl
/-- one that nests -/
theorem s_Em_n (hp : p ≤ n) (h : s_nst b n p) : s_Em b n false p K F = s_Em b n false (s_E b n p) (s_brk b n p :: K) F := by
  have h1 := s_nst_gt h
  unfold s_Em
  rw [show n + 1 - p = (n - p) + 1 by omega, s_em_f, s_ifT h]
  exact s_em_m _ _ _ _ _ _ h1.2 (by omega) (Nat.le_refl _)
/-- a CASE -/
theorem s_Em_c (hp : p ≤ n) (h : ¬ s_nst b n p) (hc : s_cok b n p) : s_Em b n false p K F = s_Tr b n (s_cx b n p) (s_pp K (F ++ [s_ccd b n p])) := by
  have h1 := s_cok_gt hc
  unfold s_Tr s_Em
  rw [show n + 1 - p = (n - p) + 1 by omega, s_em_f, s_ifF h, s_ifT hc]
  exact s_em_m _ _ _ _ _ _ h1.2 (by omega) (Nat.le_refl _)
/-- a bracket that closes -/
theorem s_Em_b (hp : p ≤ n) (h : s_isS b n p 41) (hK : 40 ∈ K) : s_Em b n true p K F = s_Tr b n (s_E b n p) (s_pp (s_pkb K F).1 (s_pkb K F).2) := by
  have h1 := s_isS_gt h
  unfold s_Tr s_Em
  rw [show n + 1 - p = (n - p) + 1 by omega, s_em_t, s_ifT ⟨h, hK⟩]
  exact s_em_m _ _ _ _ _ _ h1.2 (by omega) (Nat.le_refl _)
/-- an and, an or -/
theorem s_Em_j (hp : p ≤ n) (h : s_jnd b n p) : s_Em b n true p K F = s_Em b n false (s_E b n p) (s_jk b n p :: (s_pj (s_jk b n p) K F).1) (s_pj (s_jk b n p) K F).2 := by
  have h1 := s_jnd_gt h
  unfold s_Em
  rw [show n + 1 - p = (n - p) + 1 by omega, s_em_t, s_ifF (fun hh => s_no41 h hh.1), s_ifT h]
  exact s_em_m _ _ _ _ _ _ h1.2 (by omega) (Nat.le_refl _)
theorem s_Em_e (hp : p ≤ n) (h1 : ¬ (s_isS b n p 41 ∧ 40 ∈ K)) (h2 : ¬ s_jnd b n p) : s_Em b n true p K F = F ++ K := by
  unfold s_Em
  rw [show n + 1 - p = (n - p) + 1 by omega, s_em_t, s_ifF h1, s_ifF h2]
theorem s_pp20 : s_pp (20 :: K) F = s_pp K (F ++ [20]) := if_pos rfl
theorem s_pp_h (h : ∀ x L, K = x :: L → x ≠ 20) : s_pp K F = (K, F) := by
  cases K with
  | nil => rfl
  | cons y L => exact if_neg (h y L rfl)
/-- joiners alone are taken off down to what is none -/
theorem s_pj_all (hk : k = 18 ∨ ∀ x, x ∈ J → x = 19) (hJ : ∀ x, x ∈ J → x = 18 ∨ x = 19) (h : ∀ x L, K = x :: L → ¬ (x = 19 ∨ (k = 18 ∧ x = 18))) : s_pj k (J ++ K) F = (K, F ++ J) := by
  induction J generalizing F with
  | nil =>
    rw [List.nil_append, List.append_nil]
    cases K with
    | nil => rfl
    | cons y L => exact if_neg (h y L rfl)
  | cons x J ih =>
    have hx : x = 19 ∨ (k = 18 ∧ x = 18) := by
      rcases hk with hk | hk
      · rcases hJ x List.mem_cons_self with h1 | h1
        · exact Or.inr ⟨hk, h1⟩
        · exact Or.inl h1
      · exact Or.inl (hk x List.mem_cons_self)
    have e : s_pj k ((x :: J) ++ K) F = s_pj k (J ++ K) (F ++ [x]) := if_pos hx
    rw [e, ih (hk.imp id (fun h2 y hy => h2 y (List.mem_cons_of_mem _ hy))) (fun y hy => hJ y (List.mem_cons_of_mem _ hy)), List.append_assoc]; rfl
theorem s_pk_all (hJ : ∀ x, x ∈ J → x ≠ 40) : s_pkb (J ++ 40 :: K) F = (K, F ++ J) := by
  induction J generalizing F with
  | nil => rw [List.nil_append, List.append_nil]; exact if_pos rfl
  | cons x J ih =>
    have e : s_pkb ((x :: J) ++ 40 :: K) F = s_pkb (J ++ 40 :: K) (F ++ [x]) := if_neg (hJ x List.mem_cons_self)
    rw [e, ih (fun y hy => hJ y (List.mem_cons_of_mem _ hy)), List.append_assoc]; rfl
/-- what a ONE, a BOTH, an EITHER from q to q2 do, if they come to the steps S -/
noncomputable def s_e1 (b : Nat → Int32) (n q q2 : Nat) (S : List Int) : Prop := ∀ K F, s_Em b n false q K F = s_Tr b n q2 (s_pp K (F ++ S))
noncomputable def s_nt (K : List Int) : Prop := ∀ x L, K = x :: L → x = 18 ∨ x = 40
noncomputable def s_n0 (K : List Int) : Prop := ∀ x L, K = x :: L → x = 40
noncomputable def s_e2 (b : Nat → Int32) (n q q2 : Nat) (S : List Int) : Prop := ∀ K F, s_nt K → ∃ J F2, s_Em b n false q K F = s_Em b n true q2 (J ++ K) F2 ∧ F2 ++ J = F ++ S ∧ ∀ x, x ∈ J → x = 19
noncomputable def s_e3 (b : Nat → Int32) (n q q2 : Nat) (S : List Int) : Prop := ∀ K F, s_n0 K → ∃ J F2, s_Em b n false q K F = s_Em b n true q2 (J ++ K) F2 ∧ F2 ++ J = F ++ S ∧ ∀ x, x ∈ J → x = 18 ∨ x = 19
theorem s_nt.pz (h : s_nt K) : s_pp K F = (K, F) := s_pp_h (fun x L e => by rcases h x L e with h1 | h1 <;> omega)
theorem s_n0.t (h : s_n0 K) : s_nt K := fun x L e => Or.inr (h x L e)
theorem s_nt_19 : ∀ x L, (19 : Int) :: K = x :: L → x ≠ 20 := fun x L e => by have := (List.cons.inj e).1; omega
theorem s_e1_c (hp : q ≤ n) (h : ¬ s_nst b n q) (hc : s_cok b n q) : s_e1 b n q (s_cx b n q) [s_ccd b n q] := fun K F => s_Em_c hp h hc
theorem s_e1_n (hp : q ≤ n) (h : s_W b n q = some 20) (h1 : s_e1 b n (s_E b n q) q2 S) : s_e1 b n q q2 (S ++ [20]) := by
  intro K F
  rw [s_Em_n hp (Or.inl h), s_brk20 h, h1, s_pp20, List.append_assoc]
theorem s_e1_b (hp : q ≤ n) (hp2 : q2 ≤ n) (h : s_isS b n q 40) (h1 : s_e3 b n (s_E b n q) q2 S) (h2 : s_isS b n q2 41) : s_e1 b n q (s_E b n q2) S := by
  intro K F
  obtain ⟨J, F2, e1, e2, hJ⟩ := h1 (40 :: K) F (fun x L e => (List.cons.inj e).1.symm)
  rw [s_Em_n hp (Or.inr h), s_brk40 h, e1, s_Em_b hp2 h2 (List.mem_append_right _ List.mem_cons_self), s_pk_all (fun x hx => by rcases hJ x hx with h3 | h3 <;> omega), e2]
theorem s_e2_1 (h1 : s_e1 b n q q2 S) : s_e2 b n q q2 S := by
  intro K F hK
  refine ⟨[], F ++ S, ?_, List.append_nil _, fun x hx => absurd hx List.not_mem_nil⟩
  rw [h1, hK.pz]; rfl
theorem s_jk19 (h : s_W b n q = some 19) : s_jk b n q = 19 := s_ifT h
theorem s_jk18 (h : s_W b n q = some 18) : s_jk b n q = 18 := s_ifF (by rw [h]; decide)
theorem s_e2_s (hp : q2 ≤ n) (h1 : s_e2 b n q q2 S) (h : s_W b n q2 = some 19) (h2 : s_e1 b n (s_E b n q2) q3 S2) : s_e2 b n q q3 (S ++ S2 ++ [19]) := by
  intro K F hK
  obtain ⟨J, F2, e1, e2, hJ⟩ := h1 K F hK
  refine ⟨[19], F ++ S ++ S2, ?_, by rw [List.append_assoc, List.append_assoc, List.append_assoc], fun x hx => List.mem_singleton.mp hx⟩
  rw [e1, s_Em_j hp (Or.inr h), s_jk19 h, s_pj_all (Or.inr hJ) (fun x hx => Or.inr (hJ x hx)) (fun x L e => by rcases hK x L e with h3 | h3 <;> omega), h2, e2, s_pp_h s_nt_19]; rfl
theorem s_e3_2 (h1 : s_e2 b n q q2 S) : s_e3 b n q q2 S := by
  intro K F hK
  obtain ⟨J, F2, e1, e2, hJ⟩ := h1 K F hK.t
  exact ⟨J, F2, e1, e2, fun x hx => Or.inr (hJ x hx)⟩
theorem s_e3_s (hp : q2 ≤ n) (h1 : s_e3 b n q q2 S) (h : s_W b n q2 = some 18) (h2 : s_e2 b n (s_E b n q2) q3 S2) : s_e3 b n q q3 (S ++ S2 ++ [18]) := by
  intro K F hK
  obtain ⟨J, F2, e1, e2, hJ⟩ := h1 K F hK
  obtain ⟨J', F3, e3, e4, hJ'⟩ := h2 (18 :: K) (F ++ S) (fun x L e => Or.inl (List.cons.inj e).1.symm)
  refine ⟨J' ++ [18], F3, ?_, ?_, fun x hx => ?_⟩
  · rw [e1, s_Em_j hp (Or.inl h), s_jk18 h, s_pj_all (Or.inl rfl) hJ (fun x L e => by have := hK x L e; omega), e2, e3, List.append_assoc]; rfl
  · rw [← List.append_assoc, e4, List.append_assoc, List.append_assoc, List.append_assoc]
  · rcases List.mem_append.mp hx with h3 | h3
    · exact Or.inr (hJ' x h3)
    · exact Or.inl (List.mem_singleton.mp h3)
/-- the whole of a RULE's CONDITIONS -/
theorem s_e3_e (hp : q2 ≤ n) (h1 : s_e3 b n q q2 S) (h2 : ¬ s_jnd b n q2) : s_Em b n false q [] [] = S := by
  obtain ⟨J, F2, e1, e2, hJ⟩ := h1 [] [] (fun x L e => by cases e)
  rw [e1, List.append_nil, s_Em_e hp (fun hh => by rcases hJ 40 hh.2 with h3 | h3 <;> omega) h2, e2, List.nil_append]
/-! what was told ahead stays ahead -/
theorem s_pp_pre : ∀ (K P F : List Int), s_pp K (P ++ F) = ((s_pp K F).1, P ++ (s_pp K F).2)
  | [], _, _ => rfl
  | x :: K, P, F => by
    by_cases hx : x = 20
    · have e1 : s_pp (x :: K) (P ++ F) = s_pp K (P ++ F ++ [20]) := if_pos hx
      have e2 : s_pp (x :: K) F = s_pp K (F ++ [20]) := if_pos hx
      rw [e1, e2, List.append_assoc]; exact s_pp_pre K P (F ++ [20])
    · have e1 : s_pp (x :: K) (P ++ F) = (x :: K, P ++ F) := if_neg hx
      have e2 : s_pp (x :: K) F = (x :: K, F) := if_neg hx
      rw [e1, e2]
theorem s_pj_pre : ∀ (K P F : List Int), s_pj k K (P ++ F) = ((s_pj k K F).1, P ++ (s_pj k K F).2)
  | [], _, _ => rfl
  | x :: K, P, F => by
    by_cases hx : x = 19 ∨ (k = 18 ∧ x = 18)
    · have e1 : s_pj k (x :: K) (P ++ F) = s_pj k K (P ++ F ++ [x]) := if_pos hx
      have e2 : s_pj k (x :: K) F = s_pj k K (F ++ [x]) := if_pos hx
      rw [e1, e2, List.append_assoc]; exact s_pj_pre K P (F ++ [x])
    · have e1 : s_pj k (x :: K) (P ++ F) = (x :: K, P ++ F) := if_neg hx
      have e2 : s_pj k (x :: K) F = (x :: K, F) := if_neg hx
      rw [e1, e2]
theorem s_pk_pre : ∀ (K P F : List Int), s_pkb K (P ++ F) = ((s_pkb K F).1, P ++ (s_pkb K F).2)
  | [], _, _ => rfl
  | x :: K, P, F => by
    by_cases hx : x = 40
    · have e1 : s_pkb (x :: K) (P ++ F) = (K, P ++ F) := if_pos hx
      have e2 : s_pkb (x :: K) F = (K, F) := if_pos hx
      rw [e1, e2]
    · have e1 : s_pkb (x :: K) (P ++ F) = s_pkb K (P ++ F ++ [x]) := if_neg hx
      have e2 : s_pkb (x :: K) F = s_pkb K (F ++ [x]) := if_neg hx
      rw [e1, e2, List.append_assoc]; exact s_pk_pre K P (F ++ [x])
theorem s_em_pre : ∀ (m : Nat) (a : Bool) (p : Nat) (K P F : List Int), s_em b n m a p K (P ++ F) = P ++ s_em b n m a p K F
  | 0, _, _, K, P, F => List.append_assoc P F K
  | m + 1, false, p, K, P, F => by
    rw [s_em_f, s_em_f]
    by_cases h : s_nst b n p
    · rw [s_ifT h, s_ifT h]; exact s_em_pre m _ _ _ _ _
    · rw [s_ifF h, s_ifF h]
      by_cases hc : s_cok b n p
      · rw [s_ifT hc, s_ifT hc, List.append_assoc, s_pp_pre]; exact s_em_pre m _ _ _ _ _
      · rw [s_ifF hc, s_ifF hc]
  | m + 1, true, p, K, P, F => by
    rw [s_em_t, s_em_t]
    by_cases h : s_isS b n p 41 ∧ 40 ∈ K
    · rw [s_ifT h, s_ifT h, s_pk_pre, s_pp_pre]; exact s_em_pre m _ _ _ _ _
    · rw [s_ifF h, s_ifF h]
      by_cases hc : s_jnd b n p
      · rw [s_ifT hc, s_ifT hc, s_pj_pre]; exact s_em_pre m _ _ _ _ _
      · rw [s_ifF hc, s_ifF hc]; exact List.append_assoc P F K
theorem s_Em_pre {a : Bool} {P : List Int} : s_Em b n a p K (P ++ F) = P ++ s_Em b n a p K F := s_em_pre _ _ _ _ _ _
end EMI
