/-! ===== the class's reader of RULES: what stands in its cells ===== -/
noncomputable def t_UQ (sh : List (Nat ⊕ (Nat × Nat))) (gr : Nat → Nat → Value) (k : Nat) : Prop := sh[k]? = some (.inl 7) ∧ 102 ≤ k ∧ (gr k 0 = .ref (k + 1) ∧ t_Tk sh gr (k + 1)) ∧ gr k 1 = .ref (k + 2) ∧ t_Ru sh gr (k + 2)
theorem t_UQ.ext {sh : List (Nat ⊕ (Nat × Nat))} {gr gr' : Nat → Nat → Value} {k : Nat} (h : t_UQ sh gr k) (he : t_eqf sh gr gr') : t_UQ sh gr' k := by
  obtain ⟨h0, h1, h2, h3, h4⟩ := h
  exact ⟨h0, h1, ⟨by rw [he k 7 0 h0 rfl]; exact h2.1, h2.2.ext he⟩, by rw [he k 7 1 h0 rfl]; exact h3, h4.ext he⟩
noncomputable def t_US (b : Nat → Int32) (n q c : Nat) (gi : Nat → Nat → Int32) (gl : Nat → Nat → Int64) (gr : Nat → Nat → Value) (r : Nat) : Prop := t_TC b n q gi gl gr (r + 1) ∧ (n ≤ 300 ∧ (gi r 2).toInt = (c : Int)) ∧ t_FL gi (r + 1) 0 (-1)
section USL
variable {b : Nat → Int32} {n p q q' c r : Nat} {T : List Int} {gi g1 : Nat → Nat → Int32} {gl l1 : Nat → Nat → Int64} {gr r1 : Nat → Nat → Value} {S : List Nat}
theorem t_US.on (h : t_US b n q c gi gl gr r) (ht : t_TC b n q' g1 l1 r1 (r + 1)) (hf : t_nf gi g1 (r + 1)) (ho : t_on (r + 1) gi gl gr g1 l1 r1) : t_US b n q' c g1 l1 r1 r :=
  ⟨ht, ⟨h.2.1.1, by rw [(ho r (by omega)).1]; exact h.2.1.2⟩, by rw [hf.1]; exact h.2.2.1, by rw [hf.2]; exact h.2.2.2⟩
theorem t_US.xc (h : t_US b n q c gi gl gr r) (f : t_xc S gi gl gr g1 l1 r1) (h1 : ∀ x, x ∈ S → r ≠ x ∧ r + 1 ≠ x ∧ 2 ≠ x) : t_US b n q c g1 l1 r1 r := by
  have f0 := f r (fun x hx => (h1 x hx).1)
  have f1 := f (r + 1) (fun x hx => (h1 x hx).2.1)
  have f2 := f 2 (fun x hx => (h1 x hx).2.2)
  exact ⟨h.1.eq f2.1 f1.1 f1.2.1 f1.2.2, ⟨h.2.1.1, by rw [f0.1]; exact h.2.1.2⟩, by rw [f1.1]; exact h.2.2.1, by rw [f1.1]; exact h.2.2.2⟩
theorem t_US.qn (h : t_US b n q c gi gl gr r) : q ≤ n := h.1.1.2.2
/-- a CASE more -/
theorem t_US.c1 (h : t_US b n q c gi gl gr r) {j : Nat} {z : Int32} (hj : j = 2) (hr : 102 ≤ r) (hz : z.toInt = (c : Int) + 1) (e : g1 = x_up2 gi r j z) : t_US b n q (c + 1) g1 gl gr r := by
  subst hj e
  refine ⟨h.1.eq (x_up2_ne (by omega)) (x_up2_ne (by omega)) rfl rfl, ⟨h.2.1.1, ?_⟩, ?_, ?_⟩
  · rw [x_up2_at, hz]; omega
  · rw [x_up2_ne (by omega)]; exact h.2.2.1
  · rw [x_up2_ne (by omega)]; exact h.2.2.2
theorem s_no41 (h : s_jnd b n p) : ¬ s_isS b n p 41 := fun hh => by
  have h1 := hh.1
  rcases h with h | h <;> (rw [s_W_K h] at h1; cases h1)
theorem s_Cnd_j (hp : p ≤ n) (h : s_jnd b n p) : s_Cnd b n true p c T = s_Cnd b n false (s_E b n p) c T := by
  rw [s_Cnd_2 hp, s_ifF (fun hh => s_no41 h hh.1), s_ifT h]
theorem s_Cnd_c (hp : p ≤ n) (h : s_isS b n p 41) : s_Cnd b n true p c (40 :: T) = s_Cnd b n true (s_E b n p) c (s_pop T) := by
  rw [s_Cnd_2 hp, s_ifT ⟨h, List.cons_ne_nil _ _⟩]; rfl
theorem s_Cnd_x (hp : p ≤ n) (h1 : ¬ s_isS b n p 41) (h2 : ¬ s_jnd b n p) : s_Cnd b n true p c (40 :: T) = s_qb b n p 2 := by
  rw [s_Cnd_2 hp, s_ifF (fun hh => h1 hh.1), s_ifF h2, s_ifT (List.cons_ne_nil _ _)]
theorem s_Cnd_e (hp : p ≤ n) (h2 : ¬ s_jnd b n p) : s_Cnd b n true p c [] = s_qk p c := by
  rw [s_Cnd_2 hp, s_ifF (fun hh => hh.2 rfl), s_ifF h2, s_ifF (fun hh => hh rfl)]
theorem s_pop20 : s_pop (20 :: T) = s_pop T := if_pos rfl
theorem s_pop40 : s_pop (40 :: T) = 40 :: T := if_neg (by decide)
theorem s_brk40 (h : s_isS b n p 40) : s_brk b n p = 40 := s_ifT h
theorem s_brk20 (h : s_W b n p = some 20) : s_brk b n p = 20 := s_ifF (fun hh => by have h1 := hh.1; rw [s_W_K h] at h1; cases h1)
/-- one that nests -/
theorem s_Cnd_n (hp : p ≤ n) (h : s_nst b n p) (hT : T.length ≠ 6) : s_Cnd b n false p c T = s_Cnd b n false (s_E b n p) c (s_brk b n p :: T) := by
  rw [s_Cnd_1 hp, s_ifT h, s_ifF hT]
theorem s_Cnd_n6 (hp : p ≤ n) (h : s_nst b n p) (hT : T.length = 6) : s_Cnd b n false p c T = s_qb b n p 7 := by
  rw [s_Cnd_1 hp, s_ifT h, s_ifT hT]
theorem s_Cnd_f (hp : p ≤ n) (h : ¬ s_nst b n p) (hf : ¬ s_fct b n p) : s_Cnd b n false p c T = s_qb b n p 2 := by
  rw [s_Cnd_1 hp, s_ifF h, s_ifF hf]
theorem s_Cnd_m (hp : p ≤ n) (h : ¬ s_nst b n p) (hf : s_fct b n p) (hc : 24 ≤ c) : s_Cnd b n false p c T = s_qb b n p 6 := by
  rw [s_Cnd_1 hp, s_ifF h, s_ifT hf, s_ifT hc]
theorem s_Cnd_d (hp : p ≤ n) (h : ¬ s_nst b n p) (hf : s_fct b n p) (hc : ¬ 24 ≤ c) (hT : T.length = 6) : s_Cnd b n false p c T = s_qb b n p 7 := by
  rw [s_Cnd_1 hp, s_ifF h, s_ifT hf, s_ifF hc, s_ifT hT]
theorem s_Cnd_s (hp : p ≤ n) (h : ¬ s_nst b n p) (hf : s_fct b n p) (hc : ¬ 24 ≤ c) (hT : T.length ≠ 6) : s_Cnd b n false p c T = s_cse b n p fun p2 => s_Cnd b n true p2 (c + 1) (s_pop T) := by
  rw [s_Cnd_1 hp, s_ifF h, s_ifT hf, s_ifF hc, s_ifF hT]
end USL
theorem t_cdO {sh : List (Nat ⊕ (Nat × Nat))} {k : Nat} {s : Nat ⊕ (Nat × Nat)} (h : sh[k]? = some s) (h102 : 102 ≤ k) : t_cd sh k = t_cs s := by
  unfold t_cd
  rw [if_neg (by omega), h]
