/-! ===== the RULES read: what it comes to ===== -/
/-- not, or a bracket that opens -/
noncomputable def s_nst (b : Nat → Int32) (n p : Nat) : Prop := s_W b n p = some 20 ∨ s_isS b n p 40
noncomputable def s_opn (b : Nat → Int32) (n p : Nat) : Prop := s_W b n p = some 15 ∨ s_W b n p = some 16
noncomputable def s_fct (b : Nat → Int32) (n p : Nat) : Prop := s_opn b n p ∨ s_W b n p = some 22 ∨ s_W b n p = some 23 ∨ s_W b n p = some 24 ∨ s_W b n p = some 25 ∨ s_W b n p = some 26
noncomputable def s_cmp (b : Nat → Int32) (n p : Nat) : Prop := s_isS b n p 60 ∨ s_isS b n p 62 ∨ s_isS b n p 61
noncomputable def s_jnd (b : Nat → Int32) (n p : Nat) : Prop := s_W b n p = some 18 ∨ s_W b n p = some 19
/-- a FAULT (0 none), its place; where it goes on, how many CASES -/
noncomputable abbrev s_Q : Type := (Int × Int) × (Nat × Nat)
noncomputable def s_qb (b : Nat → Int32) (n p : Nat) (x : Int) : s_Q := ((s_fk b n p x, ((s_F b n p : Nat) : Int)), (p, 0))
noncomputable def s_qk (p c : Nat) : s_Q := ((0, 0), (p, c))
noncomputable def s_pop : List Int → List Int
  | [] => []
  | x :: T => if x = 20 then s_pop T else x :: T
noncomputable def s_brk (b : Nat → Int32) (n p : Nat) : Int := s_if (s_isS b n p 40) 40 20
/-- one CASE that compares -/
noncomputable def s_cse (b : Nat → Int32) (n p : Nat) (k : Nat → s_Q) : s_Q := s_if (s_opn b n p) (k (s_E b n p)) (s_if (s_cmp b n (s_E b n p)) (s_if (s_K b n (s_E b n (s_E b n p)) = 3) (s_if (s_isV b n (s_E b n (s_E b n p)) 0 300) (k (s_E b n (s_E b n (s_E b n p)))) (s_qb b n (s_E b n (s_E b n p)) 4)) (s_qb b n (s_E b n (s_E b n p)) 2)) (s_qb b n (s_E b n p) 2))
/-- false: one is asked for; true: behind one -/
noncomputable def s_cnd (b : Nat → Int32) (n : Nat) : Nat → Bool → Nat → Nat → List Int → s_Q
  | 0, _, p, c, _ => s_qk p c
  | m + 1, false, p, c, T => s_if (s_nst b n p) (s_if (T.length = 6) (s_qb b n p 7) (s_cnd b n m false (s_E b n p) c (s_brk b n p :: T))) (s_if (s_fct b n p) (s_if (24 ≤ c) (s_qb b n p 6) (s_if (T.length = 6) (s_qb b n p 7) (s_cse b n p fun p2 => s_cnd b n m true p2 (c + 1) (s_pop T)))) (s_qb b n p 2))
  | m + 1, true, p, c, T => s_if (s_isS b n p 41 ∧ T ≠ []) (s_cnd b n m true (s_E b n p) c (s_pop T.tail)) (s_if (s_jnd b n p) (s_cnd b n m false (s_E b n p) c T) (s_if (T ≠ []) (s_qb b n p 2) (s_qk p c)))
noncomputable def s_Cnd (b : Nat → Int32) (n : Nat) (a : Bool) (p c : Nat) (T : List Int) : s_Q := s_cnd b n (n + 1 - p) a p c T
section RUL
variable {b : Nat → Int32} {n p : Nat}
theorem s_E_gt (hk : s_K b n p ≠ 0) : p < s_E b n p ∧ s_E b n p ≤ n := by
  have hF : ¬ n ≤ s_F b n p := fun h => hk (by unfold s_K; rw [if_pos h])
  have h1 : p ≤ s_F b n p := s_rn_b.1
  have h2 := s_E_b (b := b) (n := n) (p := p) (by omega)
  refine ⟨?_, h2.2⟩
  unfold s_E
  rw [if_neg hF]
  split
  · rename_i h; have := s_rn_lt (n := n) (by omega) h; omega
  split
  · rename_i h; have := s_rn_lt (n := n) (by omega) h; omega
  · omega
theorem s_W_K {i : Nat} (h : s_W b n p = some i) : s_K b n p = 2 := by
  unfold s_W at h
  split at h
  · rename_i hh; exact hh.1
  · cases h
theorem s_W_gt {i : Nat} (h : s_W b n p = some i) : p < s_E b n p ∧ s_E b n p ≤ n := s_E_gt (by rw [s_W_K h]; decide)
theorem s_isS_gt {c : Int} (h : s_isS b n p c) : p < s_E b n p ∧ s_E b n p ≤ n := s_E_gt (by rw [h.1]; decide)
theorem s_nst_gt (h : s_nst b n p) : p < s_E b n p ∧ s_E b n p ≤ n := h.elim s_W_gt s_isS_gt
theorem s_opn_gt (h : s_opn b n p) : p < s_E b n p ∧ s_E b n p ≤ n := h.elim s_W_gt s_W_gt
theorem s_fct_gt (h : s_fct b n p) : p < s_E b n p ∧ s_E b n p ≤ n := by
  rcases h with h | h | h | h | h | h
  · exact s_opn_gt h
  · exact s_W_gt h
  · exact s_W_gt h
  · exact s_W_gt h
  · exact s_W_gt h
  · exact s_W_gt h
theorem s_cmp_gt (h : s_cmp b n p) : p < s_E b n p ∧ s_E b n p ≤ n := by
  rcases h with h | h | h
  · exact s_isS_gt h
  · exact s_isS_gt h
  · exact s_isS_gt h
theorem s_jnd_gt (h : s_jnd b n p) : p < s_E b n p ∧ s_E b n p ≤ n := h.elim s_W_gt s_W_gt
theorem s_if_c {α : Type} {c : Prop} {x y x' y' : α} (h1 : c → x = x') (h2 : ¬ c → y = y') : s_if c x y = s_if c x' y' := by
  by_cases h : c
  · rw [s_ifT h, s_ifT h, h1 h]
  · rw [s_ifF h, s_ifF h, h2 h]
theorem s_cse_c {k k' : Nat → s_Q} (hf : s_fct b n p) (h : ∀ q, p < q → q ≤ n → k q = k' q) : s_cse b n p k = s_cse b n p k' := by
  have h1 := s_fct_gt hf
  unfold s_cse
  refine s_if_c (fun _ => h _ h1.1 h1.2) (fun _ => s_if_c (fun hc => s_if_c (fun hk => s_if_c (fun _ => ?_) (fun _ => rfl)) (fun _ => rfl)) (fun _ => rfl))
  have h2 := s_cmp_gt hc
  have h3 := s_E_gt (b := b) (n := n) (p := s_E b n (s_E b n p)) (by rw [hk]; decide)
  exact h _ (by omega) h3.2
/-- enough is enough -/
theorem s_cnd_m : ∀ (m m' : Nat) (a : Bool) (p c : Nat) (T : List Int), p ≤ n → n + 1 - p ≤ m → n + 1 - p ≤ m' → s_cnd b n m a p c T = s_cnd b n m' a p c T
  | 0, _, _, p, _, _, hp, h1, _ => by omega
  | _ + 1, 0, _, p, _, _, hp, _, h2 => by omega
  | m + 1, m' + 1, false, p, c, T, hp, h1, h2 => by
    unfold s_cnd
    refine s_if_c (fun h => s_if_c (fun _ => rfl) (fun _ => ?_)) (fun _ => s_if_c (fun hf => s_if_c (fun _ => rfl) (fun _ => s_if_c (fun _ => rfl) (fun _ => s_cse_c hf fun q q1 q2 => ?_))) (fun _ => rfl))
    · have := s_nst_gt h; exact s_cnd_m m m' _ _ _ _ this.2 (by omega) (by omega)
    · exact s_cnd_m m m' _ _ _ _ q2 (by omega) (by omega)
  | m + 1, m' + 1, true, p, c, T, hp, h1, h2 => by
    unfold s_cnd
    refine s_if_c (fun h => ?_) (fun _ => s_if_c (fun h => ?_) (fun _ => rfl))
    · have := s_isS_gt h.1; exact s_cnd_m m m' _ _ _ _ this.2 (by omega) (by omega)
    · have := s_jnd_gt h; exact s_cnd_m m m' _ _ _ _ this.2 (by omega) (by omega)
theorem s_cnd_f {m c : Nat} {T : List Int} : s_cnd b n (m + 1) false p c T = s_if (s_nst b n p) (s_if (T.length = 6) (s_qb b n p 7) (s_cnd b n m false (s_E b n p) c (s_brk b n p :: T))) (s_if (s_fct b n p) (s_if (24 ≤ c) (s_qb b n p 6) (s_if (T.length = 6) (s_qb b n p 7) (s_cse b n p fun p2 => s_cnd b n m true p2 (c + 1) (s_pop T)))) (s_qb b n p 2)) := rfl
theorem s_cnd_t {m c : Nat} {T : List Int} : s_cnd b n (m + 1) true p c T = s_if (s_isS b n p 41 ∧ T ≠ []) (s_cnd b n m true (s_E b n p) c (s_pop T.tail)) (s_if (s_jnd b n p) (s_cnd b n m false (s_E b n p) c T) (s_if (T ≠ []) (s_qb b n p 2) (s_qk p c))) := rfl
theorem s_Cnd_1 {c : Nat} {T : List Int} (hp : p ≤ n) : s_Cnd b n false p c T = s_if (s_nst b n p) (s_if (T.length = 6) (s_qb b n p 7) (s_Cnd b n false (s_E b n p) c (s_brk b n p :: T))) (s_if (s_fct b n p) (s_if (24 ≤ c) (s_qb b n p 6) (s_if (T.length = 6) (s_qb b n p 7) (s_cse b n p fun p2 => s_Cnd b n true p2 (c + 1) (s_pop T)))) (s_qb b n p 2)) := by
  unfold s_Cnd
  rw [show n + 1 - p = (n - p) + 1 by omega]
  refine s_cnd_f.trans (s_if_c (fun h => s_if_c (fun _ => rfl) (fun _ => ?_)) (fun _ => s_if_c (fun hf => s_if_c (fun _ => rfl) (fun _ => s_if_c (fun _ => rfl) (fun _ => s_cse_c hf fun q q1 q2 => ?_))) (fun _ => rfl)))
  · have := s_nst_gt h; exact s_cnd_m (n - p) _ _ _ _ _ this.2 (by omega) (Nat.le_refl _)
  · exact s_cnd_m (n - p) _ _ _ _ _ q2 (by omega) (Nat.le_refl _)
theorem s_Cnd_2 {c : Nat} {T : List Int} (hp : p ≤ n) : s_Cnd b n true p c T = s_if (s_isS b n p 41 ∧ T ≠ []) (s_Cnd b n true (s_E b n p) c (s_pop T.tail)) (s_if (s_jnd b n p) (s_Cnd b n false (s_E b n p) c T) (s_if (T ≠ []) (s_qb b n p 2) (s_qk p c))) := by
  unfold s_Cnd
  rw [show n + 1 - p = (n - p) + 1 by omega]
  refine s_cnd_t.trans (s_if_c (fun h => ?_) (fun _ => s_if_c (fun h => ?_) (fun _ => rfl)))
  · have := s_isS_gt h.1; exact s_cnd_m (n - p) _ _ _ _ _ this.2 (by omega) (Nat.le_refl _)
  · have := s_jnd_gt h; exact s_cnd_m (n - p) _ _ _ _ _ this.2 (by omega) (Nat.le_refl _)
end RUL
/-- behind the CONDITIONS: do, what, and a sign -/
noncomputable def s_act (b : Nat → Int32) (n p : Nat) (k : Nat → (Int × Int) × Nat) : (Int × Int) × Nat := s_if (s_W b n p = some 14) (s_if (s_W b n (s_E b n p) = some 15 ∨ s_W b n (s_E b n p) = some 16 ∨ s_W b n (s_E b n p) = some 17) (s_if (s_isS b n (s_E b n (s_E b n p)) 59) (k (s_E b n (s_E b n (s_E b n p)))) ((s_qb b n (s_E b n (s_E b n p)) 2).1, 0)) ((s_qb b n (s_E b n p) 2).1, 0)) ((s_qb b n p 2).1, 0)
/-- the RULES from p on, with c CASES and r RULES so far: a FAULT, its place, or how many -/
noncomputable def s_rls (b : Nat → Int32) (n : Nat) : Nat → Nat → Nat → Nat → (Int × Int) × Nat
  | 0, _, _, r => ((0, 0), r)
  | m + 1, p, c, r => s_if (s_K b n p = 0) ((0, 0), r) (s_if (s_W b n p = some 13) (s_if (r = 12) ((s_qb b n p 6).1, 0) (s_if ((s_Cnd b n false (s_E b n p) c []).1.1 = 0) (s_act b n (s_Cnd b n false (s_E b n p) c []).2.1 fun p2 => s_rls b n m p2 (s_Cnd b n false (s_E b n p) c []).2.2 (r + 1)) ((s_Cnd b n false (s_E b n p) c []).1, 0))) ((s_qb b n p 2).1, 0))
section RLS
variable {b : Nat → Int32} {n q p q2 c c2 r m : Nat} {x : Int} {k : Nat → (Int × Int) × Nat}
theorem s_rls_e (hK : s_K b n q = 0) : s_rls b n (m + 1) q c r = ((0, 0), r) := by
  unfold s_rls; rw [s_ifT hK]
theorem s_rls_i (hK : s_K b n q ≠ 0) (hW : s_W b n q ≠ some 13) : s_rls b n (m + 1) q c r = ((s_qb b n q 2).1, 0) := by
  unfold s_rls; rw [s_ifF hK, s_ifF hW]
theorem s_rls_m (hK : s_K b n q ≠ 0) (hW : s_W b n q = some 13) (hr : r = 12) : s_rls b n (m + 1) q c r = ((s_qb b n q 6).1, 0) := by
  unfold s_rls; rw [s_ifF hK, s_ifT hW, s_ifT hr]
theorem s_rls_c (hK : s_K b n q ≠ 0) (hW : s_W b n q = some 13) (hr : r ≠ 12) (hC : s_Cnd b n false (s_E b n q) c [] = s_qb b n p x) (hx : x ≠ 0) : s_rls b n (m + 1) q c r = ((s_qb b n p x).1, 0) := by
  unfold s_rls; rw [s_ifF hK, s_ifT hW, s_ifF hr, hC]; exact s_ifF (s_fk_ne (b := b) (n := n) (p := p) hx)
theorem s_rls_k (hK : s_K b n q ≠ 0) (hW : s_W b n q = some 13) (hr : r ≠ 12) (hC : s_Cnd b n false (s_E b n q) c [] = s_qk q2 c2) : s_rls b n (m + 1) q c r = s_act b n q2 fun p2 => s_rls b n m p2 c2 (r + 1) := by
  show s_if _ _ _ = _
  rw [s_ifF hK, s_ifT hW, s_ifF hr, hC, s_ifT (show (s_qk q2 c2).1.1 = 0 from rfl)]; rfl
theorem s_act_d (h : s_W b n p ≠ some 14) : s_act b n p k = ((s_qb b n p 2).1, 0) := s_ifF h
theorem s_act_a (h : s_W b n p = some 14) (ha : ¬ (s_W b n (s_E b n p) = some 15 ∨ s_W b n (s_E b n p) = some 16 ∨ s_W b n (s_E b n p) = some 17)) : s_act b n p k = ((s_qb b n (s_E b n p) 2).1, 0) := (s_ifT h).trans (s_ifF ha)
theorem s_act_s (h : s_W b n p = some 14) (ha : s_W b n (s_E b n p) = some 15 ∨ s_W b n (s_E b n p) = some 16 ∨ s_W b n (s_E b n p) = some 17) (hs : ¬ s_isS b n (s_E b n (s_E b n p)) 59) : s_act b n p k = ((s_qb b n (s_E b n (s_E b n p)) 2).1, 0) := (s_ifT h).trans ((s_ifT ha).trans (s_ifF hs))
theorem s_act_k (h : s_W b n p = some 14) (ha : s_W b n (s_E b n p) = some 15 ∨ s_W b n (s_E b n p) = some 16 ∨ s_W b n (s_E b n p) = some 17) (hs : s_isS b n (s_E b n (s_E b n p)) 59) : s_act b n p k = k (s_E b n (s_E b n (s_E b n p))) := (s_ifT h).trans ((s_ifT ha).trans (s_ifT hs))
end RLS
