/-! ===== rules over typed worlds ===== -/
noncomputable def t_Tk (sh : List (Nat ⊕ (Nat × Nat))) (gr : Nat → Nat → Value) (k : Nat) : Prop := sh[k]? = some (.inl 8) ∧ gr k 0 = .ref 2
noncomputable def t_RR (sh : List (Nat ⊕ (Nat × Nat))) (gr : Nat → Nat → Value) (k : Nat) : Prop := sh[k]? = some (.inl 5) ∧ (∃ a, gr k 0 = .ref a ∧ t_Tk sh gr a) ∧ (∃ a, gr k 1 = .ref a ∧ t_Rv sh gr a) ∧ t_ar sh gr k 2 1 6 ∧ t_ar sh gr k 3 1 18
noncomputable def t_RL (sh : List (Nat ⊕ (Nat × Nat))) (gr : Nat → Nat → Value) (k : Nat) : Prop := sh[k]? = some (.inl 7) ∧ (∃ a, gr k 0 = .ref a ∧ t_Tk sh gr a) ∧ ∃ a, gr k 1 = .ref a ∧ t_Ru sh gr a
/-- what a method's run ends in -/
noncomputable def t_P (wl : List (Nat × Nat)) (sh : List (Nat ⊕ (Nat × Nat))) (gi : Nat → Nat → Int32) (gl : Nat → Nat → Int64) (gr : Nat → Nat → Value) (R : Option Value → Prop) (v : Option Value) (G' : x_G) : Prop := ∃ gi' gl' gr', G' = (sh, gi', gl', gr') ∧ t_I sh gi' gr' ∧ t_X wl sh gi gl gr gi' gl' gr' ∧ R v
noncomputable def t_Rn (v : Option Value) : Prop := v = none
noncomputable def t_Ri (lo hi : Int) (v : Option Value) : Prop := ∃ x : Int32, v = some (.int x) ∧ lo ≤ x.toInt ∧ x.toInt ≤ hi
noncomputable def t_Rl (v : Option Value) : Prop := ∃ x : Int64, v = some (.long x)
theorem t_hi (x : Int32) : x.toInt ≤ 2147483647 := by have := Int32.toInt_lt x; omega
theorem t_ltu {x y : Int32} {u v : Int} (h : x < y) (hu : y.toInt ≤ u) (hv : u - 1 = v) : x.toInt ≤ v := by have := Int32.lt_iff_toInt_lt.mp h; omega
theorem t_ltl {x y : Int32} {u v : Int} (h : x < y) (hu : u ≤ x.toInt) (hv : u + 1 = v) : v ≤ y.toInt := by have := Int32.lt_iff_toInt_lt.mp h; omega
theorem t_leu {x y : Int32} {u : Int} (h : x ≤ y) (hu : y.toInt ≤ u) : x.toInt ≤ u := by have := Int32.le_iff_toInt_le.mp h; omega
theorem t_lel {x y : Int32} {u : Int} (h : x ≤ y) (hu : u ≤ x.toInt) : u ≤ y.toInt := by have := Int32.le_iff_toInt_le.mp h; omega
theorem t_nlt {x y : Int32} (h : ¬ x < y) : y ≤ x := Int32.not_lt.mp h
theorem t_nle {x y : Int32} (h : ¬ x ≤ y) : y < x := Int32.not_le.mp h
theorem t_eqi {x y : Int32} (h : x = y) : x.toInt = y.toInt := congrArg Int32.toInt h
theorem t_equ {x y : Int32} {u : Int} (h : x = y) (hu : y.toInt ≤ u) : x.toInt ≤ u := by rw [h]; exact hu
theorem t_eql {x y : Int32} {u : Int} (h : x = y) (hu : u ≤ y.toInt) : u ≤ x.toInt := by rw [h]; exact hu
/-- settled comparisons -/
theorem t_ltT {x y : Int32} {u l : Int} (hu : x.toInt ≤ u) (hl : l ≤ y.toInt) (h : decide (u < l) = true) : x < y := by have := of_decide_eq_true h; exact Int32.lt_iff_toInt_lt.mpr (by omega)
theorem t_leT {x y : Int32} {u l : Int} (hu : x.toInt ≤ u) (hl : l ≤ y.toInt) (h : decide (u ≤ l) = true) : x ≤ y := by have := of_decide_eq_true h; exact Int32.le_iff_toInt_le.mpr (by omega)
theorem t_neT {x y : Int32} {u l : Int} (hu : x.toInt ≤ u) (hl : l ≤ y.toInt) (h : decide (u < l) = true) : ¬ x = y := by have := of_decide_eq_true h; rintro rfl; omega
theorem t_neT' {x y : Int32} {u l : Int} (hu : y.toInt ≤ u) (hl : l ≤ x.toInt) (h : decide (u < l) = true) : ¬ x = y := by have := of_decide_eq_true h; rintro rfl; omega
theorem t_ltF {x y : Int32} {u l : Int} (hu : y.toInt ≤ u) (hl : l ≤ x.toInt) (h : decide (u ≤ l) = true) : ¬ x < y := Int32.not_lt.mpr (t_leT hu hl h)
theorem t_leF {x y : Int32} {u l : Int} (hu : y.toInt ≤ u) (hl : l ≤ x.toInt) (h : decide (u < l) = true) : ¬ x ≤ y := Int32.not_le.mpr (t_ltT hu hl h)
theorem t_eqT {x y : Int32} {c : Int} (h1 : x.toInt ≤ c) (h2 : c ≤ x.toInt) (h3 : y.toInt ≤ c) (h4 : c ≤ y.toInt) : x = y := Int32.toInt_inj.mp (by omega)
theorem t_clamp {i : Int32} (h : 0 ≤ i.toInt) : (i.toNatClampNeg : Int) = i.toInt := by show ((i.toInt.toNat : Nat) : Int) = _; omega
theorem t_noobj2 {sh : List (Nat ⊕ (Nat × Nat))} {k k' c c' : Nat} (h : sh[k]? = some (.inl c)) (h' : sh[k']? = some (.inl c')) (hn : (c == c') = false) : k ≠ k' := by
  rintro rfl; rw [h] at h'; cases h'; simp at hn
theorem t_outO {sh : List (Nat ⊕ (Nat × Nat))} {gr : Nat → Nat → Value} {k ci : Nat} (h : x_WF sh gr) (hk : sh[k]? = some (.inl ci)) (hc : decide (ci < 11) = true) : t_out k := by
  have hc := of_decide_eq_true hc
  by_cases h1 : k < 69
  · exact Or.inl h1
  by_cases h2 : 102 ≤ k
  · exact Or.inr h2
  exfalso
  have h3 : ((List.range 102).all (fun q => decide (q < 69) || (match x_sh0[q]? with | some (.inl c) => decide (c = 11) | some (.inr _) => true | none => false))) = true := by decide +kernel
  have h4 := List.all_eq_true.mp h3 k (List.mem_range.mpr (by omega))
  have h5 : k < x_sh0.length := by rw [t_sh0_len]; omega
  have h6 : x_sh0[k]? = some (x_sh0[k]) := List.getElem?_eq_getElem h5
  have h7 := h.s0 h6
  rw [hk] at h7
  have h8 : x_sh0[k]? = some (.inl ci) := by rw [h6]; exact h7.symm
  rw [h8] at h4
  simp [h1] at h4
  omega
/-- fewer locals do as well -/
noncomputable def t_lsub (lo lo' : x_Lo) : Prop := ∀ i v, x_get lo i = some v → x_get lo' i = some v
theorem t_sn {lo' : x_Lo} : t_lsub [] lo' := fun _ _ h => by cases h
theorem t_sc {i : Nat} {v : Value} {r lo' : x_Lo} (h : x_get lo' i = some v) (hr : t_lsub r lo') : t_lsub ((i, v) :: r) lo' := by
  intro j w hj
  unfold x_get at hj
  split at hj
  · next e => subst e; cases hj; exact h
  · exact hr j w hj
noncomputable def t_nd : x_Lo → Bool
  | [] => true
  | q :: r => r.all (fun p => !(p.1 == q.1)) && t_nd r
theorem t_nd_filter {p : Nat × Value → Bool} : ∀ {lo : x_Lo}, t_nd lo = true → t_nd (lo.filter p) = true
  | [], _ => rfl
  | q :: r, h => by
    unfold t_nd at h
    rw [Bool.and_eq_true, List.all_eq_true] at h
    rw [List.filter_cons]
    split
    · unfold t_nd
      rw [Bool.and_eq_true, List.all_eq_true]
      exact ⟨fun x hx => h.1 x (List.mem_filter.mp hx).1, t_nd_filter h.2⟩
    · exact t_nd_filter h.2
theorem t_nd_cons {lo : x_Lo} {p : Nat × Value → Bool} {i : Nat} {v : Value} (h : t_nd lo = true) (hp : ∀ w, p (i, w) = false) : t_nd ((i, v) :: lo.filter p) = true := by
  unfold t_nd
  rw [Bool.and_eq_true, List.all_eq_true]
  refine ⟨fun x hx => ?_, t_nd_filter h⟩
  obtain ⟨a, b⟩ := x
  have h2 := (List.mem_filter.mp hx).2
  by_cases ha : a = i
  · subst ha; rw [hp b] at h2; cases h2
  · simp [ha]
/-- the first of a key is kept if it passes -/
theorem x_get_filter_of {p : Nat × Value → Bool} : ∀ {lo : x_Lo} {i : Nat} {v : Value}, x_get lo i = some v → p (i, v) = true → x_get (lo.filter p) i = some v
  | (j, w) :: r, i, v, h, hp => by
    unfold x_get at h
    split at h
    · next e =>
      subst e; cases h
      rw [List.filter_cons, if_pos hp]
      unfold x_get; rw [if_pos rfl]
    · next e =>
      rw [List.filter_cons]
      split
      · unfold x_get; rw [if_neg e]; exact x_get_filter_of h hp
      · exact x_get_filter_of h hp
theorem x_get_mem' : ∀ {lo : x_Lo} {i : Nat} {v : Value}, t_nd lo = true → (i, v) ∈ lo → x_get lo i = some v
  | (j, w) :: r, i, v, hn, hm => by
    unfold t_nd at hn
    rw [Bool.and_eq_true, List.all_eq_true] at hn
    unfold x_get
    rcases List.mem_cons.mp hm with e | e
    · cases e; rw [if_pos rfl]
    · rw [if_neg ?_]
      · exact x_get_mem' hn.2 e
      · rintro rfl
        have := hn.1 _ e
        simp at this
theorem t_lsub_set {lo lo' : x_Lo} {i : Nat} {v : Value} {p : Nat × Value → Bool} (hn : t_nd lo = true) (hs : t_lsub lo lo') : t_lsub ((i, v) :: lo.filter p) ((i, v) :: lo'.filter p) := by
  intro j w h
  unfold x_get at h ⊢
  split at h
  · next e => rw [if_pos e]; exact h
  · next e =>
    rw [if_neg e]
    have hm := x_get_mem h
    obtain ⟨h1, h2⟩ := List.mem_filter.mp hm
    exact x_get_filter_of (hs _ _ (x_get_mem' hn h1)) h2
theorem x_loc_lsub {nL : Nat} {ins : Instr} {lo lo' lo2 : x_Lo} {st st2 : List Value} (hn : t_nd lo = true) (hs : t_lsub lo lo') (h : x_loc nL ins lo st = some (lo2, st2)) : ∃ lo2', x_loc nL ins lo' st = some (lo2', st2) ∧ t_nd lo2 = true ∧ t_lsub lo2 lo2' := by
  have hld : ∀ (t : Value → Bool) (i : Nat), x_ld t lo i st = some (lo2, st2) → ∃ lo2', x_ld t lo' i st = some (lo2', st2) ∧ t_nd lo2 = true ∧ t_lsub lo2 lo2' := by
    intro t i h
    obtain ⟨v, h1, h2, rfl, rfl⟩ := x_ld_spec h
    refine ⟨lo', ?_, hn, hs⟩
    unfold x_ld; rw [hs _ _ h1]; dsimp only; rw [if_pos h2]
  have hst : ∀ (t : Value → Bool) (i : Nat), x_st nL t lo i st = some (lo2, st2) → ∃ lo2', x_st nL t lo' i st = some (lo2', st2) ∧ t_nd lo2 = true ∧ t_lsub lo2 lo2' := by
    intro t i h
    unfold x_st at h
    split at h
    · next v r =>
      split at h
      · next hc =>
        cases h
        refine ⟨x_set1 lo' i _, by unfold x_st; dsimp only; rw [if_pos hc], t_nd_cons hn (fun w => by simp), t_lsub_set hn hs⟩
      · cases h
    · cases h
  have hst2 : ∀ (i : Nat), x_st2 nL lo i st = some (lo2, st2) → ∃ lo2', x_st2 nL lo' i st = some (lo2', st2) ∧ t_nd lo2 = true ∧ t_lsub lo2 lo2' := by
    intro i h
    unfold x_st2 at h
    split at h
    · next v r =>
      split at h
      · next hc =>
        cases h
        refine ⟨x_set2 lo' i _, by unfold x_st2; dsimp only; rw [if_pos hc], t_nd_cons hn (fun w => by simp), t_lsub_set hn hs⟩
      · cases h
    · cases h
  cases ins
  all_goals first
    | exact hld _ _ h
    | exact hst _ _ h
    | exact hst2 _ h
    | (cases h; done)
    | (unfold x_loc at h
       dsimp only at h
       split at h
       · next x hx =>
         split at h
         · next hc =>
           cases h
           exact ⟨x_set1 lo' _ _, by unfold x_loc; dsimp only; rw [hs _ _ hx]; dsimp only; rw [if_pos hc], t_nd_cons hn (fun w => by simp), t_lsub_set hn hs⟩
         · cases h
       · cases h)
theorem x_exec_lsub {X : x_Ext} : ∀ (n d mi pc : Nat) (lo lo' : x_Lo) (st : List Value) (G : x_G) (r : Option Value × x_G), t_nd lo = true → t_lsub lo lo' → x_exec X n d mi pc lo st G = some r → x_exec X n d mi pc lo' st G = some r := by
  intro n
  induction n with
  | zero => intro d mi pc lo lo' st G r _ _ h; cases h
  | succ n ih =>
    intro d mi pc lo lo' st G r hn hs h
    unfold x_exec at h
    unfold x_exec
    split at h
    · cases h
    · next ins len a b q z hrow =>
      (try rw [hrow]); (try dsimp only)
      split at h
      · next hc =>
        (try rw [hc]); (try dsimp only)
        split at h
        · next hh => (try rw [hh]); exact ih _ _ _ _ _ _ _ _ hn hs h
        · cases h
      · next hc =>
        (try rw [hc]); (try dsimp only)
        split at h
        · next hh =>
          obtain ⟨lo2', h1, h2, h3⟩ := x_loc_lsub hn hs hh
          rw [h1]; exact ih _ _ _ _ _ _ _ _ h2 h3 h
        · cases h
      · next hc =>
        (try rw [hc]); (try dsimp only)
        split at h
        · next hh => (try rw [hh]); exact ih _ _ _ _ _ _ _ _ hn hs h
        · cases h
      · next hc =>
        (try rw [hc]); (try dsimp only)
        split at h
        · next hh => (try rw [hh]); exact ih _ _ _ _ _ _ _ _ hn hs h
        · cases h
      · next hc =>
        (try rw [hc]); (try dsimp only)
        split at h
        · next ha =>
          (try rw [if_pos ha])
          split at h
          · split at h
            · next hd => (try rw [if_pos hd]); exact ih _ _ _ _ _ _ _ _ hn hs h
            · cases h
          · cases h
        · next ha =>
          (try rw [if_neg ha])
          split at h
          · next ha1 =>
            (try rw [if_pos ha1])
            split at h
            · split at h
              · next e1 e2 =>
                (try rw [e1, e2]); (try dsimp only)
                split at h
                · next hd => (try rw [if_pos hd]); exact ih _ _ _ _ _ _ _ _ hn hs h
                · cases h
              · cases h
            · cases h
          · next ha1 =>
            (try rw [if_neg ha1])
            split at h
            · next ha2 =>
              (try rw [if_pos ha2])
              split at h
              · split at h
                · next hd => (try rw [if_pos hd]); exact ih _ _ _ _ _ _ _ _ hn hs h
                · cases h
              · cases h
            · next ha2 =>
              (try rw [if_neg ha2])
              split at h
              · next hd =>
                (try rw [if_pos hd])
                split at h
                · next hh =>
                  (try rw [hh]); (try dsimp only)
                  exact ih _ _ _ _ _ _ _ _ hn hs h
                · cases h
              · cases h
      · next h0 h1 h2 h3 h4 =>
        first
          | exact h
          | (split at h
             · next hh => (try rw [hh]); exact h
             · cases h)
/-- to a place with fewer locals told -/
theorem ev_sub {X : x_Ext} {d mi pc : Nat} {lo lo' : x_Lo} {st : List Value} {G : x_G} {P : Option Value → x_G → Prop} (hn : t_nd lo = true) (hs : t_lsub lo lo') (h : x_Ev X d mi pc lo st G P) : x_Ev X d mi pc lo' st G P := by
  obtain ⟨n, v, G', h1, h2⟩ := h
  exact ⟨n, v, G', x_exec_lsub _ _ _ _ _ _ _ _ _ hn hs h1, h2⟩
