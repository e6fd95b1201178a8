/-! ===== worlds that grow: things made ===== -/
section TG0
variable {X : x_Ext} {d mi pc nx a b q len ml : Nat} {z : Int} {ins : Instr} {lo lo' : x_Lo} {st st' r : List Value} {G : x_G} {P : Option Value → x_G → Prop} {T : List (Nat × x_Row)} {rt : Option FieldType}
variable {sh : List (Nat ⊕ (Nat × Nat))} {gi gi0 : Nat → Nat → Int32} {gl gl0 : Nat → Nat → Int64} {gr gr0 : Nat → Nat → Value} {wl : List (Nat × Nat)}
theorem ev_cpyTL {k0 k1 n0 n1 : Nat} {i1 i2 i3 : Int32} (F : x_F mi T ml rt) (hr : x_lk T pc = some (ins, len, 1001, b, q, z)) (hc : x_cat ins = 4) (h0 : sh[k0]? = some (.inr (1, n0))) (h1 : sh[k1]? = some (.inr (1, n1))) (hd : 1 ≤ d) (a1 : 0 ≤ i1.toInt) (a2 : 0 ≤ i2.toInt) (a3 : 0 ≤ i3.toInt) (c0 : i1.toInt + i3.toInt ≤ (n0 : Int)) (c1 : i2.toInt + i3.toInt ≤ (n1 : Int)) (hn : pc + 3 = nx) (hX : t_X wl sh gi0 gl0 gr0 gi (fun a => if a = k1 then va_cpy (gl k0) (gl k1) i1.toNatClampNeg i2.toNatClampNeg i3.toNatClampNeg else gl a) gr) (kk : ∀ g2, g2 = (fun a => if a = k1 then va_cpy (gl k0) (gl k1) i1.toNatClampNeg i2.toNatClampNeg i3.toNatClampNeg else gl a) → t_X wl sh gi0 gl0 gr0 gi g2 gr → x_Ev X d mi nx lo [] (sh, gi, g2, gr) P) : x_Ev X d mi pc lo [.int i3, .int i2, .ref k1, .int i1, .ref k0] (sh, gi, gl, gr) P := by
  have e1 := t_clamp a1
  have e2 := t_clamp a2
  have e3 := t_clamp a3
  have h0' : (0 : Int32).toInt = 0 := rfl
  obtain ⟨m, v, G', e4, e5⟩ := kk _ rfl hX
  refine ⟨m + 1, v, G', ?_, e5⟩
  unfold x_exec; rw [x_Frow F hr]; dsimp only
  rw [hc]; (try dsimp only)
  rw [if_neg (by decide), if_pos rfl, h0, h1]; dsimp only
  rw [if_pos ⟨rfl, by decide, hd, by rw [Int32.lt_iff_toInt_lt]; omega, by rw [Int32.lt_iff_toInt_lt]; omega, by rw [Int32.lt_iff_toInt_lt]; omega, by omega, by omega⟩, hn]
  exact e4
end TG0
/-- RULES have their rows -/
noncomputable def t_H (sh : List (Nat ⊕ (Nat × Nat))) : Prop := ∀ k, sh[k]? = some (.inl 6) → k + 5 < sh.length
theorem t_sx {sh ext : List (Nat ⊕ (Nat × Nat))} {N i : Nat} (hN : sh.length = N) : (sh ++ ext)[N + i]? = ext[i]? := by
  rw [List.getElem?_append_right (by omega)]; congr 1; omega
theorem t_sl {sh ext : List (Nat ⊕ (Nat × Nat))} {k : Nat} {s : Nat ⊕ (Nat × Nat)} (h : sh[k]? = some s) : (sh ++ ext)[k]? = some s := by
  obtain ⟨h1, h2⟩ := List.getElem?_eq_some_iff.mp h
  rw [List.getElem?_append_left h1]; exact h
theorem t_lt {sh : List (Nat ⊕ (Nat × Nat))} {k : Nat} {s : Nat ⊕ (Nat × Nat)} (h : sh[k]? = some s) : k < sh.length := (List.getElem?_eq_some_iff.mp h).1
/-- grown from a world: what was there is as it was (but one reader), what is new fits -/
noncomputable def t_G (N r : Nat) (sh0 : List (Nat ⊕ (Nat × Nat))) (gi0 : Nat → Nat → Int32) (gl0 : Nat → Nat → Int64) (gr0 : Nat → Nat → Value) (ext : List (Nat ⊕ (Nat × Nat))) (gi : Nat → Nat → Int32) (gl : Nat → Nat → Int64) (gr : Nat → Nat → Value) : Prop :=
  (∀ k, k < N → k ≠ r → gi k = gi0 k ∧ gl k = gl0 k ∧ gr k = gr0 k) ∧
  (∀ k ci j lo hi, (N ≤ k ∨ k = r) → (sh0 ++ ext)[k]? = some (.inl ci) → t_bd ci j = some (lo, hi) → lo ≤ (gi k j).toInt ∧ (gi k j).toInt ≤ hi) ∧
  (∀ k, N ≤ k → (sh0 ++ ext)[k]? = some (.inl 8) → t_KwN (gr k 7)) ∧
  (∀ k j, N ≤ k → ((sh0 ++ ext)[k]? = some (.inl 6) ∨ ∃ q, (sh0 ++ ext)[k]? = some (.inr q)) → gi k j = 0)
theorem t_bd0 {ci j : Nat} {lo hi : Int} (h : t_bd ci j = some (lo, hi)) : lo ≤ 0 ∧ 0 ≤ hi := by
  have h1 : (t_bdl.all (fun q => decide (q.2.1 ≤ 0) && decide (0 ≤ q.2.2))) = true := by decide +kernel
  unfold t_bd at h
  have h2 : ∀ (l : List ((Nat × Nat) × (Int × Int))), l.all (fun q => decide (q.2.1 ≤ 0) && decide (0 ≤ q.2.2)) = true → l.lookup (ci, j) = some (lo, hi) → lo ≤ 0 ∧ 0 ≤ hi := by
    intro l
    induction l with
    | nil => intro _ h; cases h
    | cons p l ih =>
      intro ha hl
      obtain ⟨p1, p2⟩ := p
      rw [List.all_cons, Bool.and_eq_true] at ha
      rw [List.lookup_cons] at hl
      split at hl
      · cases hl
        have := ha.1
        simp only [Bool.and_eq_true, decide_eq_true_eq] at this
        exact this
      · exact ih ha.2 hl
  exact h2 _ h1 h
theorem x_clr_at {α : Type} {f : Nat → Nat → α} {k j : Nat} {d : α} : x_clr f k d k j = d := by unfold x_clr; rw [if_pos rfl]
section TG1
variable {N r : Nat} {sh0 ext ext' : List (Nat ⊕ (Nat × Nat))} {gi0 gi : Nat → Nat → Int32} {gl0 gl : Nat → Nat → Int64} {gr0 gr : Nat → Nat → Value}
theorem t_G.refl (hN : sh0.length = N) (hb : ∀ ci j lo hi, sh0[r]? = some (.inl ci) → t_bd ci j = some (lo, hi) → lo ≤ (gi0 r j).toInt ∧ (gi0 r j).toInt ≤ hi) : t_G N r sh0 gi0 gl0 gr0 [] gi0 gl0 gr0 := by
  refine ⟨fun k _ _ => ⟨rfl, rfl, rfl⟩, fun k ci j lo hi hk hs ht => ?_, fun k hk hs => ?_, fun k j hk hs => ?_⟩
  · rw [List.append_nil] at hs
    have := t_lt hs
    rcases hk with hk | rfl
    · omega
    · exact hb ci j lo hi hs ht
  · rw [List.append_nil] at hs; have := t_lt hs; omega
  · rw [List.append_nil] at hs
    rcases hs with hs | ⟨q, hs⟩ <;> have := t_lt hs <;> omega
theorem t_G.new (h : t_G N r sh0 gi0 gl0 gr0 ext gi gl gr) (hN : sh0.length = N) {c : Nat} (hc : ext.length = c) {s : Nat ⊕ (Nat × Nat)} (he : ext ++ [s] = ext') : t_G N r sh0 gi0 gl0 gr0 ext' (x_clr gi (N + c) 0) (x_clr gl (N + c) 0) (x_clr gr (N + c) .null) := by
  subst he
  have hne : ∀ {k : Nat} {s' : Nat ⊕ (Nat × Nat)}, k ≠ N + c → (sh0 ++ (ext ++ [s]))[k]? = some s' → (sh0 ++ ext)[k]? = some s' := by
    intro k s' hk hs
    have h1 := t_lt hs
    simp only [List.length_append, List.length_cons, List.length_nil] at h1
    rw [← List.append_assoc, List.getElem?_append_left (by simp only [List.length_append]; omega)] at hs
    exact hs
  obtain ⟨h1, h2, h3, h4⟩ := h
  refine ⟨fun k hk hkr => ?_, fun k ci j lo hi hk hs ht => ?_, fun k hk hs => ?_, fun k j hk hs => ?_⟩
  · have hk' : k ≠ N + c := by omega
    rw [x_clr_ne hk', x_clr_ne hk', x_clr_ne hk']; exact h1 k hk hkr
  · by_cases hk' : k = N + c
    · subst hk'; rw [x_clr_at]; exact t_bd0 ht
    · rw [x_clr_ne hk']; exact h2 k ci j lo hi hk (hne hk' hs) ht
  · by_cases hk' : k = N + c
    · subst hk'; rw [x_clr_at]; exact Or.inl rfl
    · rw [x_clr_ne hk']; exact h3 k hk (hne hk' hs)
  · by_cases hk' : k = N + c
    · subst hk'; rw [x_clr_at]
    · rw [x_clr_ne hk']
      exact h4 k j hk (hs.imp (hne hk') (fun ⟨q, hq⟩ => ⟨q, hne hk' hq⟩))
theorem t_G.putI (h : t_G N r sh0 gi0 gl0 gr0 ext gi gl gr) {k ci j : Nat} {x : Int32} (hk : N ≤ k ∨ k = r) (hs : (sh0 ++ ext)[k]? = some (.inl ci)) (hb : ∀ lo hi, t_bd ci j = some (lo, hi) → lo ≤ x.toInt ∧ x.toInt ≤ hi) (h6 : ci = 6 → x = 0) : t_G N r sh0 gi0 gl0 gr0 ext (x_up2 gi k j x) gl gr := by
  obtain ⟨h1, h2, h3, h4⟩ := h
  refine ⟨fun k' hk' hkr => ?_, fun k' ci' j' lo hi hk' hs' ht => ?_, h3, fun k' j' hk' hs' => ?_⟩
  · have hne : k' ≠ k := by rintro rfl; rcases hk with hk | hk <;> omega
    obtain ⟨a1, a2, a3⟩ := h1 k' hk' hkr
    exact ⟨by rw [x_up2_ne hne]; exact a1, a2, a3⟩
  · by_cases hkk : k' = k ∧ j' = j
    · obtain ⟨rfl, rfl⟩ := hkk
      rw [hs] at hs'; cases hs'
      rw [x_up2_at]; exact hb lo hi ht
    · rw [x_up2_off (by omega)]; exact h2 k' ci' j' lo hi hk' hs' ht
  · by_cases hkk : k' = k ∧ j' = j
    · obtain ⟨rfl, rfl⟩ := hkk
      rw [hs] at hs'
      rcases hs' with hs' | ⟨q, hs'⟩
      · cases hs'; rw [x_up2_at]; exact h6 rfl
      · cases hs'
    · rw [x_up2_off (by omega)]; exact h4 k' j' hk' hs'
theorem t_G.putL (h : t_G N r sh0 gi0 gl0 gr0 ext gi gl gr) {k j : Nat} {x : Int64} (hk : N ≤ k ∨ k = r) : t_G N r sh0 gi0 gl0 gr0 ext gi (x_up2 gl k j x) gr := by
  obtain ⟨h1, h2, h3, h4⟩ := h
  refine ⟨fun k' hk' hkr => ?_, h2, h3, h4⟩
  have hne : k' ≠ k := by rintro rfl; rcases hk with hk | hk <;> omega
  obtain ⟨a1, a2, a3⟩ := h1 k' hk' hkr
  exact ⟨a1, by rw [x_up2_ne hne]; exact a2, a3⟩
theorem t_G.putR (h : t_G N r sh0 gi0 gl0 gr0 ext gi gl gr) {k ci j : Nat} {v : Value} (hk : N ≤ k ∨ k = r) (hs : (sh0 ++ ext)[k]? = some (.inl ci)) (h8 : ci = 8 → j = 7 → t_KwN v) : t_G N r sh0 gi0 gl0 gr0 ext gi gl (x_up2 gr k j v) := by
  obtain ⟨h1, h2, h3, h4⟩ := h
  refine ⟨fun k' hk' hkr => ?_, h2, fun k' hk' hs' => ?_, h4⟩
  · have hne : k' ≠ k := by rintro rfl; rcases hk with hk | hk <;> omega
    obtain ⟨a1, a2, a3⟩ := h1 k' hk' hkr
    exact ⟨a1, a2, by rw [x_up2_ne hne]; exact a3⟩
  · by_cases hkk : k' = k ∧ 7 = j
    · obtain ⟨rfl, rfl⟩ := hkk
      rw [hs] at hs'; cases hs'
      rw [x_up2_at]; exact h8 rfl rfl
    · rw [x_up2_off (by omega)]; exact h3 k' hk' hs'
/-- the grown world is typed -/
theorem t_G.I (h : t_G N r sh0 gi0 gl0 gr0 ext gi gl gr) (hN : sh0.length = N) (hI : t_I sh0 gi0 gr0) (hH : t_H sh0) (hr : 102 ≤ r) (hrc : ∀ s, sh0[r]? = some s → s = .inl 5 ∨ s = .inl 7) : t_I (sh0 ++ ext) gi gr := by
  obtain ⟨h1, h2, h3, h4⟩ := h
  obtain ⟨i1, i2, i3, ⟨⟨k0, j1, j1'⟩, j2, j3, j4, j5, j6⟩, i5⟩ := hI
  have h102 : 102 ≤ N := by
    have h5 : x_sh0[101]? = some (x_sh0[101]'(by rw [t_sh0_len]; decide)) := List.getElem?_eq_getElem _
    have := t_lt (i1.s0 h5); omega
  have hlow : ∀ k, k < 102 → gi k = gi0 k ∧ gl k = gl0 k ∧ gr k = gr0 k := fun k hk => h1 k (by omega) (by omega)
  have hne : ∀ {k ci : Nat}, sh0[k]? = some (.inl ci) → ci ≠ 5 → ci ≠ 7 → gi k = gi0 k ∧ gl k = gl0 k ∧ gr k = gr0 k := by
    intro k ci hk h5 h7
    refine h1 k (by have := t_lt hk; omega) ?_
    rintro rfl
    rcases hrc _ hk with e | e <;> cases e
    · exact h5 rfl
    · exact h7 rfl
  have har : ∀ {k j t n ci : Nat}, sh0[k]? = some (.inl ci) → ci ≠ 5 → ci ≠ 7 → t_ar sh0 gr0 k j t n → t_ar (sh0 ++ ext) gr k j t n := by
    rintro k j t n ci hk h5 h7 ⟨a, g1, g2, g3⟩
    exact ⟨a, by rw [(hne hk h5 h7).2.2]; exact g1, t_sl g2, g3⟩
  have hLn : ∀ {k : Nat}, t_Ln sh0 gr0 k → t_Ln (sh0 ++ ext) gr k := by
    rintro k ⟨g0, g1, g2, g3, g4, g5⟩
    exact ⟨t_sl g0, har g0 (by decide) (by decide) g1, har g0 (by decide) (by decide) g2, har g0 (by decide) (by decide) g3, har g0 (by decide) (by decide) g4, har g0 (by decide) (by decide) g5⟩
  have hRv : ∀ {k : Nat}, t_Rv sh0 gr0 k → t_Rv (sh0 ++ ext) gr k := by
    rintro k ⟨g0, g1, g2, g3, ⟨a, g4, g5⟩, b, g6, g7⟩
    exact ⟨t_sl g0, har g0 (by decide) (by decide) g1, har g0 (by decide) (by decide) g2, har g0 (by decide) (by decide) g3, ⟨a, by rw [(hne g0 (by decide) (by decide)).2.2]; exact g4, hLn g5⟩, b, by rw [(hne g0 (by decide) (by decide)).2.2]; exact g6, hLn g7⟩
  have hRu : ∀ {k : Nat}, t_Ru sh0 gr0 k → t_Ru (sh0 ++ ext) gr k := by
    rintro k ⟨g0, g1, g2, g3, g4, g5, n, g6, g7, g8, g9, g10, g11, g12⟩
    have e := (hne g0 (by decide) (by decide)).2.2
    exact ⟨t_sl g0, g1, by rw [e]; exact g2, by rw [e]; exact g3, t_sl g4, t_sl g5, n, g6, by rw [e]; exact g7, by rw [e]; exact g8, by rw [e]; exact g9, t_sl g10, t_sl g11, t_sl g12⟩
  have hRvN : ∀ {v : Value}, t_RvN sh0 gr0 v → t_RvN (sh0 ++ ext) gr v := fun h => h.imp id (fun ⟨k, a, b⟩ => ⟨k, a, hRv b⟩)
  have hRuN : ∀ {v : Value}, t_RuN sh0 gr0 v → t_RuN (sh0 ++ ext) gr v := fun h => h.imp id (fun ⟨k, a, b⟩ => ⟨k, a, hRu b⟩)
  -- RULES that were there ahead
  have hbk : ∀ {k : Nat}, k < N → t_Ru (sh0 ++ ext) gr k → t_Ru sh0 gr0 k := by
    rintro k hk ⟨g0, g1, g2, g3, g4, g5, n, g6, g7, g8, g9, g10, g11, g12⟩
    have h0 : ∀ {m : Nat} {s : Nat ⊕ (Nat × Nat)}, m < N → (sh0 ++ ext)[m]? = some s → sh0[m]? = some s := by
      intro m s hm hs
      rw [List.getElem?_append_left (by omega)] at hs; exact hs
    have g0' := h0 hk g0
    have hH' := hH k g0'
    have e := (hne g0' (by decide) (by decide)).2.2
    rw [e] at g2 g3 g7 g8 g9
    exact ⟨g0', g1, g2, g3, h0 (by omega) g4, h0 (by omega) g5, n, g6, g7, g8, g9, h0 (by omega) g10, h0 (by omega) g11, h0 (by omega) g12⟩
  refine ⟨⟨fun k s hs => t_sl (i1.s0 hs), fun k j v hf => ?_⟩, fun k ci j lo hi hk hb => ?_, fun k j lo hi hb => ?_, ⟨⟨k0, ?_, hRv j1'⟩, ?_, fun j hj => ?_, fun j hj => ?_, ?_, fun k hk => ?_⟩, fun k n hk hn => ?_, fun k j hk => ?_⟩
  · have hk : k < 102 := by
      have h5 : (x_fx.all (fun q => decide (q.1.1 < 102))) = true := by decide +kernel
      have h6 := List.all_eq_true.mp h5 _ (x_lookup_mem hf)
      exact of_decide_eq_true h6
    rw [(hlow k hk).2.2]; exact i1.r0 hf
  · by_cases hkN : k < N
    · by_cases hkr : k = r
      · exact h2 k ci j lo hi (Or.inr hkr) hk hb
      · rw [(h1 k hkN hkr).1]
        rw [List.getElem?_append_left (by omega)] at hk
        exact i2 k ci j lo hi hk hb
    · exact h2 k ci j lo hi (Or.inl (by omega)) hk hb
  · have := (t_ab_arr hb).1
    rw [(hlow k this).1]; exact i3 k j lo hi hb
  · rw [(hlow 0 (by decide)).2.2]; exact j1
  · rw [(hlow 0 (by decide)).2.2]; exact hRuN j2
  · rw [(hlow 19 (by decide)).2.2]; exact hRvN (j3 j hj)
  · rw [(hlow 20 (by decide)).2.2]; exact hRuN (j4 j hj)
  · rw [(hlow 28 (by decide)).2.2]; exact hRvN j5
  · by_cases hkN : k < N
    · rw [List.getElem?_append_left (by omega)] at hk
      rw [(hne hk (by decide) (by decide)).2.2]; exact j6 k hk
    · exact h3 k (by omega) hk
  · by_cases hkN : k < N
    · have g := hbk hkN hk
      have hH' := hH k g.1
      rw [(hne g.1 (by decide) (by decide)).1]
      rw [List.getElem?_append_left (by omega)] at hn
      exact i5.1 k n g hn
    · rw [h4 k 3 (by omega) (Or.inl hk.1)]
      show (0 : Int) ≤ _
      exact Int.natCast_nonneg n
  · by_cases hkN : k < N
    · have g := hbk hkN hk
      have hH' := hH k g.1
      have e := (h1 (k + 2) (by omega) (by
        rintro rfl
        rcases hrc _ g.2.2.2.2.2.1 with e | e <;> cases e)).1
      rw [e]; exact i5.2 k j g
    · rw [h4 (k + 2) j (by omega) (Or.inr ⟨_, hk.2.2.2.2.2.1⟩)]; decide
end TG1
section TG2
variable {X : x_Ext} {d mi pc nx a b q len ml : Nat} {z : Int} {ins : Instr} {lo lo' : x_Lo} {st st' rs : List Value} {P : Option Value → x_G → Prop} {T : List (Nat × x_Row)} {rt : Option FieldType}
variable {N r : Nat} {sh0 ext ext' : List (Nat ⊕ (Nat × Nat))} {gi0 gi : Nat → Nat → Int32} {gl0 gl : Nat → Nat → Int64} {gr0 gr : Nat → Nat → Value}
theorem ev_newG {i0 c : Nat} (F : x_F mi T ml rt) (hr : x_lk T pc = some (.new i0, len, a, b, q, z)) (ha : decide (a < 12) = true) (hn : pc + len = nx) (hN : sh0.length = N) (hc : ext.length = c) (he : ext ++ [.inl a] = ext') (hG : t_G N r sh0 gi0 gl0 gr0 ext gi gl gr)
    (kk : ∀ g1 g2 g3, g1 = x_clr gi (N + c) 0 → g2 = x_clr gl (N + c) 0 → g3 = x_clr gr (N + c) .null → t_G N r sh0 gi0 gl0 gr0 ext' g1 g2 g3 → x_Ev X d mi nx lo (.ref (N + c) :: st) (sh0 ++ ext', g1, g2, g3) P) : x_Ev X d mi pc lo st (sh0 ++ ext, gi, gl, gr) P := by
  have hl : (sh0 ++ ext).length = N + c := by rw [List.length_append]; omega
  refine ev_heap F hr rfl ?_ hn (kk _ _ _ rfl rfl rfl (hG.new hN hc he))
  show (if a < 12 then some (.ref (sh0 ++ ext).length :: st, x_new (sh0 ++ ext, gi, gl, gr) (.inl a)) else none) = _
  rw [if_pos (of_decide_eq_true ha), hl]
  unfold x_new; dsimp only
  rw [hl, ← he, List.append_assoc]
theorem ev_arrG {at_ : ArrayType} {t c : Nat} {n : Int32} {m : Nat} (F : x_F mi T ml rt) (hr : x_lk T pc = some (.newarray at_, len, a, b, q, z)) (ht : x_atn at_ = some t) (h0 : 0 ≤ n.toInt) (hm : n.toNatClampNeg = m) (h1 : decide (m ≤ 100000) = true) (hn : pc + len = nx) (hN : sh0.length = N) (hc : ext.length = c) (he : ext ++ [.inr (t, m)] = ext') (hG : t_G N r sh0 gi0 gl0 gr0 ext gi gl gr)
    (kk : ∀ g1 g2 g3, g1 = x_clr gi (N + c) 0 → g2 = x_clr gl (N + c) 0 → g3 = x_clr gr (N + c) .null → t_G N r sh0 gi0 gl0 gr0 ext' g1 g2 g3 → x_Ev X d mi nx lo (.ref (N + c) :: rs) (sh0 ++ ext', g1, g2, g3) P) : x_Ev X d mi pc lo (.int n :: rs) (sh0 ++ ext, gi, gl, gr) P := by
  have hl : (sh0 ++ ext).length = N + c := by rw [List.length_append]; omega
  refine ev_heap F hr rfl ?_ hn (kk _ _ _ rfl rfl rfl (hG.new hN hc he))
  show (match x_atn at_ with | some t => if ¬ n < 0 ∧ n.toNatClampNeg ≤ 100000 then some (Value.ref (sh0 ++ ext).length :: rs, x_new (sh0 ++ ext, gi, gl, gr) (.inr (t, n.toNatClampNeg))) else none | none => none) = _
  rw [ht]; dsimp only
  rw [if_pos ⟨by rw [Int32.lt_iff_toInt_lt]; have : (0 : Int32).toInt = 0 := rfl; omega, by rw [hm]; exact of_decide_eq_true h1⟩, hl, hm]
  unfold x_new; dsimp only
  rw [hl, ← he, List.append_assoc]
theorem ev_putIG {i0 k : Nat} {x : Int32} (F : x_F mi T ml rt) (hr : x_lk T pc = some (.putfield i0, len, a, b, q, z)) (hk : (sh0 ++ ext)[k]? = some (.inl a)) (hb : decide (b < (x_fty a).length) = true) (ht : (x_fty a).getD b .int = .int) (hn : pc + len = nx) (hG : t_G N r sh0 gi0 gl0 gr0 ext (x_up2 gi k b x) gl gr) (kk : ∀ g2, g2 = x_up2 gi k b x → t_G N r sh0 gi0 gl0 gr0 ext g2 gl gr → x_Ev X d mi nx lo rs (sh0 ++ ext, g2, gl, gr) P) : x_Ev X d mi pc lo (.int x :: .ref k :: rs) (sh0 ++ ext, gi, gl, gr) P :=
  ev_putI F hr hk hb ht hn (kk _ rfl hG)
theorem ev_putZG {i0 k : Nat} {x : Int32} (F : x_F mi T ml rt) (hr : x_lk T pc = some (.putfield i0, len, a, b, q, z)) (hk : (sh0 ++ ext)[k]? = some (.inl a)) (hb : decide (b < (x_fty a).length) = true) (ht : (x_fty a).getD b .int = .boolean) (hx : x = 0 ∨ x = 1) (hn : pc + len = nx) (hG : t_G N r sh0 gi0 gl0 gr0 ext (x_up2 gi k b x) gl gr) (kk : ∀ g2, g2 = x_up2 gi k b x → t_G N r sh0 gi0 gl0 gr0 ext g2 gl gr → x_Ev X d mi nx lo rs (sh0 ++ ext, g2, gl, gr) P) : x_Ev X d mi pc lo (.int x :: .ref k :: rs) (sh0 ++ ext, gi, gl, gr) P :=
  ev_putZ F hr hk hb ht hx hn (kk _ rfl hG)
theorem ev_putLG {i0 k : Nat} {x : Int64} (F : x_F mi T ml rt) (hr : x_lk T pc = some (.putfield i0, len, a, b, q, z)) (hk : (sh0 ++ ext)[k]? = some (.inl a)) (hb : decide (b < (x_fty a).length) = true) (ht : (x_fty a).getD b .int = .long) (hn : pc + len = nx) (hG : t_G N r sh0 gi0 gl0 gr0 ext gi (x_up2 gl k b x) gr) (kk : ∀ g2, g2 = x_up2 gl k b x → t_G N r sh0 gi0 gl0 gr0 ext gi g2 gr → x_Ev X d mi nx lo rs (sh0 ++ ext, gi, g2, gr) P) : x_Ev X d mi pc lo (.long x :: .ref k :: rs) (sh0 ++ ext, gi, gl, gr) P :=
  ev_putL F hr hk hb ht hn (kk _ rfl hG)
theorem ev_putRG {i0 k : Nat} {v : Value} (F : x_F mi T ml rt) (hr : x_lk T pc = some (.putfield i0, len, a, b, q, z)) (hk : (sh0 ++ ext)[k]? = some (.inl a)) (hb : decide (b < (x_fty a).length) = true) (ht : x_tyR ((x_fty a).getD b .int) = true) (hv : x_isR v = true) (hn : pc + len = nx) (hG : t_G N r sh0 gi0 gl0 gr0 ext gi gl (x_up2 gr k b v)) (kk : ∀ g2, g2 = x_up2 gr k b v → t_G N r sh0 gi0 gl0 gr0 ext gi gl g2 → x_Ev X d mi nx lo rs (sh0 ++ ext, gi, gl, g2) P) : x_Ev X d mi pc lo (v :: .ref k :: rs) (sh0 ++ ext, gi, gl, gr) P :=
  ev_putR F hr hk hb ht hv hn (kk _ rfl hG)
end TG2
/-- a call that makes things: what there was is as it was, but where it may be written -/
noncomputable def t_PG (wl : List (Nat × Nat)) (mc ms : Nat) (sh : List (Nat ⊕ (Nat × Nat))) (gi : Nat → Nat → Int32) (gl : Nat → Nat → Int64) (gr : Nat → Nat → Value) (Q : Int32 → (Nat → Nat → Int32) → Prop) (v : Option Value) (G' : x_G) : Prop :=
  ∃ ext gi' gl' gr', G' = (sh ++ ext, gi', gl', gr') ∧ t_I (sh ++ ext) gi' gr' ∧ t_H (sh ++ ext) ∧ (∀ k j, k < 102 → t_in wl k j = false → gi' k j = gi k j ∧ gl' k j = gl k j ∧ gr' k j = gr k j) ∧ ext.length ≤ mc ∧ (ext.map x_sz).sum ≤ ms ∧ ∃ x : Int32, v = some (.int x) ∧ Q x gi'
theorem t_inhi {wl : List (Nat × Nat)} {k j : Nat} (h : (wl.all (fun q => decide (102 ≤ q.1))) = true) (hk : k < 102) : t_in wl k j = false := by
  cases hc : t_in wl k j with
  | false => rfl
  | true =>
    exfalso
    obtain ⟨q, hq, hq2⟩ := List.any_eq_true.mp hc
    have h1 := of_decide_eq_true (List.all_eq_true.mp h q hq)
    rw [Bool.and_eq_true, beq_iff_eq] at hq2
    omega
theorem t_cdlo {sh : List (Nat ⊕ (Nat × Nat))} {k : Nat} (h : k < 102) : t_cd sh k = k := if_pos h
theorem t_102 {sh : List (Nat ⊕ (Nat × Nat))} {gr : Nat → Nat → Value} (h : x_WF sh gr) : 102 ≤ sh.length := by
  have h5 : x_sh0[101]? = some (x_sh0[101]'(by rw [t_sh0_len]; decide)) := List.getElem?_eq_getElem _
  have := t_lt (h.s0 h5); omega
theorem t_H_ext {sh ext : List (Nat ⊕ (Nat × Nat))} (h : t_H sh) (he : ∀ i, ext[i]? = some (.inl 6) → i + 5 < ext.length) : t_H (sh ++ ext) := by
  intro k hk
  rw [List.length_append]
  by_cases hk' : k < sh.length
  · rw [List.getElem?_append_left hk'] at hk; have := h k hk; omega
  · rw [List.getElem?_append_right (by omega)] at hk; have := he _ hk; omega
theorem t_mx {x : Int32} (h : 0 ≤ x.toInt) : x_mm 1002 x 0 = x := by
  unfold x_mm
  rw [if_pos rfl, if_neg (by rw [Int32.lt_iff_toInt_lt]; have : (0 : Int32).toInt = 0 := rfl; omega)]
theorem t_in_app {a b : List (Nat × Nat)} {k j : Nat} (h : t_in (a ++ b) k j = false) : t_in a k j = false ∧ t_in b k j = false := by
  unfold t_in at h ⊢
  rw [List.any_append, Bool.or_eq_false_iff] at h
  exact h
theorem t_he {ext : List (Nat ⊕ (Nat × Nat))} (h : (List.range ext.length).all (fun i => match ext[i]? with | some (.inl 6) => decide (i + 5 < ext.length) | _ => true) = true) : ∀ i, ext[i]? = some (.inl 6) → i + 5 < ext.length := by
  intro i hi
  have h1 := List.all_eq_true.mp h i (List.mem_range.mpr (t_lt hi))
  rw [hi] at h1
  exact of_decide_eq_true h1
/-- a call that makes nothing, as one that may -/
theorem t_PG_of {wl wl2 : List (Nat × Nat)} {mc ms : Nat} {sh : List (Nat ⊕ (Nat × Nat))} {gi : Nat → Nat → Int32} {gl : Nat → Nat → Int64} {gr : Nat → Nat → Value} {l u : Int} {Q : Int32 → (Nat → Nat → Int32) → (Nat → Nat → Int64) → (Nat → Nat → Value) → Prop} {Q' : Int32 → (Nat → Nat → Int32) → Prop} {v : Option Value} {G' : x_G} (hH : t_H sh) (h : t_PI wl sh gi gl gr l u Q v G') (hw : ∀ k j, t_in wl2 k j = false → t_in wl k j = false) (hq : ∀ x g1 g2 g3, Q x g1 g2 g3 → (∀ k j, k < 102 → t_in wl k j = false → g1 k j = gi k j) → Q' x g1) : t_PG wl2 mc ms sh gi gl gr Q' v G' := by
  obtain ⟨g1, g2, g3, rfl, k1, k2, x, rfl, -, -, k3⟩ := h
  refine ⟨[], g1, g2, g3, by rw [List.append_nil], by rw [List.append_nil]; exact k1, by rw [List.append_nil]; exact hH, fun k j hk hn => k2.1 k j (by rw [t_cdlo hk]; exact hw k j hn), Nat.zero_le _, Nat.zero_le _, x, rfl, hq _ _ _ _ k3 (fun k j hk hn => (k2.1 k j (by rw [t_cdlo hk]; exact hn)).1)⟩
