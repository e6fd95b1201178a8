/-! ===== runs of the shadow machine, without their length ===== -/
/-- the row at a place, as a walk asks for it -/
noncomputable abbrev x_lk (T : List (Nat × x_Row)) (pc : Nat) : Option x_Row := @List.rec (Nat × x_Row) (fun _ => Option x_Row) none (fun q _ ih => @Bool.rec (fun _ => Option x_Row) ih (some q.2) (Nat.beq q.1 pc)) T
theorem x_lk_eq : ∀ (T : List (Nat × x_Row)) (pc : Nat), x_lk T pc = T.lookup pc
  | [], _ => rfl
  | q :: T, pc => by
    have ih := x_lk_eq T pc
    show @Bool.rec (fun _ => Option x_Row) (x_lk T pc) (some q.2) (Nat.beq q.1 pc) = _
    obtain ⟨k, r⟩ := q
    show @Bool.rec (fun _ => Option x_Row) (x_lk T pc) (some r) (Nat.beq k pc) = _
    rw [List.lookup_cons]
    cases h : Nat.beq k pc with
    | true => rw [Nat.eq_of_beq_eq_true h]; simp
    | false =>
      have hne : ¬ pc = k := fun e => by rw [e, Nat.beq_refl] at h; cases h
      rw [show (pc == k) = false from by simpa using hne]
      exact ih
theorem x_exec_mono {X : x_Ext} : ∀ (n d mi pc : Nat) (lo : x_Lo) (st : List Value) (G : x_G) (r : Option Value × x_G), x_exec X n d mi pc lo st G = some r → x_exec X (n + 1) d mi pc lo st G = some r := by
  intro n
  induction n with
  | zero => intro d mi pc lo st G r h; cases h
  | succ n ih =>
    intro d mi pc lo st G r h
    unfold x_exec at h
    unfold x_exec
    split at h
    · cases h
    · next ins len a b q z hrow =>
      (try rw [hrow]); (try dsimp only)
      split at h
      · next hc =>
        (try rw [hc]); (try dsimp only)
        split at h
        · next hh => (try rw [hh]); exact ih _ _ _ _ _ _ _ h
        · cases h
      · next hc =>
        (try rw [hc]); (try dsimp only)
        split at h
        · next hh => (try rw [hh]); exact ih _ _ _ _ _ _ _ h
        · cases h
      · next hc =>
        (try rw [hc]); (try dsimp only)
        split at h
        · next hh => (try rw [hh]); exact ih _ _ _ _ _ _ _ h
        · cases h
      · next hc =>
        (try rw [hc]); (try dsimp only)
        split at h
        · next hh => (try rw [hh]); exact ih _ _ _ _ _ _ _ h
        · cases h
      · next hc =>
        (try rw [hc]); (try dsimp only)
        split at h
        · next ha =>
          (try rw [if_pos ha])
          split at h
          · split at h
            · next hd => (try rw [if_pos hd]); exact ih _ _ _ _ _ _ _ h
            · cases h
          · cases h
        · next ha =>
          (try rw [if_neg ha])
          split at h
          · next ha1 =>
            (try rw [if_pos ha1])
            split at h
            · split at h
              · next e1 e2 =>
                (try rw [e1, e2]); (try dsimp only)
                split at h
                · next hd => (try rw [if_pos hd]); exact ih _ _ _ _ _ _ _ h
                · cases h
              · cases h
            · cases h
          · next ha1 =>
            (try rw [if_neg ha1])
            split at h
            · next ha2 =>
              (try rw [if_pos ha2])
              split at h
              · split at h
                · next hd => (try rw [if_pos hd]); exact ih _ _ _ _ _ _ _ h
                · cases h
              · cases h
            · next ha2 =>
              (try rw [if_neg ha2])
              split at h
              · next hd =>
                (try rw [if_pos hd])
                split at h
                · next hh =>
                  rw [ih _ _ _ _ _ _ _ hh]; (try dsimp only)
                  exact ih _ _ _ _ _ _ _ h
                · cases h
              · cases h
      · next h0 h1 h2 h3 h4 =>
        first
          | exact h
          | (split at h
             · next hh => (try rw [hh]); exact h
             · cases h)
theorem x_exec_le2 {X : x_Ext} {n m d mi pc : Nat} {lo : x_Lo} {st : List Value} {G : x_G} {r : Option Value × x_G} (h : x_exec X n d mi pc lo st G = some r) (hm : n ≤ m) : x_exec X m d mi pc lo st G = some r := by
  obtain ⟨k, rfl⟩ := Nat.le.dest hm
  clear hm
  induction k with
  | zero => exact h
  | succ k ih => exact x_exec_mono _ _ _ _ _ _ _ _ ih
/-- the run from here comes to an end of which P holds -/
noncomputable def x_Ev (X : x_Ext) (d mi pc : Nat) (lo : x_Lo) (st : List Value) (G : x_G) (P : Option Value → x_G → Prop) : Prop := ∃ (n : Nat) (v : Option Value) (G' : x_G), x_exec X n d mi pc lo st G = some (v, G') ∧ P v G'
/-- a method's table, locals, result -/
noncomputable def x_F (mi : Nat) (T : List (Nat × x_Row)) (ml : Nat) (rt : Option FieldType) : Prop := x_tab mi = T ∧ x_ml mi = ml ∧ x_rt mi = rt
/-- a method, called with these arguments -/
noncomputable def x_Me (X : x_Ext) (d mi : Nat) (as : List Value) (G : x_G) (P : Option Value → x_G → Prop) : Prop := x_words as ≤ x_ml mi ∧ (x_stat mi = true ∨ x_rcv mi G as = true) ∧ x_Ev X d mi 0 (lv_args 0 as) [] G P
section XEV
variable {X : x_Ext} {d mi pc nx a b q len ml : Nat} {z : Int} {ins : Instr} {lo lo' : x_Lo} {st st' : List Value} {G G' : x_G} {P : Option Value → x_G → Prop} {T : List (Nat × x_Row)} {rt : Option FieldType}
theorem x_Ev.mono {P' : Option Value → x_G → Prop} (h : x_Ev X d mi pc lo st G P) (hp : ∀ v G', P v G' → P' v G') : x_Ev X d mi pc lo st G P' := by
  obtain ⟨n, v, G', h1, h2⟩ := h
  exact ⟨n, v, G', h1, hp _ _ h2⟩
theorem x_Me.mono {as : List Value} {P' : Option Value → x_G → Prop} (h : x_Me X d mi as G P) (hp : ∀ v G', P v G' → P' v G') : x_Me X d mi as G P' := ⟨h.1, h.2.1, h.2.2.mono hp⟩
theorem x_Frow (F : x_F mi T ml rt) {row : x_Row} (hr : x_lk T pc = some row) : x_row mi pc = some row := by
  unfold x_row; rw [F.1]; exact (x_lk_eq T pc).symm.trans hr
theorem ev_alu (F : x_F mi T ml rt) (hr : x_lk T pc = some (ins, len, a, b, q, z)) (hc : x_cat ins = 0) (hs : x_alu ins st = some st') (hn : pc + len = nx) (k : x_Ev X d mi nx lo st' G P) : x_Ev X d mi pc lo st G P := by
  obtain ⟨n, v, G', h1, h2⟩ := k
  refine ⟨n + 1, v, G', ?_, h2⟩
  unfold x_exec; rw [x_Frow F hr]; dsimp only
  rw [hc]; (try dsimp only)
  rw [hs, hn]; exact h1
theorem ev_loc (F : x_F mi T ml rt) (hr : x_lk T pc = some (ins, len, a, b, q, z)) (hc : x_cat ins = 1) (hs : x_loc ml ins lo st = some (lo', st')) (hn : pc + len = nx) (k : x_Ev X d mi nx lo' st' G P) : x_Ev X d mi pc lo st G P := by
  obtain ⟨n, v, G', h1, h2⟩ := k
  refine ⟨n + 1, v, G', ?_, h2⟩
  unfold x_exec; rw [x_Frow F hr]; dsimp only
  rw [hc]; (try dsimp only)
  rw [F.2.1, hs, hn]; exact h1
theorem ev_jmp (F : x_F mi T ml rt) (hr : x_lk T pc = some (ins, len, a, b, q, z)) (hc : x_cat ins = 2) (hs : x_br a pc ins st = some (nx, st')) (k : x_Ev X d mi nx lo st' G P) : x_Ev X d mi pc lo st G P := by
  obtain ⟨n, v, G', h1, h2⟩ := k
  refine ⟨n + 1, v, G', ?_, h2⟩
  unfold x_exec; rw [x_Frow F hr]; dsimp only
  rw [hc]; (try dsimp only)
  rw [hs]; exact h1
theorem ev_if {C : Prop} [Decidable C] {t1 t2 : Nat} (F : x_F mi T ml rt) (hr : x_lk T pc = some (ins, len, a, b, q, z)) (hc : x_cat ins = 2) (hs : x_br a pc ins st = some (if C then t1 else t2, st')) (k1 : C → x_Ev X d mi t1 lo st' G P) (k2 : ¬ C → x_Ev X d mi t2 lo st' G P) : x_Ev X d mi pc lo st G P := by
  by_cases h : C
  · exact ev_jmp F hr hc (by rw [hs, if_pos h]) (k1 h)
  · exact ev_jmp F hr hc (by rw [hs, if_neg h]) (k2 h)
theorem ev_heap (F : x_F mi T ml rt) (hr : x_lk T pc = some (ins, len, a, b, q, z)) (hc : x_cat ins = 3) (hs : x_heap X a b z ins st G = some (st', G')) (hn : pc + len = nx) (k : x_Ev X d mi nx lo st' G' P) : x_Ev X d mi pc lo st G P := by
  obtain ⟨n, v, G', h1, h2⟩ := k
  refine ⟨n + 1, v, G', ?_, h2⟩
  unfold x_exec; rw [x_Frow F hr]; dsimp only
  rw [hc]; (try dsimp only)
  rw [hs, hn]; exact h1
theorem ev_ret {v : Option Value} (F : x_F mi T ml rt) (hr : x_lk T pc = some (ins, len, a, b, q, z)) (hc : x_cat ins = 5) (hs : x_ret rt ins st = some v) (k : P v G) : x_Ev X d mi pc lo st G P := by
  refine ⟨1, v, G, ?_, k⟩
  unfold x_exec; rw [x_Frow F hr]; dsimp only
  rw [hc]; (try dsimp only)
  rw [F.2.2, hs]
  rfl
theorem ev_obj {r : List Value} {k0 : Nat} (F : x_F mi T ml rt) (hr : x_lk T pc = some (ins, len, 1000, b, q, z)) (hc : x_cat ins = 4) (hd : 1 ≤ d) (h8 : x_words r ≤ 8) (hn : pc + 3 = nx) (k : x_Ev X d mi nx lo r G P) : x_Ev X d mi pc lo (.ref k0 :: r) G P := by
  obtain ⟨n, v, G', h1, h2⟩ := k
  refine ⟨n + 1, v, G', ?_, h2⟩
  unfold x_exec; rw [x_Frow F hr]; dsimp only
  rw [hc]; (try dsimp only)
  rw [if_pos rfl, if_pos ⟨hd, h8⟩, hn]; exact h1
theorem ev_mm {r : List Value} {x y : Int32} (F : x_F mi T ml rt) (hr : x_lk T pc = some (ins, len, a, b, q, z)) (hc : x_cat ins = 4) (ha : (decide (a = 1002) || decide (a = 1003)) = true) (hd : 1 ≤ d) (h8 : x_words r ≤ 8) (hn : pc + 3 = nx) (k : x_Ev X d mi nx lo (.int (x_mm a x y) :: r) G P) : x_Ev X d mi pc lo (.int y :: .int x :: r) G P := by
  obtain ⟨n, v, G', h1, h2⟩ := k
  refine ⟨n + 1, v, G', ?_, h2⟩
  have ha' : a = 1002 ∨ a = 1003 := by simpa using ha
  unfold x_exec; rw [x_Frow F hr]; dsimp only
  rw [hc]; (try dsimp only)
  rw [if_neg (by omega), if_neg (by omega), if_pos ha', if_pos ⟨hd, h8⟩, hn]; exact h1
/-- a call: what the callee's end says goes on -/
theorem ev_call {PC : Option Value → x_G → Prop} (F : x_F mi T ml rt) (hr : x_lk T pc = some (ins, len, a, b, q, z)) (hc : x_cat ins = 4) (ha : (decide (a < 1000)) = true) (hb : b ≤ st.length) (h8 : x_words (st.drop b) ≤ 8) (hM : x_Me X d a (st.take b).reverse G PC) (hn : pc + 3 = nx)
    (k : ∀ v G1, PC v G1 → x_Ev X (d + 1) mi nx lo (v.toList ++ st.drop b) G1 P) : x_Ev X (d + 1) mi pc lo st G P := by
  obtain ⟨hw, hrc, n1, v1, G1, h1, h2⟩ := hM
  obtain ⟨n2, v, G', h3, h4⟩ := k v1 G1 h2
  refine ⟨max n1 n2 + 1, v, G', ?_, h4⟩
  have ha' : a < 1000 := by simpa using ha
  unfold x_exec; rw [x_Frow F hr]; dsimp only
  rw [hc]; (try dsimp only)
  rw [if_neg (by omega), if_neg (by omega), if_neg (by omega), if_pos ⟨by omega, hb, h8, by rw [← x_words_rev]; exact hw, hrc⟩]
  rw [show d + 1 - 1 = d from rfl, x_exec_le2 h1 (Nat.le_max_left _ _)]; dsimp only
  rw [hn]; exact x_exec_le2 h3 (Nat.le_max_right _ _)
/-- the same locals, told otherwise -/
theorem ev_lo (h : lo = lo') (k : x_Ev X d mi pc lo' st G P) : x_Ev X d mi pc lo st G P := by rw [h]; exact k
end XEV
/-! ===== printed by gen41.py: the cells that stand from the start on ===== -/
noncomputable def x_sh0 : List (Nat ⊕ (Nat × Nat)) := [.inl 10, .inr (4, 4), .inr (2, 900), .inl 4, .inr (1, 6), .inr (1, 6), .inl 3, .inr (0, 6), .inr (0, 6), .inr (0, 6), .inr (0, 6), .inr (3, 6), .inr (0, 6), .inl 3, .inr (0, 6), .inr (0, 6), .inr (0, 6), .inr (0, 6), .inr (3, 6), .inr (5, 3), .inr (6, 3), .inr (0, 1422), .inl 0, .inr (1, 30), .inr (0, 30), .inr (1, 30), .inr (0, 4), .inr (0, 4), .inl 1, .inl 3, .inr (0, 6), .inr (0, 6), .inr (0, 6), .inr (0, 6), .inr (3, 6), .inl 3, .inr (0, 6), .inr (0, 6), .inr (0, 6), .inr (0, 6), .inr (3, 6), .inr (0, 72), .inr (0, 72), .inr (0, 6), .inr (0, 6), .inl 2, .inl 3, .inr (0, 6), .inr (0, 6), .inr (0, 6), .inr (0, 6), .inr (3, 6), .inl 3, .inr (0, 6), .inr (0, 6), .inr (0, 6), .inr (0, 6), .inr (3, 6), .inr (0, 6), .inr (0, 6), .inr (0, 5), .inl 9, .inr (1, 60), .inl 9, .inr (1, 60), .inl 9, .inr (1, 60), .inl 9, .inr (1, 60), .inl 11, .inr (0, 1760), .inr (1, 100), .inr (0, 4), .inr (0, 4), .inr (1, 240), .inr (2, 900), .inr (2, 900), .inr (0, 60), .inr (0, 500), .inr (0, 500), .inr (0, 500), .inr (0, 500), .inr (0, 500), .inr (0, 500), .inr (1, 30), .inr (1, 30), .inr (1, 4), .inr (0, 30), .inr (0, 5), .inr (0, 12), .inr (0, 6), .inr (0, 6), .inr (0, 23716), .inr (0, 100), .inr (0, 100), .inr (0, 100), .inr (0, 100), .inr (0, 100), .inr (0, 100), .inr (3, 6), .inr (3, 60), .inr (0, 5)]
noncomputable def x_fx : List ((Nat × Nat) × Nat) := [((0, 3), 1), ((0, 4), 2), ((0, 10), 19), ((0, 11), 20), ((0, 13), 21), ((0, 15), 22), ((0, 16), 28), ((0, 17), 45), ((1, 0), 61), ((1, 1), 63), ((1, 2), 65), ((1, 3), 67), ((3, 1), 4), ((3, 2), 5), ((3, 7), 6), ((3, 8), 12), ((3, 9), 13), ((6, 1), 7), ((6, 2), 8), ((6, 3), 9), ((6, 4), 10), ((6, 5), 11), ((13, 1), 14), ((13, 2), 15), ((13, 3), 16), ((13, 4), 17), ((13, 5), 18), ((22, 0), 23), ((22, 1), 24), ((22, 2), 25), ((22, 4), 26), ((22, 5), 27), ((28, 2), 29), ((28, 3), 35), ((28, 7), 41), ((28, 9), 42), ((28, 10), 43), ((28, 11), 44), ((29, 1), 30), ((29, 2), 31), ((29, 3), 32), ((29, 4), 33), ((29, 5), 34), ((35, 1), 36), ((35, 2), 37), ((35, 3), 38), ((35, 4), 39), ((35, 5), 40), ((45, 0), 46), ((45, 1), 52), ((45, 2), 58), ((45, 3), 59), ((45, 16), 60), ((46, 1), 47), ((46, 2), 48), ((46, 3), 49), ((46, 4), 50), ((46, 5), 51), ((52, 1), 53), ((52, 2), 54), ((52, 3), 55), ((52, 4), 56), ((52, 5), 57), ((61, 0), 62), ((63, 0), 64), ((65, 0), 66), ((67, 0), 68), ((69, 0), 70), ((69, 1), 71), ((69, 5), 72), ((69, 6), 73), ((69, 7), 74), ((69, 8), 75), ((69, 9), 76), ((69, 21), 77), ((69, 26), 78), ((69, 27), 79), ((69, 28), 80), ((69, 31), 81), ((69, 32), 82), ((69, 33), 83), ((69, 34), 84), ((69, 35), 85), ((69, 36), 86), ((69, 37), 87), ((69, 38), 88), ((69, 41), 89), ((69, 42), 90), ((69, 43), 91), ((69, 47), 92), ((69, 49), 93), ((69, 50), 94), ((69, 51), 95), ((69, 52), 96), ((69, 53), 97), ((69, 54), 98), ((69, 71), 99), ((69, 72), 100), ((69, 73), 101)]
noncomputable def x_fixed (k j : Nat) : Option Nat := x_fx.lookup (k, j)
/-- the world's fixed part is as it was made -/
noncomputable def x_WF (sh : List (Nat ⊕ (Nat × Nat))) (gr : Nat → Nat → Value) : Prop := (∀ (k : Nat) (s : Nat ⊕ (Nat × Nat)), x_sh0[k]? = some s → sh[k]? = some s) ∧ ∀ k j v, x_fixed k j = some v → gr k j = .ref v
/-! the fixed part, looked up in a tree -/
noncomputable def x_tall {α : Type} (f : α → Bool) (t : Lean.RArray α) : Bool := @Lean.RArray.rec α (fun _ => Bool) f (fun _ _ _ l r => l && r) t
theorem x_tall_get {α : Type} {f : α → Bool} : ∀ (t : Lean.RArray α) (n : Nat), x_tall f t = true → f (t.get n) = true
  | .leaf x, _, h => h
  | .branch p l r, n, h => by
    have h2 := (Bool.and_eq_true _ _).mp (show (x_tall f l && x_tall f r) = true from h)
    show f (@Bool.rec (fun _ => α) (l.get n) (r.get n) (Nat.ble p n)) = true
    cases Nat.ble p n with
    | true => exact x_tall_get r n h2.2
    | false => exact x_tall_get l n h2.1
noncomputable abbrev x_bt {α : Type} (t : Lean.RArray (Nat × Option α)) (n : Nat) : Option α := @Bool.rec (fun _ => Option α) none (t.get n).2 (Nat.beq (t.get n).1 n)
theorem x_bt_ok {α : Type} {t : Lean.RArray (Nat × Option α)} {f : Nat × Option α → Bool} (h : x_tall f t = true) {n : Nat} {v : α} (e : x_bt t n = some v) : f (n, some v) = true := by
  have h1 := x_tall_get t n h
  unfold x_bt at e
  cases hb : Nat.beq (t.get n).1 n with
  | false => rw [hb] at e; cases e
  | true =>
    rw [hb] at e
    have e1 : (t.get n).1 = n := Nat.eq_of_beq_eq_true hb
    have e2 : (t.get n).2 = some v := e
    rw [← e1, ← e2]; exact h1
noncomputable def x_sh1T : Lean.RArray (Nat × Option ((Nat ⊕ (Nat × Nat)))) := (.branch 51 (.branch 25 (.branch 12 (.branch 6 (.branch 3 (.branch 1 (.leaf (0, some (.inl 10))) (.branch 2 (.leaf (1, some (.inr (4, 4)))) (.leaf (2, some (.inr (2, 900)))))) (.branch 4 (.leaf (3, some (.inl 4))) (.branch 5 (.leaf (4, some (.inr (1, 6)))) (.leaf (5, some (.inr (1, 6))))))) (.branch 9 (.branch 7 (.leaf (6, some (.inl 3))) (.branch 8 (.leaf (7, some (.inr (0, 6)))) (.leaf (8, some (.inr (0, 6)))))) (.branch 10 (.leaf (9, some (.inr (0, 6)))) (.branch 11 (.leaf (10, some (.inr (0, 6)))) (.leaf (11, some (.inr (3, 6)))))))) (.branch 18 (.branch 15 (.branch 13 (.leaf (12, some (.inr (0, 6)))) (.branch 14 (.leaf (13, some (.inl 3))) (.leaf (14, some (.inr (0, 6)))))) (.branch 16 (.leaf (15, some (.inr (0, 6)))) (.branch 17 (.leaf (16, some (.inr (0, 6)))) (.leaf (17, some (.inr (0, 6))))))) (.branch 21 (.branch 19 (.leaf (18, some (.inr (3, 6)))) (.branch 20 (.leaf (19, some (.inr (5, 3)))) (.leaf (20, some (.inr (6, 3)))))) (.branch 23 (.branch 22 (.leaf (21, some (.inr (0, 1422)))) (.leaf (22, some (.inl 0)))) (.branch 24 (.leaf (23, some (.inr (1, 30)))) (.leaf (24, some (.inr (0, 30))))))))) (.branch 38 (.branch 31 (.branch 28 (.branch 26 (.leaf (25, some (.inr (1, 30)))) (.branch 27 (.leaf (26, some (.inr (0, 4)))) (.leaf (27, some (.inr (0, 4)))))) (.branch 29 (.leaf (28, some (.inl 1))) (.branch 30 (.leaf (29, some (.inl 3))) (.leaf (30, some (.inr (0, 6))))))) (.branch 34 (.branch 32 (.leaf (31, some (.inr (0, 6)))) (.branch 33 (.leaf (32, some (.inr (0, 6)))) (.leaf (33, some (.inr (0, 6)))))) (.branch 36 (.branch 35 (.leaf (34, some (.inr (3, 6)))) (.leaf (35, some (.inl 3)))) (.branch 37 (.leaf (36, some (.inr (0, 6)))) (.leaf (37, some (.inr (0, 6)))))))) (.branch 44 (.branch 41 (.branch 39 (.leaf (38, some (.inr (0, 6)))) (.branch 40 (.leaf (39, some (.inr (0, 6)))) (.leaf (40, some (.inr (3, 6)))))) (.branch 42 (.leaf (41, some (.inr (0, 72)))) (.branch 43 (.leaf (42, some (.inr (0, 72)))) (.leaf (43, some (.inr (0, 6))))))) (.branch 47 (.branch 45 (.leaf (44, some (.inr (0, 6)))) (.branch 46 (.leaf (45, some (.inl 2))) (.leaf (46, some (.inl 3))))) (.branch 49 (.branch 48 (.leaf (47, some (.inr (0, 6)))) (.leaf (48, some (.inr (0, 6))))) (.branch 50 (.leaf (49, some (.inr (0, 6)))) (.leaf (50, some (.inr (0, 6)))))))))) (.branch 76 (.branch 63 (.branch 57 (.branch 54 (.branch 52 (.leaf (51, some (.inr (3, 6)))) (.branch 53 (.leaf (52, some (.inl 3))) (.leaf (53, some (.inr (0, 6)))))) (.branch 55 (.leaf (54, some (.inr (0, 6)))) (.branch 56 (.leaf (55, some (.inr (0, 6)))) (.leaf (56, some (.inr (0, 6))))))) (.branch 60 (.branch 58 (.leaf (57, some (.inr (3, 6)))) (.branch 59 (.leaf (58, some (.inr (0, 6)))) (.leaf (59, some (.inr (0, 6)))))) (.branch 61 (.leaf (60, some (.inr (0, 5)))) (.branch 62 (.leaf (61, some (.inl 9))) (.leaf (62, some (.inr (1, 60)))))))) (.branch 69 (.branch 66 (.branch 64 (.leaf (63, some (.inl 9))) (.branch 65 (.leaf (64, some (.inr (1, 60)))) (.leaf (65, some (.inl 9))))) (.branch 67 (.leaf (66, some (.inr (1, 60)))) (.branch 68 (.leaf (67, some (.inl 9))) (.leaf (68, some (.inr (1, 60))))))) (.branch 72 (.branch 70 (.leaf (69, some (.inl 11))) (.branch 71 (.leaf (70, some (.inr (0, 1760)))) (.leaf (71, some (.inr (1, 100)))))) (.branch 74 (.branch 73 (.leaf (72, some (.inr (0, 4)))) (.leaf (73, some (.inr (0, 4))))) (.branch 75 (.leaf (74, some (.inr (1, 240)))) (.leaf (75, some (.inr (2, 900))))))))) (.branch 89 (.branch 82 (.branch 79 (.branch 77 (.leaf (76, some (.inr (2, 900)))) (.branch 78 (.leaf (77, some (.inr (0, 60)))) (.leaf (78, some (.inr (0, 500)))))) (.branch 80 (.leaf (79, some (.inr (0, 500)))) (.branch 81 (.leaf (80, some (.inr (0, 500)))) (.leaf (81, some (.inr (0, 500))))))) (.branch 85 (.branch 83 (.leaf (82, some (.inr (0, 500)))) (.branch 84 (.leaf (83, some (.inr (0, 500)))) (.leaf (84, some (.inr (1, 30)))))) (.branch 87 (.branch 86 (.leaf (85, some (.inr (1, 30)))) (.leaf (86, some (.inr (1, 4))))) (.branch 88 (.leaf (87, some (.inr (0, 30)))) (.leaf (88, some (.inr (0, 5)))))))) (.branch 95 (.branch 92 (.branch 90 (.leaf (89, some (.inr (0, 12)))) (.branch 91 (.leaf (90, some (.inr (0, 6)))) (.leaf (91, some (.inr (0, 6)))))) (.branch 93 (.leaf (92, some (.inr (0, 23716)))) (.branch 94 (.leaf (93, some (.inr (0, 100)))) (.leaf (94, some (.inr (0, 100))))))) (.branch 98 (.branch 96 (.leaf (95, some (.inr (0, 100)))) (.branch 97 (.leaf (96, some (.inr (0, 100)))) (.leaf (97, some (.inr (0, 100)))))) (.branch 100 (.branch 99 (.leaf (98, some (.inr (0, 100)))) (.leaf (99, some (.inr (3, 6))))) (.branch 101 (.leaf (100, some (.inr (3, 60)))) (.leaf (101, some (.inr (0, 5)))))))))))
noncomputable abbrev x_sh1 (k : Nat) : Option (Nat ⊕ (Nat × Nat)) := x_bt x_sh1T k
theorem x_sh1_ok {k : Nat} {s : Nat ⊕ (Nat × Nat)} (h : x_sh1 k = some s) : x_sh0[k]? = some s :=
  of_decide_eq_true (x_bt_ok (f := fun q => decide (x_sh0[q.1]? = q.2)) (by decide +kernel) h)
noncomputable def x_fx1T : Lean.RArray (Nat × Option (Nat)) := (.branch 5761 (.branch 1667 (.branch 385 (.branch 16 (.branch 11 (.branch 4 (.leaf (3, some 1)) (.branch 10 (.leaf (4, some 2)) (.leaf (10, some 19)))) (.branch 13 (.leaf (11, some 20)) (.branch 15 (.leaf (13, some 21)) (.leaf (15, some 22))))) (.branch 129 (.branch 17 (.leaf (16, some 28)) (.branch 128 (.leaf (17, some 45)) (.leaf (128, some 61)))) (.branch 130 (.leaf (129, some 63)) (.branch 131 (.leaf (130, some 65)) (.leaf (131, some 67)))))) (.branch 770 (.branch 392 (.branch 386 (.leaf (385, some 4)) (.branch 391 (.leaf (386, some 5)) (.leaf (391, some 6)))) (.branch 393 (.leaf (392, some 12)) (.branch 769 (.leaf (393, some 13)) (.leaf (769, some 7))))) (.branch 773 (.branch 771 (.leaf (770, some 8)) (.branch 772 (.leaf (771, some 9)) (.leaf (772, some 10)))) (.branch 1665 (.leaf (773, some 11)) (.branch 1666 (.leaf (1665, some 14)) (.leaf (1666, some 15))))))) (.branch 3594 (.branch 2820 (.branch 2816 (.branch 1668 (.leaf (1667, some 16)) (.branch 1669 (.leaf (1668, some 17)) (.leaf (1669, some 18)))) (.branch 2817 (.leaf (2816, some 23)) (.branch 2818 (.leaf (2817, some 24)) (.leaf (2818, some 25))))) (.branch 3587 (.branch 2821 (.leaf (2820, some 26)) (.branch 3586 (.leaf (2821, some 27)) (.leaf (3586, some 29)))) (.branch 3591 (.leaf (3587, some 35)) (.branch 3593 (.leaf (3591, some 41)) (.leaf (3593, some 42)))))) (.branch 3717 (.branch 3714 (.branch 3595 (.leaf (3594, some 43)) (.branch 3713 (.leaf (3595, some 44)) (.leaf (3713, some 30)))) (.branch 3715 (.leaf (3714, some 31)) (.branch 3716 (.leaf (3715, some 32)) (.leaf (3716, some 33))))) (.branch 4483 (.branch 4481 (.leaf (3717, some 34)) (.branch 4482 (.leaf (4481, some 36)) (.leaf (4482, some 37)))) (.branch 4485 (.branch 4484 (.leaf (4483, some 38)) (.leaf (4484, some 39))) (.branch 5760 (.leaf (4485, some 40)) (.leaf (5760, some 46)))))))) (.branch 8853 (.branch 6660 (.branch 5891 (.branch 5776 (.branch 5762 (.leaf (5761, some 52)) (.branch 5763 (.leaf (5762, some 58)) (.leaf (5763, some 59)))) (.branch 5889 (.leaf (5776, some 60)) (.branch 5890 (.leaf (5889, some 47)) (.leaf (5890, some 48))))) (.branch 6657 (.branch 5892 (.leaf (5891, some 49)) (.branch 5893 (.leaf (5892, some 50)) (.leaf (5893, some 51)))) (.branch 6658 (.leaf (6657, some 53)) (.branch 6659 (.leaf (6658, some 54)) (.leaf (6659, some 55)))))) (.branch 8832 (.branch 8064 (.branch 6661 (.leaf (6660, some 56)) (.branch 7808 (.leaf (6661, some 57)) (.leaf (7808, some 62)))) (.branch 8320 (.leaf (8064, some 64)) (.branch 8576 (.leaf (8320, some 66)) (.leaf (8576, some 68))))) (.branch 8838 (.branch 8833 (.leaf (8832, some 70)) (.branch 8837 (.leaf (8833, some 71)) (.leaf (8837, some 72)))) (.branch 8840 (.branch 8839 (.leaf (8838, some 73)) (.leaf (8839, some 74))) (.branch 8841 (.leaf (8840, some 75)) (.leaf (8841, some 76))))))) (.branch 8873 (.branch 8865 (.branch 8860 (.branch 8858 (.leaf (8853, some 77)) (.branch 8859 (.leaf (8858, some 78)) (.leaf (8859, some 79)))) (.branch 8863 (.leaf (8860, some 80)) (.branch 8864 (.leaf (8863, some 81)) (.leaf (8864, some 82))))) (.branch 8868 (.branch 8866 (.leaf (8865, some 83)) (.branch 8867 (.leaf (8866, some 84)) (.leaf (8867, some 85)))) (.branch 8869 (.leaf (8868, some 86)) (.branch 8870 (.leaf (8869, some 87)) (.leaf (8870, some 88)))))) (.branch 8883 (.branch 8879 (.branch 8874 (.leaf (8873, some 89)) (.branch 8875 (.leaf (8874, some 90)) (.leaf (8875, some 91)))) (.branch 8881 (.leaf (8879, some 92)) (.branch 8882 (.leaf (8881, some 93)) (.leaf (8882, some 94))))) (.branch 8886 (.branch 8884 (.leaf (8883, some 95)) (.branch 8885 (.leaf (8884, some 96)) (.leaf (8885, some 97)))) (.branch 8904 (.branch 8903 (.leaf (8886, some 98)) (.leaf (8903, some 99))) (.branch 8905 (.leaf (8904, some 100)) (.leaf (8905, some 101)))))))))
noncomputable abbrev x_fx1 (k j : Nat) : Option Nat := @Bool.rec (fun _ => Option Nat) none (x_bt x_fx1T (128 * k + j)) (Nat.ble j 127)
theorem x_fx1_ok {k j v : Nat} (h : x_fx1 k j = some v) : x_fixed k j = some v := by
  unfold x_fx1 at h
  cases hb : Nat.ble j 127 with
  | false => rw [hb] at h; cases h
  | true =>
    rw [hb] at h
    have hj : j ≤ 127 := Nat.le_of_ble_eq_true hb
    have h1 := of_decide_eq_true (x_bt_ok (f := fun q => decide (x_fixed (q.1 / 128) (q.1 % 128) = q.2)) (by decide +kernel) h)
    rw [show (128 * k + j) / 128 = k by omega, show (128 * k + j) % 128 = j by omega] at h1
    exact h1
theorem x_WF.s {sh : List (Nat ⊕ (Nat × Nat))} {gr : Nat → Nat → Value} (h : x_WF sh gr) {k : Nat} {s : Nat ⊕ (Nat × Nat)} (hk : x_sh1 k = some s) : sh[k]? = some s := h.1 k s (x_sh1_ok hk)
theorem x_WF.s0 {sh : List (Nat ⊕ (Nat × Nat))} {gr : Nat → Nat → Value} (h : x_WF sh gr) {k : Nat} {s : Nat ⊕ (Nat × Nat)} (hk : x_sh0[k]? = some s) : sh[k]? = some s := h.1 k s hk
theorem x_WF.r0 {sh : List (Nat ⊕ (Nat × Nat))} {gr : Nat → Nat → Value} (h : x_WF sh gr) {k j v : Nat} (hk : x_fixed k j = some v) : gr k j = .ref v := h.2 k j v hk
theorem x_WF.r {sh : List (Nat ⊕ (Nat × Nat))} {gr : Nat → Nat → Value} (h : x_WF sh gr) {k j v : Nat} (hk : x_fx1 k j = some v) : gr k j = .ref v := h.2 k j v (x_fx1_ok hk)
noncomputable def x_tyI : FieldType → Bool | .int | .boolean | .byte | .char | .short => true | _ => false
noncomputable def x_tyR : FieldType → Bool | .object _ | .array _ => true | _ => false
section XEV2
variable {X : x_Ext} {d mi pc nx a b q len ml : Nat} {z : Int} {lo lo' : x_Lo} {r : List Value} {P : Option Value → x_G → Prop} {T : List (Nat × x_Row)} {rt : Option FieldType}
variable {sh : List (Nat ⊕ (Nat × Nat))} {gi : Nat → Nat → Int32} {gl : Nat → Nat → Int64} {gr : Nat → Nat → Value} {k i0 n : Nat} {i : Int32}
theorem ev_getI (F : x_F mi T ml rt) (hr : x_lk T pc = some (.getfield i0, len, a, b, q, z)) (hk : sh[k]? = some (.inl a)) (hb : decide (b < (x_fty a).length) = true) (ht : x_tyI ((x_fty a).getD b .int) = true) (hn : pc + len = nx) (kk : x_Ev X d mi nx lo (.int (gi k b) :: r) (sh, gi, gl, gr) P) : x_Ev X d mi pc lo (.ref k :: r) (sh, gi, gl, gr) P := by
  refine ev_heap F hr rfl ?_ hn kk
  show (if sh[k]? = some (.inl a) ∧ b < (x_fty a).length then _ else none) = _
  rw [if_pos ⟨hk, of_decide_eq_true hb⟩]
  revert ht
  cases (x_fty a).getD b .int <;> intro ht <;> first | rfl | cases ht
theorem ev_getL (F : x_F mi T ml rt) (hr : x_lk T pc = some (.getfield i0, len, a, b, q, z)) (hk : sh[k]? = some (.inl a)) (hb : decide (b < (x_fty a).length) = true) (ht : (x_fty a).getD b .int = .long) (hn : pc + len = nx) (kk : x_Ev X d mi nx lo (.long (gl k b) :: r) (sh, gi, gl, gr) P) : x_Ev X d mi pc lo (.ref k :: r) (sh, gi, gl, gr) P := by
  refine ev_heap F hr rfl ?_ hn kk
  show (if sh[k]? = some (.inl a) ∧ b < (x_fty a).length then _ else none) = _
  rw [if_pos ⟨hk, of_decide_eq_true hb⟩, ht]
  rfl
theorem ev_getR {v : Value} (F : x_F mi T ml rt) (hr : x_lk T pc = some (.getfield i0, len, a, b, q, z)) (hk : sh[k]? = some (.inl a)) (hb : decide (b < (x_fty a).length) = true) (ht : x_tyR ((x_fty a).getD b .int) = true) (hv : gr k b = v) (hv2 : x_isR v = true) (hn : pc + len = nx) (kk : x_Ev X d mi nx lo (v :: r) (sh, gi, gl, gr) P) : x_Ev X d mi pc lo (.ref k :: r) (sh, gi, gl, gr) P := by
  refine ev_heap F hr rfl ?_ hn kk
  show (if sh[k]? = some (.inl a) ∧ b < (x_fty a).length then _ else none) = _
  rw [if_pos ⟨hk, of_decide_eq_true hb⟩]
  have h : x_fv (sh, gi, gl, gr) k b ((x_fty a).getD b .int) = v := by
    revert ht
    cases (x_fty a).getD b .int <;> intro ht <;> first | (cases ht; done) | (show x_nr (gr k b) = v; rw [hv]; exact x_nr_isR hv2)
  rw [h]
theorem ev_putI {x : Int32} (F : x_F mi T ml rt) (hr : x_lk T pc = some (.putfield i0, len, a, b, q, z)) (hk : sh[k]? = some (.inl a)) (hb : decide (b < (x_fty a).length) = true) (ht : (x_fty a).getD b .int = .int) (hn : pc + len = nx) (kk : x_Ev X d mi nx lo r (sh, x_up2 gi k b x, gl, gr) P) : x_Ev X d mi pc lo (.int x :: .ref k :: r) (sh, gi, gl, gr) P := by
  refine ev_heap F hr rfl ?_ hn kk
  show (if sh[k]? = some (.inl a) ∧ b < (x_fty a).length ∧ _ then _ else none) = _
  rw [ht, if_pos ⟨hk, of_decide_eq_true hb, rfl⟩]
  rfl
theorem ev_putZ {x : Int32} (F : x_F mi T ml rt) (hr : x_lk T pc = some (.putfield i0, len, a, b, q, z)) (hk : sh[k]? = some (.inl a)) (hb : decide (b < (x_fty a).length) = true) (ht : (x_fty a).getD b .int = .boolean) (hx : x = 0 ∨ x = 1) (hn : pc + len = nx) (kk : x_Ev X d mi nx lo r (sh, x_up2 gi k b x, gl, gr) P) : x_Ev X d mi pc lo (.int x :: .ref k :: r) (sh, gi, gl, gr) P := by
  refine ev_heap F hr rfl ?_ hn kk
  show (if sh[k]? = some (.inl a) ∧ b < (x_fty a).length ∧ _ then _ else none) = _
  rw [ht, if_pos ⟨hk, of_decide_eq_true hb, by rcases hx with rfl | rfl <;> rfl⟩]
  rfl
theorem ev_putL {x : Int64} (F : x_F mi T ml rt) (hr : x_lk T pc = some (.putfield i0, len, a, b, q, z)) (hk : sh[k]? = some (.inl a)) (hb : decide (b < (x_fty a).length) = true) (ht : (x_fty a).getD b .int = .long) (hn : pc + len = nx) (kk : x_Ev X d mi nx lo r (sh, gi, x_up2 gl k b x, gr) P) : x_Ev X d mi pc lo (.long x :: .ref k :: r) (sh, gi, gl, gr) P := by
  refine ev_heap F hr rfl ?_ hn kk
  show (if sh[k]? = some (.inl a) ∧ b < (x_fty a).length ∧ _ then _ else none) = _
  rw [ht, if_pos ⟨hk, of_decide_eq_true hb, rfl⟩]
  rfl
theorem ev_putR {v : Value} (F : x_F mi T ml rt) (hr : x_lk T pc = some (.putfield i0, len, a, b, q, z)) (hk : sh[k]? = some (.inl a)) (hb : decide (b < (x_fty a).length) = true) (ht : x_tyR ((x_fty a).getD b .int) = true) (hv : x_isR v = true) (hn : pc + len = nx) (kk : x_Ev X d mi nx lo r (sh, gi, gl, x_up2 gr k b v) P) : x_Ev X d mi pc lo (v :: .ref k :: r) (sh, gi, gl, gr) P := by
  refine ev_heap F hr rfl ?_ hn kk
  show (if sh[k]? = some (.inl a) ∧ b < (x_fty a).length ∧ _ then _ else none) = _
  have h : x_fit ((x_fty a).getD b .int) v = true ∧ x_put (sh, gi, gl, gr) k b ((x_fty a).getD b .int) v = (sh, gi, gl, x_up2 gr k b v) := by
    revert ht
    cases (x_fty a).getD b .int <;> intro ht <;> first | (cases ht; done) | exact ⟨hv, rfl⟩
  rw [if_pos ⟨hk, of_decide_eq_true hb, h.1⟩, h.2]
theorem ev_alen (F : x_F mi T ml rt) {t : Nat} (hr : x_lk T pc = some (.arraylength, len, a, b, q, z)) (hk : sh[k]? = some (.inr (t, n))) (ht : decide (t < 7) = true) (hn : pc + len = nx) (kk : x_Ev X d mi nx lo (.int (Int32.ofNat n) :: r) (sh, gi, gl, gr) P) : x_Ev X d mi pc lo (.ref k :: r) (sh, gi, gl, gr) P := by
  refine ev_heap F hr rfl ?_ hn kk
  simp only [x_heap, hk, of_decide_eq_true ht, if_true]
theorem x_ix (h0 : ¬ i < 0) (h1 : i.toNatClampNeg < n) : ¬ (i < 0 ∨ n ≤ i.toNatClampNeg) := fun h => h.elim h0 (fun h => absurd h1 (Nat.not_lt.mpr h))
theorem ev_iald (F : x_F mi T ml rt) (hr : x_lk T pc = some (.iaload, len, a, b, q, z)) (hk : sh[k]? = some (.inr (0, n))) (h0 : ¬ i < 0) (h1 : i.toNatClampNeg < n) (hn : pc + len = nx) (kk : x_Ev X d mi nx lo (.int (gi k i.toNatClampNeg) :: r) (sh, gi, gl, gr) P) : x_Ev X d mi pc lo (.int i :: .ref k :: r) (sh, gi, gl, gr) P := by
  refine ev_heap F hr rfl ?_ hn kk
  simp only [x_heap, x_ldA, hk]
  rw [if_pos ⟨rfl, x_ix h0 h1⟩]; rfl
theorem ev_lald (F : x_F mi T ml rt) (hr : x_lk T pc = some (.laload, len, a, b, q, z)) (hk : sh[k]? = some (.inr (1, n))) (h0 : ¬ i < 0) (h1 : i.toNatClampNeg < n) (hn : pc + len = nx) (kk : x_Ev X d mi nx lo (.long (gl k i.toNatClampNeg) :: r) (sh, gi, gl, gr) P) : x_Ev X d mi pc lo (.int i :: .ref k :: r) (sh, gi, gl, gr) P := by
  refine ev_heap F hr rfl ?_ hn kk
  simp only [x_heap, x_ldA, hk]
  rw [if_pos ⟨rfl, x_ix h0 h1⟩]; rfl
theorem ev_bald (F : x_F mi T ml rt) {t : Nat} (hr : x_lk T pc = some (.baload, len, a, b, q, z)) (hk : sh[k]? = some (.inr (t, n))) (ht : (t == 2 || t == 3) = true) (h0 : ¬ i < 0) (h1 : i.toNatClampNeg < n) (hn : pc + len = nx) (kk : x_Ev X d mi nx lo (.int (gi k i.toNatClampNeg) :: r) (sh, gi, gl, gr) P) : x_Ev X d mi pc lo (.int i :: .ref k :: r) (sh, gi, gl, gr) P := by
  refine ev_heap F hr rfl ?_ hn kk
  simp only [x_heap, x_ldA, hk]
  rw [if_pos ⟨ht, x_ix h0 h1⟩]
  simp only [Bool.or_eq_true, beq_iff_eq] at ht
  rcases ht with rfl | rfl <;> rfl
theorem ev_aald (F : x_F mi T ml rt) {t : Nat} {v : Value} (hr : x_lk T pc = some (.aaload, len, a, b, q, z)) (hk : sh[k]? = some (.inr (t, n))) (ht : (decide (4 ≤ t) && decide (t < 7)) = true) (h0 : ¬ i < 0) (h1 : i.toNatClampNeg < n) (hv : gr k i.toNatClampNeg = v) (hv2 : x_isR v = true) (hn : pc + len = nx) (kk : x_Ev X d mi nx lo (v :: r) (sh, gi, gl, gr) P) : x_Ev X d mi pc lo (.int i :: .ref k :: r) (sh, gi, gl, gr) P := by
  refine ev_heap F hr rfl ?_ hn kk
  simp only [x_heap, x_ldA, hk]
  rw [if_pos ⟨ht, x_ix h0 h1⟩]
  have h : x_fv (sh, gi, gl, gr) k i.toNatClampNeg (x_ety t) = v := by
    simp only [Bool.and_eq_true, decide_eq_true_eq] at ht
    obtain rfl | rfl | rfl : t = 4 ∨ t = 5 ∨ t = 6 := by omega
    all_goals (show x_nr (gr k _) = v; rw [hv]; exact x_nr_isR hv2)
  rw [h]
theorem ev_iast (F : x_F mi T ml rt) {x : Int32} (hr : x_lk T pc = some (.iastore, len, a, b, q, z)) (hk : sh[k]? = some (.inr (0, n))) (h0 : ¬ i < 0) (h1 : i.toNatClampNeg < n) (hn : pc + len = nx) (kk : x_Ev X d mi nx lo r (sh, x_up2 gi k i.toNatClampNeg x, gl, gr) P) : x_Ev X d mi pc lo (.int x :: .int i :: .ref k :: r) (sh, gi, gl, gr) P := by
  refine ev_heap F hr rfl ?_ hn kk
  simp only [x_heap, x_stA, hk]
  rw [if_pos ⟨trivial, x_ix h0 h1⟩]; rfl
theorem ev_last (F : x_F mi T ml rt) {x : Int64} (hr : x_lk T pc = some (.lastore, len, a, b, q, z)) (hk : sh[k]? = some (.inr (1, n))) (h0 : ¬ i < 0) (h1 : i.toNatClampNeg < n) (hn : pc + len = nx) (kk : x_Ev X d mi nx lo r (sh, gi, x_up2 gl k i.toNatClampNeg x, gr) P) : x_Ev X d mi pc lo (.long x :: .int i :: .ref k :: r) (sh, gi, gl, gr) P := by
  refine ev_heap F hr rfl ?_ hn kk
  simp only [x_heap, x_stA, hk]
  rw [if_pos ⟨trivial, x_ix h0 h1⟩]; rfl
theorem ev_bast (F : x_F mi T ml rt) {x : Int32} (hr : x_lk T pc = some (.bastore, len, a, b, q, z)) (hk : sh[k]? = some (.inr (2, n))) (h0 : ¬ i < 0) (h1 : i.toNatClampNeg < n) (hn : pc + len = nx) (kk : x_Ev X d mi nx lo r (sh, x_up2 gi k i.toNatClampNeg x.toInt8.toInt32, gl, gr) P) : x_Ev X d mi pc lo (.int x :: .int i :: .ref k :: r) (sh, gi, gl, gr) P := by
  refine ev_heap F hr rfl ?_ hn kk
  simp only [x_heap, x_aty, x_stA, hk]
  rw [if_pos trivial, if_pos ⟨trivial, x_ix h0 h1⟩]; rfl
theorem ev_zast (F : x_F mi T ml rt) {x : Int32} (hr : x_lk T pc = some (.bastore, len, a, b, q, z)) (hk : sh[k]? = some (.inr (3, n))) (h0 : ¬ i < 0) (h1 : i.toNatClampNeg < n) (hn : pc + len = nx) (kk : x_Ev X d mi nx lo r (sh, x_up2 gi k i.toNatClampNeg (x &&& 1), gl, gr) P) : x_Ev X d mi pc lo (.int x :: .int i :: .ref k :: r) (sh, gi, gl, gr) P := by
  refine ev_heap F hr rfl ?_ hn kk
  simp only [x_heap, x_aty, x_stA, hk]
  rw [if_neg (by decide), if_pos ⟨trivial, x_ix h0 h1⟩]; rfl
theorem ev_ic {n0 : Int} {v : Int32} (F : x_F mi T ml rt) (hr : x_lk T pc = some (.iconst n0, len, a, b, q, z)) (hv : Int32.ofInt n0 = v) (hn : pc + len = nx) (kk : x_Ev X d mi nx lo (.int v :: r) (sh, gi, gl, gr) P) : x_Ev X d mi pc lo r (sh, gi, gl, gr) P := by
  subst hv; exact ev_alu F hr rfl rfl hn kk
theorem ev_bp {n0 : Int} {v : Int32} (F : x_F mi T ml rt) (hr : x_lk T pc = some (.bipush n0, len, a, b, q, z)) (hv : (Int8.ofInt n0).toInt32 = v) (hn : pc + len = nx) (kk : x_Ev X d mi nx lo (.int v :: r) (sh, gi, gl, gr) P) : x_Ev X d mi pc lo r (sh, gi, gl, gr) P := by
  subst hv; exact ev_alu F hr rfl rfl hn kk
theorem ev_sp {n0 : Int} {v : Int32} (F : x_F mi T ml rt) (hr : x_lk T pc = some (.sipush n0, len, a, b, q, z)) (hv : (Int16.ofInt n0).toInt32 = v) (hn : pc + len = nx) (kk : x_Ev X d mi nx lo (.int v :: r) (sh, gi, gl, gr) P) : x_Ev X d mi pc lo r (sh, gi, gl, gr) P := by
  subst hv; exact ev_alu F hr rfl rfl hn kk
theorem ev_lc {n0 : Fin 2} {v : Int64} (F : x_F mi T ml rt) (hr : x_lk T pc = some (.lconst n0, len, a, b, q, z)) (hv : Int64.ofNat (n0 : Nat) = v) (hn : pc + len = nx) (kk : x_Ev X d mi nx lo (.long v :: r) (sh, gi, gl, gr) P) : x_Ev X d mi pc lo r (sh, gi, gl, gr) P := by
  subst hv; exact ev_alu F hr rfl rfl hn kk
theorem ev_ldI {v : Int32} (F : x_F mi T ml rt) (hr : x_lk T pc = some (.ldc i0, len, 0, b, q, z)) (hv : Int32.ofInt z = v) (hn : pc + len = nx) (kk : x_Ev X d mi nx lo (.int v :: r) (sh, gi, gl, gr) P) : x_Ev X d mi pc lo r (sh, gi, gl, gr) P := by
  subst hv; exact ev_heap F hr rfl rfl hn kk
theorem ev_ldW {v : Int32} (F : x_F mi T ml rt) (hr : x_lk T pc = some (.ldc_w i0, len, a, b, q, z)) (hv : Int32.ofInt z = v) (hn : pc + len = nx) (kk : x_Ev X d mi nx lo (.int v :: r) (sh, gi, gl, gr) P) : x_Ev X d mi pc lo r (sh, gi, gl, gr) P := by
  subst hv; exact ev_heap F hr rfl rfl hn kk
theorem ev_ldL {v : Int64} (F : x_F mi T ml rt) (hr : x_lk T pc = some (.ldc2_w i0, len, a, b, q, z)) (hv : Int64.ofInt z = v) (hn : pc + len = nx) (kk : x_Ev X d mi nx lo (.long v :: r) (sh, gi, gl, gr) P) : x_Ev X d mi pc lo r (sh, gi, gl, gr) P := by
  subst hv; exact ev_heap F hr rfl rfl hn kk
theorem ev_inc {n0 : Int} {x c : Int32} {j : Nat} (F : x_F mi T ml rt) (hr : x_lk T pc = some (.iinc j n0, len, a, b, q, z)) (hg : x_get lo j = some (.int x)) (hc : Int32.ofInt n0 = c) (hj : decide (j < ml) = true) (hl : x_set1 lo j (.int (x + c)) = lo') (hn : pc + len = nx) (kk : x_Ev X d mi nx lo' r (sh, gi, gl, gr) P) : x_Ev X d mi pc lo r (sh, gi, gl, gr) P := by
  subst hc; subst hl
  refine ev_loc F hr rfl ?_ hn kk
  simp only [x_loc, hg, of_decide_eq_true hj, if_true]
end XEV2
/-! ===== printed by walk.py: each method's table, locals, result ===== -/
theorem f_X0_init : x_F n_X0_init x_t_X0_init 3 none := ⟨rfl, rfl, rfl⟩
theorem f_X0_lettersOf : x_F n_X0_lettersOf x_t_X0_lettersOf 5 (some .long) := ⟨rfl, rfl, rfl⟩
theorem f_X0_find : x_F n_X0_find x_t_X0_find 6 (some .boolean) := ⟨rfl, rfl, rfl⟩
theorem f_X0_extend : x_F n_X0_extend x_t_X0_extend 6 (some .boolean) := ⟨rfl, rfl, rfl⟩
theorem f_X0_fitsLast : x_F n_X0_fitsLast x_t_X0_fitsLast 6 (some .boolean) := ⟨rfl, rfl, rfl⟩
theorem f_X0_heardInRow : x_F n_X0_heardInRow x_t_X0_heardInRow 2 (some .long) := ⟨rfl, rfl, rfl⟩
theorem f_X0_callTold : x_F n_X0_callTold x_t_X0_callTold 2 (some .long) := ⟨rfl, rfl, rfl⟩
theorem f_X0_blastsTold : x_F n_X0_blastsTold x_t_X0_blastsTold 3 (some .int) := ⟨rfl, rfl, rfl⟩
theorem f_X1_init : x_F n_X1_init x_t_X1_init 1 none := ⟨rfl, rfl, rfl⟩
theorem f_X1_takeAll : x_F n_X1_takeAll x_t_X1_takeAll 2 none := ⟨rfl, rfl, rfl⟩
theorem f_X1_takeShips : x_F n_X1_takeShips x_t_X1_takeShips 7 none := ⟨rfl, rfl, rfl⟩
theorem f_X1_takeCarts : x_F n_X1_takeCarts x_t_X1_takeCarts 4 none := ⟨rfl, rfl, rfl⟩
theorem f_X1_turnEnd : x_F n_X1_turnEnd x_t_X1_turnEnd 2 (some .int) := ⟨rfl, rfl, rfl⟩
theorem f_X1_leastWaits : x_F n_X1_leastWaits x_t_X1_leastWaits 1 (some .int) := ⟨rfl, rfl, rfl⟩
theorem f_X1_canPassWithin : x_F n_X1_canPassWithin x_t_X1_canPassWithin 2 (some .boolean) := ⟨rfl, rfl, rfl⟩
theorem f_X1_allCanPass : x_F n_X1_allCanPass x_t_X1_allCanPass 1 (some .boolean) := ⟨rfl, rfl, rfl⟩
theorem f_X1_canEndWithin : x_F n_X1_canEndWithin x_t_X1_canEndWithin 6 (some .boolean) := ⟨rfl, rfl, rfl⟩
theorem f_X1_search : x_F n_X1_search x_t_X1_search 8 none := ⟨rfl, rfl, rfl⟩
theorem f_X1_canBegin : x_F n_X1_canBegin x_t_X1_canBegin 3 (some .boolean) := ⟨rfl, rfl, rfl⟩
theorem f_X1_waitsOf : x_F n_X1_waitsOf x_t_X1_waitsOf 3 (some .int) := ⟨rfl, rfl, rfl⟩
theorem f_X1_layPlan : x_F n_X1_layPlan x_t_X1_layPlan 7 (some .boolean) := ⟨rfl, rfl, rfl⟩
theorem f_X1_shipMayBegin : x_F n_X1_shipMayBegin x_t_X1_shipMayBegin 6 (some .boolean) := ⟨rfl, rfl, rfl⟩
theorem f_X1_cartMayBegin : x_F n_X1_cartMayBegin x_t_X1_cartMayBegin 6 (some .boolean) := ⟨rfl, rfl, rfl⟩
theorem f_X1_addAct : x_F n_X1_addAct x_t_X1_addAct 4 none := ⟨rfl, rfl, rfl⟩
theorem f_X1_tellPlan : x_F n_X1_tellPlan x_t_X1_tellPlan 1 none := ⟨rfl, rfl, rfl⟩
theorem f_X1_dearestByPlan : x_F n_X1_dearestByPlan x_t_X1_dearestByPlan 6 (some .int) := ⟨rfl, rfl, rfl⟩
theorem f_X1_waitsByNumber : x_F n_X1_waitsByNumber x_t_X1_waitsByNumber 4 (some .int) := ⟨rfl, rfl, rfl⟩
theorem f_X1_openedByPlan : x_F n_X1_openedByPlan x_t_X1_openedByPlan 6 (some .int) := ⟨rfl, rfl, rfl⟩
theorem f_X1_busiestByPlan : x_F n_X1_busiestByPlan x_t_X1_busiestByPlan 5 (some .int) := ⟨rfl, rfl, rfl⟩
theorem f_X1_waitingIn : x_F n_X1_waitingIn x_t_X1_waitingIn 5 (some .int) := ⟨rfl, rfl, rfl⟩
theorem f_X2_init : x_F n_X2_init x_t_X2_init 1 none := ⟨rfl, rfl, rfl⟩
theorem f_X2_spendDay : x_F n_X2_spendDay x_t_X2_spendDay 4 none := ⟨rfl, rfl, rfl⟩
theorem f_X2_comeLater : x_F n_X2_comeLater x_t_X2_comeLater 4 none := ⟨rfl, rfl, rfl⟩
theorem f_X2_delay : x_F n_X2_delay x_t_X2_delay 2 (some .int) := ⟨rfl, rfl, rfl⟩
theorem f_X2_endWhatIsOver : x_F n_X2_endWhatIsOver x_t_X2_endWhatIsOver 1 none := ⟨rfl, rfl, rfl⟩
theorem f_X2_strikeSails : x_F n_X2_strikeSails x_t_X2_strikeSails 3 none := ⟨rfl, rfl, rfl⟩
theorem f_X2_strikeIfDue : x_F n_X2_strikeIfDue x_t_X2_strikeIfDue 2 none := ⟨rfl, rfl, rfl⟩
theorem f_X2_firstShipLeft : x_F n_X2_firstShipLeft x_t_X2_firstShipLeft 2 (some .int) := ⟨rfl, rfl, rfl⟩
theorem f_X2_obey : x_F n_X2_obey x_t_X2_obey 6 none := ⟨rfl, rfl, rfl⟩
theorem f_X2_gatherFacts : x_F n_X2_gatherFacts x_t_X2_gatherFacts 5 none := ⟨rfl, rfl, rfl⟩
theorem f_X2_beginNext : x_F n_X2_beginNext x_t_X2_beginNext 2 none := ⟨rfl, rfl, rfl⟩
theorem f_X2_begin : x_F n_X2_begin x_t_X2_begin 4 none := ⟨rfl, rfl, rfl⟩
theorem f_X2_left : x_F n_X2_left x_t_X2_left 3 (some .int) := ⟨rfl, rfl, rfl⟩
theorem f_X2_tellDay : x_F n_X2_tellDay x_t_X2_tellDay 1 none := ⟨rfl, rfl, rfl⟩
theorem f_X4_init : x_F n_X4_init x_t_X4_init 1 none := ⟨rfl, rfl, rfl⟩
theorem f_X4_clear : x_F n_X4_clear x_t_X4_clear 1 none := ⟨rfl, rfl, rfl⟩
theorem f_X4_join : x_F n_X4_join x_t_X4_join 5 none := ⟨rfl, rfl, rfl⟩
theorem f_X4_put : x_F n_X4_put x_t_X4_put 7 none := ⟨rfl, rfl, rfl⟩
theorem f_X5_init : x_F n_X5_init x_t_X5_init 1 none := ⟨rfl, rfl, rfl⟩
theorem f_X5_turnLength : x_F n_X5_turnLength x_t_X5_turnLength 3 (some .int) := ⟨rfl, rfl, rfl⟩
theorem f_X5_soundOf : x_F n_X5_soundOf x_t_X5_soundOf 7 (some .long) := ⟨rfl, rfl, rfl⟩
theorem f_X5_withEcho : x_F n_X5_withEcho x_t_X5_withEcho 3 (some .long) := ⟨rfl, rfl, rfl⟩
theorem f_X5_heardOf : x_F n_X5_heardOf x_t_X5_heardOf 2 (some .long) := ⟨rfl, rfl, rfl⟩
theorem f_X5_bothHeard : x_F n_X5_bothHeard x_t_X5_bothHeard 4 (some .long) := ⟨rfl, rfl, rfl⟩
theorem f_X5_leastBeats : x_F n_X5_leastBeats x_t_X5_leastBeats 3 (some .int) := ⟨rfl, rfl, rfl⟩
theorem f_X5_countReadings : x_F n_X5_countReadings x_t_X5_countReadings 7 (some .int) := ⟨rfl, rfl, rfl⟩
theorem f_X5_countBeats : x_F n_X5_countBeats x_t_X5_countBeats 7 (some .int) := ⟨rfl, rfl, rfl⟩
theorem f_X5_couplesAlike : x_F n_X5_couplesAlike x_t_X5_couplesAlike 5 (some .int) := ⟨rfl, rfl, rfl⟩
theorem f_X6_init : x_F n_X6_init x_t_X6_init 2 none := ⟨rfl, rfl, rfl⟩
theorem f_X6_readAll : x_F n_X6_readAll x_t_X6_readAll 3 (some .boolean) := ⟨rfl, rfl, rfl⟩
theorem f_X6_readPort : x_F n_X6_readPort x_t_X6_readPort 3 (some .boolean) := ⟨rfl, rfl, rfl⟩
theorem f_X6_readTurns : x_F n_X6_readTurns x_t_X6_readTurns 1 (some .boolean) := ⟨rfl, rfl, rfl⟩
theorem f_X6_readFrost : x_F n_X6_readFrost x_t_X6_readFrost 1 (some .boolean) := ⟨rfl, rfl, rfl⟩
theorem f_X6_readEcho : x_F n_X6_readEcho x_t_X6_readEcho 1 (some .boolean) := ⟨rfl, rfl, rfl⟩
theorem f_X6_readShip : x_F n_X6_readShip x_t_X6_readShip 3 (some .boolean) := ⟨rfl, rfl, rfl⟩
theorem f_X6_readCart : x_F n_X6_readCart x_t_X6_readCart 1 (some .boolean) := ⟨rfl, rfl, rfl⟩
theorem f_X6_readComing : x_F n_X6_readComing x_t_X6_readComing 5 (some .boolean) := ⟨rfl, rfl, rfl⟩
theorem f_X6_takeNewName : x_F n_X6_takeNewName x_t_X6_takeNewName 2 (some .boolean) := ⟨rfl, rfl, rfl⟩
theorem f_X6_portNamed : x_F n_X6_portNamed x_t_X6_portNamed 4 (some .int) := ⟨rfl, rfl, rfl⟩
theorem f_X7_init : x_F n_X7_init x_t_X7_init 3 none := ⟨rfl, rfl, rfl⟩
theorem f_X7_addStep : x_F n_X7_addStep x_t_X7_addStep 4 none := ⟨rfl, rfl, rfl⟩
theorem f_X7_endRule : x_F n_X7_endRule x_t_X7_endRule 2 none := ⟨rfl, rfl, rfl⟩
theorem f_X7_actBy : x_F n_X7_actBy x_t_X7_actBy 4 (some .int) := ⟨rfl, rfl, rfl⟩
theorem f_X7_holds : x_F n_X7_holds x_t_X7_holds 9 (some .boolean) := ⟨rfl, rfl, rfl⟩
theorem f_X7_compares : x_F n_X7_compares x_t_X7_compares 4 (some .boolean) := ⟨rfl, rfl, rfl⟩
theorem f_X8_init : x_F n_X8_init x_t_X8_init 3 none := ⟨rfl, rfl, rfl⟩
theorem f_X8_readAll : x_F n_X8_readAll x_t_X8_readAll 2 (some .boolean) := ⟨rfl, rfl, rfl⟩
theorem f_X8_readRule : x_F n_X8_readRule x_t_X8_readRule 2 (some .boolean) := ⟨rfl, rfl, rfl⟩
theorem f_X8_actTold : x_F n_X8_actTold x_t_X8_actTold 1 (some .int) := ⟨rfl, rfl, rfl⟩
theorem f_X8_readEither : x_F n_X8_readEither x_t_X8_readEither 3 (some .boolean) := ⟨rfl, rfl, rfl⟩
theorem f_X8_readBoth : x_F n_X8_readBoth x_t_X8_readBoth 3 (some .boolean) := ⟨rfl, rfl, rfl⟩
theorem f_X8_readOne : x_F n_X8_readOne x_t_X8_readOne 4 (some .boolean) := ⟨rfl, rfl, rfl⟩
theorem f_X8_readNested : x_F n_X8_readNested x_t_X8_readNested 3 (some .boolean) := ⟨rfl, rfl, rfl⟩
theorem f_X8_factTold : x_F n_X8_factTold x_t_X8_factTold 1 (some .int) := ⟨rfl, rfl, rfl⟩
theorem f_X8_readCase : x_F n_X8_readCase x_t_X8_readCase 3 (some .boolean) := ⟨rfl, rfl, rfl⟩
theorem f_X8_comparesTold : x_F n_X8_comparesTold x_t_X8_comparesTold 1 (some .int) := ⟨rfl, rfl, rfl⟩
theorem f_X9_init : x_F n_X9_init x_t_X9_init 3 none := ⟨rfl, rfl, rfl⟩
theorem f_X9_step : x_F n_X9_step x_t_X9_step 2 none := ⟨rfl, rfl, rfl⟩
theorem f_X9_stepWord : x_F n_X9_stepWord x_t_X9_stepWord 2 none := ⟨rfl, rfl, rfl⟩
theorem f_X9_stepNumber : x_F n_X9_stepNumber x_t_X9_stepNumber 1 none := ⟨rfl, rfl, rfl⟩
theorem f_X9_isSign : x_F n_X9_isSign x_t_X9_isSign 1 (some .boolean) := ⟨rfl, rfl, rfl⟩
theorem f_X9_refuseToken : x_F n_X9_refuseToken x_t_X9_refuseToken 2 (some .boolean) := ⟨rfl, rfl, rfl⟩
theorem f_X9_isName : x_F n_X9_isName x_t_X9_isName 1 (some .boolean) := ⟨rfl, rfl, rfl⟩
theorem f_X9_isBlasts : x_F n_X9_isBlasts x_t_X9_isBlasts 2 (some .boolean) := ⟨rfl, rfl, rfl⟩
theorem f_X9_isSignOf : x_F n_X9_isSignOf x_t_X9_isSignOf 2 (some .boolean) := ⟨rfl, rfl, rfl⟩
theorem f_X9_takeKeyword : x_F n_X9_takeKeyword x_t_X9_takeKeyword 2 (some .boolean) := ⟨rfl, rfl, rfl⟩
theorem f_X9_takeSign : x_F n_X9_takeSign x_t_X9_takeSign 2 (some .boolean) := ⟨rfl, rfl, rfl⟩
theorem f_X9_takeNumber : x_F n_X9_takeNumber x_t_X9_takeNumber 3 (some .boolean) := ⟨rfl, rfl, rfl⟩
theorem f_X10_init : x_F n_X10_init x_t_X10_init 1 none := ⟨rfl, rfl, rfl⟩
theorem f_X10_lay : x_F n_X10_lay x_t_X10_lay 4 none := ⟨rfl, rfl, rfl⟩
theorem f_X10_isMissing : x_F n_X10_isMissing x_t_X10_isMissing 1 (some .boolean) := ⟨rfl, rfl, rfl⟩
theorem f_X10_hasStretch : x_F n_X10_hasStretch x_t_X10_hasStretch 3 (some .boolean) := ⟨rfl, rfl, rfl⟩
theorem f_X10_put : x_F n_X10_put x_t_X10_put 4 none := ⟨rfl, rfl, rfl⟩
theorem f_X11_init : x_F n_X11_init x_t_X11_init 2 none := ⟨rfl, rfl, rfl⟩
theorem f_X11_status : x_F n_X11_status x_t_X11_status 1 (some .int) := ⟨rfl, rfl, rfl⟩
theorem f_X11_top : x_F n_X11_top x_t_X11_top 1 (some .long) := ⟨rfl, rfl, rfl⟩
theorem f_X11_bottom : x_F n_X11_bottom x_t_X11_bottom 1 (some .long) := ⟨rfl, rfl, rfl⟩
theorem f_X11_tray : x_F n_X11_tray x_t_X11_tray 4 (some .boolean) := ⟨rfl, rfl, rfl⟩
theorem f_X11_write : x_F n_X11_write x_t_X11_write 6 (some .boolean) := ⟨rfl, rfl, rfl⟩
theorem f_X11_read : x_F n_X11_read x_t_X11_read 4 (some .long) := ⟨rfl, rfl, rfl⟩
theorem f_X11_pour : x_F n_X11_pour x_t_X11_pour 8 (some .boolean) := ⟨rfl, rfl, rfl⟩
theorem f_X11_isTray : x_F n_X11_isTray x_t_X11_isTray 2 (some .boolean) := ⟨rfl, rfl, rfl⟩
theorem f_X11_wrongPlace : x_F n_X11_wrongPlace x_t_X11_wrongPlace 3 (some .int) := ⟨rfl, rfl, rfl⟩
theorem f_X11_feed : x_F n_X11_feed x_t_X11_feed 6 (some .int) := ⟨rfl, rfl, rfl⟩
theorem f_X11_feedOne : x_F n_X11_feedOne x_t_X11_feedOne 3 none := ⟨rfl, rfl, rfl⟩
theorem f_X11_river : x_F n_X11_river x_t_X11_river 4 (some .int) := ⟨rfl, rfl, rfl⟩
theorem f_X11_rules : x_F n_X11_rules x_t_X11_rules 4 (some .int) := ⟨rfl, rfl, rfl⟩
theorem f_X11_endText : x_F n_X11_endText x_t_X11_endText 2 none := ⟨rfl, rfl, rfl⟩
theorem f_X11_fault : x_F n_X11_fault x_t_X11_fault 2 (some .int) := ⟨rfl, rfl, rfl⟩
theorem f_X11_told : x_F n_X11_told x_t_X11_told 2 (some .int) := ⟨rfl, rfl, rfl⟩
theorem f_X11_ship : x_F n_X11_ship x_t_X11_ship 3 (some .int) := ⟨rfl, rfl, rfl⟩
theorem f_X11_cart : x_F n_X11_cart x_t_X11_cart 3 (some .int) := ⟨rfl, rfl, rfl⟩
theorem f_X11_nextShip : x_F n_X11_nextShip x_t_X11_nextShip 2 (some .int) := ⟨rfl, rfl, rfl⟩
theorem f_X11_nextCart : x_F n_X11_nextCart x_t_X11_nextCart 2 (some .int) := ⟨rfl, rfl, rfl⟩
theorem f_X11_isPort : x_F n_X11_isPort x_t_X11_isPort 2 (some .boolean) := ⟨rfl, rfl, rfl⟩
theorem f_X11_isShip : x_F n_X11_isShip x_t_X11_isShip 2 (some .boolean) := ⟨rfl, rfl, rfl⟩
theorem f_X11_isCart : x_F n_X11_isCart x_t_X11_isCart 2 (some .boolean) := ⟨rfl, rfl, rfl⟩
theorem f_X11_sound : x_F n_X11_sound x_t_X11_sound 2 (some .long) := ⟨rfl, rfl, rfl⟩
theorem f_X11_heard : x_F n_X11_heard x_t_X11_heard 2 (some .long) := ⟨rfl, rfl, rfl⟩
theorem f_X11_together : x_F n_X11_together x_t_X11_together 4 (some .long) := ⟨rfl, rfl, rfl⟩
theorem f_X11_lasts : x_F n_X11_lasts x_t_X11_lasts 2 (some .int) := ⟨rfl, rfl, rfl⟩
theorem f_X11_far : x_F n_X11_far x_t_X11_far 3 (some .int) := ⟨rfl, rfl, rfl⟩
theorem f_X11_readings : x_F n_X11_readings x_t_X11_readings 6 (some .int) := ⟨rfl, rfl, rfl⟩
theorem f_X11_addReading : x_F n_X11_addReading x_t_X11_addReading 4 none := ⟨rfl, rfl, rfl⟩
theorem f_X11_reading : x_F n_X11_reading x_t_X11_reading 3 (some .int) := ⟨rfl, rfl, rfl⟩
theorem f_X11_doubt : x_F n_X11_doubt x_t_X11_doubt 5 (some .boolean) := ⟨rfl, rfl, rfl⟩
theorem f_X11_alike : x_F n_X11_alike x_t_X11_alike 1 (some .int) := ⟨rfl, rfl, rfl⟩
theorem f_X11_code : x_F n_X11_code x_t_X11_code 4 (some .int) := ⟨rfl, rfl, rfl⟩
theorem f_X11_codeAt : x_F n_X11_codeAt x_t_X11_codeAt 2 (some .long) := ⟨rfl, rfl, rfl⟩
theorem f_X11_parts : x_F n_X11_parts x_t_X11_parts 5 (some .int) := ⟨rfl, rfl, rfl⟩
theorem f_X11_clearBeats : x_F n_X11_clearBeats x_t_X11_clearBeats 4 (some .int) := ⟨rfl, rfl, rfl⟩
theorem f_X11_clearEcho : x_F n_X11_clearEcho x_t_X11_clearEcho 2 (some .int) := ⟨rfl, rfl, rfl⟩
theorem f_X11_silent : x_F n_X11_silent x_t_X11_silent 4 (some .int) := ⟨rfl, rfl, rfl⟩
theorem f_X11_least : x_F n_X11_least x_t_X11_least 1 (some .int) := ⟨rfl, rfl, rfl⟩
theorem f_X11_plan : x_F n_X11_plan x_t_X11_plan 1 (some .int) := ⟨rfl, rfl, rfl⟩
theorem f_X11_planAt : x_F n_X11_planAt x_t_X11_planAt 3 (some .int) := ⟨rfl, rfl, rfl⟩
theorem f_X11_worth : x_F n_X11_worth x_t_X11_worth 3 (some .int) := ⟨rfl, rfl, rfl⟩
theorem f_X11_quicker : x_F n_X11_quicker x_t_X11_quicker 2 (some .int) := ⟨rfl, rfl, rfl⟩
theorem f_X11_away : x_F n_X11_away x_t_X11_away 3 (some .int) := ⟨rfl, rfl, rfl⟩
theorem f_X11_later : x_F n_X11_later x_t_X11_later 3 (some .int) := ⟨rfl, rfl, rfl⟩
theorem f_X11_slack : x_F n_X11_slack x_t_X11_slack 4 (some .int) := ⟨rfl, rfl, rfl⟩
theorem f_X11_without : x_F n_X11_without x_t_X11_without 2 (some .int) := ⟨rfl, rfl, rfl⟩
theorem f_X11_dearest : x_F n_X11_dearest x_t_X11_dearest 2 (some .int) := ⟨rfl, rfl, rfl⟩
theorem f_X11_opened : x_F n_X11_opened x_t_X11_opened 1 (some .int) := ⟨rfl, rfl, rfl⟩
theorem f_X11_busiest : x_F n_X11_busiest x_t_X11_busiest 2 (some .int) := ⟨rfl, rfl, rfl⟩
theorem f_X11_leastAsTold : x_F n_X11_leastAsTold x_t_X11_leastAsTold 1 (some .int) := ⟨rfl, rfl, rfl⟩
theorem f_X11_answerWaits : x_F n_X11_answerWaits x_t_X11_answerWaits 2 (some .int) := ⟨rfl, rfl, rfl⟩
theorem f_X11_keep : x_F n_X11_keep x_t_X11_keep 2 (some .int) := ⟨rfl, rfl, rfl⟩
theorem f_X11_kept : x_F n_X11_kept x_t_X11_kept 2 (some .int) := ⟨rfl, rfl, rfl⟩
theorem f_X11_odds : x_F n_X11_odds x_t_X11_odds 6 (some .boolean) := ⟨rfl, rfl, rfl⟩
theorem f_X11_waits : x_F n_X11_waits x_t_X11_waits 6 (some .int) := ⟨rfl, rfl, rfl⟩
theorem f_X11_wrongSeeds : x_F n_X11_wrongSeeds x_t_X11_wrongSeeds 3 (some .int) := ⟨rfl, rfl, rfl⟩
theorem f_X11_mark : x_F n_X11_mark x_t_X11_mark 1 (some .int) := ⟨rfl, rfl, rfl⟩
theorem f_X11_back : x_F n_X11_back x_t_X11_back 1 (some .int) := ⟨rfl, rfl, rfl⟩
theorem f_X11_answer : x_F n_X11_answer x_t_X11_answer 2 (some .int) := ⟨rfl, rfl, rfl⟩
theorem f_X11_answerLong : x_F n_X11_answerLong x_t_X11_answerLong 3 (some .long) := ⟨rfl, rfl, rfl⟩
theorem f_X11_grant : x_F n_X11_grant x_t_X11_grant 1 (some .boolean) := ⟨rfl, rfl, rfl⟩
theorem f_X11_refuse : x_F n_X11_refuse x_t_X11_refuse 2 (some .int) := ⟨rfl, rfl, rfl⟩
theorem f_X11_deny : x_F n_X11_deny x_t_X11_deny 2 (some .boolean) := ⟨rfl, rfl, rfl⟩
theorem f_X11_tellFraction : x_F n_X11_tellFraction x_t_X11_tellFraction 4 none := ⟨rfl, rfl, rfl⟩
theorem f_X11_commonDivisor : x_F n_X11_commonDivisor x_t_X11_commonDivisor 6 (some .int) := ⟨rfl, rfl, rfl⟩
theorem f_X12_init : x_F n_X12_init x_t_X12_init 1 none := ⟨rfl, rfl, rfl⟩
theorem f_X12_status : x_F n_X12_status x_t_X12_status 1 (some .int) := ⟨rfl, rfl, rfl⟩
theorem f_X12_top : x_F n_X12_top x_t_X12_top 1 (some .long) := ⟨rfl, rfl, rfl⟩
theorem f_X12_bottom : x_F n_X12_bottom x_t_X12_bottom 1 (some .long) := ⟨rfl, rfl, rfl⟩
theorem f_X12_is : x_F n_X12_is x_t_X12_is 2 (some .boolean) := ⟨rfl, rfl, rfl⟩
theorem f_X12_refuse : x_F n_X12_refuse x_t_X12_refuse 2 (some .int) := ⟨rfl, rfl, rfl⟩
theorem f_X12_gives : x_F n_X12_gives x_t_X12_gives 2 (some .int) := ⟨rfl, rfl, rfl⟩
theorem f_X12_orNone : x_F n_X12_orNone x_t_X12_orNone 2 (some .int) := ⟨rfl, rfl, rfl⟩
theorem f_X12_givesLong : x_F n_X12_givesLong x_t_X12_givesLong 3 (some .long) := ⟨rfl, rfl, rfl⟩
theorem f_X12_tellsBy : x_F n_X12_tellsBy x_t_X12_tellsBy 11 (some .boolean) := ⟨rfl, rfl, rfl⟩
theorem f_X12_isTray : x_F n_X12_isTray x_t_X12_isTray 1 (some .boolean) := ⟨rfl, rfl, rfl⟩
theorem f_X12_cut : x_F n_X12_cut x_t_X12_cut 3 (some .long) := ⟨rfl, rfl, rfl⟩
theorem f_X12_tray : x_F n_X12_tray x_t_X12_tray 5 (some .boolean) := ⟨rfl, rfl, rfl⟩
theorem f_X12_wrongPlace : x_F n_X12_wrongPlace x_t_X12_wrongPlace 3 (some .int) := ⟨rfl, rfl, rfl⟩
theorem f_X12_write : x_F n_X12_write x_t_X12_write 6 (some .boolean) := ⟨rfl, rfl, rfl⟩
theorem f_X12_read : x_F n_X12_read x_t_X12_read 3 (some .long) := ⟨rfl, rfl, rfl⟩
theorem f_X12_pour : x_F n_X12_pour x_t_X12_pour 8 (some .boolean) := ⟨rfl, rfl, rfl⟩
theorem f_X12_isFrom : x_F n_X12_isFrom x_t_X12_isFrom 6 (some .boolean) := ⟨rfl, rfl, rfl⟩
theorem f_X12_feed : x_F n_X12_feed x_t_X12_feed 6 (some .int) := ⟨rfl, rfl, rfl⟩
theorem f_X12_four : x_F n_X12_four x_t_X12_four 3 none := ⟨rfl, rfl, rfl⟩
theorem f_X12_byteAt : x_F n_X12_byteAt x_t_X12_byteAt 2 (some .int) := ⟨rfl, rfl, rfl⟩
theorem f_X12_isSmall : x_F n_X12_isSmall x_t_X12_isSmall 1 (some .boolean) := ⟨rfl, rfl, rfl⟩
theorem f_X12_isDigit : x_F n_X12_isDigit x_t_X12_isDigit 1 (some .boolean) := ⟨rfl, rfl, rfl⟩
theorem f_X12_ahead : x_F n_X12_ahead x_t_X12_ahead 2 none := ⟨rfl, rfl, rfl⟩
theorem f_X12_isSign : x_F n_X12_isSign x_t_X12_isSign 2 (some .boolean) := ⟨rfl, rfl, rfl⟩
theorem f_X12_inWords : x_F n_X12_inWords x_t_X12_inWords 7 (some .int) := ⟨rfl, rfl, rfl⟩
theorem f_X12_fails : x_F n_X12_fails x_t_X12_fails 2 (some .boolean) := ⟨rfl, rfl, rfl⟩
theorem f_X12_begins : x_F n_X12_begins x_t_X12_begins 4 (some .boolean) := ⟨rfl, rfl, rfl⟩
theorem f_X12_wantSign : x_F n_X12_wantSign x_t_X12_wantSign 2 (some .boolean) := ⟨rfl, rfl, rfl⟩
theorem f_X12_wantWord : x_F n_X12_wantWord x_t_X12_wantWord 3 (some .boolean) := ⟨rfl, rfl, rfl⟩
theorem f_X12_number : x_F n_X12_number x_t_X12_number 4 (some .boolean) := ⟨rfl, rfl, rfl⟩
theorem f_X12_isName : x_F n_X12_isName x_t_X12_isName 2 (some .boolean) := ⟨rfl, rfl, rfl⟩
theorem f_X12_nameHere : x_F n_X12_nameHere x_t_X12_nameHere 4 (some .long) := ⟨rfl, rfl, rfl⟩
theorem f_X12_findHere : x_F n_X12_findHere x_t_X12_findHere 4 (some .int) := ⟨rfl, rfl, rfl⟩
theorem f_X12_fault : x_F n_X12_fault x_t_X12_fault 2 (some .int) := ⟨rfl, rfl, rfl⟩
theorem f_X12_taken : x_F n_X12_taken x_t_X12_taken 2 (some .int) := ⟨rfl, rfl, rfl⟩
theorem f_X12_aNewName : x_F n_X12_aNewName x_t_X12_aNewName 2 (some .boolean) := ⟨rfl, rfl, rfl⟩
theorem f_X12_areBlasts : x_F n_X12_areBlasts x_t_X12_areBlasts 2 (some .boolean) := ⟨rfl, rfl, rfl⟩
theorem f_X12_aPort : x_F n_X12_aPort x_t_X12_aPort 6 (some .boolean) := ⟨rfl, rfl, rfl⟩
theorem f_X12_aShip : x_F n_X12_aShip x_t_X12_aShip 2 (some .boolean) := ⟨rfl, rfl, rfl⟩
theorem f_X12_passes : x_F n_X12_passes x_t_X12_passes 2 (some .boolean) := ⟨rfl, rfl, rfl⟩
theorem f_X12_aCart : x_F n_X12_aCart x_t_X12_aCart 2 (some .boolean) := ⟨rfl, rfl, rfl⟩
theorem f_X12_once : x_F n_X12_once x_t_X12_once 2 (some .boolean) := ⟨rfl, rfl, rfl⟩
theorem f_X12_riverPart : x_F n_X12_riverPart x_t_X12_riverPart 3 (some .boolean) := ⟨rfl, rfl, rfl⟩
theorem f_X12_river : x_F n_X12_river x_t_X12_river 4 (some .int) := ⟨rfl, rfl, rfl⟩
theorem f_X12_asksAlso : x_F n_X12_asksAlso x_t_X12_asksAlso 2 none := ⟨rfl, rfl, rfl⟩
theorem f_X12_isDoing : x_F n_X12_isDoing x_t_X12_isDoing 2 (some .boolean) := ⟨rfl, rfl, rfl⟩
theorem f_X12_does : x_F n_X12_does x_t_X12_does 2 none := ⟨rfl, rfl, rfl⟩
theorem f_X12_joins : x_F n_X12_joins x_t_X12_joins 1 none := ⟨rfl, rfl, rfl⟩
theorem f_X12_turnsRound : x_F n_X12_turnsRound x_t_X12_turnsRound 1 none := ⟨rfl, rfl, rfl⟩
theorem f_X12_isWithin : x_F n_X12_isWithin x_t_X12_isWithin 2 (some .boolean) := ⟨rfl, rfl, rfl⟩
theorem f_X12_aCase : x_F n_X12_aCase x_t_X12_aCase 3 (some .boolean) := ⟨rfl, rfl, rfl⟩
theorem f_X12_aOne : x_F n_X12_aOne x_t_X12_aOne 2 (some .boolean) := ⟨rfl, rfl, rfl⟩
theorem f_X12_conditions : x_F n_X12_conditions x_t_X12_conditions 2 (some .boolean) := ⟨rfl, rfl, rfl⟩
theorem f_X12_aRule : x_F n_X12_aRule x_t_X12_aRule 3 (some .boolean) := ⟨rfl, rfl, rfl⟩
theorem f_X12_rules : x_F n_X12_rules x_t_X12_rules 4 (some .int) := ⟨rfl, rfl, rfl⟩
theorem f_X12_isPort : x_F n_X12_isPort x_t_X12_isPort 2 (some .boolean) := ⟨rfl, rfl, rfl⟩
theorem f_X12_isShip : x_F n_X12_isShip x_t_X12_isShip 2 (some .boolean) := ⟨rfl, rfl, rfl⟩
theorem f_X12_isCart : x_F n_X12_isCart x_t_X12_isCart 2 (some .boolean) := ⟨rfl, rfl, rfl⟩
theorem f_X12_told : x_F n_X12_told x_t_X12_told 2 (some .int) := ⟨rfl, rfl, rfl⟩
theorem f_X12_ship : x_F n_X12_ship x_t_X12_ship 3 (some .int) := ⟨rfl, rfl, rfl⟩
theorem f_X12_cart : x_F n_X12_cart x_t_X12_cart 3 (some .int) := ⟨rfl, rfl, rfl⟩
theorem f_X12_beatsOf : x_F n_X12_beatsOf x_t_X12_beatsOf 9 (some .long) := ⟨rfl, rfl, rfl⟩
theorem f_X12_soundOf : x_F n_X12_soundOf x_t_X12_soundOf 2 (some .long) := ⟨rfl, rfl, rfl⟩
theorem f_X12_echoed : x_F n_X12_echoed x_t_X12_echoed 3 (some .long) := ⟨rfl, rfl, rfl⟩
theorem f_X12_heardOf : x_F n_X12_heardOf x_t_X12_heardOf 2 (some .long) := ⟨rfl, rfl, rfl⟩
theorem f_X12_bits : x_F n_X12_bits x_t_X12_bits 5 (some .int) := ⟨rfl, rfl, rfl⟩
theorem f_X12_sound : x_F n_X12_sound x_t_X12_sound 2 (some .long) := ⟨rfl, rfl, rfl⟩
theorem f_X12_heard : x_F n_X12_heard x_t_X12_heard 2 (some .long) := ⟨rfl, rfl, rfl⟩
theorem f_X12_together : x_F n_X12_together x_t_X12_together 4 (some .long) := ⟨rfl, rfl, rfl⟩
theorem f_X12_lasts : x_F n_X12_lasts x_t_X12_lasts 5 (some .int) := ⟨rfl, rfl, rfl⟩
theorem f_X12_far : x_F n_X12_far x_t_X12_far 3 (some .int) := ⟨rfl, rfl, rfl⟩
theorem f_X12_reads : x_F n_X12_reads x_t_X12_reads 4 none := ⟨rfl, rfl, rfl⟩
theorem f_X12_findsReadings : x_F n_X12_findsReadings x_t_X12_findsReadings 7 none := ⟨rfl, rfl, rfl⟩
theorem f_X12_readings : x_F n_X12_readings x_t_X12_readings 4 (some .int) := ⟨rfl, rfl, rfl⟩
theorem f_X12_reading : x_F n_X12_reading x_t_X12_reading 3 (some .int) := ⟨rfl, rfl, rfl⟩
theorem f_X12_doubt : x_F n_X12_doubt x_t_X12_doubt 6 (some .boolean) := ⟨rfl, rfl, rfl⟩
theorem f_X12_alike : x_F n_X12_alike x_t_X12_alike 1 (some .int) := ⟨rfl, rfl, rfl⟩
theorem f_X12_parts : x_F n_X12_parts x_t_X12_parts 5 (some .int) := ⟨rfl, rfl, rfl⟩
theorem f_X12_clearBeats : x_F n_X12_clearBeats x_t_X12_clearBeats 4 (some .int) := ⟨rfl, rfl, rfl⟩
theorem f_X12_alikeBy : x_F n_X12_alikeBy x_t_X12_alikeBy 5 (some .int) := ⟨rfl, rfl, rfl⟩
theorem f_X12_clearEcho : x_F n_X12_clearEcho x_t_X12_clearEcho 2 (some .int) := ⟨rfl, rfl, rfl⟩
theorem f_X12_silent : x_F n_X12_silent x_t_X12_silent 4 (some .int) := ⟨rfl, rfl, rfl⟩
theorem f_X12_laysCalls : x_F n_X12_laysCalls x_t_X12_laysCalls 9 none := ⟨rfl, rfl, rfl⟩
theorem f_X12_isCode : x_F n_X12_isCode x_t_X12_isCode 5 (some .boolean) := ⟨rfl, rfl, rfl⟩
theorem f_X12_code : x_F n_X12_code x_t_X12_code 7 (some .int) := ⟨rfl, rfl, rfl⟩
theorem f_X12_codeAt : x_F n_X12_codeAt x_t_X12_codeAt 2 (some .long) := ⟨rfl, rfl, rfl⟩
theorem f_X12_tellsMinutes : x_F n_X12_tellsMinutes x_t_X12_tellsMinutes 2 none := ⟨rfl, rfl, rfl⟩
theorem f_X12_orders : x_F n_X12_orders x_t_X12_orders 4 none := ⟨rfl, rfl, rfl⟩
theorem f_X12_nextShip : x_F n_X12_nextShip x_t_X12_nextShip 2 (some .int) := ⟨rfl, rfl, rfl⟩
theorem f_X12_nextCart : x_F n_X12_nextCart x_t_X12_nextCart 2 (some .int) := ⟨rfl, rfl, rfl⟩
theorem f_X12_ofShip : x_F n_X12_ofShip x_t_X12_ofShip 3 (some .int) := ⟨rfl, rfl, rfl⟩
theorem f_X12_ofCart : x_F n_X12_ofCart x_t_X12_ofCart 3 (some .int) := ⟨rfl, rfl, rfl⟩
theorem f_X12_turnTime : x_F n_X12_turnTime x_t_X12_turnTime 3 (some .int) := ⟨rfl, rfl, rfl⟩
theorem f_X12_stateOf : x_F n_X12_stateOf x_t_X12_stateOf 4 (some .int) := ⟨rfl, rfl, rfl⟩
theorem f_X12_leftAt : x_F n_X12_leftAt x_t_X12_leftAt 5 (some .int) := ⟨rfl, rfl, rfl⟩
theorem f_X12_mayShip : x_F n_X12_mayShip x_t_X12_mayShip 4 (some .boolean) := ⟨rfl, rfl, rfl⟩
theorem f_X12_mayCart : x_F n_X12_mayCart x_t_X12_mayCart 4 (some .boolean) := ⟨rfl, rfl, rfl⟩
theorem f_X12_byShip : x_F n_X12_byShip x_t_X12_byShip 5 (some .int) := ⟨rfl, rfl, rfl⟩
theorem f_X12_byCart : x_F n_X12_byCart x_t_X12_byCart 5 (some .int) := ⟨rfl, rfl, rfl⟩
theorem f_X12_reckons : x_F n_X12_reckons x_t_X12_reckons 6 (some .int) := ⟨rfl, rfl, rfl⟩
theorem f_X12_leastBy : x_F n_X12_leastBy x_t_X12_leastBy 3 (some .int) := ⟨rfl, rfl, rfl⟩
theorem f_X12_least : x_F n_X12_least x_t_X12_least 1 (some .int) := ⟨rfl, rfl, rfl⟩
theorem f_X12_acts : x_F n_X12_acts x_t_X12_acts 4 none := ⟨rfl, rfl, rfl⟩
theorem f_X12_plans : x_F n_X12_plans x_t_X12_plans 6 (some .boolean) := ⟨rfl, rfl, rfl⟩
theorem f_X12_plan : x_F n_X12_plan x_t_X12_plan 2 (some .int) := ⟨rfl, rfl, rfl⟩
theorem f_X12_planAt : x_F n_X12_planAt x_t_X12_planAt 3 (some .int) := ⟨rfl, rfl, rfl⟩
theorem f_X12_worth : x_F n_X12_worth x_t_X12_worth 3 (some .int) := ⟨rfl, rfl, rfl⟩
theorem f_X12_quicker : x_F n_X12_quicker x_t_X12_quicker 2 (some .int) := ⟨rfl, rfl, rfl⟩
theorem f_X12_away : x_F n_X12_away x_t_X12_away 3 (some .int) := ⟨rfl, rfl, rfl⟩
theorem f_X12_later : x_F n_X12_later x_t_X12_later 3 (some .int) := ⟨rfl, rfl, rfl⟩
theorem f_X12_laterBy : x_F n_X12_laterBy x_t_X12_laterBy 3 (some .int) := ⟨rfl, rfl, rfl⟩
theorem f_X12_slack : x_F n_X12_slack x_t_X12_slack 6 (some .int) := ⟨rfl, rfl, rfl⟩
theorem f_X12_without : x_F n_X12_without x_t_X12_without 3 (some .int) := ⟨rfl, rfl, rfl⟩
theorem f_X12_cameBy : x_F n_X12_cameBy x_t_X12_cameBy 2 (some .int) := ⟨rfl, rfl, rfl⟩
theorem f_X12_costsBy : x_F n_X12_costsBy x_t_X12_costsBy 2 (some .int) := ⟨rfl, rfl, rfl⟩
theorem f_X12_dearest : x_F n_X12_dearest x_t_X12_dearest 6 (some .int) := ⟨rfl, rfl, rfl⟩
theorem f_X12_opened : x_F n_X12_opened x_t_X12_opened 4 (some .int) := ⟨rfl, rfl, rfl⟩
theorem f_X12_busiest : x_F n_X12_busiest x_t_X12_busiest 6 (some .int) := ⟨rfl, rfl, rfl⟩
theorem f_X12_draw : x_F n_X12_draw x_t_X12_draw 1 (some .int) := ⟨rfl, rfl, rfl⟩
theorem f_X12_waitingShips : x_F n_X12_waitingShips x_t_X12_waitingShips 3 (some .int) := ⟨rfl, rfl, rfl⟩
theorem f_X12_waitingCarts : x_F n_X12_waitingCarts x_t_X12_waitingCarts 3 (some .int) := ⟨rfl, rfl, rfl⟩
theorem f_X12_nextIn : x_F n_X12_nextIn x_t_X12_nextIn 2 (some .int) := ⟨rfl, rfl, rfl⟩
theorem f_X12_asked : x_F n_X12_asked x_t_X12_asked 6 (some .boolean) := ⟨rfl, rfl, rfl⟩
theorem f_X12_holds : x_F n_X12_holds x_t_X12_holds 5 (some .boolean) := ⟨rfl, rfl, rfl⟩
theorem f_X12_actNow : x_F n_X12_actNow x_t_X12_actNow 2 (some .int) := ⟨rfl, rfl, rfl⟩
theorem f_X12_passesOver : x_F n_X12_passesOver x_t_X12_passesOver 1 none := ⟨rfl, rfl, rfl⟩
theorem f_X12_isBusy : x_F n_X12_isBusy x_t_X12_isBusy 1 (some .boolean) := ⟨rfl, rfl, rfl⟩
theorem f_X12_strikes : x_F n_X12_strikes x_t_X12_strikes 3 none := ⟨rfl, rfl, rfl⟩
theorem f_X12_minuteGoes : x_F n_X12_minuteGoes x_t_X12_minuteGoes 2 none := ⟨rfl, rfl, rfl⟩
theorem f_X12_leftOver : x_F n_X12_leftOver x_t_X12_leftOver 3 (some .int) := ⟨rfl, rfl, rfl⟩
theorem f_X12_keeps : x_F n_X12_keeps x_t_X12_keeps 3 none := ⟨rfl, rfl, rfl⟩
theorem f_X12_keep : x_F n_X12_keep x_t_X12_keep 2 (some .int) := ⟨rfl, rfl, rfl⟩
theorem f_X12_kept : x_F n_X12_kept x_t_X12_kept 2 (some .int) := ⟨rfl, rfl, rfl⟩
theorem f_X12_areSeeds : x_F n_X12_areSeeds x_t_X12_areSeeds 3 (some .boolean) := ⟨rfl, rfl, rfl⟩
theorem f_X12_odds : x_F n_X12_odds x_t_X12_odds 5 (some .boolean) := ⟨rfl, rfl, rfl⟩
theorem f_X12_waits : x_F n_X12_waits x_t_X12_waits 5 (some .int) := ⟨rfl, rfl, rfl⟩
theorem f_X12_copies : x_F n_X12_copies x_t_X12_copies 4 none := ⟨rfl, rfl, rfl⟩
theorem f_X12_mark : x_F n_X12_mark x_t_X12_mark 1 (some .int) := ⟨rfl, rfl, rfl⟩
theorem f_X12_back : x_F n_X12_back x_t_X12_back 1 (some .int) := ⟨rfl, rfl, rfl⟩
theorem f_J6_numberOfLeadingZeros_0f7a4 : x_F n_J6_numberOfLeadingZeros_0f7a4 x_t_J6_numberOfLeadingZeros_0f7a4 2 (some .int) := ⟨rfl, rfl, rfl⟩
theorem f_J6_numberOfTrailingZeros_0f7a4 : x_F n_J6_numberOfTrailingZeros_0f7a4 x_t_J6_numberOfTrailingZeros_0f7a4 2 (some .int) := ⟨rfl, rfl, rfl⟩
theorem f_J6_bitCount_0f7a4 : x_F n_J6_bitCount_0f7a4 x_t_J6_bitCount_0f7a4 1 (some .int) := ⟨rfl, rfl, rfl⟩
theorem f_J13_numberOfLeadingZeros_95d88 : x_F n_J13_numberOfLeadingZeros_95d88 x_t_J13_numberOfLeadingZeros_95d88 3 (some .int) := ⟨rfl, rfl, rfl⟩
theorem f_J13_numberOfTrailingZeros_95d88 : x_F n_J13_numberOfTrailingZeros_95d88 x_t_J13_numberOfTrailingZeros_95d88 3 (some .int) := ⟨rfl, rfl, rfl⟩
theorem f_J13_bitCount_95d88 : x_F n_J13_bitCount_95d88 x_t_J13_bitCount_95d88 2 (some .int) := ⟨rfl, rfl, rfl⟩
theorem f_J0_length_8abf5 : x_F n_J0_length_8abf5 x_t_J0_length_8abf5 1 (some .int) := ⟨rfl, rfl, rfl⟩
theorem f_J0_charAt_5068e : x_F n_J0_charAt_5068e x_t_J0_charAt_5068e 2 (some .char) := ⟨rfl, rfl, rfl⟩
theorem f_J0_coder_7d493 : x_F n_J0_coder_7d493 x_t_J0_coder_7d493 1 (some .byte) := ⟨rfl, rfl, rfl⟩
theorem f_J0_isLatin1_aae02 : x_F n_J0_isLatin1_aae02 x_t_J0_isLatin1_aae02 1 (some .boolean) := ⟨rfl, rfl, rfl⟩
theorem f_J0_checkIndex_df160 : x_F n_J0_checkIndex_df160 x_t_J0_checkIndex_df160 2 none := ⟨rfl, rfl, rfl⟩
theorem f_J1_charAt_3b067 : x_F n_J1_charAt_3b067 x_t_J1_charAt_3b067 2 (some .char) := ⟨rfl, rfl, rfl⟩
theorem f_J2_getChar_3b067 : x_F n_J2_getChar_3b067 x_t_J2_getChar_3b067 2 (some .char) := ⟨rfl, rfl, rfl⟩
theorem f_J2_length_9d52b : x_F n_J2_length_9d52b x_t_J2_length_9d52b 1 (some .int) := ⟨rfl, rfl, rfl⟩
theorem f_J2_charAt_3b067 : x_F n_J2_charAt_3b067 x_t_J2_charAt_3b067 2 (some .char) := ⟨rfl, rfl, rfl⟩
theorem f_J2_checkIndex_2214a : x_F n_J2_checkIndex_2214a x_t_J2_checkIndex_2214a 2 none := ⟨rfl, rfl, rfl⟩
theorem f_J3_checkIndex_8e157 : x_F n_J3_checkIndex_8e157 x_t_J3_checkIndex_8e157 3 (some .int) := ⟨rfl, rfl, rfl⟩
theorem f_L_law : x_F n_L_law x_t_L_law 4 (some .boolean) := ⟨rfl, rfl, rfl⟩
/-! ===== small methods of the class ===== -/
section XS1
variable {X : x_Ext} {d mi ml : Nat} {P : Option Value → x_G → Prop} {T : List (Nat × x_Row)} {rt : Option FieldType}
variable {sh : List (Nat ⊕ (Nat × Nat))} {gi : Nat → Nat → Int32} {gl : Nat → Nat → Int64} {gr : Nat → Nat → Value} {k ci : Nat} {as : List Value}
theorem me_i (F : x_F mi T ml rt) (hk : sh[k]? = some (.inl ci)) (hm : x_mci mi = ci) (h12 : decide (ci < 12) = true) (hw : decide (x_words (.ref k :: as) ≤ ml) = true) (h : x_Ev X d mi 0 (lv_args 0 (.ref k :: as)) [] (sh, gi, gl, gr) P) : x_Me X d mi (.ref k :: as) (sh, gi, gl, gr) P := by
  refine ⟨by rw [F.2.1]; exact of_decide_eq_true hw, Or.inr ?_, h⟩
  show (match sh[k]? with | some (.inl ci) => ci == x_mci mi && decide (x_mci mi < 12) | _ => false) = true
  rw [hk, hm]
  simp [of_decide_eq_true h12]
theorem me_s {G : x_G} (F : x_F mi T ml rt) (hs : x_stat mi = true) (hw : decide (x_words as ≤ ml) = true) (h : x_Ev X d mi 0 (lv_args 0 as) [] G P) : x_Me X d mi as G P := ⟨by rw [F.2.1]; exact of_decide_eq_true hw, Or.inl hs, h⟩
theorem s_deny (hW : x_WF sh gr) (w : Int32) : x_Me X d n_X11_deny [.ref 0, .int w] (sh, gi, gl, gr) (fun v G' => v = some (.int 0) ∧ G' = (sh, x_up2 gi 0 0 w, gl, gr)) := by
  refine me_i f_X11_deny (hW.s rfl) rfl rfl rfl ?_
  refine ev_loc f_X11_deny (nx := 1) rfl rfl rfl rfl ?_
  refine ev_loc f_X11_deny (nx := 2) rfl rfl rfl rfl ?_
  refine ev_putI f_X11_deny (nx := 5) rfl (hW.s rfl) rfl rfl rfl ?_
  refine ev_ic f_X11_deny (nx := 6) (v := 0) rfl (by decide) rfl ?_
  refine ev_ret f_X11_deny rfl rfl rfl ?_
  exact ⟨rfl, rfl⟩
theorem s_grant (hW : x_WF sh gr)  : x_Me X d n_X11_grant [.ref 0] (sh, gi, gl, gr) (fun v G' => v = some (.int 1) ∧ G' = (sh, x_up2 gi 0 0 0, gl, gr)) := by
  refine me_i f_X11_grant (hW.s rfl) rfl rfl rfl ?_
  refine ev_loc f_X11_grant (nx := 1) rfl rfl rfl rfl ?_
  refine ev_ic f_X11_grant (nx := 2) (v := 0) rfl (by decide) rfl ?_
  refine ev_putI f_X11_grant (nx := 5) rfl (hW.s rfl) rfl rfl rfl ?_
  refine ev_ic f_X11_grant (nx := 6) (v := 1) rfl (by decide) rfl ?_
  refine ev_ret f_X11_grant rfl rfl rfl ?_
  exact ⟨rfl, rfl⟩
theorem s_refuse (hW : x_WF sh gr) (w : Int32) : x_Me X d n_X11_refuse [.ref 0, .int w] (sh, gi, gl, gr) (fun v G' => v = some (.int (-1)) ∧ G' = (sh, x_up2 gi 0 0 w, gl, gr)) := by
  refine me_i f_X11_refuse (hW.s rfl) rfl rfl rfl ?_
  refine ev_loc f_X11_refuse (nx := 1) rfl rfl rfl rfl ?_
  refine ev_loc f_X11_refuse (nx := 2) rfl rfl rfl rfl ?_
  refine ev_putI f_X11_refuse (nx := 5) rfl (hW.s rfl) rfl rfl rfl ?_
  refine ev_ic f_X11_refuse (nx := 6) (v := -1) rfl (by decide) rfl ?_
  refine ev_ret f_X11_refuse rfl rfl rfl ?_
  exact ⟨rfl, rfl⟩
theorem s_answer (hW : x_WF sh gr) (w : Int32) : x_Me X d n_X11_answer [.ref 0, .int w] (sh, gi, gl, gr) (fun v G' => v = some (.int w) ∧ G' = (sh, x_up2 gi 0 0 0, gl, gr)) := by
  refine me_i f_X11_answer (hW.s rfl) rfl rfl rfl ?_
  refine ev_loc f_X11_answer (nx := 1) rfl rfl rfl rfl ?_
  refine ev_ic f_X11_answer (nx := 2) (v := 0) rfl (by decide) rfl ?_
  refine ev_putI f_X11_answer (nx := 5) rfl (hW.s rfl) rfl rfl rfl ?_
  refine ev_loc f_X11_answer (nx := 6) rfl rfl rfl rfl ?_
  refine ev_ret f_X11_answer rfl rfl rfl ?_
  exact ⟨rfl, rfl⟩
theorem s_answerL (hW : x_WF sh gr) (w : Int64) : x_Me X d n_X11_answerLong [.ref 0, .long w] (sh, gi, gl, gr) (fun v G' => v = some (.long w) ∧ G' = (sh, x_up2 gi 0 0 0, gl, gr)) := by
  refine me_i f_X11_answerLong (hW.s rfl) rfl rfl rfl ?_
  refine ev_loc f_X11_answerLong (nx := 1) rfl rfl rfl rfl ?_
  refine ev_ic f_X11_answerLong (nx := 2) (v := 0) rfl (by decide) rfl ?_
  refine ev_putI f_X11_answerLong (nx := 5) rfl (hW.s rfl) rfl rfl rfl ?_
  refine ev_loc f_X11_answerLong (nx := 6) rfl rfl rfl rfl ?_
  refine ev_ret f_X11_answerLong rfl rfl rfl ?_
  exact ⟨rfl, rfl⟩
theorem s_status (hW : x_WF sh gr)  : x_Me X d n_X11_status [.ref 0] (sh, gi, gl, gr) (fun v G' => v = some (.int (gi 0 0)) ∧ G' = (sh, gi, gl, gr)) := by
  refine me_i f_X11_status (hW.s rfl) rfl rfl rfl ?_
  refine ev_loc f_X11_status (nx := 1) rfl rfl rfl rfl ?_
  refine ev_getI f_X11_status (nx := 4) rfl (hW.s rfl) rfl rfl rfl ?_
  refine ev_ret f_X11_status rfl rfl rfl ?_
  exact ⟨rfl, rfl⟩
theorem s_top (hW : x_WF sh gr)  : x_Me X d n_X11_top [.ref 0] (sh, gi, gl, gr) (fun v G' => v = some (.long (gl 0 1)) ∧ G' = (sh, gi, gl, gr)) := by
  refine me_i f_X11_top (hW.s rfl) rfl rfl rfl ?_
  refine ev_loc f_X11_top (nx := 1) rfl rfl rfl rfl ?_
  refine ev_getL f_X11_top (nx := 4) rfl (hW.s rfl) rfl rfl rfl ?_
  refine ev_ret f_X11_top rfl rfl rfl ?_
  exact ⟨rfl, rfl⟩
theorem s_fault (hW : x_WF sh gr) (w : Int32) : x_Me X d n_X11_fault [.ref 0, .int w] (sh, gi, gl, gr) (fun v G' => v = some (.int (if w = 0 then gi 0 8 else if w = 1 then gi 0 9 else -1)) ∧ G' = (sh, gi, gl, gr)) := by
  refine me_i f_X11_fault (hW.s rfl) rfl rfl rfl ?_
  refine ev_loc f_X11_fault (nx := 1) rfl rfl rfl rfl ?_
  refine ev_if f_X11_fault (t1 := 4) (t2 := 9) rfl rfl rfl (fun h1 => ?_) (fun h1 => ?_)
  · refine ev_loc f_X11_fault (nx := 5) rfl rfl rfl rfl ?_
    refine ev_getI f_X11_fault (nx := 8) rfl (hW.s rfl) rfl rfl rfl ?_
    refine ev_ret f_X11_fault rfl rfl rfl ?_
    simp_all
  · refine ev_loc f_X11_fault (nx := 10) rfl rfl rfl rfl ?_
    refine ev_ic f_X11_fault (nx := 11) (v := 1) rfl (by decide) rfl ?_
    refine ev_if f_X11_fault (t1 := 14) (t2 := 21) rfl rfl rfl (fun h11 => ?_) (fun h11 => ?_)
    · refine ev_loc f_X11_fault (nx := 15) rfl rfl rfl rfl ?_
      refine ev_getI f_X11_fault (nx := 18) rfl (hW.s rfl) rfl rfl rfl ?_
      refine ev_jmp f_X11_fault (nx := 22) rfl rfl rfl ?_
      refine ev_ret f_X11_fault rfl rfl rfl ?_
      simp_all
    · refine ev_ic f_X11_fault (nx := 22) (v := -1) rfl (by decide) rfl ?_
      refine ev_ret f_X11_fault rfl rfl rfl ?_
      simp_all
end XS1
/-! ===== the TRAYS of the class ===== -/
noncomputable def x_zl (gl : Nat → Nat → Int64) (a n : Nat) : Nat → Nat → Int64 := fun p => if p = a then (fun b => if b < n then 0 else gl a b) else gl p
theorem x_zl_0 (gl : Nat → Nat → Int64) (a : Nat) : x_zl gl a 0 = gl := by
  funext p b
  unfold x_zl
  by_cases h : p = a
  · subst h; simp
  · simp [h]
theorem x_zl_s (gl : Nat → Nat → Int64) (a i : Nat) : x_up2 (x_zl gl a i) a i 0 = x_zl gl a (i + 1) := by
  funext p b
  unfold x_zl x_up2
  by_cases h : p = a
  · subst h
    simp only [if_true]
    by_cases hb : b = i
    · subst hb; simp
    · simp only [hb, if_false]
      by_cases hbi : b < i
      · simp [hbi, Nat.lt_succ_of_lt hbi]
      · rw [if_neg hbi, if_neg (by omega)]
  · simp [h]
section XS2
variable {X : x_Ext} {d : Nat}
variable {sh : List (Nat ⊕ (Nat × Nat))} {gi : Nat → Nat → Int32} {gl : Nat → Nat → Int64} {gr : Nat → Nat → Value} {k a : Nat}
theorem l_lay (hk : sh[k]? = some (.inl 9)) (hr : gr k 0 = .ref a) (ha : sh[a]? = some (.inr (1, 60))) (s m : Int32) : ∀ (n i : Nat), i ≤ 60 → 60 < i + n → x_Ev X d n_X10_lay 12 [(3, .int (nI i)), (0, .ref k), (1, .int s), (2, .int m)] [] (sh, gi, x_zl gl a i, gr) (fun v G' => v = none ∧ G' = (sh, gi, x_zl gl a 60, gr)) := by
  intro n
  induction n with
  | zero => intro i h1 h2; omega
  | succ n ih =>
    intro i h1 h2
    refine ev_loc f_X10_lay (nx := 13) rfl rfl rfl rfl ?_
    refine ev_loc f_X10_lay (nx := 14) rfl rfl rfl rfl ?_
    refine ev_getR f_X10_lay (nx := 17) rfl hk rfl rfl hr rfl rfl ?_
    refine ev_alen f_X10_lay (nx := 18) rfl ha rfl rfl ?_
    refine ev_if f_X10_lay (t1 := 34) (t2 := 21) rfl rfl rfl (fun h18 => ?_) (fun h18 => ?_)
    · have e : i = 60 := by
        have := (nI_leI (a := 60) (by omega) (by omega)).mp h18
        omega
      subst e
      exact ev_ret f_X10_lay rfl rfl rfl ⟨rfl, rfl⟩
    · have hi : i < 60 := by
        rcases Nat.lt_or_ge i 60 with q | q
        · exact q
        · exact absurd ((nI_leI (a := 60) (by omega) (by omega)).mpr q) h18
      refine ev_loc f_X10_lay (nx := 22) rfl rfl rfl rfl ?_
      refine ev_getR f_X10_lay (nx := 25) rfl hk rfl rfl hr rfl rfl ?_
      refine ev_loc f_X10_lay (nx := 26) rfl rfl rfl rfl ?_
      refine ev_lc f_X10_lay (nx := 27) (v := 0) rfl (by decide) rfl ?_
      refine ev_last f_X10_lay (nx := 28) rfl ha (nI_pos (by omega)) (by rw [nI_clamp (by omega)]; omega) rfl ?_
      refine ev_inc f_X10_lay (nx := 31) (c := 1) rfl rfl (by decide) rfl rfl rfl ?_
      refine ev_jmp f_X10_lay (nx := 12) rfl rfl rfl ?_
      rw [nI_clamp (by omega), x_zl_s]
      exact ev_lo (congrArg (fun z => [(3, Value.int z), (0, .ref k), (1, .int s), (2, .int m)]) (nI_1 i)) (ih (i + 1) (by omega) (by omega))
theorem s_lay (hk : sh[k]? = some (.inl 9)) (hr : gr k 0 = .ref a) (ha : sh[a]? = some (.inr (1, 60))) (s m : Int32) : x_Me X d n_X10_lay [.ref k, .int s, .int m] (sh, gi, gl, gr) (fun v G' => v = none ∧ G' = (sh, x_up2 (x_up2 gi k 1 s) k 2 m, x_zl gl a 60, gr)) := by
  refine me_i f_X10_lay hk rfl rfl rfl ?_
  refine ev_loc f_X10_lay (nx := 1) rfl rfl rfl rfl ?_
  refine ev_loc f_X10_lay (nx := 2) rfl rfl rfl rfl ?_
  refine ev_putI f_X10_lay (nx := 5) rfl hk rfl rfl rfl ?_
  refine ev_loc f_X10_lay (nx := 6) rfl rfl rfl rfl ?_
  refine ev_loc f_X10_lay (nx := 7) rfl rfl rfl rfl ?_
  refine ev_putI f_X10_lay (nx := 10) rfl hk rfl rfl rfl ?_
  refine ev_ic f_X10_lay (nx := 11) (v := 0) rfl (by decide) rfl ?_
  refine ev_loc f_X10_lay (nx := 12) rfl rfl rfl rfl ?_
  have h := l_lay (X := X) (d := d) (gi := x_up2 (x_up2 gi k 1 s) k 2 m) (gl := gl) hk hr ha s m 61 0 (by omega) (by omega)
  rw [x_zl_0] at h
  exact h
theorem s_isMissing (hk : sh[k]? = some (.inl 9))  : x_Me X d n_X10_isMissing [.ref k] (sh, gi, gl, gr) (fun v G' => v = some (.int (if gi k 2 = -1 then 1 else 0)) ∧ G' = (sh, gi, gl, gr)) := by
  refine me_i f_X10_isMissing hk rfl rfl rfl ?_
  refine ev_loc f_X10_isMissing (nx := 1) rfl rfl rfl rfl ?_
  refine ev_getI f_X10_isMissing (nx := 4) rfl hk rfl rfl rfl ?_
  refine ev_ic f_X10_isMissing (nx := 5) (v := -1) rfl (by decide) rfl ?_
  refine ev_if f_X10_isMissing (t1 := 8) (t2 := 12) rfl rfl rfl (fun h5 => ?_) (fun h5 => ?_)
  · refine ev_ic f_X10_isMissing (nx := 9) (v := 1) rfl (by decide) rfl ?_
    refine ev_jmp f_X10_isMissing (nx := 13) rfl rfl rfl ?_
    refine ev_ret f_X10_isMissing rfl rfl rfl ?_
    exact ⟨by simp_all, rfl⟩
  · refine ev_ic f_X10_isMissing (nx := 13) (v := 0) rfl (by decide) rfl ?_
    refine ev_ret f_X10_isMissing rfl rfl rfl ?_
    exact ⟨by simp_all, rfl⟩
theorem s_hasStretch (hk : sh[k]? = some (.inl 9)) (p n : Int32) : x_Me X d n_X10_hasStretch [.ref k, .int p, .int n] (sh, gi, gl, gr) (fun v G' => v = some (.int (if p ≤ gi k 2 ∧ n ≤ gi k 2 - p then 1 else 0)) ∧ G' = (sh, gi, gl, gr)) := by
  refine me_i f_X10_hasStretch hk rfl rfl rfl ?_
  refine ev_loc f_X10_hasStretch (nx := 1) rfl rfl rfl rfl ?_
  refine ev_loc f_X10_hasStretch (nx := 2) rfl rfl rfl rfl ?_
  refine ev_getI f_X10_hasStretch (nx := 5) rfl hk rfl rfl rfl ?_
  refine ev_if f_X10_hasStretch (t1 := 22) (t2 := 8) rfl rfl rfl (fun h5 => ?_) (fun h5 => ?_)
  · refine ev_ic f_X10_hasStretch (nx := 23) (v := 0) rfl (by decide) rfl ?_
    refine ev_ret f_X10_hasStretch rfl rfl rfl ?_
    refine ⟨?_, rfl⟩
    first
      | (rw [if_pos ⟨Int32.not_lt.mp (by assumption), Int32.not_lt.mp (by assumption)⟩])
      | (rw [if_neg (fun q => absurd (Int32.not_lt.mpr q.1) (by simpa using by assumption))])
      | (rw [if_neg (fun q => absurd (Int32.not_lt.mpr q.2) (by simpa using by assumption))])
  · refine ev_loc f_X10_hasStretch (nx := 9) rfl rfl rfl rfl ?_
    refine ev_loc f_X10_hasStretch (nx := 10) rfl rfl rfl rfl ?_
    refine ev_getI f_X10_hasStretch (nx := 13) rfl hk rfl rfl rfl ?_
    refine ev_loc f_X10_hasStretch (nx := 14) rfl rfl rfl rfl ?_
    refine ev_alu f_X10_hasStretch (nx := 15) rfl rfl rfl rfl ?_
    refine ev_if f_X10_hasStretch (t1 := 22) (t2 := 18) rfl rfl rfl (fun h15 => ?_) (fun h15 => ?_)
    · refine ev_ic f_X10_hasStretch (nx := 23) (v := 0) rfl (by decide) rfl ?_
      refine ev_ret f_X10_hasStretch rfl rfl rfl ?_
      refine ⟨?_, rfl⟩
      first
        | (rw [if_pos ⟨Int32.not_lt.mp (by assumption), Int32.not_lt.mp (by assumption)⟩])
        | (rw [if_neg (fun q => absurd (Int32.not_lt.mpr q.1) (by simpa using by assumption))])
        | (rw [if_neg (fun q => absurd (Int32.not_lt.mpr q.2) (by simpa using by assumption))])
    · refine ev_ic f_X10_hasStretch (nx := 19) (v := 1) rfl (by decide) rfl ?_
      refine ev_jmp f_X10_hasStretch (nx := 23) rfl rfl rfl ?_
      refine ev_ret f_X10_hasStretch rfl rfl rfl ?_
      refine ⟨?_, rfl⟩
      first
        | (rw [if_pos ⟨Int32.not_lt.mp (by assumption), Int32.not_lt.mp (by assumption)⟩])
        | (rw [if_neg (fun q => absurd (Int32.not_lt.mpr q.1) (by simpa using by assumption))])
        | (rw [if_neg (fun q => absurd (Int32.not_lt.mpr q.2) (by simpa using by assumption))])
end XS2
