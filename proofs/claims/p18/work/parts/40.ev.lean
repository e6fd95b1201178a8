/-! ===== runs of the shadow machine, without their length ===== -/
/-- the row at a place, as a walk asks for it -/
noncomputable abbrev x_lk (T : List (Nat × x_Row)) (pc : Nat) : Option x_Row := @List.rec (Nat × x_Row) (fun _ => Option x_Row) none (fun q _ ih => @Bool.rec (fun _ => Option x_Row) ih (some q.2) (Nat.beq q.1 pc)) T
theorem x_lk_eq : ∀ (T : List (Nat × x_Row)) (pc : Nat), x_lk T pc = T.lookup pc
  | [], _ => rfl
  | q :: T, pc => by
    have ih := x_lk_eq T pc
    show @Bool.rec (fun _ => Option x_Row) (x_lk T pc) (some q.2) (Nat.beq q.1 pc) = _
    obtain ⟨k, r⟩ := q
    show @Bool.rec (fun _ => Option x_Row) (x_lk T pc) (some r) (Nat.beq k pc) = _
    rw [List.lookup_cons]
    cases h : Nat.beq k pc with
    | true => rw [Nat.eq_of_beq_eq_true h]; simp
    | false =>
      have hne : ¬ pc = k := fun e => by rw [e, Nat.beq_refl] at h; cases h
      rw [show (pc == k) = false from by simpa using hne]
      exact ih
theorem x_exec_mono {X : x_Ext} : ∀ (n d mi pc : Nat) (lo : x_Lo) (st : List Value) (G : x_G) (r : Option Value × x_G), x_exec X n d mi pc lo st G = some r → x_exec X (n + 1) d mi pc lo st G = some r := by
  intro n
  induction n with
  | zero => intro d mi pc lo st G r h; cases h
  | succ n ih =>
    intro d mi pc lo st G r h
    unfold x_exec at h
    unfold x_exec
    split at h
    · cases h
    · next ins len a b q z hrow =>
      (try rw [hrow]); (try dsimp only)
      split at h
      · next hc =>
        (try rw [hc]); (try dsimp only)
        split at h
        · next hh => (try rw [hh]); exact ih _ _ _ _ _ _ _ h
        · cases h
      · next hc =>
        (try rw [hc]); (try dsimp only)
        split at h
        · next hh => (try rw [hh]); exact ih _ _ _ _ _ _ _ h
        · cases h
      · next hc =>
        (try rw [hc]); (try dsimp only)
        split at h
        · next hh => (try rw [hh]); exact ih _ _ _ _ _ _ _ h
        · cases h
      · next hc =>
        (try rw [hc]); (try dsimp only)
        split at h
        · next hh => (try rw [hh]); exact ih _ _ _ _ _ _ _ h
        · cases h
      · next hc =>
        (try rw [hc]); (try dsimp only)
        split at h
        · next ha =>
          (try rw [if_pos ha])
          split at h
          · split at h
            · next hd => (try rw [if_pos hd]); exact ih _ _ _ _ _ _ _ h
            · cases h
          · cases h
        · next ha =>
          (try rw [if_neg ha])
          split at h
          · next ha1 =>
            (try rw [if_pos ha1])
            split at h
            · split at h
              · next e1 e2 =>
                (try rw [e1, e2]); (try dsimp only)
                split at h
                · next hd => (try rw [if_pos hd]); exact ih _ _ _ _ _ _ _ h
                · cases h
              · cases h
            · cases h
          · next ha1 =>
            (try rw [if_neg ha1])
            split at h
            · next ha2 =>
              (try rw [if_pos ha2])
              split at h
              · split at h
                · next hd => (try rw [if_pos hd]); exact ih _ _ _ _ _ _ _ h
                · cases h
              · cases h
            · next ha2 =>
              (try rw [if_neg ha2])
              split at h
              · next hd =>
                (try rw [if_pos hd])
                split at h
                · next hh =>
                  rw [ih _ _ _ _ _ _ _ hh]; (try dsimp only)
                  exact ih _ _ _ _ _ _ _ h
                · cases h
              · cases h
      · next h0 h1 h2 h3 h4 =>
        first
          | exact h
          | (split at h
             · next hh => (try rw [hh]); exact h
             · cases h)
theorem x_exec_le2 {X : x_Ext} {n m d mi pc : Nat} {lo : x_Lo} {st : List Value} {G : x_G} {r : Option Value × x_G} (h : x_exec X n d mi pc lo st G = some r) (hm : n ≤ m) : x_exec X m d mi pc lo st G = some r := by
  obtain ⟨k, rfl⟩ := Nat.le.dest hm
  clear hm
  induction k with
  | zero => exact h
  | succ k ih => exact x_exec_mono _ _ _ _ _ _ _ _ ih
/-- the run from here comes to an end of which P holds -/
noncomputable def x_Ev (X : x_Ext) (d mi pc : Nat) (lo : x_Lo) (st : List Value) (G : x_G) (P : Option Value → x_G → Prop) : Prop := ∃ (n : Nat) (v : Option Value) (G' : x_G), x_exec X n d mi pc lo st G = some (v, G') ∧ P v G'
/-- a method's table, locals, result -/
noncomputable def x_F (mi : Nat) (T : List (Nat × x_Row)) (ml : Nat) (rt : Option FieldType) : Prop := x_tab mi = T ∧ x_ml mi = ml ∧ x_rt mi = rt
/-- a method, called with these arguments -/
noncomputable def x_Me (X : x_Ext) (d mi : Nat) (as : List Value) (G : x_G) (P : Option Value → x_G → Prop) : Prop := x_words as ≤ x_ml mi ∧ (x_stat mi = true ∨ x_rcv mi G as = true) ∧ x_Ev X d mi 0 (lv_args 0 as) [] G P
section XEV
variable {X : x_Ext} {d mi pc nx a b q len ml : Nat} {z : Int} {ins : Instr} {lo lo' : x_Lo} {st st' : List Value} {G G' : x_G} {P : Option Value → x_G → Prop} {T : List (Nat × x_Row)} {rt : Option FieldType}
theorem x_Ev.mono {P' : Option Value → x_G → Prop} (h : x_Ev X d mi pc lo st G P) (hp : ∀ v G', P v G' → P' v G') : x_Ev X d mi pc lo st G P' := by
  obtain ⟨n, v, G', h1, h2⟩ := h
  exact ⟨n, v, G', h1, hp _ _ h2⟩
theorem x_Me.mono {as : List Value} {P' : Option Value → x_G → Prop} (h : x_Me X d mi as G P) (hp : ∀ v G', P v G' → P' v G') : x_Me X d mi as G P' := ⟨h.1, h.2.1, h.2.2.mono hp⟩
theorem x_Frow (F : x_F mi T ml rt) {row : x_Row} (hr : x_lk T pc = some row) : x_row mi pc = some row := by
  unfold x_row; rw [F.1]; exact (x_lk_eq T pc).symm.trans hr
theorem ev_alu (F : x_F mi T ml rt) (hr : x_lk T pc = some (ins, len, a, b, q, z)) (hc : x_cat ins = 0) (hs : x_alu ins st = some st') (hn : pc + len = nx) (k : x_Ev X d mi nx lo st' G P) : x_Ev X d mi pc lo st G P := by
  obtain ⟨n, v, G', h1, h2⟩ := k
  refine ⟨n + 1, v, G', ?_, h2⟩
  unfold x_exec; rw [x_Frow F hr]; dsimp only
  rw [hc]; (try dsimp only)
  rw [hs, hn]; exact h1
theorem ev_loc (F : x_F mi T ml rt) (hr : x_lk T pc = some (ins, len, a, b, q, z)) (hc : x_cat ins = 1) (hs : x_loc ml ins lo st = some (lo', st')) (hn : pc + len = nx) (k : x_Ev X d mi nx lo' st' G P) : x_Ev X d mi pc lo st G P := by
  obtain ⟨n, v, G', h1, h2⟩ := k
  refine ⟨n + 1, v, G', ?_, h2⟩
  unfold x_exec; rw [x_Frow F hr]; dsimp only
  rw [hc]; (try dsimp only)
  rw [F.2.1, hs, hn]; exact h1
theorem ev_jmp (F : x_F mi T ml rt) (hr : x_lk T pc = some (ins, len, a, b, q, z)) (hc : x_cat ins = 2) (hs : x_br a pc ins st = some (nx, st')) (k : x_Ev X d mi nx lo st' G P) : x_Ev X d mi pc lo st G P := by
  obtain ⟨n, v, G', h1, h2⟩ := k
  refine ⟨n + 1, v, G', ?_, h2⟩
  unfold x_exec; rw [x_Frow F hr]; dsimp only
  rw [hc]; (try dsimp only)
  rw [hs]; exact h1
theorem ev_if {C : Prop} [Decidable C] {t1 t2 : Nat} (F : x_F mi T ml rt) (hr : x_lk T pc = some (ins, len, a, b, q, z)) (hc : x_cat ins = 2) (hs : x_br a pc ins st = some (if C then t1 else t2, st')) (k1 : C → x_Ev X d mi t1 lo st' G P) (k2 : ¬ C → x_Ev X d mi t2 lo st' G P) : x_Ev X d mi pc lo st G P := by
  by_cases h : C
  · exact ev_jmp F hr hc (by rw [hs, if_pos h]) (k1 h)
  · exact ev_jmp F hr hc (by rw [hs, if_neg h]) (k2 h)
theorem ev_heap (F : x_F mi T ml rt) (hr : x_lk T pc = some (ins, len, a, b, q, z)) (hc : x_cat ins = 3) (hs : x_heap X a b z ins st G = some (st', G')) (hn : pc + len = nx) (k : x_Ev X d mi nx lo st' G' P) : x_Ev X d mi pc lo st G P := by
  obtain ⟨n, v, G', h1, h2⟩ := k
  refine ⟨n + 1, v, G', ?_, h2⟩
  unfold x_exec; rw [x_Frow F hr]; dsimp only
  rw [hc]; (try dsimp only)
  rw [hs, hn]; exact h1
theorem ev_ret {v : Option Value} (F : x_F mi T ml rt) (hr : x_lk T pc = some (ins, len, a, b, q, z)) (hc : x_cat ins = 5) (hs : x_ret rt ins st = some v) (k : P v G) : x_Ev X d mi pc lo st G P := by
  refine ⟨1, v, G, ?_, k⟩
  unfold x_exec; rw [x_Frow F hr]; dsimp only
  rw [hc]; (try dsimp only)
  rw [F.2.2, hs]
  rfl
theorem ev_obj {r : List Value} {k0 : Nat} (F : x_F mi T ml rt) (hr : x_lk T pc = some (ins, len, 1000, b, q, z)) (hc : x_cat ins = 4) (hd : 1 ≤ d) (h8 : x_words r ≤ 8) (hn : pc + 3 = nx) (k : x_Ev X d mi nx lo r G P) : x_Ev X d mi pc lo (.ref k0 :: r) G P := by
  obtain ⟨n, v, G', h1, h2⟩ := k
  refine ⟨n + 1, v, G', ?_, h2⟩
  unfold x_exec; rw [x_Frow F hr]; dsimp only
  rw [hc]; (try dsimp only)
  rw [if_pos rfl, if_pos ⟨hd, h8⟩, hn]; exact h1
theorem ev_mm {r : List Value} {x y : Int32} (F : x_F mi T ml rt) (hr : x_lk T pc = some (ins, len, a, b, q, z)) (hc : x_cat ins = 4) (ha : (decide (a = 1002) || decide (a = 1003)) = true) (hd : 1 ≤ d) (h8 : x_words r ≤ 8) (hn : pc + 3 = nx) (k : x_Ev X d mi nx lo (.int (x_mm a x y) :: r) G P) : x_Ev X d mi pc lo (.int y :: .int x :: r) G P := by
  obtain ⟨n, v, G', h1, h2⟩ := k
  refine ⟨n + 1, v, G', ?_, h2⟩
  have ha' : a = 1002 ∨ a = 1003 := by simpa using ha
  unfold x_exec; rw [x_Frow F hr]; dsimp only
  rw [hc]; (try dsimp only)
  rw [if_neg (by omega), if_neg (by omega), if_pos ha', if_pos ⟨hd, h8⟩, hn]; exact h1
/-- a call: what the callee's end says goes on -/
theorem ev_call {PC : Option Value → x_G → Prop} (F : x_F mi T ml rt) (hr : x_lk T pc = some (ins, len, a, b, q, z)) (hc : x_cat ins = 4) (ha : (decide (a < 1000)) = true) (hb : b ≤ st.length) (h8 : x_words (st.drop b) ≤ 8) (hM : x_Me X d a (st.take b).reverse G PC) (hn : pc + 3 = nx)
    (k : ∀ v G1, PC v G1 → x_Ev X (d + 1) mi nx lo (v.toList ++ st.drop b) G1 P) : x_Ev X (d + 1) mi pc lo st G P := by
  obtain ⟨hw, hrc, n1, v1, G1, h1, h2⟩ := hM
  obtain ⟨n2, v, G', h3, h4⟩ := k v1 G1 h2
  refine ⟨max n1 n2 + 1, v, G', ?_, h4⟩
  have ha' : a < 1000 := by simpa using ha
  unfold x_exec; rw [x_Frow F hr]; dsimp only
  rw [hc]; (try dsimp only)
  rw [if_neg (by omega), if_neg (by omega), if_neg (by omega), if_pos ⟨by omega, hb, h8, by rw [← x_words_rev]; exact hw, hrc⟩]
  rw [show d + 1 - 1 = d from rfl, x_exec_le2 h1 (Nat.le_max_left _ _)]; dsimp only
  rw [hn]; exact x_exec_le2 h3 (Nat.le_max_right _ _)
/-- the same locals, told otherwise -/
theorem ev_lo (h : lo = lo') (k : x_Ev X d mi pc lo' st G P) : x_Ev X d mi pc lo st G P := by rw [h]; exact k
end XEV
