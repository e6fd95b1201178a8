/-! ===== a quick machine for closed runs: the world as a tree ===== -/
noncomputable abbrev x_T (α : Type) : Type := Lean.RArray (Option α)
noncomputable abbrev x_Te {α : Type} : x_T α := .leaf none
noncomputable abbrev x_Tn {α : Type} (a b : x_T α) : x_T α := .branch 0 a b
noncomputable def x_tg {α : Type} (d : Nat) : x_T α → Nat → Option α :=
  Nat.rec (fun t _ => match t with | .leaf o => o | .branch _ _ _ => none) (fun _ ih t i => match t with | .branch _ a b => cond (Nat.beq (Nat.mod i 2) 0) (ih a (Nat.div i 2)) (ih b (Nat.div i 2)) | .leaf _ => none) d
noncomputable def x_tp {α β : Type} (d : Nat) : x_T α → Nat → α → (x_T α → β) → β :=
  Nat.rec (fun _ _ v c => c (.leaf (some v))) (fun _ ih t i v c => match t with
    | .branch _ a b => cond (Nat.beq (Nat.mod i 2) 0) (ih a (Nat.div i 2) v (fun a' => c (x_Tn a' b))) (ih b (Nat.div i 2) v (fun b' => c (x_Tn a b')))
    | .leaf _ => cond (Nat.beq (Nat.mod i 2) 0) (ih x_Te (Nat.div i 2) v (fun a' => c (x_Tn a' x_Te))) (ih x_Te (Nat.div i 2) v (fun b' => c (x_Tn x_Te b')))) d
noncomputable def x_ts {α : Type} (d : Nat) (t : x_T α) (i : Nat) (v : α) : x_T α := x_tp d t i v id
theorem x_tg_0 {α : Type} (t : x_T α) (i : Nat) : x_tg 0 t i = match t with | .leaf o => o | .branch _ _ _ => none := rfl
theorem x_tg_s {α : Type} (d : Nat) (t : x_T α) (i : Nat) : x_tg (d + 1) t i = match t with | .branch _ a b => cond (Nat.beq (Nat.mod i 2) 0) (x_tg d a (Nat.div i 2)) (x_tg d b (Nat.div i 2)) | .leaf _ => none := rfl
theorem x_tp_0 {α β : Type} (t : x_T α) (i : Nat) (v : α) (c : x_T α → β) : x_tp 0 t i v c = c (.leaf (some v)) := rfl
theorem x_tp_s {α β : Type} (d : Nat) (t : x_T α) (i : Nat) (v : α) (c : x_T α → β) : x_tp (d + 1) t i v c = match t with
    | .branch _ a b => cond (Nat.beq (Nat.mod i 2) 0) (x_tp d a (Nat.div i 2) v (fun a' => c (x_Tn a' b))) (x_tp d b (Nat.div i 2) v (fun b' => c (x_Tn a b')))
    | .leaf _ => cond (Nat.beq (Nat.mod i 2) 0) (x_tp d x_Te (Nat.div i 2) v (fun a' => c (x_Tn a' x_Te))) (x_tp d x_Te (Nat.div i 2) v (fun b' => c (x_Tn x_Te b'))) := rfl
theorem x_tp_eq' {α : Type} : ∀ (d : Nat) (β : Type) (t : x_T α) (i : Nat) (v : α) (c : x_T α → β), x_tp d t i v c = c (x_ts d t i v) := by
  intro d
  induction d with
  | zero => intro β t i v c; rfl
  | succ d ih =>
    intro β t i v c
    unfold x_ts
    rw [x_tp_s, x_tp_s]
    cases hb : Nat.beq (Nat.mod i 2) 0 <;> cases t <;> simp only [cond, ih, id]
theorem x_tp_eq {α β : Type} (d : Nat) (t : x_T α) (i : Nat) (v : α) (c : x_T α → β) : x_tp d t i v c = c (x_ts d t i v) := x_tp_eq' d β t i v c
theorem x_tg_e {α : Type} (d i : Nat) : x_tg d (x_Te : x_T α) i = none := by cases d <;> rfl
theorem x_ts_s {α : Type} (d : Nat) (t : x_T α) (i : Nat) (v : α) : x_ts (d + 1) t i v = match t with
    | .branch _ a b => cond (Nat.beq (Nat.mod i 2) 0) (x_Tn (x_ts d a (Nat.div i 2) v) b) (x_Tn a (x_ts d b (Nat.div i 2) v))
    | .leaf _ => cond (Nat.beq (Nat.mod i 2) 0) (x_Tn (x_ts d x_Te (Nat.div i 2) v) x_Te) (x_Tn x_Te (x_ts d x_Te (Nat.div i 2) v)) := by
  show x_tp (d + 1) t i v id = _
  rw [x_tp_s]
  cases hb : Nat.beq (Nat.mod i 2) 0 <;> cases t <;> simp only [cond] <;> rw [x_tp_eq] <;> rfl
theorem x_half {i j d : Nat} (hi : i < 2 ^ (d + 1)) : Nat.div i 2 < 2 ^ d := by
  show i / 2 < 2 ^ d
  rw [Nat.pow_succ] at hi
  omega
theorem x_tg_ts {α : Type} : ∀ (d : Nat) (t : x_T α) (i j : Nat) (v : α), i < 2 ^ d → j < 2 ^ d → x_tg d (x_ts d t i v) j = if j = i then some v else x_tg d t j := by
  intro d
  induction d with
  | zero =>
    intro t i j v hi hj
    have : j = i := by simp at hi hj; omega
    rw [if_pos this]; rfl
  | succ d ih =>
    intro t i j v hi hj
    have hi2 := x_half (j := 0) hi
    have hj2 := x_half (j := 0) hj
    rw [x_ts_s, x_tg_s, x_tg_s]
    have key : ∀ (x y : Nat), Nat.mod x 2 = Nat.mod y 2 → Nat.div x 2 = Nat.div y 2 → x = y := by
      intro x y h1 h2
      have h1 : x % 2 = y % 2 := h1
      have h2 : x / 2 = y / 2 := h2
      omega
    have m2 : ∀ x : Nat, Nat.beq (Nat.mod x 2) 0 = true ↔ x % 2 = 0 := fun x => ⟨fun h => Nat.eq_of_beq_eq_true h, fun h => by show Nat.beq (x % 2) 0 = true; rw [h]; rfl⟩
    have eqd : ∀ x y : Nat, (Nat.div x 2 = Nat.div y 2) = (x / 2 = y / 2) := fun _ _ => rfl
    cases hb : Nat.beq (Nat.mod i 2) 0 <;> cases hc : Nat.beq (Nat.mod j 2) 0
    all_goals
      have hb' := m2 i; have hc' := m2 j; rw [hb] at hb'; rw [hc] at hc'
      cases t <;> simp only [cond] <;> (try rw [ih _ _ _ _ hi2 hj2]) <;> (try rw [x_tg_e]) <;> (try simp only [eqd])
    all_goals
      simp at hb' hc'
      first
        | (rw [if_neg (by omega)])
        | (by_cases hji : j = i
           · rw [if_pos hji, if_pos (by omega)]
           · rw [if_neg hji, if_neg (by omega)])
noncomputable def x_sqN {β : Type} (n : Nat) (c : Nat → β) : β := Nat.rec (c 0) (fun m _ => c (Nat.succ m)) n
theorem x_sqN_eq {β : Type} (n : Nat) (c : Nat → β) : x_sqN n c = c n := by cases n <;> rfl
/-- the top of the stack is worked out -/
noncomputable def x_sq {β : Type} (st : List Value) (c : List Value → β) : β := match st with
  | .int x :: r => x_sqN x.toUInt32.toBitVec.toNat (fun m => c (.int ⟨⟨BitVec.ofNat 32 m⟩⟩ :: r))
  | .long x :: r => x_sqN x.toUInt64.toBitVec.toNat (fun m => c (.long ⟨⟨BitVec.ofNat 64 m⟩⟩ :: r))
  | s => c s
theorem x_sq_eq {β : Type} (st : List Value) (c : List Value → β) : x_sq st c = c st := by
  unfold x_sq
  split
  · rw [x_sqN_eq, BitVec.ofNat_toNat, BitVec.setWidth_eq]
  · rw [x_sqN_eq, BitVec.ofNat_toNat, BitVec.setWidth_eq]
  · rfl
/-- the rows of a table stand one behind the other -/
noncomputable def x_ct : Nat → List (Nat × x_Row) → Bool
  | _, [] => true
  | k, q :: r => Nat.beq q.1 k && Nat.ble 1 q.2.2.1 && x_ct (Nat.add k q.2.2.1) r
noncomputable def x_tb (mi : Nat) : List (Nat × x_Row) := cond (x_ct 0 (x_tab mi)) (x_tab mi) []
theorem x_tb_or (mi : Nat) : x_ct 0 (x_tab mi) = true ∧ x_tb mi = x_tab mi ∨ x_tb mi = [] := by
  unfold x_tb
  cases h : x_ct 0 (x_tab mi)
  · exact Or.inr rfl
  · exact Or.inl ⟨rfl, rfl⟩
theorem x_ct_app : ∀ (pre : List (Nat × x_Row)) (k : Nat) (q : Nat × x_Row) (r : List (Nat × x_Row)), x_ct k (pre ++ q :: r) = true → k ≤ q.1 ∧ (pre ++ q :: r).lookup q.1 = some q.2 ∧ x_ct (q.1 + q.2.2.1) r = true
  | [], k, q, r, h => by
    rw [List.nil_append, x_ct, Bool.and_eq_true, Bool.and_eq_true] at h
    have h1 : q.1 = k := Nat.eq_of_beq_eq_true h.1.1
    refine ⟨by omega, by rw [List.nil_append, List.lookup_cons]; simp, ?_⟩
    rw [h1]; exact h.2
  | p :: pre, k, q, r, h => by
    rw [List.cons_append, x_ct, Bool.and_eq_true, Bool.and_eq_true] at h
    have h1 : p.1 = k := Nat.eq_of_beq_eq_true h.1.1
    have h2 : 1 ≤ p.2.2.1 := Nat.le_of_ble_eq_true h.1.2
    obtain ⟨i1, i2, i3⟩ := x_ct_app pre _ q r h.2
    have i1 : k + p.2.2.1 ≤ q.1 := i1
    have hf : (q.1 == p.1) = false := by simp; omega
    refine ⟨by omega, ?_, i3⟩
    rw [List.cons_append, List.lookup_cons, hf]
    exact i2
/-- 'rs' are the rows of the method from 'pc' on -/
noncomputable def x_at1 (mi pc : Nat) (rs : List (Nat × x_Row)) : Prop := rs = [] ∨ x_ct 0 (x_tab mi) = true ∧ ∃ pre q r, x_tab mi = pre ++ q :: r ∧ rs = q :: r ∧ q.1 = pc
theorem x_at1_row {mi pc k : Nat} {row : x_Row} {r : List (Nat × x_Row)} (h : x_at1 mi pc ((k, row) :: r)) : k = pc ∧ x_row mi pc = some row ∧ x_at1 mi (pc + row.2.1) r := by
  rcases h with h | ⟨hc, pre, q, r', h1, h2, h3⟩
  · cases h
  cases h2
  have hc0 := hc
  rw [h1] at hc
  obtain ⟨_, i2, i3⟩ := x_ct_app pre 0 _ r hc
  have h3 : k = pc := h3
  subst h3
  refine ⟨rfl, by unfold x_row; rw [h1]; exact i2, ?_⟩
  cases r with
  | nil => exact Or.inl rfl
  | cons q2 r2 =>
    refine Or.inr ⟨hc0, pre ++ [(k, row)], q2, r2, by rw [h1]; simp, rfl, ?_⟩
    rw [x_ct, Bool.and_eq_true, Bool.and_eq_true] at i3
    exact Nat.eq_of_beq_eq_true i3.1.1
noncomputable def x_fi (t : Nat) (l : List (Nat × x_Row)) : List (Nat × x_Row) := List.rec [] (fun q r ih => cond (Nat.beq q.1 t) (q :: r) ih) l
theorem x_fi_aux (mi t : Nat) (hc : x_ct 0 (x_tab mi) = true) : ∀ (l pre : List (Nat × x_Row)), x_tab mi = pre ++ l → x_at1 mi t (x_fi t l)
  | [], _, _ => Or.inl rfl
  | q :: r, pre, h => by
    show x_at1 mi t (cond (Nat.beq q.1 t) (q :: r) (x_fi t r))
    cases hb : Nat.beq q.1 t
    · exact x_fi_aux mi t hc r (pre ++ [q]) (by rw [h]; simp)
    · exact Or.inr ⟨hc, pre, q, r, h, rfl, Nat.eq_of_beq_eq_true hb⟩
theorem x_fi_ok (mi t : Nat) : x_at1 mi t (x_fi t (x_tb mi)) := by
  rcases x_tb_or mi with ⟨hc, h⟩ | h
  · rw [h]; exact x_fi_aux mi t hc (x_tab mi) [] rfl
  · rw [h]; exact Or.inl rfl
noncomputable def x_nx (mi pc len t : Nat) (rt : List (Nat × x_Row)) : List (Nat × x_Row) := cond (Nat.beq t (Nat.add pc len)) rt (x_fi t (x_tb mi))
theorem x_nx_ok {mi pc len t : Nat} {rt : List (Nat × x_Row)} (h : x_at1 mi (pc + len) rt) : x_at1 mi t (x_nx mi pc len t rt) := by
  unfold x_nx
  cases hb : Nat.beq t (Nat.add pc len)
  · exact x_fi_ok mi t
  · have : t = pc + len := Nat.eq_of_beq_eq_true hb
    subst this; exact h
theorem x_at1_0 (mi : Nat) : x_at1 mi 0 (x_tb mi) := by
  rcases x_tb_or mi with ⟨hc, h⟩ | h
  · rw [h]
    cases h : x_tab mi with
    | nil => exact Or.inl rfl
    | cons q r =>
      have hc2 := hc
      rw [h, x_ct, Bool.and_eq_true, Bool.and_eq_true] at hc2
      exact Or.inr ⟨hc, [], q, r, h, rfl, Nat.eq_of_beq_eq_true hc2.1.1⟩
  · rw [h]; exact Or.inl rfl
noncomputable abbrev x_C : Type := (Nat ⊕ (Nat × Nat)) × x_T Int32 × x_T Int64 × x_T Value
noncomputable abbrev x_W : Type := Nat × x_T x_C
noncomputable def x_dp : Nat ⊕ (Nat × Nat) → Nat | .inl _ => 7 | .inr q => Nat.succ (Nat.log2 q.2)
noncomputable def x_cI (c : x_C) (j : Nat) : Int32 := match x_tg (x_dp c.1) c.2.1 j with | some v => v | none => 0
noncomputable def x_cL (c : x_C) (j : Nat) : Int64 := match x_tg (x_dp c.1) c.2.2.1 j with | some v => v | none => 0
noncomputable def x_cR (c : x_C) (j : Nat) : Value := match x_tg (x_dp c.1) c.2.2.2 j with | some v => v | none => .null
noncomputable def x_gc (W : x_W) (k : Nat) : Option x_C := cond (Nat.blt k 256) (x_tg 8 W.2 k) none
/-- the tree is of this world -/
noncomputable def x_R (W : x_W) (G : x_G) : Prop := G.1.length = W.1 ∧ W.1 ≤ 256 ∧ (∀ k, k < 256 → G.1[k]? = (x_tg 8 W.2 k).map (fun c => c.1)) ∧ ∀ k, k < 256 → ∀ c, x_tg 8 W.2 k = some c → ∀ j, j < 2 ^ x_dp c.1 → G.2.1 k j = x_cI c j ∧ G.2.2.1 k j = x_cL c j ∧ G.2.2.2 k j = x_cR c j
theorem x_gc_R {W : x_W} {G : x_G} {k : Nat} {c : x_C} (hR : x_R W G) (h : x_gc W k = some c) : k < 256 ∧ x_tg 8 W.2 k = some c ∧ G.1[k]? = some c.1 ∧ ∀ j, j < 2 ^ x_dp c.1 → G.2.1 k j = x_cI c j ∧ G.2.2.1 k j = x_cL c j ∧ G.2.2.2 k j = x_cR c j := by
  unfold x_gc at h
  cases hk : Nat.blt k 256
  · rw [hk] at h; cases h
  rw [hk] at h
  simp only [cond] at h
  have hk : k < 256 := Nat.le_of_ble_eq_true hk
  exact ⟨hk, h, by rw [hR.2.2.1 k hk, h]; rfl, hR.2.2.2 k hk c h⟩
noncomputable def x_fc (c : x_C) (j : Nat) : FieldType → Value
  | .long => .long (x_cL c j)
  | .object _ => x_nr (x_cR c j)
  | .array _ => x_nr (x_cR c j)
  | _ => .int (x_cI c j)
theorem x_fc_R {W : x_W} {G : x_G} {k j : Nat} {c : x_C} {ty : FieldType} (hR : x_R W G) (h : x_gc W k = some c) (hj : j < 2 ^ x_dp c.1) : x_fv G k j ty = x_fc c j ty := by
  obtain ⟨_, _, _, h4⟩ := x_gc_R hR h
  obtain ⟨a1, a2, a3⟩ := h4 j hj
  cases ty <;> simp only [x_fv, x_fc, a1, a2, a3]
noncomputable def x_pc {β : Type} (W : x_W) (k : Nat) (c : x_C) (j : Nat) (ty : FieldType) (v : Value) (K : x_W → β) : β := match ty with
  | .long => x_tp (x_dp c.1) c.2.2.1 j (x_toL v) fun t => x_tp 8 W.2 k (c.1, c.2.1, t, c.2.2.2) fun u => K (W.1, u)
  | .object _ => x_tp (x_dp c.1) c.2.2.2 j v fun t => x_tp 8 W.2 k (c.1, c.2.1, c.2.2.1, t) fun u => K (W.1, u)
  | .array _ => x_tp (x_dp c.1) c.2.2.2 j v fun t => x_tp 8 W.2 k (c.1, c.2.1, c.2.2.1, t) fun u => K (W.1, u)
  | _ => x_tp (x_dp c.1) c.2.1 j (x_toI v) fun t => x_tp 8 W.2 k (c.1, t, c.2.2.1, c.2.2.2) fun u => K (W.1, u)
theorem x_R_put {W : x_W} {G G' : x_G} {k : Nat} {c c' : x_C} (hR : x_R W G) (h : x_gc W k = some c) (hc : c'.1 = c.1) (hs : G'.1 = G.1) (ho : ∀ a, a ≠ k → G'.2.1 a = G.2.1 a ∧ G'.2.2.1 a = G.2.2.1 a ∧ G'.2.2.2 a = G.2.2.2 a) (hk : ∀ j, j < 2 ^ x_dp c.1 → G'.2.1 k j = x_cI c' j ∧ G'.2.2.1 k j = x_cL c' j ∧ G'.2.2.2 k j = x_cR c' j) : x_R (W.1, x_ts 8 W.2 k c') G' := by
  obtain ⟨hk1, hk2, hk3, hk4⟩ := x_gc_R hR h
  refine ⟨by rw [hs]; exact hR.1, hR.2.1, ?_, ?_⟩
  · intro a ha
    show G'.1[a]? = (x_tg 8 (x_ts 8 W.2 k c') a).map _
    rw [x_tg_ts 8 _ _ _ _ hk1 ha, hs]
    by_cases hak : a = k
    · subst hak; rw [if_pos rfl, hk3, ← hc]; rfl
    · rw [if_neg hak]; exact hR.2.2.1 a ha
  · intro a ha d hd j hj
    have hd : x_tg 8 (x_ts 8 W.2 k c') a = some d := hd
    rw [x_tg_ts 8 _ _ _ _ hk1 ha] at hd
    by_cases hak : a = k
    · subst hak
      rw [if_pos rfl] at hd
      cases hd
      exact hk j (by rw [← hc]; exact hj)
    · rw [if_neg hak] at hd
      obtain ⟨o1, o2, o3⟩ := ho a hak
      rw [o1, o2, o3]
      exact hR.2.2.2 a ha d hd j hj
theorem x_pc_R {W : x_W} {G : x_G} {k j : Nat} {c : x_C} (ty : FieldType) (v : Value) (hR : x_R W G) (h : x_gc W k = some c) (hj : j < 2 ^ x_dp c.1) : ∃ W', x_R W' (x_put G k j ty v) ∧ ∀ (β : Type) (K : x_W → β), x_pc W k c j ty v K = K W' := by
  obtain ⟨hk1, hk2, hk3, hk4⟩ := x_gc_R hR h
  have I : ∀ x : Int32, x_R (W.1, x_ts 8 W.2 k (c.1, x_ts (x_dp c.1) c.2.1 j x, c.2.2.1, c.2.2.2)) (G.1, x_up2 G.2.1 k j x, G.2.2.1, G.2.2.2) := by
    intro x
    refine x_R_put hR h rfl rfl (fun a ha => ⟨x_up2_ne ha, rfl, rfl⟩) ?_
    intro i hi
    refine ⟨?_, (hk4 i hi).2⟩
    show x_up2 G.2.1 k j x k i = x_cI _ i
    unfold x_cI
    dsimp only
    rw [x_tg_ts _ _ _ _ _ hj hi]
    by_cases hij : i = j
    · subst hij; rw [if_pos rfl, x_up2_at]
    · rw [if_neg hij, x_up2_off (Or.inr hij)]; exact (hk4 i hi).1
  have L : ∀ x : Int64, x_R (W.1, x_ts 8 W.2 k (c.1, c.2.1, x_ts (x_dp c.1) c.2.2.1 j x, c.2.2.2)) (G.1, G.2.1, x_up2 G.2.2.1 k j x, G.2.2.2) := by
    intro x
    refine x_R_put hR h rfl rfl (fun a ha => ⟨rfl, x_up2_ne ha, rfl⟩) ?_
    intro i hi
    refine ⟨(hk4 i hi).1, ?_, (hk4 i hi).2.2⟩
    show x_up2 G.2.2.1 k j x k i = x_cL _ i
    unfold x_cL
    dsimp only
    rw [x_tg_ts _ _ _ _ _ hj hi]
    by_cases hij : i = j
    · subst hij; rw [if_pos rfl, x_up2_at]
    · rw [if_neg hij, x_up2_off (Or.inr hij)]; exact (hk4 i hi).2.1
  have V : ∀ x : Value, x_R (W.1, x_ts 8 W.2 k (c.1, c.2.1, c.2.2.1, x_ts (x_dp c.1) c.2.2.2 j x)) (G.1, G.2.1, G.2.2.1, x_up2 G.2.2.2 k j x) := by
    intro x
    refine x_R_put hR h rfl rfl (fun a ha => ⟨rfl, rfl, x_up2_ne ha⟩) ?_
    intro i hi
    refine ⟨(hk4 i hi).1, (hk4 i hi).2.1, ?_⟩
    show x_up2 G.2.2.2 k j x k i = x_cR _ i
    unfold x_cR
    dsimp only
    rw [x_tg_ts _ _ _ _ _ hj hi]
    by_cases hij : i = j
    · subst hij; rw [if_pos rfl, x_up2_at]
    · rw [if_neg hij, x_up2_off (Or.inr hij)]; exact (hk4 i hi).2.2
  cases ty
  case long => exact ⟨_, L (x_toL v), fun β K => by unfold x_pc; dsimp only; rw [x_tp_eq, x_tp_eq]⟩
  case object => exact ⟨_, V v, fun β K => by unfold x_pc; dsimp only; rw [x_tp_eq, x_tp_eq]⟩
  case array => exact ⟨_, V v, fun β K => by unfold x_pc; dsimp only; rw [x_tp_eq, x_tp_eq]⟩
  all_goals exact ⟨_, I (x_toI v), fun β K => by unfold x_pc; dsimp only; rw [x_tp_eq, x_tp_eq]⟩
/-- a new cell -/
noncomputable def x_nc {β : Type} (W : x_W) (sh : Nat ⊕ (Nat × Nat)) (K : x_W → β) (no : β) : β := cond (Nat.blt W.1 256) (x_tp 8 W.2 W.1 (sh, x_Te, x_Te, x_Te) fun u => K (Nat.succ W.1, u)) no
theorem x_nc_R {W : x_W} {G : x_G} (sh : Nat ⊕ (Nat × Nat)) (hR : x_R W G) : Nat.blt W.1 256 = true → x_R (Nat.succ W.1, x_ts 8 W.2 W.1 (sh, x_Te, x_Te, x_Te)) (x_new G sh) := by
  intro h
  have h : W.1 < 256 := Nat.le_of_ble_eq_true h
  refine ⟨by simp [x_new, hR.1], h, ?_, ?_⟩
  · intro a ha
    show (G.1 ++ [sh])[a]? = (x_tg 8 (x_ts 8 W.2 W.1 _) a).map _
    rw [x_tg_ts 8 _ _ _ _ h ha]
    by_cases hak : a = W.1
    · subst hak; rw [if_pos rfl, ← hR.1]; simp
    · rw [if_neg hak, ← hR.2.2.1 a ha, List.getElem?_append]
      split
      · rfl
      · next hn => 
        rw [hR.1] at hn ⊢
        rw [List.getElem?_eq_none (by simp; omega), List.getElem?_eq_none (by rw [hR.1]; omega)]
  · intro a ha d hd j hj
    have hd : x_tg 8 (x_ts 8 W.2 W.1 (sh, x_Te, x_Te, x_Te)) a = some d := hd
    rw [x_tg_ts 8 _ _ _ _ h ha] at hd
    by_cases hak : a = W.1
    · subst hak
      rw [if_pos rfl] at hd
      cases hd
      refine ⟨?_, ?_, ?_⟩
      · show x_clr G.2.1 G.1.length 0 W.1 j = x_cI _ j
        unfold x_cI x_clr; dsimp only; rw [x_tg_e, hR.1, if_pos rfl]
      · show x_clr G.2.2.1 G.1.length 0 W.1 j = x_cL _ j
        unfold x_cL x_clr; dsimp only; rw [x_tg_e, hR.1, if_pos rfl]
      · show x_clr G.2.2.2 G.1.length .null W.1 j = x_cR _ j
        unfold x_cR x_clr; dsimp only; rw [x_tg_e, hR.1, if_pos rfl]
    · rw [if_neg hak] at hd
      have hne : a ≠ G.1.length := by rw [hR.1]; exact hak
      show x_clr G.2.1 G.1.length 0 a j = _ ∧ x_clr G.2.2.1 G.1.length 0 a j = _ ∧ x_clr G.2.2.2 G.1.length .null a j = _
      rw [x_clr_ne hne, x_clr_ne hne, x_clr_ne hne]
      exact hR.2.2.2 a ha d hd j hj
/-- comparing by natural numbers -/
noncomputable def x_n32 (x : Int32) : Nat := x.toUInt32.toBitVec.toNat
noncomputable def x_b32 (x : Int32) : Nat := Nat.mod (Nat.add (x_n32 x) 2147483648) 4294967296
theorem x_toInt32 (x : Int32) : x.toInt = (x_b32 x : Int) - 2147483648 := by
  show x.toUInt32.toBitVec.toInt = _
  have hlt : x.toUInt32.toBitVec.toNat < 4294967296 := x.toUInt32.toBitVec.isLt
  rw [BitVec.toInt_eq_toNat_cond]
  have hb : x_b32 x = (x.toUInt32.toBitVec.toNat + 2147483648) % 4294967296 := rfl
  rw [hb]
  split <;> omega
noncomputable def x_ltb (x y : Int32) : Bool := Nat.blt (x_b32 x) (x_b32 y)
noncomputable def x_leb (x y : Int32) : Bool := Nat.ble (x_b32 x) (x_b32 y)
noncomputable def x_eqb (x y : Int32) : Bool := Nat.beq (x_n32 x) (x_n32 y)
theorem x_ltb_iff {x y : Int32} : x_ltb x y = true ↔ x < y := by
  rw [Int32.lt_iff_toInt_lt, x_toInt32, x_toInt32]
  unfold x_ltb
  constructor
  · intro h; have : x_b32 x < x_b32 y := Nat.le_of_ble_eq_true h; omega
  · intro h; exact Nat.ble_eq_true_of_le (by show x_b32 x < x_b32 y; omega)
theorem x_leb_iff {x y : Int32} : x_leb x y = true ↔ x ≤ y := by
  rw [Int32.le_iff_toInt_le, x_toInt32, x_toInt32]
  unfold x_leb
  constructor
  · intro h; have : x_b32 x ≤ x_b32 y := Nat.le_of_ble_eq_true h; omega
  · intro h; exact Nat.ble_eq_true_of_le (by omega)
theorem x_eqb_iff {x y : Int32} : x_eqb x y = true ↔ x = y := by
  unfold x_eqb x_n32
  constructor
  · intro h
    have h := Nat.eq_of_beq_eq_true h
    exact Int32.toBitVec_inj.mp (BitVec.eq_of_toNat_eq h)
  · intro h; subst h; exact Nat.beq_refl _
theorem x_cond_if {α : Type} {b : Bool} {P : Prop} [Decidable P] (h : b = true ↔ P) (x y : α) : cond b x y = if P then x else y := by
  cases b
  · rw [if_neg (fun q => by have := h.mpr q; cases this)]; rfl
  · rw [if_pos (h.mp rfl)]; rfl
/-- a good index -/
noncomputable def x_ixb (i : Int32) (n : Nat) : Bool := cond (Nat.blt (x_n32 i) n) (Nat.blt (x_n32 i) 2147483648) false
theorem x_ixb_ok {i : Int32} {n : Nat} (h : x_ixb i n = true) : ¬ (i < 0 ∨ n ≤ i.toNatClampNeg) ∧ i.toNatClampNeg = x_n32 i := by
  unfold x_ixb at h
  cases h1 : Nat.blt (x_n32 i) n
  · rw [h1] at h; cases h
  rw [h1] at h
  have h1 : x_n32 i < n := Nat.le_of_ble_eq_true h1
  have h2 : x_n32 i < 2147483648 := Nat.le_of_ble_eq_true h
  have hb : x_b32 i = x_n32 i + 2147483648 := by
    show (x_n32 i + 2147483648) % 4294967296 = _
    omega
  have hi := x_toInt32 i
  have hc : i.toNatClampNeg = x_n32 i := by
    show i.toInt.toNat = _
    omega
  refine ⟨?_, hc⟩
  rw [hc, Int32.lt_iff_toInt_lt]
  intro q
  rcases q with q | q
  · have : (0 : Int32).toInt = 0 := rfl
    omega
  · omega
/-! ===== the quick machine's heap instructions ===== -/
noncomputable def x_xa0 (i : Nat) : Option (FieldType × Nat × (Nat → Value)) := if i = 30 then none else x_xar (0, fun _ => 0) i
theorem x_xa0_ok {X : x_Ext} {i : Nat} {q : FieldType × Nat × (Nat → Value)} (h : x_xa0 i = some q) : x_xar X i = some q := by
  unfold x_xa0 at h
  split at h
  · cases h
  · next hi =>
    rw [← h]
    unfold x_xar
    rw [if_neg hi, if_neg hi]
noncomputable def x_isO (c : Nat ⊕ (Nat × Nat)) (a b : Nat) : Bool := match c with | .inl a' => cond (Nat.beq a' a) (cond (Nat.blt b 128) (Nat.blt b (x_fty a).length) false) false | .inr _ => false
theorem x_isO_ok {c : Nat ⊕ (Nat × Nat)} {a b : Nat} (h : x_isO c a b = true) : c = .inl a ∧ b < 128 ∧ b < (x_fty a).length := by
  unfold x_isO at h
  split at h
  · next a' =>
    cases h1 : Nat.beq a' a
    · rw [h1] at h; cases h
    rw [h1] at h
    cases h2 : Nat.blt b 128
    · rw [h2] at h; cases h
    rw [h2] at h
    exact ⟨by rw [Nat.eq_of_beq_eq_true h1], Nat.le_of_ble_eq_true h2, Nat.le_of_ble_eq_true h⟩
  · cases h
noncomputable def x_fld (p : Nat → Bool) (W : x_W) (k : Nat) (i : Int32) : Option Value := match x_gc W k with
  | some c => match c.1 with
    | .inr (t, n) => cond (p t) (cond (x_ixb i n) (x_sqN (x_n32 i) fun m => some (x_fc c m (x_ety t))) none) none
    | _ => none
  | none => none
noncomputable def x_fdX (ok : FieldType → Bool) (e : Nat) (i : Int32) : Option Value := match x_xa0 e with
  | some (ty, n, f) => if ok ty = true ∧ ¬ (i < 0 ∨ n ≤ i.toNatClampNeg) then some (f i.toNatClampNeg) else none
  | none => none
noncomputable def x_fst (W : x_W) (k : Nat) (i : Int32) (t : Nat) (v : Value) (r : List Value) : Option (List Value × x_W) := match x_gc W k with
  | some c => match c.1 with
    | .inr (t', n) => cond (Nat.beq t' t) (cond (x_ixb i n) (x_sqN (x_n32 i) fun m => x_pc W k c m (x_ety t) v fun W' => some (r, W')) none) none
    | _ => none
  | none => none
noncomputable def x_faty (W : x_W) (k : Nat) : Nat := match x_gc W k with | some c => (match c.1 with | .inr (t, _) => t | _ => 99) | none => 99
noncomputable def x_fh (a b : Nat) (z : Int) (ins : Instr) (st : List Value) (W : x_W) : Option (List Value × x_W) := match ins, st with
  | .ldc _, st => if a = 0 then some (.int (Int32.ofInt z) :: st, W) else some (.retAddr 28 :: st, W)
  | .ldc_w _, st => some (.int (Int32.ofInt z) :: st, W)
  | .ldc2_w _, st => some (.long (Int64.ofInt z) :: st, W)
  | .getstatic _, st => match x_sts[a]? with | some s => some (s.2.2.2.1 :: st, W) | none => none
  | .getfield _, .ref k :: r => match x_gc W k with
    | some c => cond (x_isO c.1 a b) (some (x_fc c b ((x_fty a).getD b .int) :: r, W)) none
    | none => none
  | .getfield _, .retAddr i :: r => if a = 200 then (match x_xf b i with | some v => some (v :: r, W) | none => none) else none
  | .putfield _, v :: .ref k :: r => match x_gc W k with
    | some c => cond (x_isO c.1 a b) (cond (x_fit ((x_fty a).getD b .int) v) (x_pc W k c b ((x_fty a).getD b .int) v fun W' => some (r, W')) none) none
    | none => none
  | .arraylength, .ref k :: r => match x_gc W k with
    | some c => (match c.1 with | .inr (t, n) => if t < 7 then some (.int (Int32.ofNat n) :: r, W) else none | _ => none)
    | none => none
  | .arraylength, .retAddr i :: r => match x_xa0 i with | some q => some (.int (Int32.ofNat q.2.1) :: r, W) | none => none
  | .iaload, .int i :: .ref k :: r => match x_fld (fun t => t == 0) W k i with | some v => some (v :: r, W) | none => none
  | .laload, .int i :: .ref k :: r => match x_fld (fun t => t == 1) W k i with | some v => some (v :: r, W) | none => none
  | .baload, .int i :: .ref k :: r => match x_fld (fun t => t == 2 || t == 3) W k i with | some v => some (v :: r, W) | none => none
  | .aaload, .int i :: .ref k :: r => match x_fld (fun t => decide (4 ≤ t) && decide (t < 7)) W k i with | some v => some (v :: r, W) | none => none
  | .iaload, .int i :: .retAddr e :: r => match x_fdX (fun t => t == .int) e i with | some v => some (v :: r, W) | none => none
  | .baload, .int i :: .retAddr e :: r => match x_fdX (fun t => t == .byte) e i with | some v => some (v :: r, W) | none => none
  | .aaload, .int i :: .retAddr e :: r => match x_fdX x_isObj e i with | some v => some (v :: r, W) | none => none
  | .iastore, .int x :: .int i :: .ref k :: r => x_fst W k i 0 (.int x) r
  | .lastore, .long x :: .int i :: .ref k :: r => x_fst W k i 1 (.long x) r
  | .bastore, .int x :: .int i :: .ref k :: r => if x_faty W k = 2 then x_fst W k i 2 (narrow .byte (.int x)) r else if x_faty W k = 3 then x_fst W k i 3 (narrow .boolean (.int x)) r else none
  | .aastore, .null :: .int i :: .ref k :: r => if 4 ≤ x_faty W k ∧ x_faty W k < 7 then x_fst W k i (x_faty W k) .null r else none
  | .aastore, .ref k2 :: .int i :: .ref k :: r => match x_gc W k2 with
    | some c2 => if 4 ≤ x_faty W k ∧ x_faty W k < 7 ∧ c2.1 = .inl (x_eci (x_faty W k)) then x_fst W k i (x_faty W k) (.ref k2) r else none
    | none => none
  | .new _, st => if a < 12 then x_nc W (.inl a) (fun W' => some (.ref W.1 :: st, W')) none else none
  | .newarray at_, .int n :: r => match x_atn at_ with | some t => if ¬ n < 0 ∧ n.toNatClampNeg ≤ 100000 then x_sqN n.toNatClampNeg fun m => x_nc W (.inr (t, m)) (fun W' => some (.ref W.1 :: r, W')) none else none | none => none
  | .anewarray _, .int n :: r => if 4 ≤ a ∧ a < 7 ∧ ¬ n < 0 ∧ n.toNatClampNeg ≤ 100000 then x_sqN n.toNatClampNeg fun m => x_nc W (.inr (a, m)) (fun W' => some (.ref W.1 :: r, W')) none else none
  | _, _ => none
theorem x_dp_lt {t n i : Nat} (h : i < n) : i < 2 ^ x_dp (.inr (t, n)) := by
  show i < 2 ^ (Nat.log2 n + 1)
  exact Nat.lt_trans h Nat.lt_log2_self
theorem x_fld_ok {p : Nat → Bool} {W : x_W} {G : x_G} {k : Nat} {i : Int32} {v : Value} (hR : x_R W G) (h : x_fld p W k i = some v) : x_ldA p G k i = some v := by
  unfold x_fld at h
  split at h
  · next c hc =>
    split at h
    · next t n hs =>
      cases hp : p t
      · rw [hp] at h; cases h
      rw [hp] at h
      cases hx : x_ixb i n
      · rw [hx] at h; cases h
      rw [hx] at h
      simp only [cond] at h
      rw [x_sqN_eq] at h
      obtain ⟨hi, hm⟩ := x_ixb_ok hx
      rw [← hm] at h
      cases h
      unfold x_ldA
      rw [(x_gc_R hR hc).2.2.1, hs]
      dsimp only
      rw [if_pos ⟨hp, hi⟩, x_fc_R hR hc (by rw [hs]; exact x_dp_lt (by omega))]
    · cases h
  · cases h
theorem x_fdX_ok {X : x_Ext} {ok : FieldType → Bool} {e : Nat} {i : Int32} {v : Value} (h : x_fdX ok e i = some v) : x_ldX ok X e i = some v := by
  unfold x_fdX at h
  unfold x_ldX
  split at h
  · next he => rw [x_xa0_ok he]; exact h
  · cases h
theorem x_fst_ok {W W' : x_W} {G : x_G} {k t : Nat} {i : Int32} {v : Value} {r r' : List Value} (hR : x_R W G) (h : x_fst W k i t v r = some (r', W')) : ∃ G', x_stA G k i t v = some G' ∧ r' = r ∧ x_R W' G' := by
  unfold x_fst at h
  split at h
  · next c hc =>
    split at h
    · next t' n hs =>
      cases hp : Nat.beq t' t
      · rw [hp] at h; cases h
      rw [hp] at h
      cases hx : x_ixb i n
      · rw [hx] at h; cases h
      rw [hx] at h
      simp only [cond] at h
      have hp : t' = t := Nat.eq_of_beq_eq_true hp
      obtain ⟨hi, hm⟩ := x_ixb_ok hx
      · rw [x_sqN_eq, ← hm] at h
        obtain ⟨W2, hR2, hK⟩ := x_pc_R (j := i.toNatClampNeg) (x_ety t) v hR hc (by rw [hs]; exact x_dp_lt (by omega))
        rw [hK] at h
        cases h
        refine ⟨_, ?_, rfl, hR2⟩
        unfold x_stA
        rw [(x_gc_R hR hc).2.2.1, hs]
        dsimp only
        rw [if_pos ⟨hp, hi⟩]
    · cases h
  · cases h
theorem x_faty_ok {W : x_W} {G : x_G} {k : Nat} (hR : x_R W G) (h : x_faty W k < 7) : x_aty G k = x_faty W k := by
  unfold x_faty at h ⊢
  cases hc : x_gc W k with
  | none => rw [hc] at h; exact absurd h (by decide)
  | some c =>
    unfold x_aty
    rw [(x_gc_R hR hc).2.2.1]
    dsimp only
    cases hs : c.1 <;> rfl
theorem x_nc_ok {W W' : x_W} {G : x_G} {sh : Nat ⊕ (Nat × Nat)} {st st' : List Value} (hR : x_R W G) (h : x_nc W sh (fun W' => some (st, W')) none = some (st', W')) : st' = st ∧ x_R W' (x_new G sh) := by
  unfold x_nc at h
  cases hb : Nat.blt W.1 256
  · rw [hb] at h; cases h
  rw [hb] at h
  simp only [cond] at h
  rw [x_tp_eq] at h
  cases h
  exact ⟨rfl, x_nc_R sh hR hb⟩
theorem x_fh_ok {X : x_Ext} {a b : Nat} {z : Int} {ins : Instr} {st st' : List Value} {W W' : x_W} {G : x_G} (hR : x_R W G) (h : x_fh a b z ins st W = some (st', W')) : ∃ G', x_heap X a b z ins st G = some (st', G') ∧ x_R W' G' := by
  unfold x_fh at h
  split at h
  · unfold x_heap; dsimp only; split at h
    · next ha => cases h; exact ⟨G, by rw [if_pos ha], hR⟩
    · next ha => cases h; exact ⟨G, by rw [if_neg ha], hR⟩
  · cases h; exact ⟨G, rfl, hR⟩
  · cases h; exact ⟨G, rfl, hR⟩
  · unfold x_heap; dsimp only; split at h
    · next hs => cases h; exact ⟨G, by rw [hs], hR⟩
    · cases h
  · unfold x_heap; dsimp only; split at h
    · next c hc =>
      cases hb0 : x_isO c.1 a b
      · rw [hb0] at h; cases h
      rw [hb0] at h
      have hq := x_isO_ok hb0
      · cases h
        exact ⟨G, by rw [if_pos ⟨by rw [(x_gc_R hR hc).2.2.1, hq.1], hq.2.2⟩, x_fc_R hR hc (by rw [hq.1]; exact hq.2.1)], hR⟩
    · cases h
  · unfold x_heap; dsimp only; split at h
    · next ha =>
      split at h
      · next hv => cases h; exact ⟨G, by rw [if_pos ha, hv], hR⟩
      · cases h
    · cases h
  · unfold x_heap; dsimp only; split at h
    · next c hc =>
      cases hb0 : x_isO c.1 a b
      · rw [hb0] at h; cases h
      rw [hb0] at h
      have hq := x_isO_ok hb0
      simp only [cond] at h
      split at h
      · next hft =>
        obtain ⟨W2, hR2, hK⟩ := x_pc_R (j := b) ((x_fty a).getD b .int) _ hR hc (by rw [hq.1]; exact hq.2.1)
        rw [hK] at h
        cases h
        exact ⟨_, by rw [if_pos ⟨by rw [(x_gc_R hR hc).2.2.1, hq.1], hq.2.2, hft⟩], hR2⟩
      · cases h
    · cases h
  · unfold x_heap; dsimp only; split at h
    · next c hc =>
      split at h
      · next t n hs =>
        split at h
        · next ht => cases h; exact ⟨G, by rw [(x_gc_R hR hc).2.2.1, hs]; dsimp only; rw [if_pos ht], hR⟩
        · cases h
      · cases h
    · cases h
  · unfold x_heap; dsimp only; split at h
    · next hq => cases h; exact ⟨G, by rw [x_xa0_ok hq], hR⟩
    · cases h
  iterate 4
    unfold x_heap; dsimp only; split at h
    · next hv => cases h; exact ⟨G, by rw [x_fld_ok hR hv], hR⟩
    · cases h
  iterate 3
    unfold x_heap; dsimp only; split at h
    · next hv => cases h; exact ⟨G, by rw [x_fdX_ok hv], hR⟩
    · cases h
  · obtain ⟨G', h1, h2, h3⟩ := x_fst_ok hR h; subst h2; exact ⟨G', by unfold x_heap; dsimp only; rw [h1], h3⟩
  · obtain ⟨G', h1, h2, h3⟩ := x_fst_ok hR h; subst h2; exact ⟨G', by unfold x_heap; dsimp only; rw [h1], h3⟩
  · split at h
    · next ha =>
      obtain ⟨G', h1, h2, h3⟩ := x_fst_ok hR h; subst h2
      exact ⟨G', by unfold x_heap; dsimp only; rw [x_faty_ok hR (by rw [ha]; decide), if_pos ha, h1], h3⟩
    · next ha =>
      split at h
      · next h3' =>
        obtain ⟨G', h1, h2, h3⟩ := x_fst_ok hR h; subst h2
        exact ⟨G', by unfold x_heap; dsimp only; rw [x_faty_ok hR (by rw [h3']; decide), if_neg ha, h1], h3⟩
      · cases h
  · split at h
    · next ha => obtain ⟨G', h1, h2, h3⟩ := x_fst_ok hR h; subst h2; exact ⟨G', by unfold x_heap; dsimp only; rw [x_faty_ok hR ha.2, if_pos ha, h1], h3⟩
    · cases h
  · split at h
    · next c2 hc2 =>
      split at h
      · next ha => obtain ⟨G', h1, h2, h3⟩ := x_fst_ok hR h; subst h2; exact ⟨G', by unfold x_heap; dsimp only; rw [x_faty_ok hR ha.2.1, if_pos ⟨ha.1, ha.2.1, by rw [(x_gc_R hR hc2).2.2.1, ha.2.2]⟩, h1], h3⟩
      · cases h
    · cases h
  · split at h
    · next ha => obtain ⟨h1, h2⟩ := x_nc_ok hR h; subst h1; exact ⟨_, by unfold x_heap; dsimp only; rw [if_pos ha, hR.1], h2⟩
    · cases h
  · split at h
    · next ht =>
      split at h
      · next hn => rw [x_sqN_eq] at h; obtain ⟨h1, h2⟩ := x_nc_ok hR h; subst h1; exact ⟨_, by unfold x_heap; dsimp only; rw [ht]; dsimp only; rw [if_pos hn, hR.1], h2⟩
      · cases h
    · cases h
  · split at h
    · next hn => rw [x_sqN_eq] at h; obtain ⟨h1, h2⟩ := x_nc_ok hR h; subst h1; exact ⟨_, by unfold x_heap; dsimp only; rw [if_pos hn, hR.1], h2⟩
    · cases h
  · cases h
/-- each instruction's work, by the instruction alone -/
noncomputable def x_op0 : Instr → Option (List Value → Option (List Value))
  | .aconst_null => some (fun st => some (.null :: st))
  | .iconst n => some (fun st => some (.int (Int32.ofInt n) :: st))
  | .bipush n => some (fun st => some (.int (Int8.ofInt n).toInt32 :: st))
  | .sipush n => some (fun st => some (.int (Int16.ofInt n).toInt32 :: st))
  | .lconst n => some (fun st => some (.long (Int64.ofNat (n : Nat)) :: st))
  | .iadd => some (fun st => match st with | .int y :: .int x :: r => some (.int (x + y) :: r) | _ => none)
  | .isub => some (fun st => match st with | .int y :: .int x :: r => some (.int (x - y) :: r) | _ => none)
  | .imul => some (fun st => match st with | .int y :: .int x :: r => some (.int (x * y) :: r) | _ => none)
  | .iand => some (fun st => match st with | .int y :: .int x :: r => some (.int (x &&& y) :: r) | _ => none)
  | .ior => some (fun st => match st with | .int y :: .int x :: r => some (.int (x ||| y) :: r) | _ => none)
  | .ixor => some (fun st => match st with | .int y :: .int x :: r => some (.int (x ^^^ y) :: r) | _ => none)
  | .idiv => some (fun st => match st with | .int y :: .int x :: r => if y = 0 then none else some (.int (x / y) :: r) | _ => none)
  | .irem => some (fun st => match st with | .int y :: .int x :: r => if y = 0 then none else some (.int (x - x / y * y) :: r) | _ => none)
  | .ishl => some (fun st => match st with | .int y :: .int x :: r => some (.int (x <<< (y &&& 31)) :: r) | _ => none)
  | .ishr => some (fun st => match st with | .int y :: .int x :: r => some (.int (x >>> (y &&& 31)) :: r) | _ => none)
  | .iushr => some (fun st => match st with | .int y :: .int x :: r => some (.int (x.toUInt32 >>> (y.toUInt32 &&& Int32.toUInt32 31)).toInt32 :: r) | _ => none)
  | .ladd => some (fun st => match st with | .long y :: .long x :: r => some (.long (x + y) :: r) | _ => none)
  | .lsub => some (fun st => match st with | .long y :: .long x :: r => some (.long (x - y) :: r) | _ => none)
  | .lmul => some (fun st => match st with | .long y :: .long x :: r => some (.long (x * y) :: r) | _ => none)
  | .land => some (fun st => match st with | .long y :: .long x :: r => some (.long (x &&& y) :: r) | _ => none)
  | .lor => some (fun st => match st with | .long y :: .long x :: r => some (.long (x ||| y) :: r) | _ => none)
  | .lxor => some (fun st => match st with | .long y :: .long x :: r => some (.long (x ^^^ y) :: r) | _ => none)
  | .ldiv => some (fun st => match st with | .long y :: .long x :: r => if y = 0 then none else some (.long (x / y) :: r) | _ => none)
  | .lrem => some (fun st => match st with | .long y :: .long x :: r => if y = 0 then none else some (.long (x - x / y * y) :: r) | _ => none)
  | .lshl => some (fun st => match st with | .int y :: .long x :: r => some (.long (x <<< (y.toInt64 &&& 63)) :: r) | _ => none)
  | .lshr => some (fun st => match st with | .int y :: .long x :: r => some (.long (x >>> (y.toInt64 &&& 63)) :: r) | _ => none)
  | .lushr => some (fun st => match st with | .int y :: .long x :: r => some (.long (x.toUInt64 >>> (y.toInt64.toUInt64 &&& Int64.toUInt64 63)).toInt64 :: r) | _ => none)
  | .lcmp => some (fun st => match st with | .long y :: .long x :: r => some (.int (lg_cmp x y) :: r) | _ => none)
  | .i2l => some (fun st => match st with | .int x :: r => some (.long x.toInt64 :: r) | _ => none)
  | .l2i => some (fun st => match st with | .long x :: r => some (.int x.toInt32 :: r) | _ => none)
  | .i2b => some (fun st => match st with | .int x :: r => some (.int x.toInt8.toInt32 :: r) | _ => none)
  | .i2s => some (fun st => match st with | .int x :: r => some (.int x.toInt16.toInt32 :: r) | _ => none)
  | .i2c => some (fun st => match st with | .int x :: r => some (.int (x.toUInt32 % 65536).toInt32 :: r) | _ => none)
  | .dup => some (fun st => match st with | v :: r => if v.category = 1 then some (v :: v :: r) else none | _ => none)
  | .pop => some (fun st => match st with | v :: r => if v.category = 1 then some r else none | _ => none)
  | .dup_x1 => some (fun st => match st with | v :: w :: r => if v.category = 1 ∧ w.category = 1 then some (v :: w :: v :: r) else none | _ => none)
  | .dup2 => some (fun st => match st with | v :: w :: r => if v.category = 1 ∧ w.category = 1 then some (v :: w :: v :: w :: r) else none | _ => none)
  | _ => none
theorem x_op0_ok {ins : Instr} {f : List Value → Option (List Value)} (h : x_op0 ins = some f) (st : List Value) : f st = x_alu ins st := by
  unfold x_op0 at h
  split at h
  all_goals first
    | (cases h; done)
    | (cases h; rcases st with _ | ⟨v, r⟩ <;> first | rfl | (cases v <;> first | rfl | (rcases r with _ | ⟨w, r⟩ <;> first | rfl | (cases w <;> rfl))))
noncomputable def x_gt (lo : x_Lo) (i : Nat) : Option Value := List.rec none (fun q _ ih => cond (Nat.beq q.1 i) (some q.2) ih) lo
theorem x_gt_eq : ∀ (lo : x_Lo) (i : Nat), x_gt lo i = x_get lo i
  | [], _ => rfl
  | (j, v) :: r, i => by
    show cond (Nat.beq j i) (some v) (x_gt r i) = _
    unfold x_get
    rw [x_gt_eq r i]
    exact x_cond_if ⟨Nat.eq_of_beq_eq_true, fun h => by subst h; exact Nat.beq_refl _⟩ _ _
noncomputable def x_c2 (i : Nat) (q : Nat × Value) : Bool := cond (Nat.beq (Nat.succ q.1) i) (Nat.beq q.2.category 2) false
noncomputable def x_ft {β : Type} (i : Nat) (lo : x_Lo) (k : x_Lo → β) : β := List.rec (motive := fun _ => (x_Lo → β) → β) (fun k => k []) (fun q _ ih k => cond (Nat.beq q.1 i) (ih k) (cond (x_c2 i q) (ih k) (ih fun t => k (q :: t)))) lo k
theorem x_beq_b (a b : Nat) : Nat.beq a b = (a == b) := by
  cases h : Nat.beq a b
  · have := Nat.ne_of_beq_eq_false h; simp [this]
  · have := Nat.eq_of_beq_eq_true h; simp [this]
theorem x_ft_eq {β : Type} (i : Nat) : ∀ (lo : x_Lo) (k : x_Lo → β), x_ft i lo k = k (lo.filter (fun q => !(q.1 == i) && !(q.1 + 1 == i && q.2.category == 2)))
  | [], _ => rfl
  | q :: r, k => by
    show cond (Nat.beq q.1 i) (x_ft i r k) (cond (x_c2 i q) (x_ft i r k) (x_ft i r fun t => k (q :: t))) = _
    rw [x_ft_eq i r k, x_ft_eq i r (fun t => k (q :: t)), List.filter_cons]
    have h2 : x_c2 i q = (q.1 + 1 == i && q.2.category == 2) := by
      unfold x_c2
      rw [x_beq_b, x_beq_b]
      cases (q.1.succ == i) <;> rfl
    rw [h2, x_beq_b]
    cases (q.1 == i) <;> cases (q.1 + 1 == i && q.2.category == 2) <;> rfl
noncomputable def x_ft2 {β : Type} (i : Nat) (lo : x_Lo) (k : x_Lo → β) : β := List.rec (motive := fun _ => (x_Lo → β) → β) (fun k => k []) (fun q _ ih k => cond (Nat.beq q.1 i) (ih k) (cond (Nat.beq q.1 (Nat.succ i)) (ih k) (cond (x_c2 i q) (ih k) (ih fun t => k (q :: t))))) lo k
theorem x_ft2_eq {β : Type} (i : Nat) : ∀ (lo : x_Lo) (k : x_Lo → β), x_ft2 i lo k = k (lo.filter (fun q => !(q.1 == i) && (!(q.1 == i + 1) && !(q.1 + 1 == i && q.2.category == 2))))
  | [], _ => rfl
  | q :: r, k => by
    show cond (Nat.beq q.1 i) (x_ft2 i r k) (cond (Nat.beq q.1 (Nat.succ i)) (x_ft2 i r k) (cond (x_c2 i q) (x_ft2 i r k) (x_ft2 i r fun t => k (q :: t)))) = _
    rw [x_ft2_eq i r k, x_ft2_eq i r (fun t => k (q :: t)), List.filter_cons]
    have h2 : x_c2 i q = (q.1 + 1 == i && q.2.category == 2) := by
      unfold x_c2
      rw [x_beq_b, x_beq_b]
      cases (q.1.succ == i) <;> rfl
    rw [h2, x_beq_b, x_beq_b]
    cases (q.1 == i) <;> cases (q.1 == i + 1) <;> cases (q.1 + 1 == i && q.2.category == 2) <;> rfl
noncomputable def x_ld' (t : Value → Bool) (lo : x_Lo) (i : Nat) (st : List Value) : Option (x_Lo × List Value) := match x_gt lo i with
  | some v => cond (t v) (some (lo, v :: st)) none
  | none => none
theorem x_ld'_eq (t : Value → Bool) (lo : x_Lo) (i : Nat) (st : List Value) : x_ld' t lo i st = x_ld t lo i st := by
  unfold x_ld' x_ld
  rw [x_gt_eq]
  cases x_get lo i with
  | none => rfl
  | some v => exact x_cond_if Iff.rfl _ _
theorem x_blt_iff {a b : Nat} : Nat.blt a b = true ↔ a < b := ⟨fun h => Nat.le_of_ble_eq_true h, fun h => Nat.ble_eq_true_of_le h⟩
noncomputable def x_st' (nL : Nat) (t : Value → Bool) (lo : x_Lo) (i : Nat) (st : List Value) : Option (x_Lo × List Value) := match st with
  | v :: r => cond (t v) (cond (Nat.blt i nL) (x_ft i lo fun l => some ((i, v) :: l, r)) none) none
  | [] => none
theorem x_st'_eq (nL : Nat) (t : Value → Bool) (lo : x_Lo) (i : Nat) (st : List Value) : x_st' nL t lo i st = x_st nL t lo i st := by
  cases st with
  | nil => rfl
  | cons v r =>
    unfold x_st' x_st
    dsimp only
    rw [x_ft_eq]
    by_cases h1 : t v = true
    · by_cases h2 : i < nL
      · rw [if_pos ⟨h1, h2⟩, h1, x_blt_iff.mpr h2]; rfl
      · rw [if_neg (fun q => h2 q.2), h1, x_cond_if x_blt_iff, if_neg h2]; rfl
    · rw [if_neg (fun q => h1 q.1)]
      cases h3 : t v
      · rfl
      · exact absurd h3 h1
noncomputable def x_st2' (nL : Nat) (lo : x_Lo) (i : Nat) (st : List Value) : Option (x_Lo × List Value) := match st with
  | .long x :: r => cond (Nat.blt (Nat.succ i) nL) (x_ft2 i lo fun l => some ((i, .long x) :: l, r)) none
  | _ => none
theorem x_st2'_eq (nL : Nat) (lo : x_Lo) (i : Nat) (st : List Value) : x_st2' nL lo i st = x_st2 nL lo i st := by
  rcases st with _ | ⟨v, r⟩
  · rfl
  · cases v <;> try rfl
    unfold x_st2' x_st2
    dsimp only
    rw [x_ft2_eq]
    exact x_cond_if x_blt_iff _ _
noncomputable def x_inc' (nL : Nat) (lo : x_Lo) (i : Nat) (n : Int32) (st : List Value) : Option (x_Lo × List Value) := match x_gt lo i with
  | some (.int x) => cond (Nat.blt i nL) (x_sqN (x_n32 (x + n)) fun m => x_ft i lo fun l => some ((i, .int ⟨⟨BitVec.ofNat 32 m⟩⟩) :: l, st)) none
  | _ => none
noncomputable def x_op1 (nL : Nat) : Instr → Option (x_Lo → List Value → Option (x_Lo × List Value))
  | .iload_n k => some (fun lo st => x_ld' x_isI lo k st)
  | .iload i => some (fun lo st => x_ld' x_isI lo i st)
  | .lload_n k => some (fun lo st => x_ld' x_isL lo k st)
  | .lload i => some (fun lo st => x_ld' x_isL lo i st)
  | .aload_n k => some (fun lo st => x_ld' x_isR lo k st)
  | .aload i => some (fun lo st => x_ld' x_isR lo i st)
  | .istore_n k => some (fun lo st => x_st' nL x_isI lo k st)
  | .istore i => some (fun lo st => x_st' nL x_isI lo i st)
  | .astore_n k => some (fun lo st => x_st' nL x_isR lo k st)
  | .astore i => some (fun lo st => x_st' nL x_isR lo i st)
  | .lstore_n k => some (fun lo st => x_st2' nL lo k st)
  | .lstore i => some (fun lo st => x_st2' nL lo i st)
  | .iinc i n => some (fun lo st => x_inc' nL lo i (Int32.ofInt n) st)
  | _ => none
theorem x_op1_ok {nL : Nat} {ins : Instr} {f : x_Lo → List Value → Option (x_Lo × List Value)} (h : x_op1 nL ins = some f) (lo : x_Lo) (st : List Value) : f lo st = x_loc nL ins lo st := by
  unfold x_op1 at h
  split at h
  all_goals first
    | (cases h; done)
    | (cases h; exact x_ld'_eq _ _ _ _)
    | (cases h; exact x_st'_eq _ _ _ _ _)
    | (cases h; exact x_st2'_eq _ _ _ _)
    | skip
  case _ i n =>
    cases h
    unfold x_loc
    dsimp only
    unfold x_inc'
    rw [x_gt_eq]
    cases hx : x_get lo i with
    | none => rfl
    | some v =>
      cases v
      case int x =>
        dsimp only
        rw [x_sqN_eq, x_ft_eq, x_cond_if x_blt_iff]
        unfold x_n32 x_set1
        rw [BitVec.ofNat_toNat, BitVec.setWidth_eq]
      all_goals rfl
theorem x_b00 : x_b32 0 = 2147483648 := by decide
theorem x_e0 {x : Int32} : Nat.beq (x_n32 x) 0 = true ↔ x = 0 := x_eqb_iff (y := 0)
theorem x_l0 {x : Int32} : Nat.blt (x_b32 x) 2147483648 = true ↔ x < 0 := by rw [← x_ltb_iff]; unfold x_ltb; rw [x_b00]
theorem x_g0 {x : Int32} : Nat.ble 2147483648 (x_b32 x) = true ↔ 0 ≤ x := by rw [← x_leb_iff]; unfold x_leb; rw [x_b00]
theorem x_p0 {x : Int32} : Nat.blt 2147483648 (x_b32 x) = true ↔ 0 < x := by rw [← x_ltb_iff]; unfold x_ltb; rw [x_b00]
theorem x_m0 {x : Int32} : Nat.ble (x_b32 x) 2147483648 = true ↔ x ≤ 0 := by rw [← x_leb_iff]; unfold x_leb; rw [x_b00]
noncomputable def x_op2 (a pc : Nat) : Instr → Option (List Value → Option (Nat × List Value))
  | .ifCond .eq _ => some (fun st => match st with | .int x :: r => some (cond (Nat.beq (x_n32 x) 0) a (pc + 3), r) | _ => none)
  | .ifCond .ne _ => some (fun st => match st with | .int x :: r => some (cond (Nat.beq (x_n32 x) 0) (pc + 3) a, r) | _ => none)
  | .ifCond .lt _ => some (fun st => match st with | .int x :: r => some (cond (Nat.blt (x_b32 x) 2147483648) a (pc + 3), r) | _ => none)
  | .ifCond .ge _ => some (fun st => match st with | .int x :: r => some (cond (Nat.ble 2147483648 (x_b32 x)) a (pc + 3), r) | _ => none)
  | .ifCond .gt _ => some (fun st => match st with | .int x :: r => some (cond (Nat.blt 2147483648 (x_b32 x)) a (pc + 3), r) | _ => none)
  | .ifCond .le _ => some (fun st => match st with | .int x :: r => some (cond (Nat.ble (x_b32 x) 2147483648) a (pc + 3), r) | _ => none)
  | .if_icmp .eq _ => some (fun st => match st with | .int y :: .int x :: r => some (cond (x_eqb x y) a (pc + 3), r) | _ => none)
  | .if_icmp .ne _ => some (fun st => match st with | .int y :: .int x :: r => some (cond (x_eqb x y) (pc + 3) a, r) | _ => none)
  | .if_icmp .lt _ => some (fun st => match st with | .int y :: .int x :: r => some (cond (x_ltb x y) a (pc + 3), r) | _ => none)
  | .if_icmp .ge _ => some (fun st => match st with | .int y :: .int x :: r => some (cond (x_leb y x) a (pc + 3), r) | _ => none)
  | .if_icmp .gt _ => some (fun st => match st with | .int y :: .int x :: r => some (cond (x_ltb y x) a (pc + 3), r) | _ => none)
  | .if_icmp .le _ => some (fun st => match st with | .int y :: .int x :: r => some (cond (x_leb x y) a (pc + 3), r) | _ => none)
  | .goto _ => some (fun st => some (a, st))
  | .ifnull _ => some (fun st => match st with | v :: r => if x_known v = true then some (if v = .null then a else pc + 3, r) else none | _ => none)
  | .ifnonnull _ => some (fun st => match st with | v :: r => if x_known v = true then some (if v = .null then pc + 3 else a, r) else none | _ => none)
  | .if_acmp .eq _ => some (fun st => match st with | w :: v :: r => if x_known v = true ∧ x_known w = true then some (if v = w then a else pc + 3, r) else none | _ => none)
  | .if_acmp .ne _ => some (fun st => match st with | w :: v :: r => if x_known v = true ∧ x_known w = true then some (if v = w then pc + 3 else a, r) else none | _ => none)
  | .lookupswitch d ps => some (fun st => match st with | .int x :: r => if (ps.toList.zip (ps.toList.drop 1)).all (fun (a, next) => a.1 < next.1) = true ∧ 0 ≤ (pc : Int) + Op.lookupswitch.offset ps.toList d x.toInt then some (((pc : Int) + Op.lookupswitch.offset ps.toList d x.toInt).toNat, r) else none | _ => none)
  | .tableswitch d lo hi offs => some (fun st => match st with | .int x :: r => (if x.toInt < lo ∨ hi < x.toInt then (if 0 ≤ (pc : Int) + d then some (((pc : Int) + d).toNat, r) else none) else match offs.toList[(x.toInt - lo).toNat]? with | some o => if 0 ≤ (pc : Int) + o then some (((pc : Int) + o).toNat, r) else none | none => none) | _ => none)
  | _ => none
theorem x_op2_ok {a pc : Nat} {ins : Instr} {f : List Value → Option (Nat × List Value)} (h : x_op2 a pc ins = some f) (st : List Value) : f st = x_br a pc ins st := by
  unfold x_op2 at h
  split at h
  all_goals first
    | (cases h; done)
    | (cases h; rcases st with _ | ⟨v, r⟩ <;> first | (dsimp only; simp only [x_cond_if x_e0, x_cond_if x_l0, x_cond_if x_g0, x_cond_if x_p0, x_cond_if x_m0, x_cond_if x_eqb_iff, x_cond_if x_ltb_iff, x_cond_if x_leb_iff]; unfold x_br; dsimp only; done) | (cases v <;> first | (dsimp only; simp only [x_cond_if x_e0, x_cond_if x_l0, x_cond_if x_g0, x_cond_if x_p0, x_cond_if x_m0, x_cond_if x_eqb_iff, x_cond_if x_ltb_iff, x_cond_if x_leb_iff]; unfold x_br; dsimp only; done) | (rcases r with _ | ⟨w, r⟩ <;> first | (dsimp only; simp only [x_cond_if x_e0, x_cond_if x_l0, x_cond_if x_g0, x_cond_if x_p0, x_cond_if x_m0, x_cond_if x_eqb_iff, x_cond_if x_ltb_iff, x_cond_if x_leb_iff]; unfold x_br; dsimp only; done) | (cases w <;> first | (dsimp only; simp only [x_cond_if x_e0, x_cond_if x_l0, x_cond_if x_g0, x_cond_if x_p0, x_cond_if x_m0, x_cond_if x_eqb_iff, x_cond_if x_ltb_iff, x_cond_if x_leb_iff]; unfold x_br; dsimp only; done) | (dsimp only; simp only [x_cond_if x_e0, x_cond_if x_l0, x_cond_if x_g0, x_cond_if x_p0, x_cond_if x_m0, x_cond_if x_eqb_iff, x_cond_if x_ltb_iff, x_cond_if x_leb_iff]; rfl) | rfl) | (first | (dsimp only; simp only [x_cond_if x_e0, x_cond_if x_l0, x_cond_if x_g0, x_cond_if x_p0, x_cond_if x_m0, x_cond_if x_eqb_iff, x_cond_if x_ltb_iff, x_cond_if x_leb_iff]; unfold x_br; dsimp only; done) | (dsimp only; simp only [x_cond_if x_e0, x_cond_if x_l0, x_cond_if x_g0, x_cond_if x_p0, x_cond_if x_m0, x_cond_if x_eqb_iff, x_cond_if x_ltb_iff, x_cond_if x_leb_iff]; rfl) | rfl)) | (first | (dsimp only; simp only [x_cond_if x_e0, x_cond_if x_l0, x_cond_if x_g0, x_cond_if x_p0, x_cond_if x_m0, x_cond_if x_eqb_iff, x_cond_if x_ltb_iff, x_cond_if x_leb_iff]; unfold x_br; dsimp only; done) | (dsimp only; simp only [x_cond_if x_e0, x_cond_if x_l0, x_cond_if x_g0, x_cond_if x_p0, x_cond_if x_m0, x_cond_if x_eqb_iff, x_cond_if x_ltb_iff, x_cond_if x_leb_iff]; rfl) | rfl)) | (first | (dsimp only; simp only [x_cond_if x_e0, x_cond_if x_l0, x_cond_if x_g0, x_cond_if x_p0, x_cond_if x_m0, x_cond_if x_eqb_iff, x_cond_if x_ltb_iff, x_cond_if x_leb_iff]; unfold x_br; dsimp only; done) | (dsimp only; simp only [x_cond_if x_e0, x_cond_if x_l0, x_cond_if x_g0, x_cond_if x_p0, x_cond_if x_m0, x_cond_if x_eqb_iff, x_cond_if x_ltb_iff, x_cond_if x_leb_iff]; rfl) | rfl))
noncomputable def x_op3 (a b : Nat) (z : Int) : Instr → Option (List Value → x_W → Option (List Value × x_W))
  | .ldc _ => some (fun st W => if a = 0 then some (.int (Int32.ofInt z) :: st, W) else some (.retAddr 28 :: st, W))
  | .ldc_w _ => some (fun st W => some (.int (Int32.ofInt z) :: st, W))
  | .ldc2_w _ => some (fun st W => some (.long (Int64.ofInt z) :: st, W))
  | .getstatic _ => some (fun st W => match x_sts[a]? with | some s => some (s.2.2.2.1 :: st, W) | none => none)
  | .getfield _ => some (fun st W => match st with
    | .ref k :: r => (match x_gc W k with
    | some c => cond (x_isO c.1 a b) (some (x_fc c b ((x_fty a).getD b .int) :: r, W)) none
    | none => none)
    | .retAddr i :: r => (if a = 200 then (match x_xf b i with | some v => some (v :: r, W) | none => none) else none)
    | _ => none)
  | .putfield _ => some (fun st W => match st with
    | v :: .ref k :: r => (match x_gc W k with
    | some c => cond (x_isO c.1 a b) (cond (x_fit ((x_fty a).getD b .int) v) (x_pc W k c b ((x_fty a).getD b .int) v fun W' => some (r, W')) none) none
    | none => none)
    | _ => none)
  | .arraylength => some (fun st W => match st with
    | .ref k :: r => (match x_gc W k with
    | some c => (match c.1 with | .inr (t, n) => if t < 7 then some (.int (Int32.ofNat n) :: r, W) else none | _ => none)
    | none => none)
    | .retAddr i :: r => (match x_xa0 i with | some q => some (.int (Int32.ofNat q.2.1) :: r, W) | none => none)
    | _ => none)
  | .iaload => some (fun st W => match st with
    | .int i :: .ref k :: r => (match x_fld (fun t => t == 0) W k i with | some v => some (v :: r, W) | none => none)
    | .int i :: .retAddr e :: r => (match x_fdX (fun t => t == .int) e i with | some v => some (v :: r, W) | none => none)
    | _ => none)
  | .laload => some (fun st W => match st with
    | .int i :: .ref k :: r => (match x_fld (fun t => t == 1) W k i with | some v => some (v :: r, W) | none => none)
    | _ => none)
  | .baload => some (fun st W => match st with
    | .int i :: .ref k :: r => (match x_fld (fun t => t == 2 || t == 3) W k i with | some v => some (v :: r, W) | none => none)
    | .int i :: .retAddr e :: r => (match x_fdX (fun t => t == .byte) e i with | some v => some (v :: r, W) | none => none)
    | _ => none)
  | .aaload => some (fun st W => match st with
    | .int i :: .ref k :: r => (match x_fld (fun t => decide (4 ≤ t) && decide (t < 7)) W k i with | some v => some (v :: r, W) | none => none)
    | .int i :: .retAddr e :: r => (match x_fdX x_isObj e i with | some v => some (v :: r, W) | none => none)
    | _ => none)
  | .iastore => some (fun st W => match st with
    | .int x :: .int i :: .ref k :: r => (x_fst W k i 0 (.int x) r)
    | _ => none)
  | .lastore => some (fun st W => match st with
    | .long x :: .int i :: .ref k :: r => (x_fst W k i 1 (.long x) r)
    | _ => none)
  | .bastore => some (fun st W => match st with
    | .int x :: .int i :: .ref k :: r => (if x_faty W k = 2 then x_fst W k i 2 (narrow .byte (.int x)) r else if x_faty W k = 3 then x_fst W k i 3 (narrow .boolean (.int x)) r else none)
    | _ => none)
  | .aastore => some (fun st W => match st with
    | .null :: .int i :: .ref k :: r => (if 4 ≤ x_faty W k ∧ x_faty W k < 7 then x_fst W k i (x_faty W k) .null r else none)
    | .ref k2 :: .int i :: .ref k :: r => (match x_gc W k2 with
    | some c2 => if 4 ≤ x_faty W k ∧ x_faty W k < 7 ∧ c2.1 = .inl (x_eci (x_faty W k)) then x_fst W k i (x_faty W k) (.ref k2) r else none
    | none => none)
    | _ => none)
  | .new _ => some (fun st W => if a < 12 then x_nc W (.inl a) (fun W' => some (.ref W.1 :: st, W')) none else none)
  | .newarray at_ => some (fun st W => match st with
    | .int n :: r => (match x_atn at_ with | some t => if ¬ n < 0 ∧ n.toNatClampNeg ≤ 100000 then x_sqN n.toNatClampNeg fun m => x_nc W (.inr (t, m)) (fun W' => some (.ref W.1 :: r, W')) none else none | none => none)
    | _ => none)
  | .anewarray _ => some (fun st W => match st with
    | .int n :: r => (if 4 ≤ a ∧ a < 7 ∧ ¬ n < 0 ∧ n.toNatClampNeg ≤ 100000 then x_sqN n.toNatClampNeg fun m => x_nc W (.inr (a, m)) (fun W' => some (.ref W.1 :: r, W')) none else none)
    | _ => none)
  | _ => none
theorem x_op3_ok {a b : Nat} {z : Int} {ins : Instr} {f : List Value → x_W → Option (List Value × x_W)} (h : x_op3 a b z ins = some f) (st : List Value) (W : x_W) : f st W = x_fh a b z ins st W := by
  unfold x_op3 at h
  split at h
  all_goals first
    | (cases h; done)
    | (cases h; rfl)
    | (cases h; rcases st with _ | ⟨v, r⟩ <;> first | rfl | (cases v <;> first | rfl | (rcases r with _ | ⟨w, r⟩ <;> first | rfl | (cases w <;> first | rfl | (rcases r with _ | ⟨u, r⟩ <;> first | rfl | (cases u <;> rfl))))))
/-! ===== the quick machine ===== -/
noncomputable def x_sl {β : Type} (lo : x_Lo) (c : x_Lo → β) : β := match lo with
  | (i, .int x) :: r => x_sqN x.toUInt32.toBitVec.toNat (fun m => List.rec (motive := fun _ => (x_Lo → β) → β) (fun k => k []) (fun q _ ih k => ih (fun t => k (q :: t))) r (fun t => c ((i, .int ⟨⟨BitVec.ofNat 32 m⟩⟩) :: t)))
  | l => List.rec (motive := fun _ => (x_Lo → β) → β) (fun k => k []) (fun q _ ih k => ih (fun t => k (q :: t))) l c
theorem x_sl_aux {β : Type} : ∀ (l : x_Lo) (c : x_Lo → β), List.rec (motive := fun _ => (x_Lo → β) → β) (fun k => k []) (fun q _ ih k => ih (fun t => k (q :: t))) l c = c l
  | [], _ => rfl
  | q :: r, c => x_sl_aux r (fun t => c (q :: t))
theorem x_sl_eq {β : Type} (lo : x_Lo) (c : x_Lo → β) : x_sl lo c = c lo := by
  unfold x_sl
  split
  · rw [x_sqN_eq, x_sl_aux, BitVec.ofNat_toNat, BitVec.setWidth_eq]
  · rw [x_sl_aux]
noncomputable def x_isld : Instr → Bool
  | .iload_n _ | .iload _ | .lload_n _ | .lload _ | .aload_n _ | .aload _ => true
  | _ => false
noncomputable def x_frcv (mi : Nat) (W : x_W) : List Value → Bool
  | .ref k :: _ => match x_gc W k with | some c => (match c.1 with | .inl ci => ci == x_mci mi && decide (x_mci mi < 12) | _ => false) | none => false
  | .retAddr i :: _ => i == 28 && x_mci mi == 100
  | _ => false
theorem x_frcv_ok {mi : Nat} {W : x_W} {G : x_G} {as : List Value} (hR : x_R W G) (h : x_frcv mi W as = true) : x_rcv mi G as = true := by
  unfold x_frcv at h
  unfold x_rcv
  split at h
  · split at h
    · next c hc =>
      dsimp only
      rw [(x_gc_R hR hc).2.2.1]
      cases hs : c.1 with
      | inl ci => rw [hs] at h; exact h
      | inr q => rw [hs] at h; cases h
    · cases h
  · exact h
  · cases h
noncomputable def x_o0 (ins : Instr) (st : List Value) : Option (List Value) := match x_op0 ins with | some f => f st | none => none
noncomputable def x_o1 (nL : Nat) (ins : Instr) (lo : x_Lo) (st : List Value) : Option (x_Lo × List Value) := match x_op1 nL ins with | some f => f lo st | none => none
noncomputable def x_o2 (a pc : Nat) (ins : Instr) (st : List Value) : Option (Nat × List Value) := match x_op2 a pc ins with | some f => f st | none => none
noncomputable def x_o3 (a b : Nat) (z : Int) (ins : Instr) (st : List Value) (W : x_W) : Option (List Value × x_W) := match x_op3 a b z ins with | some f => f st W | none => none
theorem x_o0_ok {ins : Instr} {st st' : List Value} (h : x_o0 ins st = some st') : x_alu ins st = some st' := by
  unfold x_o0 at h
  split at h
  · next hf => rw [← h]; exact (x_op0_ok hf st).symm
  · cases h
theorem x_o1_ok {nL : Nat} {ins : Instr} {lo : x_Lo} {st : List Value} {q : x_Lo × List Value} (h : x_o1 nL ins lo st = some q) : x_loc nL ins lo st = some q := by
  unfold x_o1 at h
  split at h
  · next hf => rw [← h]; exact (x_op1_ok hf lo st).symm
  · cases h
theorem x_o2_ok {a pc : Nat} {ins : Instr} {st : List Value} {q : Nat × List Value} (h : x_o2 a pc ins st = some q) : x_br a pc ins st = some q := by
  unfold x_o2 at h
  split at h
  · next hf => rw [← h]; exact (x_op2_ok hf st).symm
  · cases h
theorem x_o3_ok {a b : Nat} {z : Int} {ins : Instr} {st : List Value} {W : x_W} {q : List Value × x_W} (h : x_o3 a b z ins st W = some q) : x_fh a b z ins st W = some q := by
  unfold x_o3 at h
  split at h
  · next hf => rw [← h]; exact (x_op3_ok hf st W).symm
  · cases h
/-! copies of ints from one array to another -/
noncomputable def x_cpT (d0 d1 : Nat) (s t : x_T Int32) (sp dp n : Nat) : x_T Int32 := Nat.rec t (fun m ih => x_ts d1 ih (Nat.add dp m) (match x_tg d0 s (Nat.add sp m) with | some v => v | none => 0)) n
theorem x_cpT_ok (d0 d1 : Nat) (s t : x_T Int32) (sp dp : Nat) : ∀ n, dp + n ≤ 2 ^ d1 → ∀ j, j < 2 ^ d1 → x_tg d1 (x_cpT d0 d1 s t sp dp n) j = if dp ≤ j ∧ j < dp + n then some (match x_tg d0 s (sp + (j - dp)) with | some v => v | none => 0) else x_tg d1 t j
  | 0, _, j, _ => by rw [if_neg (by omega)]; rfl
  | n + 1, h, j, hj => by
    show x_tg d1 (x_ts d1 (x_cpT d0 d1 s t sp dp n) (dp + n) (match x_tg d0 s (sp + n) with | some v => v | none => 0)) j = _
    rw [x_tg_ts _ _ _ _ _ (by omega) hj]
    by_cases hjn : j = dp + n
    · rw [if_pos hjn, if_pos (by omega), show sp + (j - dp) = sp + n by omega]
    · rw [if_neg hjn, x_cpT_ok d0 d1 s t sp dp n (by omega) j hj]
      by_cases hr : dp ≤ j ∧ j < dp + n
      · rw [if_pos hr, if_pos (by omega)]
      · rw [if_neg hr, if_neg (by omega)]
noncomputable def x_fcp (W : x_W) (k0 k1 : Nat) (i1 i2 i3 : Int32) : Option x_W := match x_gc W k0, x_gc W k1 with
  | some c0, some c1 => (match c0.1, c1.1 with
    | .inr (t0, n0), .inr (t1, n1) => cond (Nat.beq t0 0 && (Nat.beq t1 0 && (x_ixb i1 2147483648 && (x_ixb i2 2147483648 && (x_ixb i3 2147483648 && (Nat.ble (Nat.add (x_n32 i1) (x_n32 i3)) n0 && Nat.ble (Nat.add (x_n32 i2) (x_n32 i3)) n1))))))
      (x_sqN (x_n32 i1) fun sp => x_sqN (x_n32 i2) fun dp => x_sqN (x_n32 i3) fun n => some (W.1, x_ts 8 W.2 k1 (c1.1, x_cpT (x_dp c0.1) (x_dp c1.1) c0.2.1 c1.2.1 sp dp n, c1.2.2.1, c1.2.2.2))) none
    | _, _ => none)
  | _, _ => none
theorem x_fcp_ok {W W' : x_W} {G : x_G} {k0 k1 : Nat} {i1 i2 i3 : Int32} (hR : x_R W G) (h : x_fcp W k0 k1 i1 i2 i3 = some W') : ∃ n0 n1, G.1[k0]? = some (.inr (0, n0)) ∧ G.1[k1]? = some (.inr (0, n1)) ∧ ¬ i1 < 0 ∧ ¬ i2 < 0 ∧ ¬ i3 < 0 ∧ i1.toNatClampNeg + i3.toNatClampNeg ≤ n0 ∧ i2.toNatClampNeg + i3.toNatClampNeg ≤ n1 ∧ x_R W' (x_cpy G k0 k1 0 i1.toNatClampNeg i2.toNatClampNeg i3.toNatClampNeg) := by
  unfold x_fcp at h
  split at h
  · next c0 c1 hc0 hc1 =>
    split at h
    · next t0 n0 t1 n1 e0 e1 =>
      cases hb : (Nat.beq t0 0 && (Nat.beq t1 0 && (x_ixb i1 2147483648 && (x_ixb i2 2147483648 && (x_ixb i3 2147483648 && (Nat.ble (Nat.add (x_n32 i1) (x_n32 i3)) n0 && Nat.ble (Nat.add (x_n32 i2) (x_n32 i3)) n1))))))
      · rw [hb] at h; cases h
      rw [hb] at h
      simp only [cond, x_sqN_eq] at h
      cases h
      simp only [Bool.and_eq_true] at hb
      obtain ⟨b1, b2, b3, b4, b5, b6, b7⟩ := hb
      have b1 : t0 = 0 := Nat.eq_of_beq_eq_true b1
      have b2 : t1 = 0 := Nat.eq_of_beq_eq_true b2
      subst b1; subst b2
      have b6 : x_n32 i1 + x_n32 i3 ≤ n0 := Nat.le_of_ble_eq_true b6
      have b7 : x_n32 i2 + x_n32 i3 ≤ n1 := Nat.le_of_ble_eq_true b7
      obtain ⟨g1, a1⟩ := x_ixb_ok b3
      obtain ⟨g2, a2⟩ := x_ixb_ok b4
      obtain ⟨g3, a3⟩ := x_ixb_ok b5
      rw [a1, a2, a3]
      obtain ⟨q1, q2, q3, q4⟩ := x_gc_R hR hc0
      obtain ⟨r1, r2, r3, r4⟩ := x_gc_R hR hc1
      rw [e0] at q3; rw [e1] at r3
      refine ⟨n0, n1, q3, r3, fun q => g1 (Or.inl q), fun q => g2 (Or.inl q), fun q => g3 (Or.inl q), b6, b7, ?_⟩
      have hs : x_cpy G k0 k1 0 (x_n32 i1) (x_n32 i2) (x_n32 i3) = (G.1, (fun a => if a = k1 then va_cpy (G.2.1 k0) (G.2.1 k1) (x_n32 i1) (x_n32 i2) (x_n32 i3) else G.2.1 a), G.2.2.1, G.2.2.2) := by
        unfold x_cpy; rw [if_neg (by decide)]
      rw [hs]
      have p0 : n0 < 2 ^ x_dp c0.1 := by rw [e0]; exact Nat.lt_log2_self
      have p1 : n1 < 2 ^ x_dp c1.1 := by rw [e1]; exact Nat.lt_log2_self
      refine x_R_put (c' := (c1.1, x_cpT (x_dp c0.1) (x_dp c1.1) c0.2.1 c1.2.1 (x_n32 i1) (x_n32 i2) (x_n32 i3), c1.2.2.1, c1.2.2.2)) hR hc1 rfl rfl (fun a ha => ⟨if_neg ha, rfl, rfl⟩) (fun j hj => ⟨?_, (r4 j hj).2⟩)
      show (if k1 = k1 then va_cpy (G.2.1 k0) (G.2.1 k1) (x_n32 i1) (x_n32 i2) (x_n32 i3) else G.2.1 k1) j = x_cI _ j
      rw [if_pos rfl]
      unfold x_cI va_cpy
      dsimp only
      rw [x_cpT_ok _ _ _ _ _ _ _ (by omega) j hj]
      by_cases hr : x_n32 i2 ≤ j ∧ j < x_n32 i2 + x_n32 i3
      · rw [if_pos hr, if_pos hr]
        have hq := (q4 (x_n32 i1 + (j - x_n32 i2)) (by omega)).1
        rw [hq]; rfl
      · rw [if_neg hr, if_neg hr]
        exact (r4 j hj).1
    · cases h
  · cases h
noncomputable def x_fast (n : Nat) : Nat → Nat → List (Nat × x_Row) → x_Lo → List Value → x_W → Option (Option Value × x_W) :=
  Nat.rec (motive := fun _ => Nat → Nat → List (Nat × x_Row) → x_Lo → List Value → x_W → Option (Option Value × x_W)) (fun _ _ _ _ _ _ => none) (fun _ IH d mi rs lo st W => match rs with
    | [] => none
    | (pc, ins, len, a, b, _, z) :: rt => match x_cat ins with
      | 0 => match x_o0 ins st with
        | some st' => x_sq st' fun st2 => IH d mi rt lo st2 W
        | none => none
      | 1 => match x_o1 (x_ml mi) ins lo st with
        | some (lo', st') => IH d mi rt lo' st' W
        | none => none
      | 2 => match x_o2 a pc ins st with
        | some (pc', st') => IH d mi (x_nx mi pc len pc' rt) lo st' W
        | none => none
      | 3 => match x_o3 a b z ins st W with
        | some (st', W') => x_sq st' fun st2 => IH d mi rt lo st2 W'
        | none => none
      | 4 => cond (Nat.beq len 3) (if a = 1000 then (match st with
          | .ref _ :: r => if 1 ≤ d ∧ x_words r ≤ 8 then IH d mi rt lo r W else none
          | _ => none)
        else if a = 1001 then (match st with
          | [.int n', .int dp, .ref k1, .int sp, .ref k0] => if 1 ≤ d then (match x_fcp W k0 k1 sp dp n' with | some W' => IH d mi rt lo [] W' | none => none) else none
          | _ => none)
        else if a = 1002 ∨ a = 1003 then (match st with
          | .int y :: .int x :: r => if 1 ≤ d ∧ x_words r ≤ 8 then x_sq (.int (x_mm a x y) :: r) fun st2 => IH d mi rt lo st2 W else none
          | _ => none)
        else if 1 ≤ d ∧ b ≤ st.length ∧ x_words (st.drop b) ≤ 8 ∧ x_words (st.take b) ≤ x_ml a ∧ (x_stat a = true ∨ x_frcv a W (st.take b).reverse = true) then
          x_sl (lv_args 0 (st.take b).reverse) fun lo2 => match IH (d - 1) a (x_tb a) lo2 [] W with
          | some (v, W') => x_sq (v.toList ++ st.drop b) fun st2 => IH d mi rt lo st2 W'
          | none => none
        else none) none
      | _ => match x_ret (x_rt mi) ins st with
        | some v => some (v, W)
        | none => none) n
theorem x_fast_s (n d mi : Nat) (rs : List (Nat × x_Row)) (lo : x_Lo) (st : List Value) (W : x_W) : x_fast (n + 1) d mi rs lo st W = match rs with
    | [] => none
    | (pc, ins, len, a, b, _, z) :: rt => match x_cat ins with
      | 0 => match x_o0 ins st with
        | some st' => x_sq st' fun st2 => x_fast n d mi rt lo st2 W
        | none => none
      | 1 => match x_o1 (x_ml mi) ins lo st with
        | some (lo', st') => x_fast n d mi rt lo' st' W
        | none => none
      | 2 => match x_o2 a pc ins st with
        | some (pc', st') => x_fast n d mi (x_nx mi pc len pc' rt) lo st' W
        | none => none
      | 3 => match x_o3 a b z ins st W with
        | some (st', W') => x_sq st' fun st2 => x_fast n d mi rt lo st2 W'
        | none => none
      | 4 => cond (Nat.beq len 3) (if a = 1000 then (match st with
          | .ref _ :: r => if 1 ≤ d ∧ x_words r ≤ 8 then x_fast n d mi rt lo r W else none
          | _ => none)
        else if a = 1001 then (match st with
          | [.int n', .int dp, .ref k1, .int sp, .ref k0] => if 1 ≤ d then (match x_fcp W k0 k1 sp dp n' with | some W' => x_fast n d mi rt lo [] W' | none => none) else none
          | _ => none)
        else if a = 1002 ∨ a = 1003 then (match st with
          | .int y :: .int x :: r => if 1 ≤ d ∧ x_words r ≤ 8 then x_sq (.int (x_mm a x y) :: r) fun st2 => x_fast n d mi rt lo st2 W else none
          | _ => none)
        else if 1 ≤ d ∧ b ≤ st.length ∧ x_words (st.drop b) ≤ 8 ∧ x_words (st.take b) ≤ x_ml a ∧ (x_stat a = true ∨ x_frcv a W (st.take b).reverse = true) then
          x_sl (lv_args 0 (st.take b).reverse) fun lo2 => match x_fast n (d - 1) a (x_tb a) lo2 [] W with
          | some (v, W') => x_sq (v.toList ++ st.drop b) fun st2 => x_fast n d mi rt lo st2 W'
          | none => none
        else none) none
      | _ => match x_ret (x_rt mi) ins st with
        | some v => some (v, W)
        | none => none := rfl
theorem x_isld_ok {nL : Nat} {ins : Instr} {lo lo' : x_Lo} {st st' : List Value} (h : x_isld ins = true) (hl : x_loc nL ins lo st = some (lo', st')) : lo' = lo := by
  cases ins
  all_goals first
    | (cases h; done)
    | (have hl2 := hl; unfold x_loc at hl2; dsimp only at hl2; obtain ⟨_, _, _, h3, _⟩ := x_ld_spec hl2; exact h3)
theorem x_fast_ok {X : x_Ext} : ∀ (n d mi pc : Nat) (rs : List (Nat × x_Row)) (lo : x_Lo) (st : List Value) (W : x_W) (v : Option Value) (W' : x_W), x_at1 mi pc rs → x_fast n d mi rs lo st W = some (v, W') → ∀ G : x_G, x_R W G → ∃ G', x_exec X n d mi pc lo st G = some (v, G') ∧ x_R W' G' := by
  intro n
  induction n with
  | zero => intro d mi pc rs lo st W v W' _ h; cases h
  | succ n ih =>
    intro d mi pc rs lo st W v W' hat h G hR
    rw [x_fast_s] at h
    unfold x_exec
    split at h
    · cases h
    · next k ins len a b q z rt =>
      obtain ⟨hk, hrow, hnx⟩ := x_at1_row hat
      subst hk
      have hnx : x_at1 mi (k + len) rt := hnx
      rw [hrow]; dsimp only
      split at h
      · next hc =>
        rw [hc]; (try dsimp only)
        split at h
        · next hh => rw [x_sq_eq] at h; rw [x_o0_ok hh]; exact ih _ _ _ _ _ _ _ _ _ hnx h G hR
        · cases h
      · next hc =>
        rw [hc]; (try dsimp only)
        split at h
        · next lo' st' hh =>
          have hh := x_o1_ok hh
          rw [hh]; dsimp only
          exact ih _ _ _ _ _ _ _ _ _ hnx h G hR
        · cases h
      · next hc =>
        rw [hc]; (try dsimp only)
        split at h
        · next hh => rw [x_o2_ok hh]; exact ih _ _ _ _ _ _ _ _ _ (x_nx_ok hnx) h G hR
        · cases h
      · next hc =>
        rw [hc]; (try dsimp only)
        split at h
        · next hh =>
          rw [x_sq_eq] at h
          obtain ⟨G2, h1, h2⟩ := x_fh_ok (X := X) hR (x_o3_ok hh)
          rw [h1]; exact ih _ _ _ _ _ _ _ _ _ hnx h G2 h2
        · cases h
      · next hc =>
        rw [hc]; (try dsimp only)
        cases hl3 : Nat.beq len 3
        · rw [hl3] at h; cases h
        rw [hl3] at h
        have hl3 : len = 3 := Nat.eq_of_beq_eq_true hl3
        rw [hl3] at hnx
        simp only [cond] at h
        split at h
        · next ha =>
          rw [if_pos ha]
          split at h
          · split at h
            · next hd => dsimp only; rw [if_pos hd]; exact ih _ _ _ _ _ _ _ _ _ hnx h G hR
            · cases h
          · cases h
        · next ha =>
          rw [if_neg ha]
          split at h
          · next ha1 =>
            rw [if_pos ha1]
            split at h
            · split at h
              · next hd =>
                split at h
                · next W2 hcp =>
                  obtain ⟨n0, n1, e0, e1, f1, f2, f3, f4, f5, f6⟩ := x_fcp_ok hR hcp
                  dsimp only
                  rw [e0, e1]; dsimp only
                  rw [if_pos ⟨rfl, by decide, hd, f1, f2, f3, f4, f5⟩]
                  exact ih _ _ _ _ _ _ _ _ _ hnx h _ f6
                · cases h
              · cases h
            · cases h
          · next ha1 =>
            rw [if_neg ha1]
            split at h
            · next ha2 =>
              rw [if_pos ha2]
              split at h
              · split at h
                · next hd => rw [x_sq_eq] at h; dsimp only; rw [if_pos hd]; exact ih _ _ _ _ _ _ _ _ _ hnx h G hR
                · cases h
              · cases h
            · next ha2 =>
              rw [if_neg ha2]
              split at h
              · next hq =>
                rw [x_sl_eq] at h
                rw [if_pos ⟨hq.1, hq.2.1, hq.2.2.1, hq.2.2.2.1, hq.2.2.2.2.imp id (x_frcv_ok hR)⟩]
                split at h
                · next v2 W2 hcall =>
                  rw [x_sq_eq] at h
                  obtain ⟨G2, h1, h2⟩ := ih _ _ 0 _ _ _ _ _ _ (x_at1_0 a) hcall G hR
                  rw [h1]; exact ih _ _ _ _ _ _ _ _ _ hnx h G2 h2
                · cases h
              · cases h
      · next hc0 hc1 hc2 hc3 hc4 =>
        split at h
        · next v2 hret =>
          cases h
          refine ⟨G, ?_, hR⟩
          split
          all_goals first
            | (exfalso; simp_all; done)
            | (rw [hret])
        · cases h
noncomputable def x_W0 : x_W := (0, x_Te)
theorem x_R0 : x_R x_W0 x_G0 := ⟨rfl, by decide, fun k _ => by show ([] : List _)[k]? = (x_tg 8 x_Te k).map _; rw [x_tg_e]; rfl, fun k _ c h => by have h : x_tg 8 (x_Te : x_T x_C) k = some c := h; rw [x_tg_e] at h; cases h⟩
