/-! ===== printed by gen41.py: the cells that stand from the start on ===== -/
def x_sh0 : List (Nat ⊕ (Nat × Nat)) := [.inl 10, .inr (4, 4), .inr (2, 900), .inl 4, .inr (1, 6), .inr (1, 6), .inl 3, .inr (0, 6), .inr (0, 6), .inr (0, 6), .inr (0, 6), .inr (3, 6), .inr (0, 6), .inl 3, .inr (0, 6), .inr (0, 6), .inr (0, 6), .inr (0, 6), .inr (3, 6), .inr (5, 3), .inr (6, 3), .inr (0, 1422), .inl 0, .inr (1, 30), .inr (0, 30), .inr (1, 30), .inr (0, 4), .inr (0, 4), .inl 1, .inl 3, .inr (0, 6), .inr (0, 6), .inr (0, 6), .inr (0, 6), .inr (3, 6), .inl 3, .inr (0, 6), .inr (0, 6), .inr (0, 6), .inr (0, 6), .inr (3, 6), .inr (0, 72), .inr (0, 72), .inr (0, 6), .inr (0, 6), .inl 2, .inl 3, .inr (0, 6), .inr (0, 6), .inr (0, 6), .inr (0, 6), .inr (3, 6), .inl 3, .inr (0, 6), .inr (0, 6), .inr (0, 6), .inr (0, 6), .inr (3, 6), .inr (0, 6), .inr (0, 6), .inr (0, 5), .inl 9, .inr (1, 60), .inl 9, .inr (1, 60), .inl 9, .inr (1, 60), .inl 9, .inr (1, 60), .inl 11, .inr (0, 1760), .inr (1, 100), .inr (0, 4), .inr (0, 4), .inr (1, 240), .inr (2, 900), .inr (2, 900), .inr (0, 60), .inr (0, 500), .inr (0, 500), .inr (0, 500), .inr (0, 500), .inr (0, 500), .inr (0, 500), .inr (1, 30), .inr (1, 30), .inr (1, 4), .inr (0, 30), .inr (0, 5), .inr (0, 12), .inr (0, 6), .inr (0, 6), .inr (0, 23716), .inr (0, 100), .inr (0, 100), .inr (0, 100), .inr (0, 100), .inr (0, 100), .inr (0, 100), .inr (3, 6), .inr (3, 60), .inr (0, 5)]
def x_fx : List ((Nat × Nat) × Nat) := [((0, 3), 1), ((0, 4), 2), ((0, 10), 19), ((0, 11), 20), ((0, 13), 21), ((0, 15), 22), ((0, 16), 28), ((0, 17), 45), ((1, 0), 61), ((1, 1), 63), ((1, 2), 65), ((1, 3), 67), ((3, 1), 4), ((3, 2), 5), ((3, 7), 6), ((3, 8), 12), ((3, 9), 13), ((6, 1), 7), ((6, 2), 8), ((6, 3), 9), ((6, 4), 10), ((6, 5), 11), ((13, 1), 14), ((13, 2), 15), ((13, 3), 16), ((13, 4), 17), ((13, 5), 18), ((22, 0), 23), ((22, 1), 24), ((22, 2), 25), ((22, 4), 26), ((22, 5), 27), ((28, 2), 29), ((28, 3), 35), ((28, 7), 41), ((28, 9), 42), ((28, 10), 43), ((28, 11), 44), ((29, 1), 30), ((29, 2), 31), ((29, 3), 32), ((29, 4), 33), ((29, 5), 34), ((35, 1), 36), ((35, 2), 37), ((35, 3), 38), ((35, 4), 39), ((35, 5), 40), ((45, 0), 46), ((45, 1), 52), ((45, 2), 58), ((45, 3), 59), ((45, 16), 60), ((46, 1), 47), ((46, 2), 48), ((46, 3), 49), ((46, 4), 50), ((46, 5), 51), ((52, 1), 53), ((52, 2), 54), ((52, 3), 55), ((52, 4), 56), ((52, 5), 57), ((61, 0), 62), ((63, 0), 64), ((65, 0), 66), ((67, 0), 68), ((69, 0), 70), ((69, 1), 71), ((69, 5), 72), ((69, 6), 73), ((69, 7), 74), ((69, 8), 75), ((69, 9), 76), ((69, 21), 77), ((69, 26), 78), ((69, 27), 79), ((69, 28), 80), ((69, 31), 81), ((69, 32), 82), ((69, 33), 83), ((69, 34), 84), ((69, 35), 85), ((69, 36), 86), ((69, 37), 87), ((69, 38), 88), ((69, 41), 89), ((69, 42), 90), ((69, 43), 91), ((69, 47), 92), ((69, 49), 93), ((69, 50), 94), ((69, 51), 95), ((69, 52), 96), ((69, 53), 97), ((69, 54), 98), ((69, 71), 99), ((69, 72), 100), ((69, 73), 101)]
def x_fixed (k j : Nat) : Option Nat := x_fx.lookup (k, j)
/-- the world's fixed part is as it was made -/
def x_WF (sh : List (Nat ⊕ (Nat × Nat))) (gr : Nat → Nat → Value) : Prop := (∀ (k : Nat) (s : Nat ⊕ (Nat × Nat)), x_sh0[k]? = some s → sh[k]? = some s) ∧ ∀ k j v, x_fixed k j = some v → gr k j = .ref v
theorem x_WF.s {sh : List (Nat ⊕ (Nat × Nat))} {gr : Nat → Nat → Value} (h : x_WF sh gr) {k : Nat} {s : Nat ⊕ (Nat × Nat)} (hk : x_sh0[k]? = some s) : sh[k]? = some s := h.1 k s hk
theorem x_WF.r {sh : List (Nat ⊕ (Nat × Nat))} {gr : Nat → Nat → Value} (h : x_WF sh gr) {k j v : Nat} (hk : x_fixed k j = some v) : gr k j = .ref v := h.2 k j v hk
def x_tyI : FieldType → Bool | .int | .boolean | .byte | .char | .short => true | _ => false
def x_tyR : FieldType → Bool | .object _ | .array _ => true | _ => false
section XEV2
variable {X : x_Ext} {d mi pc nx a b q len ml : Nat} {z : Int} {lo lo' : x_Lo} {r : List Value} {P : Option Value → x_G → Prop} {T : List (Nat × x_Row)} {rt : Option FieldType}
variable {sh : List (Nat ⊕ (Nat × Nat))} {gi : Nat → Nat → Int32} {gl : Nat → Nat → Int64} {gr : Nat → Nat → Value} {k i0 n : Nat} {i : Int32}
theorem ev_getI (F : x_F mi T ml rt) (hr : T.lookup pc = some (.getfield i0, len, a, b, q, z)) (hk : sh[k]? = some (.inl a)) (hb : decide (b < (x_fty a).length) = true) (ht : x_tyI ((x_fty a).getD b .int) = true) (hn : pc + len = nx) (kk : x_Ev X d mi nx lo (.int (gi k b) :: r) (sh, gi, gl, gr) P) : x_Ev X d mi pc lo (.ref k :: r) (sh, gi, gl, gr) P := by
  refine ev_heap F hr rfl ?_ hn kk
  show (if sh[k]? = some (.inl a) ∧ b < (x_fty a).length then _ else none) = _
  rw [if_pos ⟨hk, of_decide_eq_true hb⟩]
  revert ht
  cases (x_fty a).getD b .int <;> intro ht <;> first | rfl | cases ht
theorem ev_getL (F : x_F mi T ml rt) (hr : T.lookup pc = some (.getfield i0, len, a, b, q, z)) (hk : sh[k]? = some (.inl a)) (hb : decide (b < (x_fty a).length) = true) (ht : (x_fty a).getD b .int = .long) (hn : pc + len = nx) (kk : x_Ev X d mi nx lo (.long (gl k b) :: r) (sh, gi, gl, gr) P) : x_Ev X d mi pc lo (.ref k :: r) (sh, gi, gl, gr) P := by
  refine ev_heap F hr rfl ?_ hn kk
  show (if sh[k]? = some (.inl a) ∧ b < (x_fty a).length then _ else none) = _
  rw [if_pos ⟨hk, of_decide_eq_true hb⟩, ht]
  rfl
theorem ev_getR {v : Value} (F : x_F mi T ml rt) (hr : T.lookup pc = some (.getfield i0, len, a, b, q, z)) (hk : sh[k]? = some (.inl a)) (hb : decide (b < (x_fty a).length) = true) (ht : x_tyR ((x_fty a).getD b .int) = true) (hv : gr k b = v) (hv2 : x_isR v = true) (hn : pc + len = nx) (kk : x_Ev X d mi nx lo (v :: r) (sh, gi, gl, gr) P) : x_Ev X d mi pc lo (.ref k :: r) (sh, gi, gl, gr) P := by
  refine ev_heap F hr rfl ?_ hn kk
  show (if sh[k]? = some (.inl a) ∧ b < (x_fty a).length then _ else none) = _
  rw [if_pos ⟨hk, of_decide_eq_true hb⟩]
  have h : x_fv (sh, gi, gl, gr) k b ((x_fty a).getD b .int) = v := by
    revert ht
    cases (x_fty a).getD b .int <;> intro ht <;> first | (cases ht; done) | (show x_nr (gr k b) = v; rw [hv]; exact x_nr_isR hv2)
  rw [h]
theorem ev_putI {x : Int32} (F : x_F mi T ml rt) (hr : T.lookup pc = some (.putfield i0, len, a, b, q, z)) (hk : sh[k]? = some (.inl a)) (hb : decide (b < (x_fty a).length) = true) (ht : (x_fty a).getD b .int = .int) (hn : pc + len = nx) (kk : x_Ev X d mi nx lo r (sh, x_up2 gi k b x, gl, gr) P) : x_Ev X d mi pc lo (.int x :: .ref k :: r) (sh, gi, gl, gr) P := by
  refine ev_heap F hr rfl ?_ hn kk
  show (if sh[k]? = some (.inl a) ∧ b < (x_fty a).length ∧ _ then _ else none) = _
  rw [ht, if_pos ⟨hk, of_decide_eq_true hb, rfl⟩]
  rfl
theorem ev_putZ {x : Int32} (F : x_F mi T ml rt) (hr : T.lookup pc = some (.putfield i0, len, a, b, q, z)) (hk : sh[k]? = some (.inl a)) (hb : decide (b < (x_fty a).length) = true) (ht : (x_fty a).getD b .int = .boolean) (hx : x = 0 ∨ x = 1) (hn : pc + len = nx) (kk : x_Ev X d mi nx lo r (sh, x_up2 gi k b x, gl, gr) P) : x_Ev X d mi pc lo (.int x :: .ref k :: r) (sh, gi, gl, gr) P := by
  refine ev_heap F hr rfl ?_ hn kk
  show (if sh[k]? = some (.inl a) ∧ b < (x_fty a).length ∧ _ then _ else none) = _
  rw [ht, if_pos ⟨hk, of_decide_eq_true hb, by rcases hx with rfl | rfl <;> rfl⟩]
  rfl
theorem ev_putL {x : Int64} (F : x_F mi T ml rt) (hr : T.lookup pc = some (.putfield i0, len, a, b, q, z)) (hk : sh[k]? = some (.inl a)) (hb : decide (b < (x_fty a).length) = true) (ht : (x_fty a).getD b .int = .long) (hn : pc + len = nx) (kk : x_Ev X d mi nx lo r (sh, gi, x_up2 gl k b x, gr) P) : x_Ev X d mi pc lo (.long x :: .ref k :: r) (sh, gi, gl, gr) P := by
  refine ev_heap F hr rfl ?_ hn kk
  show (if sh[k]? = some (.inl a) ∧ b < (x_fty a).length ∧ _ then _ else none) = _
  rw [ht, if_pos ⟨hk, of_decide_eq_true hb, rfl⟩]
  rfl
theorem ev_putR {v : Value} (F : x_F mi T ml rt) (hr : T.lookup pc = some (.putfield i0, len, a, b, q, z)) (hk : sh[k]? = some (.inl a)) (hb : decide (b < (x_fty a).length) = true) (ht : x_tyR ((x_fty a).getD b .int) = true) (hv : x_isR v = true) (hn : pc + len = nx) (kk : x_Ev X d mi nx lo r (sh, gi, gl, x_up2 gr k b v) P) : x_Ev X d mi pc lo (v :: .ref k :: r) (sh, gi, gl, gr) P := by
  refine ev_heap F hr rfl ?_ hn kk
  show (if sh[k]? = some (.inl a) ∧ b < (x_fty a).length ∧ _ then _ else none) = _
  have h : x_fit ((x_fty a).getD b .int) v = true ∧ x_put (sh, gi, gl, gr) k b ((x_fty a).getD b .int) v = (sh, gi, gl, x_up2 gr k b v) := by
    revert ht
    cases (x_fty a).getD b .int <;> intro ht <;> first | (cases ht; done) | exact ⟨hv, rfl⟩
  rw [if_pos ⟨hk, of_decide_eq_true hb, h.1⟩, h.2]
theorem ev_alen (F : x_F mi T ml rt) {t : Nat} (hr : T.lookup pc = some (.arraylength, len, a, b, q, z)) (hk : sh[k]? = some (.inr (t, n))) (ht : decide (t < 7) = true) (hn : pc + len = nx) (kk : x_Ev X d mi nx lo (.int (Int32.ofNat n) :: r) (sh, gi, gl, gr) P) : x_Ev X d mi pc lo (.ref k :: r) (sh, gi, gl, gr) P := by
  refine ev_heap F hr rfl ?_ hn kk
  simp only [x_heap, hk, of_decide_eq_true ht, if_true]
theorem x_ix (h0 : ¬ i < 0) (h1 : i.toNatClampNeg < n) : ¬ (i < 0 ∨ n ≤ i.toNatClampNeg) := fun h => h.elim h0 (fun h => absurd h1 (Nat.not_lt.mpr h))
theorem ev_iald (F : x_F mi T ml rt) (hr : T.lookup pc = some (.iaload, len, a, b, q, z)) (hk : sh[k]? = some (.inr (0, n))) (h0 : ¬ i < 0) (h1 : i.toNatClampNeg < n) (hn : pc + len = nx) (kk : x_Ev X d mi nx lo (.int (gi k i.toNatClampNeg) :: r) (sh, gi, gl, gr) P) : x_Ev X d mi pc lo (.int i :: .ref k :: r) (sh, gi, gl, gr) P := by
  refine ev_heap F hr rfl ?_ hn kk
  simp only [x_heap, x_ldA, hk]
  rw [if_pos ⟨rfl, x_ix h0 h1⟩]; rfl
theorem ev_lald (F : x_F mi T ml rt) (hr : T.lookup pc = some (.laload, len, a, b, q, z)) (hk : sh[k]? = some (.inr (1, n))) (h0 : ¬ i < 0) (h1 : i.toNatClampNeg < n) (hn : pc + len = nx) (kk : x_Ev X d mi nx lo (.long (gl k i.toNatClampNeg) :: r) (sh, gi, gl, gr) P) : x_Ev X d mi pc lo (.int i :: .ref k :: r) (sh, gi, gl, gr) P := by
  refine ev_heap F hr rfl ?_ hn kk
  simp only [x_heap, x_ldA, hk]
  rw [if_pos ⟨rfl, x_ix h0 h1⟩]; rfl
theorem ev_bald (F : x_F mi T ml rt) {t : Nat} (hr : T.lookup pc = some (.baload, len, a, b, q, z)) (hk : sh[k]? = some (.inr (t, n))) (ht : (t == 2 || t == 3) = true) (h0 : ¬ i < 0) (h1 : i.toNatClampNeg < n) (hn : pc + len = nx) (kk : x_Ev X d mi nx lo (.int (gi k i.toNatClampNeg) :: r) (sh, gi, gl, gr) P) : x_Ev X d mi pc lo (.int i :: .ref k :: r) (sh, gi, gl, gr) P := by
  refine ev_heap F hr rfl ?_ hn kk
  simp only [x_heap, x_ldA, hk]
  rw [if_pos ⟨ht, x_ix h0 h1⟩]
  simp only [Bool.or_eq_true, beq_iff_eq] at ht
  rcases ht with rfl | rfl <;> rfl
theorem ev_aald (F : x_F mi T ml rt) {t : Nat} {v : Value} (hr : T.lookup pc = some (.aaload, len, a, b, q, z)) (hk : sh[k]? = some (.inr (t, n))) (ht : (decide (4 ≤ t) && decide (t < 7)) = true) (h0 : ¬ i < 0) (h1 : i.toNatClampNeg < n) (hv : gr k i.toNatClampNeg = v) (hv2 : x_isR v = true) (hn : pc + len = nx) (kk : x_Ev X d mi nx lo (v :: r) (sh, gi, gl, gr) P) : x_Ev X d mi pc lo (.int i :: .ref k :: r) (sh, gi, gl, gr) P := by
  refine ev_heap F hr rfl ?_ hn kk
  simp only [x_heap, x_ldA, hk]
  rw [if_pos ⟨ht, x_ix h0 h1⟩]
  have h : x_fv (sh, gi, gl, gr) k i.toNatClampNeg (x_ety t) = v := by
    simp only [Bool.and_eq_true, decide_eq_true_eq] at ht
    obtain rfl | rfl | rfl : t = 4 ∨ t = 5 ∨ t = 6 := by omega
    all_goals (show x_nr (gr k _) = v; rw [hv]; exact x_nr_isR hv2)
  rw [h]
theorem ev_iast (F : x_F mi T ml rt) {x : Int32} (hr : T.lookup pc = some (.iastore, len, a, b, q, z)) (hk : sh[k]? = some (.inr (0, n))) (h0 : ¬ i < 0) (h1 : i.toNatClampNeg < n) (hn : pc + len = nx) (kk : x_Ev X d mi nx lo r (sh, x_up2 gi k i.toNatClampNeg x, gl, gr) P) : x_Ev X d mi pc lo (.int x :: .int i :: .ref k :: r) (sh, gi, gl, gr) P := by
  refine ev_heap F hr rfl ?_ hn kk
  simp only [x_heap, x_stA, hk]
  rw [if_pos ⟨trivial, x_ix h0 h1⟩]; rfl
theorem ev_last (F : x_F mi T ml rt) {x : Int64} (hr : T.lookup pc = some (.lastore, len, a, b, q, z)) (hk : sh[k]? = some (.inr (1, n))) (h0 : ¬ i < 0) (h1 : i.toNatClampNeg < n) (hn : pc + len = nx) (kk : x_Ev X d mi nx lo r (sh, gi, x_up2 gl k i.toNatClampNeg x, gr) P) : x_Ev X d mi pc lo (.long x :: .int i :: .ref k :: r) (sh, gi, gl, gr) P := by
  refine ev_heap F hr rfl ?_ hn kk
  simp only [x_heap, x_stA, hk]
  rw [if_pos ⟨trivial, x_ix h0 h1⟩]; rfl
theorem ev_bast (F : x_F mi T ml rt) {x : Int32} (hr : T.lookup pc = some (.bastore, len, a, b, q, z)) (hk : sh[k]? = some (.inr (2, n))) (h0 : ¬ i < 0) (h1 : i.toNatClampNeg < n) (hn : pc + len = nx) (kk : x_Ev X d mi nx lo r (sh, x_up2 gi k i.toNatClampNeg x.toInt8.toInt32, gl, gr) P) : x_Ev X d mi pc lo (.int x :: .int i :: .ref k :: r) (sh, gi, gl, gr) P := by
  refine ev_heap F hr rfl ?_ hn kk
  simp only [x_heap, x_aty, x_stA, hk]
  rw [if_pos trivial, if_pos ⟨trivial, x_ix h0 h1⟩]; rfl
theorem ev_zast (F : x_F mi T ml rt) {x : Int32} (hr : T.lookup pc = some (.bastore, len, a, b, q, z)) (hk : sh[k]? = some (.inr (3, n))) (h0 : ¬ i < 0) (h1 : i.toNatClampNeg < n) (hn : pc + len = nx) (kk : x_Ev X d mi nx lo r (sh, x_up2 gi k i.toNatClampNeg (x &&& 1), gl, gr) P) : x_Ev X d mi pc lo (.int x :: .int i :: .ref k :: r) (sh, gi, gl, gr) P := by
  refine ev_heap F hr rfl ?_ hn kk
  simp only [x_heap, x_aty, x_stA, hk]
  rw [if_neg (by decide), if_pos ⟨trivial, x_ix h0 h1⟩]; rfl
theorem ev_ic {n0 : Int} {v : Int32} (F : x_F mi T ml rt) (hr : T.lookup pc = some (.iconst n0, len, a, b, q, z)) (hv : Int32.ofInt n0 = v) (hn : pc + len = nx) (kk : x_Ev X d mi nx lo (.int v :: r) (sh, gi, gl, gr) P) : x_Ev X d mi pc lo r (sh, gi, gl, gr) P := by
  subst hv; exact ev_alu F hr rfl rfl hn kk
theorem ev_bp {n0 : Int} {v : Int32} (F : x_F mi T ml rt) (hr : T.lookup pc = some (.bipush n0, len, a, b, q, z)) (hv : (Int8.ofInt n0).toInt32 = v) (hn : pc + len = nx) (kk : x_Ev X d mi nx lo (.int v :: r) (sh, gi, gl, gr) P) : x_Ev X d mi pc lo r (sh, gi, gl, gr) P := by
  subst hv; exact ev_alu F hr rfl rfl hn kk
theorem ev_sp {n0 : Int} {v : Int32} (F : x_F mi T ml rt) (hr : T.lookup pc = some (.sipush n0, len, a, b, q, z)) (hv : (Int16.ofInt n0).toInt32 = v) (hn : pc + len = nx) (kk : x_Ev X d mi nx lo (.int v :: r) (sh, gi, gl, gr) P) : x_Ev X d mi pc lo r (sh, gi, gl, gr) P := by
  subst hv; exact ev_alu F hr rfl rfl hn kk
theorem ev_lc {n0 : Fin 2} {v : Int64} (F : x_F mi T ml rt) (hr : T.lookup pc = some (.lconst n0, len, a, b, q, z)) (hv : Int64.ofNat (n0 : Nat) = v) (hn : pc + len = nx) (kk : x_Ev X d mi nx lo (.long v :: r) (sh, gi, gl, gr) P) : x_Ev X d mi pc lo r (sh, gi, gl, gr) P := by
  subst hv; exact ev_alu F hr rfl rfl hn kk
theorem ev_ldI {v : Int32} (F : x_F mi T ml rt) (hr : T.lookup pc = some (.ldc i0, len, 0, b, q, z)) (hv : Int32.ofInt z = v) (hn : pc + len = nx) (kk : x_Ev X d mi nx lo (.int v :: r) (sh, gi, gl, gr) P) : x_Ev X d mi pc lo r (sh, gi, gl, gr) P := by
  subst hv; exact ev_heap F hr rfl rfl hn kk
theorem ev_ldW {v : Int32} (F : x_F mi T ml rt) (hr : T.lookup pc = some (.ldc_w i0, len, a, b, q, z)) (hv : Int32.ofInt z = v) (hn : pc + len = nx) (kk : x_Ev X d mi nx lo (.int v :: r) (sh, gi, gl, gr) P) : x_Ev X d mi pc lo r (sh, gi, gl, gr) P := by
  subst hv; exact ev_heap F hr rfl rfl hn kk
theorem ev_ldL {v : Int64} (F : x_F mi T ml rt) (hr : T.lookup pc = some (.ldc2_w i0, len, a, b, q, z)) (hv : Int64.ofInt z = v) (hn : pc + len = nx) (kk : x_Ev X d mi nx lo (.long v :: r) (sh, gi, gl, gr) P) : x_Ev X d mi pc lo r (sh, gi, gl, gr) P := by
  subst hv; exact ev_heap F hr rfl rfl hn kk
theorem ev_inc {n0 : Int} {x c : Int32} {j : Nat} (F : x_F mi T ml rt) (hr : T.lookup pc = some (.iinc j n0, len, a, b, q, z)) (hg : x_get lo j = some (.int x)) (hc : Int32.ofInt n0 = c) (hj : decide (j < ml) = true) (hl : x_set1 lo j (.int (x + c)) = lo') (hn : pc + len = nx) (kk : x_Ev X d mi nx lo' r (sh, gi, gl, gr) P) : x_Ev X d mi pc lo r (sh, gi, gl, gr) P := by
  subst hc; subst hl
  refine ev_loc F hr rfl ?_ hn kk
  simp only [x_loc, hg, of_decide_eq_true hj, if_true]
end XEV2
