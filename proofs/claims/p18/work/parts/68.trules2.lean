/-! ===== rules over typed worlds: instructions ===== -/
theorem t_bm {x : Int} (h1 : -2147483648 ≤ x) (h2 : x ≤ 2147483647) : x.bmod (2 ^ 32) = x := by
  rw [Int.bmod_def]
  omega
theorem t_add {x y : Int32} (h1 : -2147483648 ≤ x.toInt + y.toInt) (h2 : x.toInt + y.toInt ≤ 2147483647) : (x + y).toInt = x.toInt + y.toInt := by
  rw [Int32.toInt_add, t_bm h1 h2]
theorem t_subt {x y : Int32} (h1 : -2147483648 ≤ x.toInt - y.toInt) (h2 : x.toInt - y.toInt ≤ 2147483647) : (x - y).toInt = x.toInt - y.toInt := by
  rw [Int32.toInt_sub, t_bm h1 h2]
theorem t_mult {x y : Int32} (h1 : -2147483648 ≤ x.toInt * y.toInt) (h2 : x.toInt * y.toInt ≤ 2147483647) : (x * y).toInt = x.toInt * y.toInt := by
  rw [Int32.toInt_mul, t_bm h1 h2]
section TR
variable {X : x_Ext} {d mi pc nx a b q len ml : Nat} {z : Int} {ins : Instr} {lo lo' : x_Lo} {st st' r : List Value} {G : x_G} {P : Option Value → x_G → Prop} {T : List (Nat × x_Row)} {rt : Option FieldType}
theorem ev_addR {x y : Int32} {lx ux ly uy l u : Int} (F : x_F mi T ml rt) (hr : x_lk T pc = some (.iadd, len, a, b, q, z)) (a1 : lx ≤ x.toInt) (a2 : x.toInt ≤ ux) (b1 : ly ≤ y.toInt) (b2 : y.toInt ≤ uy) (hl : lx + ly = l) (hu : ux + uy = u) (h3 : decide (-2147483648 ≤ l) = true) (h4 : decide (u ≤ 2147483647) = true) (hn : pc + len = nx) (kk : ∀ w : Int32, w.toInt = x.toInt + y.toInt → l ≤ w.toInt → w.toInt ≤ u → x_Ev X d mi nx lo (.int w :: r) G P) : x_Ev X d mi pc lo (.int y :: .int x :: r) G P := by
  have h3 := of_decide_eq_true h3
  have h4 := of_decide_eq_true h4
  have e : (x + y).toInt = x.toInt + y.toInt := t_add (by omega) (by omega)
  exact ev_alu F hr rfl rfl hn (kk _ e (by omega) (by omega))
theorem ev_subR {x y : Int32} {lx ux ly uy l u : Int} (F : x_F mi T ml rt) (hr : x_lk T pc = some (.isub, len, a, b, q, z)) (a1 : lx ≤ x.toInt) (a2 : x.toInt ≤ ux) (b1 : ly ≤ y.toInt) (b2 : y.toInt ≤ uy) (hl : lx - uy = l) (hu : ux - ly = u) (h3 : decide (-2147483648 ≤ l) = true) (h4 : decide (u ≤ 2147483647) = true) (hn : pc + len = nx) (kk : ∀ w : Int32, w.toInt = x.toInt - y.toInt → l ≤ w.toInt → w.toInt ≤ u → x_Ev X d mi nx lo (.int w :: r) G P) : x_Ev X d mi pc lo (.int y :: .int x :: r) G P := by
  have h3 := of_decide_eq_true h3
  have h4 := of_decide_eq_true h4
  have e : (x - y).toInt = x.toInt - y.toInt := t_subt (by omega) (by omega)
  exact ev_alu F hr rfl rfl hn (kk _ e (by omega) (by omega))
/-- times a number that is known -/
theorem ev_mulR {x y : Int32} {c lx ux l u : Int} (F : x_F mi T ml rt) (hr : x_lk T pc = some (.imul, len, a, b, q, z)) (hc : y.toInt = c) (h0 : decide (0 ≤ c) = true) (a1 : lx ≤ x.toInt) (a2 : x.toInt ≤ ux) (hl : lx * c = l) (hu : ux * c = u) (h3 : decide (-2147483648 ≤ l) = true) (h4 : decide (u ≤ 2147483647) = true) (hn : pc + len = nx) (kk : ∀ w : Int32, w.toInt = x.toInt * c → l ≤ w.toInt → w.toInt ≤ u → x_Ev X d mi nx lo (.int w :: r) G P) : x_Ev X d mi pc lo (.int y :: .int x :: r) G P := by
  have h0 := of_decide_eq_true h0
  have h3 := of_decide_eq_true h3
  have h4 := of_decide_eq_true h4
  have g1 : lx * c ≤ x.toInt * c := Int.mul_le_mul_of_nonneg_right a1 h0
  have g2 : x.toInt * c ≤ ux * c := Int.mul_le_mul_of_nonneg_right a2 h0
  have e : (x * y).toInt = x.toInt * c := by rw [← hc]; exact t_mult (by rw [hc]; omega) (by rw [hc]; omega)
  exact ev_alu F hr rfl rfl hn (kk _ e (by omega) (by omega))
theorem ev_mulL {x y : Int32} {c ly uy l u : Int} (F : x_F mi T ml rt) (hr : x_lk T pc = some (.imul, len, a, b, q, z)) (hc : x.toInt = c) (h0 : decide (0 ≤ c) = true) (a1 : ly ≤ y.toInt) (a2 : y.toInt ≤ uy) (hl : ly * c = l) (hu : uy * c = u) (h3 : decide (-2147483648 ≤ l) = true) (h4 : decide (u ≤ 2147483647) = true) (hn : pc + len = nx) (kk : ∀ w : Int32, w.toInt = y.toInt * c → l ≤ w.toInt → w.toInt ≤ u → x_Ev X d mi nx lo (.int w :: r) G P) : x_Ev X d mi pc lo (.int y :: .int x :: r) G P := by
  have h0 := of_decide_eq_true h0
  have h3 := of_decide_eq_true h3
  have h4 := of_decide_eq_true h4
  have g1 : ly * c ≤ y.toInt * c := Int.mul_le_mul_of_nonneg_right a1 h0
  have g2 : y.toInt * c ≤ uy * c := Int.mul_le_mul_of_nonneg_right a2 h0
  have e : (x * y).toInt = y.toInt * c := by rw [Int.mul_comm, ← hc]; exact t_mult (by rw [hc, Int.mul_comm]; omega) (by rw [hc, Int.mul_comm]; omega)
  exact ev_alu F hr rfl rfl hn (kk _ e (by omega) (by omega))
theorem t_andle (x m : Int32) (h : 0 ≤ m.toInt) : 0 ≤ (x &&& m).toInt ∧ (x &&& m).toInt ≤ m.toInt := by
  have e1 := x_toInt32 (x &&& m)
  have e2 := x_toInt32 m
  have hb : ∀ y : Int32, x_b32 y = (x_n32 y + 2147483648) % 4294967296 := fun _ => rfl
  have hl : ∀ y : Int32, x_n32 y < 4294967296 := fun y => y.toUInt32.toBitVec.isLt
  have h1 : x_n32 (x &&& m) ≤ x_n32 m := by
    show (x &&& m).toBitVec.toNat ≤ m.toBitVec.toNat
    rw [show (x &&& m).toBitVec = x.toBitVec &&& m.toBitVec from Int32.toBitVec_and x m, BitVec.toNat_and]
    exact Nat.and_le_right
  have h2 := hb (x &&& m)
  have h3 := hb m
  have h4 := hl (x &&& m)
  have h5 := hl m
  omega
theorem ev_andR {x y : Int32} {c : Int} (F : x_F mi T ml rt) (hr : x_lk T pc = some (.iand, len, a, b, q, z)) (hc : y.toInt = c) (h0 : decide (0 ≤ c) = true) (hn : pc + len = nx) (kk : ∀ w : Int32, 0 ≤ w.toInt → w.toInt ≤ c → x_Ev X d mi nx lo (.int w :: r) G P) : x_Ev X d mi pc lo (.int y :: .int x :: r) G P := by
  have h := t_andle x y (by rw [hc]; exact of_decide_eq_true h0)
  exact ev_alu F hr rfl rfl hn (kk _ h.1 (by rw [← hc]; exact h.2))
/-- any result -/
theorem ev_anyI {v : Int32} (F : x_F mi T ml rt) (hr : x_lk T pc = some (ins, len, a, b, q, z)) (hc : x_cat ins = 0) (hs : x_alu ins st = some (.int v :: r)) (hn : pc + len = nx) (kk : ∀ w : Int32, x_Ev X d mi nx lo (.int w :: r) G P) : x_Ev X d mi pc lo st G P := ev_alu F hr hc hs hn (kk _)
theorem ev_anyL {v : Int64} (F : x_F mi T ml rt) (hr : x_lk T pc = some (ins, len, a, b, q, z)) (hc : x_cat ins = 0) (hs : x_alu ins st = some (.long v :: r)) (hn : pc + len = nx) (kk : ∀ w : Int64, x_Ev X d mi nx lo (.long w :: r) G P) : x_Ev X d mi pc lo st G P := ev_alu F hr hc hs hn (kk _)
theorem ev_divN {x y : Int32} (F : x_F mi T ml rt) (hr : x_lk T pc = some (.idiv, len, a, b, q, z)) (hy : ¬ y = 0) (hn : pc + len = nx) (kk : ∀ w : Int32, w = x / y → x_Ev X d mi nx lo (.int w :: r) G P) : x_Ev X d mi pc lo (.int y :: .int x :: r) G P :=
  ev_alu F hr rfl (if_neg hy) hn (kk _ rfl)
theorem ev_remN {x y : Int32} (F : x_F mi T ml rt) (hr : x_lk T pc = some (.irem, len, a, b, q, z)) (hy : ¬ y = 0) (hn : pc + len = nx) (kk : ∀ w : Int32, w = x - x / y * y → x_Ev X d mi nx lo (.int w :: r) G P) : x_Ev X d mi pc lo (.int y :: .int x :: r) G P :=
  ev_alu F hr rfl (if_neg hy) hn (kk _ rfl)
theorem ev_ldivN {x y : Int64} (F : x_F mi T ml rt) (hr : x_lk T pc = some (.ldiv, len, a, b, q, z)) (hy : ¬ y = 0) (hn : pc + len = nx) (kk : ∀ w : Int64, w = x / y → x_Ev X d mi nx lo (.long w :: r) G P) : x_Ev X d mi pc lo (.long y :: .long x :: r) G P :=
  ev_alu F hr rfl (if_neg hy) hn (kk _ rfl)
theorem ev_lremN {x y : Int64} (F : x_F mi T ml rt) (hr : x_lk T pc = some (.lrem, len, a, b, q, z)) (hy : ¬ y = 0) (hn : pc + len = nx) (kk : ∀ w : Int64, w = x - x / y * y → x_Ev X d mi nx lo (.long w :: r) G P) : x_Ev X d mi pc lo (.long y :: .long x :: r) G P :=
  ev_alu F hr rfl (if_neg hy) hn (kk _ rfl)
theorem ev_shl1 {y : Int32} {ly uy : Int} (F : x_F mi T ml rt) (hr : x_lk T pc = some (.ishl, len, a, b, q, z)) (b1 : ly ≤ y.toInt) (b2 : y.toInt ≤ uy) (h0 : decide (0 ≤ ly) = true) (h6 : decide (uy ≤ 6) = true) (hn : pc + len = nx) (kk : ∀ w : Int32, 1 ≤ w.toInt → w.toInt ≤ 64 → x_Ev X d mi nx lo (.int w :: r) G P) : x_Ev X d mi pc lo (.int y :: .int 1 :: r) G P := by
  have h0 := of_decide_eq_true h0
  have h6 := of_decide_eq_true h6
  refine ev_alu F hr rfl rfl hn (kk _ ?_ ?_)
  all_goals
    have h : y.toInt = 0 ∨ y.toInt = 1 ∨ y.toInt = 2 ∨ y.toInt = 3 ∨ y.toInt = 4 ∨ y.toInt = 5 ∨ y.toInt = 6 := by omega
    rcases h with h | h | h | h | h | h | h
    · rw [show y = 0 from Int32.toInt_inj.mp h]; decide
    · rw [show y = 1 from Int32.toInt_inj.mp h]; decide
    · rw [show y = 2 from Int32.toInt_inj.mp h]; decide
    · rw [show y = 3 from Int32.toInt_inj.mp h]; decide
    · rw [show y = 4 from Int32.toInt_inj.mp h]; decide
    · rw [show y = 5 from Int32.toInt_inj.mp h]; decide
    · rw [show y = 6 from Int32.toInt_inj.mp h]; decide
theorem ev_mmR {x y : Int32} {lx ux ly uy l u : Int} (F : x_F mi T ml rt) (hr : x_lk T pc = some (ins, len, a, b, q, z)) (hc : x_cat ins = 4) (ha : (decide (a = 1002) || decide (a = 1003)) = true) (hd : 1 ≤ d) (h8 : Nat.ble (x_words r) 8 = true) (a1 : lx ≤ x.toInt) (a2 : x.toInt ≤ ux) (b1 : ly ≤ y.toInt) (b2 : y.toInt ≤ uy) (hl : (if a = 1002 then max lx ly else min lx ly) = l) (hu : (if a = 1002 then max ux uy else min ux uy) = u) (hn : pc + 3 = nx) (kk : ∀ w : Int32, l ≤ w.toInt → w.toInt ≤ u → x_Ev X d mi nx lo (.int w :: r) G P) : x_Ev X d mi pc lo (.int y :: .int x :: r) G P := by
  refine ev_mm F hr hc ha hd (Nat.le_of_ble_eq_true h8) hn (kk _ ?_ ?_)
  all_goals
    unfold x_mm
    by_cases h1 : a = 1002
    · rw [if_pos h1] at hl hu
      rw [if_pos h1]
      by_cases h2 : x < y
      · rw [if_pos h2]; have := Int32.lt_iff_toInt_lt.mp h2; omega
      · rw [if_neg h2]; have := Int32.le_iff_toInt_le.mp (Int32.not_lt.mp h2); omega
    · rw [if_neg h1] at hl hu
      rw [if_neg h1]
      by_cases h2 : y < x
      · rw [if_pos h2]; have := Int32.lt_iff_toInt_lt.mp h2; omega
      · rw [if_neg h2]; have := Int32.le_iff_toInt_le.mp (Int32.not_lt.mp h2); omega
variable {sh : List (Nat ⊕ (Nat × Nat))} {gi gi0 : Nat → Nat → Int32} {gl gl0 : Nat → Nat → Int64} {gr gr0 : Nat → Nat → Value} {k i0 n j : Nat} {i : Int32} {wl wc : List (Nat × Nat)}
theorem t_idx {i : Int32} {n : Nat} {l u : Int} (a1 : l ≤ i.toInt) (h1 : decide (0 ≤ l) = true) (a2 : i.toInt ≤ u) (h2 : decide (u < (n : Int)) = true) : ¬ i < 0 ∧ i.toNatClampNeg < n := by
  have h1 := of_decide_eq_true h1
  have h2 := of_decide_eq_true h2
  have h3 := t_clamp (i := i) (by omega)
  refine ⟨fun h => ?_, by omega⟩
  have := Int32.lt_iff_toInt_lt.mp h
  have h0 : (0 : Int32).toInt = 0 := rfl
  omega
theorem ev_incR {n0 : Int} {x : Int32} {jj : Nat} {c lx ux l u : Int} (F : x_F mi T ml rt) (hr : x_lk T pc = some (.iinc jj n0, len, a, b, q, z)) (hg : x_get lo jj = some (.int x)) (hc : (Int32.ofInt n0).toInt = c) (hj : decide (jj < ml) = true) (a1 : lx ≤ x.toInt) (a2 : x.toInt ≤ ux) (hl : lx + c = l) (hu : ux + c = u) (h3 : decide (-2147483648 ≤ l) = true) (h4 : decide (u ≤ 2147483647) = true) (hn : pc + len = nx) (kk : ∀ w : Int32, w.toInt = x.toInt + c → l ≤ w.toInt → w.toInt ≤ u → x_Ev X d mi nx (x_set1 lo jj (.int w)) r (sh, gi, gl, gr) P) : x_Ev X d mi pc lo r (sh, gi, gl, gr) P := by
  have h3 := of_decide_eq_true h3
  have h4 := of_decide_eq_true h4
  have e : (x + Int32.ofInt n0).toInt = x.toInt + c := by rw [← hc]; exact t_add (by omega) (by omega)
  exact ev_inc F hr hg rfl hj rfl hn (kk _ e (by omega) (by omega))
theorem ev_incN {n0 : Int} {x : Int32} {jj : Nat} (F : x_F mi T ml rt) (hr : x_lk T pc = some (.iinc jj n0, len, a, b, q, z)) (hg : x_get lo jj = some (.int x)) (hj : decide (jj < ml) = true) (hn : pc + len = nx) (kk : ∀ w : Int32, x_Ev X d mi nx (x_set1 lo jj (.int w)) r (sh, gi, gl, gr) P) : x_Ev X d mi pc lo r (sh, gi, gl, gr) P := ev_inc F hr hg rfl hj rfl hn (kk _)
/-- loads -/
theorem ev_ialdT {l u : Int} (F : x_F mi T ml rt) (hr : x_lk T pc = some (.iaload, len, a, b, q, z)) (hk : sh[k]? = some (.inr (0, n))) (a1 : l ≤ i.toInt) (h1 : decide (0 ≤ l) = true) (a2 : i.toInt ≤ u) (h2 : decide (u < (n : Int)) = true) (hn : pc + len = nx) (kk : ∀ w : Int32, w = gi k i.toNatClampNeg → x_Ev X d mi nx lo (.int w :: r) (sh, gi, gl, gr) P) : x_Ev X d mi pc lo (.int i :: .ref k :: r) (sh, gi, gl, gr) P :=
  ev_iald F hr hk (t_idx a1 h1 a2 h2).1 (t_idx a1 h1 a2 h2).2 hn (kk _ rfl)
theorem ev_laldT {l u : Int} (F : x_F mi T ml rt) (hr : x_lk T pc = some (.laload, len, a, b, q, z)) (hk : sh[k]? = some (.inr (1, n))) (a1 : l ≤ i.toInt) (h1 : decide (0 ≤ l) = true) (a2 : i.toInt ≤ u) (h2 : decide (u < (n : Int)) = true) (hn : pc + len = nx) (kk : ∀ w : Int64, w = gl k i.toNatClampNeg → x_Ev X d mi nx lo (.long w :: r) (sh, gi, gl, gr) P) : x_Ev X d mi pc lo (.int i :: .ref k :: r) (sh, gi, gl, gr) P :=
  ev_lald F hr hk (t_idx a1 h1 a2 h2).1 (t_idx a1 h1 a2 h2).2 hn (kk _ rfl)
theorem ev_baldT {t : Nat} {l u : Int} (F : x_F mi T ml rt) (hr : x_lk T pc = some (.baload, len, a, b, q, z)) (hk : sh[k]? = some (.inr (t, n))) (ht : (t == 2 || t == 3) = true) (a1 : l ≤ i.toInt) (h1 : decide (0 ≤ l) = true) (a2 : i.toInt ≤ u) (h2 : decide (u < (n : Int)) = true) (hn : pc + len = nx) (kk : ∀ w : Int32, w = gi k i.toNatClampNeg → x_Ev X d mi nx lo (.int w :: r) (sh, gi, gl, gr) P) : x_Ev X d mi pc lo (.int i :: .ref k :: r) (sh, gi, gl, gr) P :=
  ev_bald F hr hk ht (t_idx a1 h1 a2 h2).1 (t_idx a1 h1 a2 h2).2 hn (kk _ rfl)
theorem t_I.abi (h : t_I sh gi gr) {p m : Nat} {l u lo hi : Int} {w : Int32} (e : w = gi k i.toNatClampNeg) (hb : t_abr k p m lo hi = true) (a1 : l ≤ i.toInt) (h1 : decide ((p : Int) ≤ l) = true) (a2 : i.toInt ≤ u) (h2 : decide (u ≤ (m : Int)) = true) : lo ≤ w.toInt ∧ w.toInt ≤ hi := by
  have h1 := of_decide_eq_true h1
  have h2 := of_decide_eq_true h2
  have h3 := t_clamp (i := i) (by omega)
  rw [e]; exact h.ab hb (by omega) (by omega)
/-- stores: the world behind them has a name of its own -/
theorem ev_putIT {x : Int32} (F : x_F mi T ml rt) (hr : x_lk T pc = some (.putfield i0, len, a, b, q, z)) (hk : sh[k]? = some (.inl a)) (hb : decide (b < (x_fty a).length) = true) (ht : (x_fty a).getD b .int = .int) (hn : pc + len = nx) (hI : t_I sh (x_up2 gi k b x) gr) (hX : t_X wl sh gi0 gl0 gr0 (x_up2 gi k b x) gl gr) (kk : ∀ g2, g2 = x_up2 gi k b x → t_I sh g2 gr → t_X wl sh gi0 gl0 gr0 g2 gl gr → x_Ev X d mi nx lo r (sh, g2, gl, gr) P) : x_Ev X d mi pc lo (.int x :: .ref k :: r) (sh, gi, gl, gr) P :=
  ev_putI F hr hk hb ht hn (kk _ rfl hI hX)
theorem ev_putZT {x : Int32} (F : x_F mi T ml rt) (hr : x_lk T pc = some (.putfield i0, len, a, b, q, z)) (hk : sh[k]? = some (.inl a)) (hb : decide (b < (x_fty a).length) = true) (ht : (x_fty a).getD b .int = .boolean) (l0 : 0 ≤ x.toInt) (u1 : x.toInt ≤ 1) (hn : pc + len = nx) (hI : t_I sh (x_up2 gi k b x) gr) (hX : t_X wl sh gi0 gl0 gr0 (x_up2 gi k b x) gl gr) (kk : ∀ g2, g2 = x_up2 gi k b x → t_I sh g2 gr → t_X wl sh gi0 gl0 gr0 g2 gl gr → x_Ev X d mi nx lo r (sh, g2, gl, gr) P) : x_Ev X d mi pc lo (.int x :: .ref k :: r) (sh, gi, gl, gr) P :=
  ev_putZ F hr hk hb ht (by
    have h : x.toInt = 0 ∨ x.toInt = 1 := by omega
    exact h.imp (fun h => Int32.toInt_inj.mp h) (fun h => Int32.toInt_inj.mp h)) hn (kk _ rfl hI hX)
theorem ev_putLT {x : Int64} (F : x_F mi T ml rt) (hr : x_lk T pc = some (.putfield i0, len, a, b, q, z)) (hk : sh[k]? = some (.inl a)) (hb : decide (b < (x_fty a).length) = true) (ht : (x_fty a).getD b .int = .long) (hn : pc + len = nx) (hX : t_X wl sh gi0 gl0 gr0 gi (x_up2 gl k b x) gr) (kk : ∀ g2, g2 = x_up2 gl k b x → t_X wl sh gi0 gl0 gr0 gi g2 gr → x_Ev X d mi nx lo r (sh, gi, g2, gr) P) : x_Ev X d mi pc lo (.long x :: .ref k :: r) (sh, gi, gl, gr) P :=
  ev_putL F hr hk hb ht hn (kk _ rfl hX)
theorem ev_putRT {v : Value} (F : x_F mi T ml rt) (hr : x_lk T pc = some (.putfield i0, len, a, b, q, z)) (hk : sh[k]? = some (.inl a)) (hb : decide (b < (x_fty a).length) = true) (ht : x_tyR ((x_fty a).getD b .int) = true) (hv : x_isR v = true) (hn : pc + len = nx) (hI : t_I sh gi (x_up2 gr k b v)) (hX : t_X wl sh gi0 gl0 gr0 gi gl (x_up2 gr k b v)) (kk : ∀ g2, g2 = x_up2 gr k b v → t_I sh gi g2 → t_X wl sh gi0 gl0 gr0 gi gl g2 → x_Ev X d mi nx lo r (sh, gi, gl, g2) P) : x_Ev X d mi pc lo (v :: .ref k :: r) (sh, gi, gl, gr) P :=
  ev_putR F hr hk hb ht hv hn (kk _ rfl hI hX)
theorem ev_iastT {x : Int32} {l u : Int} (F : x_F mi T ml rt) (hr : x_lk T pc = some (.iastore, len, a, b, q, z)) (hk : sh[k]? = some (.inr (0, n))) (a1 : l ≤ i.toInt) (h1 : decide (0 ≤ l) = true) (a2 : i.toInt ≤ u) (h2 : decide (u < (n : Int)) = true) (hn : pc + len = nx) (hI : t_I sh (x_up2 gi k i.toNatClampNeg x) gr) (hX : t_X wl sh gi0 gl0 gr0 (x_up2 gi k i.toNatClampNeg x) gl gr) (kk : ∀ g2, g2 = x_up2 gi k i.toNatClampNeg x → t_I sh g2 gr → t_X wl sh gi0 gl0 gr0 g2 gl gr → x_Ev X d mi nx lo r (sh, g2, gl, gr) P) : x_Ev X d mi pc lo (.int x :: .int i :: .ref k :: r) (sh, gi, gl, gr) P :=
  ev_iast F hr hk (t_idx a1 h1 a2 h2).1 (t_idx a1 h1 a2 h2).2 hn (kk _ rfl hI hX)
theorem ev_lastT {x : Int64} {l u : Int} (F : x_F mi T ml rt) (hr : x_lk T pc = some (.lastore, len, a, b, q, z)) (hk : sh[k]? = some (.inr (1, n))) (a1 : l ≤ i.toInt) (h1 : decide (0 ≤ l) = true) (a2 : i.toInt ≤ u) (h2 : decide (u < (n : Int)) = true) (hn : pc + len = nx) (hX : t_X wl sh gi0 gl0 gr0 gi (x_up2 gl k i.toNatClampNeg x) gr) (kk : ∀ g2, g2 = x_up2 gl k i.toNatClampNeg x → t_X wl sh gi0 gl0 gr0 gi g2 gr → x_Ev X d mi nx lo r (sh, gi, g2, gr) P) : x_Ev X d mi pc lo (.long x :: .int i :: .ref k :: r) (sh, gi, gl, gr) P :=
  ev_last F hr hk (t_idx a1 h1 a2 h2).1 (t_idx a1 h1 a2 h2).2 hn (kk _ rfl hX)
theorem ev_bastT {x : Int32} {l u : Int} (F : x_F mi T ml rt) (hr : x_lk T pc = some (.bastore, len, a, b, q, z)) (hk : sh[k]? = some (.inr (2, n))) (a1 : l ≤ i.toInt) (h1 : decide (0 ≤ l) = true) (a2 : i.toInt ≤ u) (h2 : decide (u < (n : Int)) = true) (hn : pc + len = nx) (hI : ∀ x', t_I sh (x_up2 gi k i.toNatClampNeg x') gr) (hX : ∀ x', t_X wl sh gi0 gl0 gr0 (x_up2 gi k i.toNatClampNeg x') gl gr) (kk : ∀ g2 x', g2 = x_up2 gi k i.toNatClampNeg x' → t_I sh g2 gr → t_X wl sh gi0 gl0 gr0 g2 gl gr → x_Ev X d mi nx lo r (sh, g2, gl, gr) P) : x_Ev X d mi pc lo (.int x :: .int i :: .ref k :: r) (sh, gi, gl, gr) P :=
  ev_bast F hr hk (t_idx a1 h1 a2 h2).1 (t_idx a1 h1 a2 h2).2 hn (kk _ _ rfl (hI _) (hX _))
theorem t_and1 (x : Int32) : 0 ≤ (x &&& 1).toInt ∧ (x &&& 1).toInt ≤ 1 := t_andle x 1 (by decide)
theorem ev_zastT {x : Int32} {l u : Int} (F : x_F mi T ml rt) (hr : x_lk T pc = some (.bastore, len, a, b, q, z)) (hk : sh[k]? = some (.inr (3, n))) (a1 : l ≤ i.toInt) (h1 : decide (0 ≤ l) = true) (a2 : i.toInt ≤ u) (h2 : decide (u < (n : Int)) = true) (hn : pc + len = nx) (hI : ∀ x' : Int32, 0 ≤ x'.toInt → x'.toInt ≤ 1 → t_I sh (x_up2 gi k i.toNatClampNeg x') gr) (hX : ∀ x', t_X wl sh gi0 gl0 gr0 (x_up2 gi k i.toNatClampNeg x') gl gr) (kk : ∀ g2 x', g2 = x_up2 gi k i.toNatClampNeg x' → t_I sh g2 gr → t_X wl sh gi0 gl0 gr0 g2 gl gr → x_Ev X d mi nx lo r (sh, g2, gl, gr) P) : x_Ev X d mi pc lo (.int x :: .int i :: .ref k :: r) (sh, gi, gl, gr) P :=
  ev_zast F hr hk (t_idx a1 h1 a2 h2).1 (t_idx a1 h1 a2 h2).2 hn (kk _ _ rfl (hI _ (t_and1 x).1 (t_and1 x).2) (hX _))
/-- calls by contract -/
theorem ev_c0 {as : List Value} {wc : List (Nat × Nat)} (F : x_F mi T ml rt) (hr : x_lk T pc = some (ins, len, a, b, q, z)) (hc : x_cat ins = 4) (ha : Nat.blt a 1000 = true) (hb : Nat.ble b st.length = true) (has : (st.take b).reverse = as) (hrest : st.drop b = r) (h8 : Nat.ble (x_words r) 8 = true) (hM : x_Me X d a as (sh, gi, gl, gr) (t_P wc sh gi gl gr t_Rn)) (hn : pc + 3 = nx) (hX : t_X wl sh gi0 gl0 gr0 gi gl gr) (hs : t_sub wc wl = true) (kk : ∀ gi2 gl2 gr2, t_I sh gi2 gr2 → t_X wl sh gi0 gl0 gr0 gi2 gl2 gr2 → t_X wc sh gi gl gr gi2 gl2 gr2 → x_Ev X (d + 1) mi nx lo r (sh, gi2, gl2, gr2) P) : x_Ev X (d + 1) mi pc lo st (sh, gi, gl, gr) P := by
  subst has; subst hrest
  refine ev_call F hr hc (decide_eq_true (Nat.le_of_ble_eq_true ha)) (Nat.le_of_ble_eq_true hb) (Nat.le_of_ble_eq_true h8) hM hn ?_
  rintro _ _ ⟨gi2, gl2, gr2, rfl, h1, h2, rfl⟩
  exact kk _ _ _ h1 (hX.tr h2 hs) h2
theorem ev_cI {l u : Int} {as : List Value} {wc : List (Nat × Nat)} (F : x_F mi T ml rt) (hr : x_lk T pc = some (ins, len, a, b, q, z)) (hc : x_cat ins = 4) (ha : Nat.blt a 1000 = true) (hb : Nat.ble b st.length = true) (has : (st.take b).reverse = as) (hrest : st.drop b = r) (h8 : Nat.ble (x_words r) 8 = true) (hM : x_Me X d a as (sh, gi, gl, gr) (t_P wc sh gi gl gr (t_Ri l u))) (hn : pc + 3 = nx) (hX : t_X wl sh gi0 gl0 gr0 gi gl gr) (hs : t_sub wc wl = true) (kk : ∀ (w : Int32) gi2 gl2 gr2, l ≤ w.toInt → w.toInt ≤ u → t_I sh gi2 gr2 → t_X wl sh gi0 gl0 gr0 gi2 gl2 gr2 → t_X wc sh gi gl gr gi2 gl2 gr2 → x_Ev X (d + 1) mi nx lo (.int w :: r) (sh, gi2, gl2, gr2) P) : x_Ev X (d + 1) mi pc lo st (sh, gi, gl, gr) P := by
  subst has; subst hrest
  refine ev_call F hr hc (decide_eq_true (Nat.le_of_ble_eq_true ha)) (Nat.le_of_ble_eq_true hb) (Nat.le_of_ble_eq_true h8) hM hn ?_
  rintro _ _ ⟨gi2, gl2, gr2, rfl, h1, h2, w, rfl, h3, h4⟩
  exact kk _ _ _ _ h3 h4 h1 (hX.tr h2 hs) h2
theorem ev_cL {as : List Value} {wc : List (Nat × Nat)} (F : x_F mi T ml rt) (hr : x_lk T pc = some (ins, len, a, b, q, z)) (hc : x_cat ins = 4) (ha : Nat.blt a 1000 = true) (hb : Nat.ble b st.length = true) (has : (st.take b).reverse = as) (hrest : st.drop b = r) (h8 : Nat.ble (x_words r) 8 = true) (hM : x_Me X d a as (sh, gi, gl, gr) (t_P wc sh gi gl gr t_Rl)) (hn : pc + 3 = nx) (hX : t_X wl sh gi0 gl0 gr0 gi gl gr) (hs : t_sub wc wl = true) (kk : ∀ (w : Int64) gi2 gl2 gr2, t_I sh gi2 gr2 → t_X wl sh gi0 gl0 gr0 gi2 gl2 gr2 → t_X wc sh gi gl gr gi2 gl2 gr2 → x_Ev X (d + 1) mi nx lo (.long w :: r) (sh, gi2, gl2, gr2) P) : x_Ev X (d + 1) mi pc lo st (sh, gi, gl, gr) P := by
  subst has; subst hrest
  refine ev_call F hr hc (decide_eq_true (Nat.le_of_ble_eq_true ha)) (Nat.le_of_ble_eq_true hb) (Nat.le_of_ble_eq_true h8) hM hn ?_
  rintro _ _ ⟨gi2, gl2, gr2, rfl, h1, h2, w, rfl⟩
  exact kk _ _ _ _ h1 (hX.tr h2 hs) h2
/-- a boolean result -/
theorem ev_retZ {x : Int32} {P : Option Value → x_G → Prop} (F : x_F mi T ml (some .boolean)) (hr : x_lk T pc = some (.ireturn, len, a, b, q, z)) (l0 : 0 ≤ x.toInt) (u1 : x.toInt ≤ 1) (k : P (some (.int x)) G) : x_Ev X d mi pc lo [.int x] G P := by
  refine ev_ret F hr rfl ?_ k
  have h : x = 0 ∨ x = 1 := by
    have h : x.toInt = 0 ∨ x.toInt = 1 := by omega
    exact h.imp (fun h => Int32.toInt_inj.mp h) (fun h => Int32.toInt_inj.mp h)
  exact if_pos h
end TR
