/-! ===== rules for walks with numbers worked out on the way ===== -/
theorem lgc_lt {x : Int32} {c : Int64} {n : Int} (hc : c.toInt = n) : lg_cmp x.toInt64 c < 0 ↔ x.toInt < n := by
  rw [lg_cmp_lt, Int64.lt_iff_toInt_lt, Int32.toInt_toInt64, hc]
theorem lgc_ge {x : Int32} {c : Int64} {n : Int} (hc : c.toInt = n) : 0 ≤ lg_cmp x.toInt64 c ↔ n ≤ x.toInt := by
  rw [lg_cmp_ge, Int64.le_iff_toInt_le, Int32.toInt_toInt64, hc]
theorem lgc_gt {x : Int32} {c : Int64} {n : Int} (hc : c.toInt = n) : 0 < lg_cmp x.toInt64 c ↔ n < x.toInt := by
  rw [lg_cmp_gt, Int64.lt_iff_toInt_lt, Int32.toInt_toInt64, hc]
theorem lgc_le {x : Int32} {c : Int64} {n : Int} (hc : c.toInt = n) : lg_cmp x.toInt64 c ≤ 0 ↔ x.toInt ≤ n := by
  rw [lg_cmp_le, Int64.le_iff_toInt_le, Int32.toInt_toInt64, hc]
theorem x_WF_up {sh : List (Nat ⊕ (Nat × Nat))} {gr : Nat → Nat → Value} (h : x_WF sh gr) {k j : Nat} {v : Value} (hn : x_fixed k j = none) : x_WF sh (x_up2 gr k j v) := by
  refine ⟨h.1, fun k' j' v' hf => ?_⟩
  rw [x_up2_off (by
    by_cases hk : k' = k
    · right
      intro hj
      rw [hk, hj, hn] at hf
      cases hf
    · exact Or.inl hk)]
  exact h.2 k' j' v' hf
section XEV3
variable {X : x_Ext} {d mi pc nx a b q len ml : Nat} {z : Int} {ins : Instr} {lo lo' : x_Lo} {st st' r : List Value} {G : x_G} {P : Option Value → x_G → Prop} {T : List (Nat × x_Row)} {rt : Option FieldType}
variable {sh : List (Nat ⊕ (Nat × Nat))} {gi : Nat → Nat → Int32} {gl : Nat → Nat → Int64} {gr : Nat → Nat → Value} {k i0 n j : Nat} {i : Int32}
theorem ev_t {C : Prop} [Decidable C] {t1 t2 : Nat} (F : x_F mi T ml rt) (hr : x_lk T pc = some (ins, len, a, b, q, z)) (hc : x_cat ins = 2) (hs : x_br a pc ins st = some (if C then t1 else t2, st')) (h : C) (k1 : x_Ev X d mi t1 lo st' G P) : x_Ev X d mi pc lo st G P := ev_if F hr hc hs (fun _ => k1) (fun n => absurd h n)
theorem ev_f {C : Prop} [Decidable C] {t1 t2 : Nat} (F : x_F mi T ml rt) (hr : x_lk T pc = some (ins, len, a, b, q, z)) (hc : x_cat ins = 2) (hs : x_br a pc ins st = some (if C then t1 else t2, st')) (h : ¬ C) (k2 : x_Ev X d mi t2 lo st' G P) : x_Ev X d mi pc lo st G P := ev_if F hr hc hs (fun n => absurd n h) (fun _ => k2)
/-- a table that is left by its default -/
theorem ev_swd {x : Int32} {d0 l0 h0 : Int} {offs : Array Int} (F : x_F mi T ml rt) (hr : x_lk T pc = some (.tableswitch d0 l0 h0 offs, len, a, b, q, z)) (h : x.toInt < l0 ∨ h0 < x.toInt) (hp : 0 ≤ (pc : Int) + d0) (hn : ((pc : Int) + d0).toNat = nx) (kk : x_Ev X d mi nx lo r G P) : x_Ev X d mi pc lo (.int x :: r) G P := by
  refine ev_jmp F hr rfl ?_ kk
  show (if x.toInt < l0 ∨ h0 < x.toInt then _ else _) = _
  rw [if_pos h, if_pos hp, hn]
theorem ev_aluvI {v w : Int32} (F : x_F mi T ml rt) (hr : x_lk T pc = some (ins, len, a, b, q, z)) (hc : x_cat ins = 0) (hs : x_alu ins st = some (.int v :: r)) (hv : v = w) (hn : pc + len = nx) (kk : x_Ev X d mi nx lo (.int w :: r) G P) : x_Ev X d mi pc lo st G P := by
  subst hv; exact ev_alu F hr hc hs hn kk
theorem ev_aluvL {v w : Int64} (F : x_F mi T ml rt) (hr : x_lk T pc = some (ins, len, a, b, q, z)) (hc : x_cat ins = 0) (hs : x_alu ins st = some (.long v :: r)) (hv : v = w) (hn : pc + len = nx) (kk : x_Ev X d mi nx lo (.long w :: r) G P) : x_Ev X d mi pc lo st G P := by
  subst hv; exact ev_alu F hr hc hs hn kk
theorem ev_incv {n0 : Int} {x c w : Int32} {j : Nat} (F : x_F mi T ml rt) (hr : x_lk T pc = some (.iinc j n0, len, a, b, q, z)) (hg : x_get lo j = some (.int x)) (hc : Int32.ofInt n0 = c) (hw : x + c = w) (hj : decide (j < ml) = true) (hl : x_set1 lo j (.int w) = lo') (hn : pc + len = nx) (kk : x_Ev X d mi nx lo' r (sh, gi, gl, gr) P) : x_Ev X d mi pc lo r (sh, gi, gl, gr) P := by
  subst hw; exact ev_inc F hr hg hc hj hl hn kk
theorem ev_gvI {w : Int32} (F : x_F mi T ml rt) (hr : x_lk T pc = some (.getfield i0, len, a, b, q, z)) (hk : sh[k]? = some (.inl a)) (hb : decide (b < (x_fty a).length) = true) (ht : x_tyI ((x_fty a).getD b .int) = true) (hv : gi k b = w) (hn : pc + len = nx) (kk : x_Ev X d mi nx lo (.int w :: r) (sh, gi, gl, gr) P) : x_Ev X d mi pc lo (.ref k :: r) (sh, gi, gl, gr) P := by
  subst hv; exact ev_getI F hr hk hb ht hn kk
theorem ev_gvL {w : Int64} (F : x_F mi T ml rt) (hr : x_lk T pc = some (.getfield i0, len, a, b, q, z)) (hk : sh[k]? = some (.inl a)) (hb : decide (b < (x_fty a).length) = true) (ht : (x_fty a).getD b .int = .long) (hv : gl k b = w) (hn : pc + len = nx) (kk : x_Ev X d mi nx lo (.long w :: r) (sh, gi, gl, gr) P) : x_Ev X d mi pc lo (.ref k :: r) (sh, gi, gl, gr) P := by
  subst hv; exact ev_getL F hr hk hb ht hn kk
theorem ev_alenv (F : x_F mi T ml rt) {t : Nat} {w : Int32} (hr : x_lk T pc = some (.arraylength, len, a, b, q, z)) (hk : sh[k]? = some (.inr (t, n))) (ht : decide (t < 7) = true) (hv : Int32.ofNat n = w) (hn : pc + len = nx) (kk : x_Ev X d mi nx lo (.int w :: r) (sh, gi, gl, gr) P) : x_Ev X d mi pc lo (.ref k :: r) (sh, gi, gl, gr) P := by
  subst hv; exact ev_alen F hr hk ht hn kk
theorem ev_alenX (F : x_F mi T ml rt) (hr : x_lk T pc = some (.arraylength, len, a, b, q, z)) (hX : X.1 = 6) (hn : pc + len = nx) (kk : x_Ev X d mi nx lo (.int 6 :: r) G P) : x_Ev X d mi pc lo (.retAddr 30 :: r) G P := by
  refine ev_heap F hr rfl ?_ hn kk
  show (match x_xar X 30 with | some q => some (Value.int (Int32.ofNat q.2.1) :: r, G) | none => none) = _
  show some (Value.int (Int32.ofNat X.1) :: r, G) = _
  rw [hX]; rfl
theorem ev_scr (F : x_F mi T ml rt) (hr : x_lk T pc = some (.iaload, len, a, b, q, z)) (hX : X.1 = 6) (h0 : ¬ i < 0) (hi : i.toNatClampNeg = j) (h6 : j < 6) (hn : pc + len = nx) (kk : x_Ev X d mi nx lo (.int (X.2 j) :: r) G P) : x_Ev X d mi pc lo (.int i :: .retAddr 30 :: r) G P := by
  refine ev_heap F hr rfl ?_ hn kk
  show (match x_ldX (fun t => t == .int) X 30 i with | some v => some (v :: r, G) | none => none) = _
  have h : x_ldX (fun t => t == .int) X 30 i = some (.int (X.2 j)) := by
    show (if (FieldType.int == .int) = true ∧ ¬ (i < 0 ∨ X.1 ≤ i.toNatClampNeg) then some (Value.int (X.2 i.toNatClampNeg)) else none) = _
    rw [if_pos ⟨rfl, fun q => q.elim h0 (fun q => by omega)⟩, hi]
  rw [h]
theorem ev_scrv {w : Int32} (F : x_F mi T ml rt) (hr : x_lk T pc = some (.iaload, len, a, b, q, z)) (hX : X.1 = 6) (h0 : ¬ i < 0) (hi : i.toNatClampNeg = j) (h6 : j < 6) (hv : X.2 j = w) (hn : pc + len = nx) (kk : x_Ev X d mi nx lo (.int w :: r) G P) : x_Ev X d mi pc lo (.int i :: .retAddr 30 :: r) G P := by
  subst hv; exact ev_scr F hr hX h0 hi h6 hn kk
theorem ev_ialdv {w : Int32} (F : x_F mi T ml rt) (hr : x_lk T pc = some (.iaload, len, a, b, q, z)) (hk : sh[k]? = some (.inr (0, n))) (h0 : ¬ i < 0) (hj : i.toNatClampNeg = j) (h1 : j < n) (hv : gi k j = w) (hn : pc + len = nx) (kk : x_Ev X d mi nx lo (.int w :: r) (sh, gi, gl, gr) P) : x_Ev X d mi pc lo (.int i :: .ref k :: r) (sh, gi, gl, gr) P := by
  subst hj; subst hv; exact ev_iald F hr hk h0 h1 hn kk
theorem ev_laldv {w : Int64} (F : x_F mi T ml rt) (hr : x_lk T pc = some (.laload, len, a, b, q, z)) (hk : sh[k]? = some (.inr (1, n))) (h0 : ¬ i < 0) (hj : i.toNatClampNeg = j) (h1 : j < n) (hv : gl k j = w) (hn : pc + len = nx) (kk : x_Ev X d mi nx lo (.long w :: r) (sh, gi, gl, gr) P) : x_Ev X d mi pc lo (.int i :: .ref k :: r) (sh, gi, gl, gr) P := by
  subst hj; subst hv; exact ev_lald F hr hk h0 h1 hn kk
theorem ev_baldv {t : Nat} {w : Int32} (F : x_F mi T ml rt) (hr : x_lk T pc = some (.baload, len, a, b, q, z)) (hk : sh[k]? = some (.inr (t, n))) (ht : (t == 2 || t == 3) = true) (h0 : ¬ i < 0) (hj : i.toNatClampNeg = j) (h1 : j < n) (hv : gi k j = w) (hn : pc + len = nx) (kk : x_Ev X d mi nx lo (.int w :: r) (sh, gi, gl, gr) P) : x_Ev X d mi pc lo (.int i :: .ref k :: r) (sh, gi, gl, gr) P := by
  subst hj; subst hv; exact ev_bald F hr hk ht h0 h1 hn kk
theorem ev_aaldv {t : Nat} {v : Value} (F : x_F mi T ml rt) (hr : x_lk T pc = some (.aaload, len, a, b, q, z)) (hk : sh[k]? = some (.inr (t, n))) (ht : (decide (4 ≤ t) && decide (t < 7)) = true) (h0 : ¬ i < 0) (hj : i.toNatClampNeg = j) (h1 : j < n) (hv : gr k j = v) (hv2 : x_isR v = true) (hn : pc + len = nx) (kk : x_Ev X d mi nx lo (v :: r) (sh, gi, gl, gr) P) : x_Ev X d mi pc lo (.int i :: .ref k :: r) (sh, gi, gl, gr) P := by
  subst hj; exact ev_aald F hr hk ht h0 h1 hv hv2 hn kk
theorem ev_iastv (F : x_F mi T ml rt) {x : Int32} (hr : x_lk T pc = some (.iastore, len, a, b, q, z)) (hk : sh[k]? = some (.inr (0, n))) (h0 : ¬ i < 0) (hj : i.toNatClampNeg = j) (h1 : j < n) (hn : pc + len = nx) (kk : x_Ev X d mi nx lo r (sh, x_up2 gi k j x, gl, gr) P) : x_Ev X d mi pc lo (.int x :: .int i :: .ref k :: r) (sh, gi, gl, gr) P := by
  subst hj; exact ev_iast F hr hk h0 h1 hn kk
theorem ev_lastv (F : x_F mi T ml rt) {x : Int64} (hr : x_lk T pc = some (.lastore, len, a, b, q, z)) (hk : sh[k]? = some (.inr (1, n))) (h0 : ¬ i < 0) (hj : i.toNatClampNeg = j) (h1 : j < n) (hn : pc + len = nx) (kk : x_Ev X d mi nx lo r (sh, gi, x_up2 gl k j x, gr) P) : x_Ev X d mi pc lo (.long x :: .int i :: .ref k :: r) (sh, gi, gl, gr) P := by
  subst hj; exact ev_last F hr hk h0 h1 hn kk
theorem ev_bastv (F : x_F mi T ml rt) {x : Int32} (hr : x_lk T pc = some (.bastore, len, a, b, q, z)) (hk : sh[k]? = some (.inr (2, n))) (h0 : ¬ i < 0) (hj : i.toNatClampNeg = j) (h1 : j < n) (hn : pc + len = nx) (kk : x_Ev X d mi nx lo r (sh, x_up2 gi k j x.toInt8.toInt32, gl, gr) P) : x_Ev X d mi pc lo (.int x :: .int i :: .ref k :: r) (sh, gi, gl, gr) P := by
  subst hj; exact ev_bast F hr hk h0 h1 hn kk
theorem ev_zastv (F : x_F mi T ml rt) {x : Int32} (hr : x_lk T pc = some (.bastore, len, a, b, q, z)) (hk : sh[k]? = some (.inr (3, n))) (h0 : ¬ i < 0) (hj : i.toNatClampNeg = j) (h1 : j < n) (hn : pc + len = nx) (kk : x_Ev X d mi nx lo r (sh, x_up2 gi k j (x &&& 1), gl, gr) P) : x_Ev X d mi pc lo (.int x :: .int i :: .ref k :: r) (sh, gi, gl, gr) P := by
  subst hj; exact ev_zast F hr hk h0 h1 hn kk
theorem ev_mmv {x y w : Int32} (F : x_F mi T ml rt) (hr : x_lk T pc = some (ins, len, a, b, q, z)) (hc : x_cat ins = 4) (ha : (decide (a = 1002) || decide (a = 1003)) = true) (hd : 1 ≤ d) (h8 : Nat.ble (x_words r) 8 = true) (hv : x_mm a x y = w) (hn : pc + 3 = nx) (kk : x_Ev X d mi nx lo (.int w :: r) G P) : x_Ev X d mi pc lo (.int y :: .int x :: r) G P := by
  subst hv; exact ev_mm F hr hc ha hd (Nat.le_of_ble_eq_true h8) hn kk
/-- a call walked in place: what the caller does goes on at the callee's end -/
theorem ev_inV {k ci : Nat} {as : List Value} {T' : List (Nat × x_Row)} {ml' : Nat} {rt' : Option FieldType} {lo2 : x_Lo} (F : x_F mi T ml rt) (hr : x_lk T pc = some (ins, len, a, b, q, z)) (hc : x_cat ins = 4) (ha : Nat.blt a 1000 = true) (hb : Nat.ble b st.length = true) (has : (st.take b).reverse = .ref k :: as) (hrest : st.drop b = r) (h8 : Nat.ble (x_words r) 8 = true) (Fa : x_F a T' ml' rt') (hk : sh[k]? = some (.inl ci)) (hm : x_mci a = ci) (h12 : Nat.blt ci 12 = true) (hw : Nat.ble (x_words (.ref k :: as)) ml' = true) (hl : lv_args 0 (.ref k :: as) = lo2) (hn : pc + 3 = nx)
    (h : x_Ev X d a 0 lo2 [] (sh, gi, gl, gr) (fun v G1 => x_Ev X (d + 1) mi nx lo (v.toList ++ r) G1 P)) : x_Ev X (d + 1) mi pc lo st (sh, gi, gl, gr) P := by
  subst hrest; subst hl
  refine ev_call F hr hc (decide_eq_true (Nat.le_of_ble_eq_true ha)) (Nat.le_of_ble_eq_true hb) (Nat.le_of_ble_eq_true h8) ?_ hn (fun v G1 h => h)
  rw [has]
  refine ⟨by rw [Fa.2.1]; exact Nat.le_of_ble_eq_true hw, Or.inr ?_, h⟩
  show (match sh[k]? with | some (.inl ci) => ci == x_mci a && decide (x_mci a < 12) | _ => false) = true
  rw [hk, hm]
  simp [show ci < 12 from Nat.le_of_ble_eq_true h12]
theorem ev_inS {as : List Value} {T' : List (Nat × x_Row)} {ml' : Nat} {rt' : Option FieldType} {lo2 : x_Lo} (F : x_F mi T ml rt) (hr : x_lk T pc = some (ins, len, a, b, q, z)) (hc : x_cat ins = 4) (ha : Nat.blt a 1000 = true) (hb : Nat.ble b st.length = true) (has : (st.take b).reverse = as) (hrest : st.drop b = r) (h8 : Nat.ble (x_words r) 8 = true) (Fa : x_F a T' ml' rt') (hs : x_stat a = true) (hw : Nat.ble (x_words as) ml' = true) (hl : lv_args 0 as = lo2) (hn : pc + 3 = nx)
    (h : x_Ev X d a 0 lo2 [] G (fun v G1 => x_Ev X (d + 1) mi nx lo (v.toList ++ r) G1 P)) : x_Ev X (d + 1) mi pc lo st G P := by
  subst hrest; subst hl
  refine ev_call F hr hc (decide_eq_true (Nat.le_of_ble_eq_true ha)) (Nat.le_of_ble_eq_true hb) (Nat.le_of_ble_eq_true h8) ?_ hn (fun v G1 h => h)
  rw [has]
  exact ⟨by rw [Fa.2.1]; exact Nat.le_of_ble_eq_true hw, Or.inl hs, h⟩
theorem ev_retK {d' mi' nx' : Nat} {v : Option Value} {P' : Option Value → x_G → Prop} (F : x_F mi T ml rt) (hr : x_lk T pc = some (ins, len, a, b, q, z)) (hc : x_cat ins = 5) (hs : x_ret rt ins st = some v) (he : v.toList ++ r = st') (kk : x_Ev X d' mi' nx' lo' st' G P') : x_Ev X d mi pc lo st G (fun v G1 => x_Ev X d' mi' nx' lo' (v.toList ++ r) G1 P') := by
  subst he; exact ev_ret F hr hc hs kk
theorem ev_inS0 {T' : List (Nat × x_Row)} {ml' : Nat} {rt' : Option FieldType} {lo2 : x_Lo} (F : x_F mi T ml rt) (hr : x_lk T pc = some (ins, len, a, 0, q, z)) (hc : x_cat ins = 4) (ha : Nat.blt a 1000 = true) (h8 : Nat.ble (x_words r) 8 = true) (Fa : x_F a T' ml' rt') (hs : x_stat a = true) (hw : Nat.ble (x_words []) ml' = true) (hl : lv_args 0 [] = lo2) (hn : pc + 3 = nx)
    (h : x_Ev X d a 0 lo2 [] G (fun v G1 => x_Ev X (d + 1) mi nx lo (v.toList ++ r) G1 P)) : x_Ev X (d + 1) mi pc lo (r) G P := ev_inS F hr hc ha rfl rfl rfl h8 Fa hs hw hl hn h
theorem ev_inV1 {k ci : Nat} {T' : List (Nat × x_Row)} {ml' : Nat} {rt' : Option FieldType} {lo2 : x_Lo} (F : x_F mi T ml rt) (hr : x_lk T pc = some (ins, len, a, 1, q, z)) (hc : x_cat ins = 4) (ha : Nat.blt a 1000 = true) (h8 : Nat.ble (x_words r) 8 = true) (Fa : x_F a T' ml' rt') (hk : sh[k]? = some (.inl ci)) (hm : x_mci a = ci) (h12 : Nat.blt ci 12 = true) (hw : Nat.ble (x_words [.ref k]) ml' = true) (hl : lv_args 0 [.ref k] = lo2) (hn : pc + 3 = nx)
    (h : x_Ev X d a 0 lo2 [] (sh, gi, gl, gr) (fun v G1 => x_Ev X (d + 1) mi nx lo (v.toList ++ r) G1 P)) : x_Ev X (d + 1) mi pc lo (.ref k :: r) (sh, gi, gl, gr) P := ev_inV F hr hc ha rfl rfl rfl h8 Fa hk hm h12 hw hl hn h
theorem ev_inS1 {a0 : Value} {T' : List (Nat × x_Row)} {ml' : Nat} {rt' : Option FieldType} {lo2 : x_Lo} (F : x_F mi T ml rt) (hr : x_lk T pc = some (ins, len, a, 1, q, z)) (hc : x_cat ins = 4) (ha : Nat.blt a 1000 = true) (h8 : Nat.ble (x_words r) 8 = true) (Fa : x_F a T' ml' rt') (hs : x_stat a = true) (hw : Nat.ble (x_words [a0]) ml' = true) (hl : lv_args 0 [a0] = lo2) (hn : pc + 3 = nx)
    (h : x_Ev X d a 0 lo2 [] G (fun v G1 => x_Ev X (d + 1) mi nx lo (v.toList ++ r) G1 P)) : x_Ev X (d + 1) mi pc lo (a0 :: r) G P := ev_inS F hr hc ha rfl rfl rfl h8 Fa hs hw hl hn h
theorem ev_inV2 {k ci : Nat} {a1 : Value} {T' : List (Nat × x_Row)} {ml' : Nat} {rt' : Option FieldType} {lo2 : x_Lo} (F : x_F mi T ml rt) (hr : x_lk T pc = some (ins, len, a, 2, q, z)) (hc : x_cat ins = 4) (ha : Nat.blt a 1000 = true) (h8 : Nat.ble (x_words r) 8 = true) (Fa : x_F a T' ml' rt') (hk : sh[k]? = some (.inl ci)) (hm : x_mci a = ci) (h12 : Nat.blt ci 12 = true) (hw : Nat.ble (x_words [.ref k, a1]) ml' = true) (hl : lv_args 0 [.ref k, a1] = lo2) (hn : pc + 3 = nx)
    (h : x_Ev X d a 0 lo2 [] (sh, gi, gl, gr) (fun v G1 => x_Ev X (d + 1) mi nx lo (v.toList ++ r) G1 P)) : x_Ev X (d + 1) mi pc lo (a1 :: .ref k :: r) (sh, gi, gl, gr) P := ev_inV F hr hc ha rfl rfl rfl h8 Fa hk hm h12 hw hl hn h
theorem ev_inS2 {a0 a1 : Value} {T' : List (Nat × x_Row)} {ml' : Nat} {rt' : Option FieldType} {lo2 : x_Lo} (F : x_F mi T ml rt) (hr : x_lk T pc = some (ins, len, a, 2, q, z)) (hc : x_cat ins = 4) (ha : Nat.blt a 1000 = true) (h8 : Nat.ble (x_words r) 8 = true) (Fa : x_F a T' ml' rt') (hs : x_stat a = true) (hw : Nat.ble (x_words [a0, a1]) ml' = true) (hl : lv_args 0 [a0, a1] = lo2) (hn : pc + 3 = nx)
    (h : x_Ev X d a 0 lo2 [] G (fun v G1 => x_Ev X (d + 1) mi nx lo (v.toList ++ r) G1 P)) : x_Ev X (d + 1) mi pc lo (a1 :: a0 :: r) G P := ev_inS F hr hc ha rfl rfl rfl h8 Fa hs hw hl hn h
theorem ev_inV3 {k ci : Nat} {a1 a2 : Value} {T' : List (Nat × x_Row)} {ml' : Nat} {rt' : Option FieldType} {lo2 : x_Lo} (F : x_F mi T ml rt) (hr : x_lk T pc = some (ins, len, a, 3, q, z)) (hc : x_cat ins = 4) (ha : Nat.blt a 1000 = true) (h8 : Nat.ble (x_words r) 8 = true) (Fa : x_F a T' ml' rt') (hk : sh[k]? = some (.inl ci)) (hm : x_mci a = ci) (h12 : Nat.blt ci 12 = true) (hw : Nat.ble (x_words [.ref k, a1, a2]) ml' = true) (hl : lv_args 0 [.ref k, a1, a2] = lo2) (hn : pc + 3 = nx)
    (h : x_Ev X d a 0 lo2 [] (sh, gi, gl, gr) (fun v G1 => x_Ev X (d + 1) mi nx lo (v.toList ++ r) G1 P)) : x_Ev X (d + 1) mi pc lo (a2 :: a1 :: .ref k :: r) (sh, gi, gl, gr) P := ev_inV F hr hc ha rfl rfl rfl h8 Fa hk hm h12 hw hl hn h
theorem ev_inS3 {a0 a1 a2 : Value} {T' : List (Nat × x_Row)} {ml' : Nat} {rt' : Option FieldType} {lo2 : x_Lo} (F : x_F mi T ml rt) (hr : x_lk T pc = some (ins, len, a, 3, q, z)) (hc : x_cat ins = 4) (ha : Nat.blt a 1000 = true) (h8 : Nat.ble (x_words r) 8 = true) (Fa : x_F a T' ml' rt') (hs : x_stat a = true) (hw : Nat.ble (x_words [a0, a1, a2]) ml' = true) (hl : lv_args 0 [a0, a1, a2] = lo2) (hn : pc + 3 = nx)
    (h : x_Ev X d a 0 lo2 [] G (fun v G1 => x_Ev X (d + 1) mi nx lo (v.toList ++ r) G1 P)) : x_Ev X (d + 1) mi pc lo (a2 :: a1 :: a0 :: r) G P := ev_inS F hr hc ha rfl rfl rfl h8 Fa hs hw hl hn h
theorem ev_inV4 {k ci : Nat} {a1 a2 a3 : Value} {T' : List (Nat × x_Row)} {ml' : Nat} {rt' : Option FieldType} {lo2 : x_Lo} (F : x_F mi T ml rt) (hr : x_lk T pc = some (ins, len, a, 4, q, z)) (hc : x_cat ins = 4) (ha : Nat.blt a 1000 = true) (h8 : Nat.ble (x_words r) 8 = true) (Fa : x_F a T' ml' rt') (hk : sh[k]? = some (.inl ci)) (hm : x_mci a = ci) (h12 : Nat.blt ci 12 = true) (hw : Nat.ble (x_words [.ref k, a1, a2, a3]) ml' = true) (hl : lv_args 0 [.ref k, a1, a2, a3] = lo2) (hn : pc + 3 = nx)
    (h : x_Ev X d a 0 lo2 [] (sh, gi, gl, gr) (fun v G1 => x_Ev X (d + 1) mi nx lo (v.toList ++ r) G1 P)) : x_Ev X (d + 1) mi pc lo (a3 :: a2 :: a1 :: .ref k :: r) (sh, gi, gl, gr) P := ev_inV F hr hc ha rfl rfl rfl h8 Fa hk hm h12 hw hl hn h
theorem ev_inS4 {a0 a1 a2 a3 : Value} {T' : List (Nat × x_Row)} {ml' : Nat} {rt' : Option FieldType} {lo2 : x_Lo} (F : x_F mi T ml rt) (hr : x_lk T pc = some (ins, len, a, 4, q, z)) (hc : x_cat ins = 4) (ha : Nat.blt a 1000 = true) (h8 : Nat.ble (x_words r) 8 = true) (Fa : x_F a T' ml' rt') (hs : x_stat a = true) (hw : Nat.ble (x_words [a0, a1, a2, a3]) ml' = true) (hl : lv_args 0 [a0, a1, a2, a3] = lo2) (hn : pc + 3 = nx)
    (h : x_Ev X d a 0 lo2 [] G (fun v G1 => x_Ev X (d + 1) mi nx lo (v.toList ++ r) G1 P)) : x_Ev X (d + 1) mi pc lo (a3 :: a2 :: a1 :: a0 :: r) G P := ev_inS F hr hc ha rfl rfl rfl h8 Fa hs hw hl hn h
theorem ev_inV5 {k ci : Nat} {a1 a2 a3 a4 : Value} {T' : List (Nat × x_Row)} {ml' : Nat} {rt' : Option FieldType} {lo2 : x_Lo} (F : x_F mi T ml rt) (hr : x_lk T pc = some (ins, len, a, 5, q, z)) (hc : x_cat ins = 4) (ha : Nat.blt a 1000 = true) (h8 : Nat.ble (x_words r) 8 = true) (Fa : x_F a T' ml' rt') (hk : sh[k]? = some (.inl ci)) (hm : x_mci a = ci) (h12 : Nat.blt ci 12 = true) (hw : Nat.ble (x_words [.ref k, a1, a2, a3, a4]) ml' = true) (hl : lv_args 0 [.ref k, a1, a2, a3, a4] = lo2) (hn : pc + 3 = nx)
    (h : x_Ev X d a 0 lo2 [] (sh, gi, gl, gr) (fun v G1 => x_Ev X (d + 1) mi nx lo (v.toList ++ r) G1 P)) : x_Ev X (d + 1) mi pc lo (a4 :: a3 :: a2 :: a1 :: .ref k :: r) (sh, gi, gl, gr) P := ev_inV F hr hc ha rfl rfl rfl h8 Fa hk hm h12 hw hl hn h
theorem ev_inS5 {a0 a1 a2 a3 a4 : Value} {T' : List (Nat × x_Row)} {ml' : Nat} {rt' : Option FieldType} {lo2 : x_Lo} (F : x_F mi T ml rt) (hr : x_lk T pc = some (ins, len, a, 5, q, z)) (hc : x_cat ins = 4) (ha : Nat.blt a 1000 = true) (h8 : Nat.ble (x_words r) 8 = true) (Fa : x_F a T' ml' rt') (hs : x_stat a = true) (hw : Nat.ble (x_words [a0, a1, a2, a3, a4]) ml' = true) (hl : lv_args 0 [a0, a1, a2, a3, a4] = lo2) (hn : pc + 3 = nx)
    (h : x_Ev X d a 0 lo2 [] G (fun v G1 => x_Ev X (d + 1) mi nx lo (v.toList ++ r) G1 P)) : x_Ev X (d + 1) mi pc lo (a4 :: a3 :: a2 :: a1 :: a0 :: r) G P := ev_inS F hr hc ha rfl rfl rfl h8 Fa hs hw hl hn h
theorem ev_inV6 {k ci : Nat} {a1 a2 a3 a4 a5 : Value} {T' : List (Nat × x_Row)} {ml' : Nat} {rt' : Option FieldType} {lo2 : x_Lo} (F : x_F mi T ml rt) (hr : x_lk T pc = some (ins, len, a, 6, q, z)) (hc : x_cat ins = 4) (ha : Nat.blt a 1000 = true) (h8 : Nat.ble (x_words r) 8 = true) (Fa : x_F a T' ml' rt') (hk : sh[k]? = some (.inl ci)) (hm : x_mci a = ci) (h12 : Nat.blt ci 12 = true) (hw : Nat.ble (x_words [.ref k, a1, a2, a3, a4, a5]) ml' = true) (hl : lv_args 0 [.ref k, a1, a2, a3, a4, a5] = lo2) (hn : pc + 3 = nx)
    (h : x_Ev X d a 0 lo2 [] (sh, gi, gl, gr) (fun v G1 => x_Ev X (d + 1) mi nx lo (v.toList ++ r) G1 P)) : x_Ev X (d + 1) mi pc lo (a5 :: a4 :: a3 :: a2 :: a1 :: .ref k :: r) (sh, gi, gl, gr) P := ev_inV F hr hc ha rfl rfl rfl h8 Fa hk hm h12 hw hl hn h
theorem ev_inS6 {a0 a1 a2 a3 a4 a5 : Value} {T' : List (Nat × x_Row)} {ml' : Nat} {rt' : Option FieldType} {lo2 : x_Lo} (F : x_F mi T ml rt) (hr : x_lk T pc = some (ins, len, a, 6, q, z)) (hc : x_cat ins = 4) (ha : Nat.blt a 1000 = true) (h8 : Nat.ble (x_words r) 8 = true) (Fa : x_F a T' ml' rt') (hs : x_stat a = true) (hw : Nat.ble (x_words [a0, a1, a2, a3, a4, a5]) ml' = true) (hl : lv_args 0 [a0, a1, a2, a3, a4, a5] = lo2) (hn : pc + 3 = nx)
    (h : x_Ev X d a 0 lo2 [] G (fun v G1 => x_Ev X (d + 1) mi nx lo (v.toList ++ r) G1 P)) : x_Ev X (d + 1) mi pc lo (a5 :: a4 :: a3 :: a2 :: a1 :: a0 :: r) G P := ev_inS F hr hc ha rfl rfl rfl h8 Fa hs hw hl hn h
theorem ev_inV7 {k ci : Nat} {a1 a2 a3 a4 a5 a6 : Value} {T' : List (Nat × x_Row)} {ml' : Nat} {rt' : Option FieldType} {lo2 : x_Lo} (F : x_F mi T ml rt) (hr : x_lk T pc = some (ins, len, a, 7, q, z)) (hc : x_cat ins = 4) (ha : Nat.blt a 1000 = true) (h8 : Nat.ble (x_words r) 8 = true) (Fa : x_F a T' ml' rt') (hk : sh[k]? = some (.inl ci)) (hm : x_mci a = ci) (h12 : Nat.blt ci 12 = true) (hw : Nat.ble (x_words [.ref k, a1, a2, a3, a4, a5, a6]) ml' = true) (hl : lv_args 0 [.ref k, a1, a2, a3, a4, a5, a6] = lo2) (hn : pc + 3 = nx)
    (h : x_Ev X d a 0 lo2 [] (sh, gi, gl, gr) (fun v G1 => x_Ev X (d + 1) mi nx lo (v.toList ++ r) G1 P)) : x_Ev X (d + 1) mi pc lo (a6 :: a5 :: a4 :: a3 :: a2 :: a1 :: .ref k :: r) (sh, gi, gl, gr) P := ev_inV F hr hc ha rfl rfl rfl h8 Fa hk hm h12 hw hl hn h
theorem ev_inS7 {a0 a1 a2 a3 a4 a5 a6 : Value} {T' : List (Nat × x_Row)} {ml' : Nat} {rt' : Option FieldType} {lo2 : x_Lo} (F : x_F mi T ml rt) (hr : x_lk T pc = some (ins, len, a, 7, q, z)) (hc : x_cat ins = 4) (ha : Nat.blt a 1000 = true) (h8 : Nat.ble (x_words r) 8 = true) (Fa : x_F a T' ml' rt') (hs : x_stat a = true) (hw : Nat.ble (x_words [a0, a1, a2, a3, a4, a5, a6]) ml' = true) (hl : lv_args 0 [a0, a1, a2, a3, a4, a5, a6] = lo2) (hn : pc + 3 = nx)
    (h : x_Ev X d a 0 lo2 [] G (fun v G1 => x_Ev X (d + 1) mi nx lo (v.toList ++ r) G1 P)) : x_Ev X (d + 1) mi pc lo (a6 :: a5 :: a4 :: a3 :: a2 :: a1 :: a0 :: r) G P := ev_inS F hr hc ha rfl rfl rfl h8 Fa hs hw hl hn h
theorem ev_retK1 {d' mi' nx' : Nat} {w : Value} {P' : Option Value → x_G → Prop} (F : x_F mi T ml rt) (hr : x_lk T pc = some (ins, len, a, b, q, z)) (hc : x_cat ins = 5) (hs : x_ret rt ins st = some (some w)) (kk : x_Ev X d' mi' nx' lo' (w :: r) G P') : x_Ev X d mi pc lo st G (fun v G1 => x_Ev X d' mi' nx' lo' (v.toList ++ r) G1 P') := ev_ret F hr hc hs kk
theorem ev_retK0 {d' mi' nx' : Nat} {P' : Option Value → x_G → Prop} (F : x_F mi T ml rt) (hr : x_lk T pc = some (ins, len, a, b, q, z)) (hc : x_cat ins = 5) (hs : x_ret rt ins st = some none) (kk : x_Ev X d' mi' nx' lo' r G P') : x_Ev X d mi pc lo st G (fun v G1 => x_Ev X d' mi' nx' lo' (v.toList ++ r) G1 P') := ev_ret F hr hc hs kk
end XEV3
