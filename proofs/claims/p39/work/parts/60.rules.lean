/-! ===== rules for walks with numbers worked out on the way ===== -/
theorem lgc_lt {x : Int32} {c : Int64} {n : Int} (hc : c.toInt = n) : lg_cmp x.toInt64 c < 0 ↔ x.toInt < n := by
  rw [lg_cmp_lt, Int64.lt_iff_toInt_lt, Int32.toInt_toInt64, hc]
theorem lgc_ge {x : Int32} {c : Int64} {n : Int} (hc : c.toInt = n) : 0 ≤ lg_cmp x.toInt64 c ↔ n ≤ x.toInt := by
  rw [lg_cmp_ge, Int64.le_iff_toInt_le, Int32.toInt_toInt64, hc]
theorem lgc_gt {x : Int32} {c : Int64} {n : Int} (hc : c.toInt = n) : 0 < lg_cmp x.toInt64 c ↔ n < x.toInt := by
  rw [lg_cmp_gt, Int64.lt_iff_toInt_lt, Int32.toInt_toInt64, hc]
theorem lgc_le {x : Int32} {c : Int64} {n : Int} (hc : c.toInt = n) : lg_cmp x.toInt64 c ≤ 0 ↔ x.toInt ≤ n := by
  rw [lg_cmp_le, Int64.le_iff_toInt_le, Int32.toInt_toInt64, hc]
theorem x_WF_up {sh : List (Nat ⊕ (Nat × Nat))} {gr : Nat → Nat → Value} (h : x_WF sh gr) {k j : Nat} {v : Value} (hn : x_fixed k j = none) : x_WF sh (x_up2 gr k j v) := by
  refine ⟨h.1, fun k' j' v' hf => ?_⟩
  rw [x_up2_off (by
    by_cases hk : k' = k
    · right
      intro hj
      rw [hk, hj, hn] at hf
      cases hf
    · exact Or.inl hk)]
  exact h.2 k' j' v' hf
section XEV3
variable {X : x_Ext} {d mi pc nx a b q len ml : Nat} {z : Int} {ins : Instr} {lo lo' : x_Lo} {st st' r : List Value} {G : x_G} {P : Option Value → x_G → Prop} {T : List (Nat × x_Row)} {rt : Option FieldType}
variable {sh : List (Nat ⊕ (Nat × Nat))} {gi : Nat → Nat → Int32} {gl : Nat → Nat → Int64} {gr : Nat → Nat → Value} {k i0 n j : Nat} {i : Int32}
theorem ev_t {C : Prop} [Decidable C] {t1 t2 : Nat} (F : x_F mi T ml rt) (hr : x_lk T pc = some (ins, len, a, b, q, z)) (hc : x_cat ins = 2) (hs : x_br a pc ins st = some (if C then t1 else t2, st')) (h : C) (k1 : x_Ev X d mi t1 lo st' G P) : x_Ev X d mi pc lo st G P := ev_if F hr hc hs (fun _ => k1) (fun n => absurd h n)
theorem ev_f {C : Prop} [Decidable C] {t1 t2 : Nat} (F : x_F mi T ml rt) (hr : x_lk T pc = some (ins, len, a, b, q, z)) (hc : x_cat ins = 2) (hs : x_br a pc ins st = some (if C then t1 else t2, st')) (h : ¬ C) (k2 : x_Ev X d mi t2 lo st' G P) : x_Ev X d mi pc lo st G P := ev_if F hr hc hs (fun n => absurd n h) (fun _ => k2)
/-- a table that is left by its default -/
theorem ev_swd {x : Int32} {d0 l0 h0 : Int} {offs : Array Int} (F : x_F mi T ml rt) (hr : x_lk T pc = some (.tableswitch d0 l0 h0 offs, len, a, b, q, z)) (h : x.toInt < l0 ∨ h0 < x.toInt) (hp : 0 ≤ (pc : Int) + d0) (hn : ((pc : Int) + d0).toNat = nx) (kk : x_Ev X d mi nx lo r G P) : x_Ev X d mi pc lo (.int x :: r) G P := by
  refine ev_jmp F hr rfl ?_ kk
  show (if x.toInt < l0 ∨ h0 < x.toInt then _ else _) = _
  rw [if_pos h, if_pos hp, hn]
theorem ev_aluvI {v w : Int32} (F : x_F mi T ml rt) (hr : x_lk T pc = some (ins, len, a, b, q, z)) (hc : x_cat ins = 0) (hs : x_alu ins st = some (.int v :: r)) (hv : v = w) (hn : pc + len = nx) (kk : x_Ev X d mi nx lo (.int w :: r) G P) : x_Ev X d mi pc lo st G P := by
  subst hv; exact ev_alu F hr hc hs hn kk
theorem ev_aluvL {v w : Int64} (F : x_F mi T ml rt) (hr : x_lk T pc = some (ins, len, a, b, q, z)) (hc : x_cat ins = 0) (hs : x_alu ins st = some (.long v :: r)) (hv : v = w) (hn : pc + len = nx) (kk : x_Ev X d mi nx lo (.long w :: r) G P) : x_Ev X d mi pc lo st G P := by
  subst hv; exact ev_alu F hr hc hs hn kk
theorem ev_incv {n0 : Int} {x c w : Int32} {j : Nat} (F : x_F mi T ml rt) (hr : x_lk T pc = some (.iinc j n0, len, a, b, q, z)) (hg : x_get lo j = some (.int x)) (hc : Int32.ofInt n0 = c) (hw : x + c = w) (hj : decide (j < ml) = true) (hl : x_set1 lo j (.int w) = lo') (hn : pc + len = nx) (kk : x_Ev X d mi nx lo' r (sh, gi, gl, gr) P) : x_Ev X d mi pc lo r (sh, gi, gl, gr) P := by
  subst hw; exact ev_inc F hr hg hc hj hl hn kk
theorem ev_gvI {w : Int32} (F : x_F mi T ml rt) (hr : x_lk T pc = some (.getfield i0, len, a, b, q, z)) (hk : sh[k]? = some (.inl a)) (hb : decide (b < (x_fty a).length) = true) (ht : x_tyI ((x_fty a).getD b .int) = true) (hv : gi k b = w) (hn : pc + len = nx) (kk : x_Ev X d mi nx lo (.int w :: r) (sh, gi, gl, gr) P) : x_Ev X d mi pc lo (.ref k :: r) (sh, gi, gl, gr) P := by
  subst hv; exact ev_getI F hr hk hb ht hn kk
theorem ev_gvL {w : Int64} (F : x_F mi T ml rt) (hr : x_lk T pc = some (.getfield i0, len, a, b, q, z)) (hk : sh[k]? = some (.inl a)) (hb : decide (b < (x_fty a).length) = true) (ht : (x_fty a).getD b .int = .long) (hv : gl k b = w) (hn : pc + len = nx) (kk : x_Ev X d mi nx lo (.long w :: r) (sh, gi, gl, gr) P) : x_Ev X d mi pc lo (.ref k :: r) (sh, gi, gl, gr) P := by
  subst hv; exact ev_getL F hr hk hb ht hn kk
theorem ev_alenv (F : x_F mi T ml rt) {t : Nat} {w : Int32} (hr : x_lk T pc = some (.arraylength, len, a, b, q, z)) (hk : sh[k]? = some (.inr (t, n))) (ht : decide (t < 7) = true) (hv : Int32.ofNat n = w) (hn : pc + len = nx) (kk : x_Ev X d mi nx lo (.int w :: r) (sh, gi, gl, gr) P) : x_Ev X d mi pc lo (.ref k :: r) (sh, gi, gl, gr) P := by
  subst hv; exact ev_alen F hr hk ht hn kk
theorem ev_alenX (F : x_F mi T ml rt) (hr : x_lk T pc = some (.arraylength, len, a, b, q, z)) (hX : X.1 = 6) (hn : pc + len = nx) (kk : x_Ev X d mi nx lo (.int 6 :: r) G P) : x_Ev X d mi pc lo (.retAddr 30 :: r) G P := by
  refine ev_heap F hr rfl ?_ hn kk
  show (match x_xar X 30 with | some q => some (Value.int (Int32.ofNat q.2.1) :: r, G) | none => none) = _
  show some (Value.int (Int32.ofNat X.1) :: r, G) = _
  rw [hX]; rfl
theorem ev_scr (F : x_F mi T ml rt) (hr : x_lk T pc = some (.iaload, len, a, b, q, z)) (hX : X.1 = 6) (h0 : ¬ i < 0) (hi : i.toNatClampNeg = j) (h6 : j < 6) (hn : pc + len = nx) (kk : x_Ev X d mi nx lo (.int (X.2 j) :: r) G P) : x_Ev X d mi pc lo (.int i :: .retAddr 30 :: r) G P := by
  refine ev_heap F hr rfl ?_ hn kk
  show (match x_ldX (fun t => t == .int) X 30 i with | some v => some (v :: r, G) | none => none) = _
  have h : x_ldX (fun t => t == .int) X 30 i = some (.int (X.2 j)) := by
    show (if (FieldType.int == .int) = true ∧ ¬ (i < 0 ∨ X.1 ≤ i.toNatClampNeg) then some (Value.int (X.2 i.toNatClampNeg)) else none) = _
    rw [if_pos ⟨rfl, fun q => q.elim h0 (fun q => by omega)⟩, hi]
  rw [h]
theorem ev_scrv {w : Int32} (F : x_F mi T ml rt) (hr : x_lk T pc = some (.iaload, len, a, b, q, z)) (hX : X.1 = 6) (h0 : ¬ i < 0) (hi : i.toNatClampNeg = j) (h6 : j < 6) (hv : X.2 j = w) (hn : pc + len = nx) (kk : x_Ev X d mi nx lo (.int w :: r) G P) : x_Ev X d mi pc lo (.int i :: .retAddr 30 :: r) G P := by
  subst hv; exact ev_scr F hr hX h0 hi h6 hn kk
theorem ev_ialdv {w : Int32} (F : x_F mi T ml rt) (hr : x_lk T pc = some (.iaload, len, a, b, q, z)) (hk : sh[k]? = some (.inr (0, n))) (h0 : ¬ i < 0) (hj : i.toNatClampNeg = j) (h1 : j < n) (hv : gi k j = w) (hn : pc + len = nx) (kk : x_Ev X d mi nx lo (.int w :: r) (sh, gi, gl, gr) P) : x_Ev X d mi pc lo (.int i :: .ref k :: r) (sh, gi, gl, gr) P := by
  subst hj; subst hv; exact ev_iald F hr hk h0 h1 hn kk
theorem ev_laldv {w : Int64} (F : x_F mi T ml rt) (hr : x_lk T pc = some (.laload, len, a, b, q, z)) (hk : sh[k]? = some (.inr (1, n))) (h0 : ¬ i < 0) (hj : i.toNatClampNeg = j) (h1 : j < n) (hv : gl k j = w) (hn : pc + len = nx) (kk : x_Ev X d mi nx lo (.long w :: r) (sh, gi, gl, gr) P) : x_Ev X d mi pc lo (.int i :: .ref k :: r) (sh, gi, gl, gr) P := by
  subst hj; subst hv; exact ev_lald F hr hk h0 h1 hn kk
theorem ev_baldv {t : Nat} {w : Int32} (F : x_F mi T ml rt) (hr : x_lk T pc = some (.baload, len, a, b, q, z)) (hk : sh[k]? = some (.inr (t, n))) (ht : (t == 2 || t == 3) = true) (h0 : ¬ i < 0) (hj : i.toNatClampNeg = j) (h1 : j < n) (hv : gi k j = w) (hn : pc + len = nx) (kk : x_Ev X d mi nx lo (.int w :: r) (sh, gi, gl, gr) P) : x_Ev X d mi pc lo (.int i :: .ref k :: r) (sh, gi, gl, gr) P := by
  subst hj; subst hv; exact ev_bald F hr hk ht h0 h1 hn kk
theorem ev_aaldv {t : Nat} {v : Value} (F : x_F mi T ml rt) (hr : x_lk T pc = some (.aaload, len, a, b, q, z)) (hk : sh[k]? = some (.inr (t, n))) (ht : (decide (4 ≤ t) && decide (t < 7)) = true) (h0 : ¬ i < 0) (hj : i.toNatClampNeg = j) (h1 : j < n) (hv : gr k j = v) (hv2 : x_isR v = true) (hn : pc + len = nx) (kk : x_Ev X d mi nx lo (v :: r) (sh, gi, gl, gr) P) : x_Ev X d mi pc lo (.int i :: .ref k :: r) (sh, gi, gl, gr) P := by
  subst hj; exact ev_aald F hr hk ht h0 h1 hv hv2 hn kk
theorem ev_iastv (F : x_F mi T ml rt) {x : Int32} (hr : x_lk T pc = some (.iastore, len, a, b, q, z)) (hk : sh[k]? = some (.inr (0, n))) (h0 : ¬ i < 0) (hj : i.toNatClampNeg = j) (h1 : j < n) (hn : pc + len = nx) (kk : x_Ev X d mi nx lo r (sh, x_up2 gi k j x, gl, gr) P) : x_Ev X d mi pc lo (.int x :: .int i :: .ref k :: r) (sh, gi, gl, gr) P := by
  subst hj; exact ev_iast F hr hk h0 h1 hn kk
theorem ev_lastv (F : x_F mi T ml rt) {x : Int64} (hr : x_lk T pc = some (.lastore, len, a, b, q, z)) (hk : sh[k]? = some (.inr (1, n))) (h0 : ¬ i < 0) (hj : i.toNatClampNeg = j) (h1 : j < n) (hn : pc + len = nx) (kk : x_Ev X d mi nx lo r (sh, gi, x_up2 gl k j x, gr) P) : x_Ev X d mi pc lo (.long x :: .int i :: .ref k :: r) (sh, gi, gl, gr) P := by
  subst hj; exact ev_last F hr hk h0 h1 hn kk
theorem ev_bastv (F : x_F mi T ml rt) {x : Int32} (hr : x_lk T pc = some (.bastore, len, a, b, q, z)) (hk : sh[k]? = some (.inr (2, n))) (h0 : ¬ i < 0) (hj : i.toNatClampNeg = j) (h1 : j < n) (hn : pc + len = nx) (kk : x_Ev X d mi nx lo r (sh, x_up2 gi k j x.toInt8.toInt32, gl, gr) P) : x_Ev X d mi pc lo (.int x :: .int i :: .ref k :: r) (sh, gi, gl, gr) P := by
  subst hj; exact ev_bast F hr hk h0 h1 hn kk
theorem ev_zastv (F : x_F mi T ml rt) {x : Int32} (hr : x_lk T pc = some (.bastore, len, a, b, q, z)) (hk : sh[k]? = some (.inr (3, n))) (h0 : ¬ i < 0) (hj : i.toNatClampNeg = j) (h1 : j < n) (hn : pc + len = nx) (kk : x_Ev X d mi nx lo r (sh, x_up2 gi k j (x &&& 1), gl, gr) P) : x_Ev X d mi pc lo (.int x :: .int i :: .ref k :: r) (sh, gi, gl, gr) P := by
  subst hj; exact ev_zast F hr hk h0 h1 hn kk
theorem ev_mmv {x y w : Int32} (F : x_F mi T ml rt) (hr : x_lk T pc = some (ins, len, a, b, q, z)) (hc : x_cat ins = 4) (ha : (decide (a = 1002) || decide (a = 1003)) = true) (hd : 1 ≤ d) (h8 : Nat.ble (x_words r) 8 = true) (hv : x_mm a x y = w) (hn : pc + 3 = nx) (kk : x_Ev X d mi nx lo (.int w :: r) G P) : x_Ev X d mi pc lo (.int y :: .int x :: r) G P := by
  subst hv; exact ev_mm F hr hc ha hd (Nat.le_of_ble_eq_true h8) hn kk
/-- a call walked in place: what the caller does goes on at the callee's end -/
theorem ev_inV {k ci : Nat} {as : List Value} {T' : List (Nat × x_Row)} {ml' : Nat} {rt' : Option FieldType} {lo2 : x_Lo} (F : x_F mi T ml rt) (hr : x_lk T pc = some (ins, len, a, b, q, z)) (hc : x_cat ins = 4) (ha : Nat.blt a 1000 = true) (hb : Nat.ble b st.length = true) (has : (st.take b).reverse = .ref k :: as) (hrest : st.drop b = r) (h8 : Nat.ble (x_words r) 8 = true) (Fa : x_F a T' ml' rt') (hk : sh[k]? = some (.inl ci)) (hm : x_mci a = ci) (h12 : Nat.blt ci 12 = true) (hw : Nat.ble (x_words (.ref k :: as)) ml' = true) (hl : lv_args 0 (.ref k :: as) = lo2) (hn : pc + 3 = nx)
    (h : x_Ev X d a 0 lo2 [] (sh, gi, gl, gr) (fun v G1 => x_Ev X (d + 1) mi nx lo (v.toList ++ r) G1 P)) : x_Ev X (d + 1) mi pc lo st (sh, gi, gl, gr) P := by
  subst hrest; subst hl
  refine ev_call F hr hc (decide_eq_true (Nat.le_of_ble_eq_true ha)) (Nat.le_of_ble_eq_true hb) (Nat.le_of_ble_eq_true h8) ?_ hn (fun v G1 h => h)
  rw [has]
  refine ⟨by rw [Fa.2.1]; exact Nat.le_of_ble_eq_true hw, Or.inr ?_, h⟩
  show (match sh[k]? with | some (.inl ci) => ci == x_mci a && decide (x_mci a < 12) | _ => false) = true
  rw [hk, hm]
  simp [show ci < 12 from Nat.le_of_ble_eq_true h12]
theorem ev_inS {as : List Value} {T' : List (Nat × x_Row)} {ml' : Nat} {rt' : Option FieldType} {lo2 : x_Lo} (F : x_F mi T ml rt) (hr : x_lk T pc = some (ins, len, a, b, q, z)) (hc : x_cat ins = 4) (ha : Nat.blt a 1000 = true) (hb : Nat.ble b st.length = true) (has : (st.take b).reverse = as) (hrest : st.drop b = r) (h8 : Nat.ble (x_words r) 8 = true) (Fa : x_F a T' ml' rt') (hs : x_stat a = true) (hw : Nat.ble (x_words as) ml' = true) (hl : lv_args 0 as = lo2) (hn : pc + 3 = nx)
    (h : x_Ev X d a 0 lo2 [] G (fun v G1 => x_Ev X (d + 1) mi nx lo (v.toList ++ r) G1 P)) : x_Ev X (d + 1) mi pc lo st G P := by
  subst hrest; subst hl
  refine ev_call F hr hc (decide_eq_true (Nat.le_of_ble_eq_true ha)) (Nat.le_of_ble_eq_true hb) (Nat.le_of_ble_eq_true h8) ?_ hn (fun v G1 h => h)
  rw [has]
  exact ⟨by rw [Fa.2.1]; exact Nat.le_of_ble_eq_true hw, Or.inl hs, h⟩
theorem ev_retK {d' mi' nx' : Nat} {v : Option Value} {P' : Option Value → x_G → Prop} (F : x_F mi T ml rt) (hr : x_lk T pc = some (ins, len, a, b, q, z)) (hc : x_cat ins = 5) (hs : x_ret rt ins st = some v) (he : v.toList ++ r = st') (kk : x_Ev X d' mi' nx' lo' st' G P') : x_Ev X d mi pc lo st G (fun v G1 => x_Ev X d' mi' nx' lo' (v.toList ++ r) G1 P') := by
  subst he; exact ev_ret F hr hc hs kk
theorem ev_inS0 {T' : List (Nat × x_Row)} {ml' : Nat} {rt' : Option FieldType} {lo2 : x_Lo} (F : x_F mi T ml rt) (hr : x_lk T pc = some (ins, len, a, 0, q, z)) (hc : x_cat ins = 4) (ha : Nat.blt a 1000 = true) (h8 : Nat.ble (x_words r) 8 = true) (Fa : x_F a T' ml' rt') (hs : x_stat a = true) (hw : Nat.ble (x_words []) ml' = true) (hl : lv_args 0 [] = lo2) (hn : pc + 3 = nx)
    (h : x_Ev X d a 0 lo2 [] G (fun v G1 => x_Ev X (d + 1) mi nx lo (v.toList ++ r) G1 P)) : x_Ev X (d + 1) mi pc lo (r) G P := ev_inS F hr hc ha rfl rfl rfl h8 Fa hs hw hl hn h
theorem ev_inV1 {k ci : Nat} {T' : List (Nat × x_Row)} {ml' : Nat} {rt' : Option FieldType} {lo2 : x_Lo} (F : x_F mi T ml rt) (hr : x_lk T pc = some (ins, len, a, 1, q, z)) (hc : x_cat ins = 4) (ha : Nat.blt a 1000 = true) (h8 : Nat.ble (x_words r) 8 = true) (Fa : x_F a T' ml' rt') (hk : sh[k]? = some (.inl ci)) (hm : x_mci a = ci) (h12 : Nat.blt ci 12 = true) (hw : Nat.ble (x_words [.ref k]) ml' = true) (hl : lv_args 0 [.ref k] = lo2) (hn : pc + 3 = nx)
    (h : x_Ev X d a 0 lo2 [] (sh, gi, gl, gr) (fun v G1 => x_Ev X (d + 1) mi nx lo (v.toList ++ r) G1 P)) : x_Ev X (d + 1) mi pc lo (.ref k :: r) (sh, gi, gl, gr) P := ev_inV F hr hc ha rfl rfl rfl h8 Fa hk hm h12 hw hl hn h
theorem ev_inS1 {a0 : Value} {T' : List (Nat × x_Row)} {ml' : Nat} {rt' : Option FieldType} {lo2 : x_Lo} (F : x_F mi T ml rt) (hr : x_lk T pc = some (ins, len, a, 1, q, z)) (hc : x_cat ins = 4) (ha : Nat.blt a 1000 = true) (h8 : Nat.ble (x_words r) 8 = true) (Fa : x_F a T' ml' rt') (hs : x_stat a = true) (hw : Nat.ble (x_words [a0]) ml' = true) (hl : lv_args 0 [a0] = lo2) (hn : pc + 3 = nx)
    (h : x_Ev X d a 0 lo2 [] G (fun v G1 => x_Ev X (d + 1) mi nx lo (v.toList ++ r) G1 P)) : x_Ev X (d + 1) mi pc lo (a0 :: r) G P := ev_inS F hr hc ha rfl rfl rfl h8 Fa hs hw hl hn h
theorem ev_inV2 {k ci : Nat} {a1 : Value} {T' : List (Nat × x_Row)} {ml' : Nat} {rt' : Option FieldType} {lo2 : x_Lo} (F : x_F mi T ml rt) (hr : x_lk T pc = some (ins, len, a, 2, q, z)) (hc : x_cat ins = 4) (ha : Nat.blt a 1000 = true) (h8 : Nat.ble (x_words r) 8 = true) (Fa : x_F a T' ml' rt') (hk : sh[k]? = some (.inl ci)) (hm : x_mci a = ci) (h12 : Nat.blt ci 12 = true) (hw : Nat.ble (x_words [.ref k, a1]) ml' = true) (hl : lv_args 0 [.ref k, a1] = lo2) (hn : pc + 3 = nx)
    (h : x_Ev X d a 0 lo2 [] (sh, gi, gl, gr) (fun v G1 => x_Ev X (d + 1) mi nx lo (v.toList ++ r) G1 P)) : x_Ev X (d + 1) mi pc lo (a1 :: .ref k :: r) (sh, gi, gl, gr) P := ev_inV F hr hc ha rfl rfl rfl h8 Fa hk hm h12 hw hl hn h
theorem ev_inS2 {a0 a1 : Value} {T' : List (Nat × x_Row)} {ml' : Nat} {rt' : Option FieldType} {lo2 : x_Lo} (F : x_F mi T ml rt) (hr : x_lk T pc = some (ins, len, a, 2, q, z)) (hc : x_cat ins = 4) (ha : Nat.blt a 1000 = true) (h8 : Nat.ble (x_words r) 8 = true) (Fa : x_F a T' ml' rt') (hs : x_stat a = true) (hw : Nat.ble (x_words [a0, a1]) ml' = true) (hl : lv_args 0 [a0, a1] = lo2) (hn : pc + 3 = nx)
    (h : x_Ev X d a 0 lo2 [] G (fun v G1 => x_Ev X (d + 1) mi nx lo (v.toList ++ r) G1 P)) : x_Ev X (d + 1) mi pc lo (a1 :: a0 :: r) G P := ev_inS F hr hc ha rfl rfl rfl h8 Fa hs hw hl hn h
theorem ev_inV3 {k ci : Nat} {a1 a2 : Value} {T' : List (Nat × x_Row)} {ml' : Nat} {rt' : Option FieldType} {lo2 : x_Lo} (F : x_F mi T ml rt) (hr : x_lk T pc = some (ins, len, a, 3, q, z)) (hc : x_cat ins = 4) (ha : Nat.blt a 1000 = true) (h8 : Nat.ble (x_words r) 8 = true) (Fa : x_F a T' ml' rt') (hk : sh[k]? = some (.inl ci)) (hm : x_mci a = ci) (h12 : Nat.blt ci 12 = true) (hw : Nat.ble (x_words [.ref k, a1, a2]) ml' = true) (hl : lv_args 0 [.ref k, a1, a2] = lo2) (hn : pc + 3 = nx)
    (h : x_Ev X d a 0 lo2 [] (sh, gi, gl, gr) (fun v G1 => x_Ev X (d + 1) mi nx lo (v.toList ++ r) G1 P)) : x_Ev X (d + 1) mi pc lo (a2 :: a1 :: .ref k :: r) (sh, gi, gl, gr) P := ev_inV F hr hc ha rfl rfl rfl h8 Fa hk hm h12 hw hl hn h
theorem ev_inS3 {a0 a1 a2 : Value} {T' : List (Nat × x_Row)} {ml' : Nat} {rt' : Option FieldType} {lo2 : x_Lo} (F : x_F mi T ml rt) (hr : x_lk T pc = some (ins, len, a, 3, q, z)) (hc : x_cat ins = 4) (ha : Nat.blt a 1000 = true) (h8 : Nat.ble (x_words r) 8 = true) (Fa : x_F a T' ml' rt') (hs : x_stat a = true) (hw : Nat.ble (x_words [a0, a1, a2]) ml' = true) (hl : lv_args 0 [a0, a1, a2] = lo2) (hn : pc + 3 = nx)
    (h : x_Ev X d a 0 lo2 [] G (fun v G1 => x_Ev X (d + 1) mi nx lo (v.toList ++ r) G1 P)) : x_Ev X (d + 1) mi pc lo (a2 :: a1 :: a0 :: r) G P := ev_inS F hr hc ha rfl rfl rfl h8 Fa hs hw hl hn h
theorem ev_inV4 {k ci : Nat} {a1 a2 a3 : Value} {T' : List (Nat × x_Row)} {ml' : Nat} {rt' : Option FieldType} {lo2 : x_Lo} (F : x_F mi T ml rt) (hr : x_lk T pc = some (ins, len, a, 4, q, z)) (hc : x_cat ins = 4) (ha : Nat.blt a 1000 = true) (h8 : Nat.ble (x_words r) 8 = true) (Fa : x_F a T' ml' rt') (hk : sh[k]? = some (.inl ci)) (hm : x_mci a = ci) (h12 : Nat.blt ci 12 = true) (hw : Nat.ble (x_words [.ref k, a1, a2, a3]) ml' = true) (hl : lv_args 0 [.ref k, a1, a2, a3] = lo2) (hn : pc + 3 = nx)
    (h : x_Ev X d a 0 lo2 [] (sh, gi, gl, gr) (fun v G1 => x_Ev X (d + 1) mi nx lo (v.toList ++ r) G1 P)) : x_Ev X (d + 1) mi pc lo (a3 :: a2 :: a1 :: .ref k :: r) (sh, gi, gl, gr) P := ev_inV F hr hc ha rfl rfl rfl h8 Fa hk hm h12 hw hl hn h
theorem ev_inS4 {a0 a1 a2 a3 : Value} {T' : List (Nat × x_Row)} {ml' : Nat} {rt' : Option FieldType} {lo2 : x_Lo} (F : x_F mi T ml rt) (hr : x_lk T pc = some (ins, len, a, 4, q, z)) (hc : x_cat ins = 4) (ha : Nat.blt a 1000 = true) (h8 : Nat.ble (x_words r) 8 = true) (Fa : x_F a T' ml' rt') (hs : x_stat a = true) (hw : Nat.ble (x_words [a0, a1, a2, a3]) ml' = true) (hl : lv_args 0 [a0, a1, a2, a3] = lo2) (hn : pc + 3 = nx)
    (h : x_Ev X d a 0 lo2 [] G (fun v G1 => x_Ev X (d + 1) mi nx lo (v.toList ++ r) G1 P)) : x_Ev X (d + 1) mi pc lo (a3 :: a2 :: a1 :: a0 :: r) G P := ev_inS F hr hc ha rfl rfl rfl h8 Fa hs hw hl hn h
theorem ev_inV5 {k ci : Nat} {a1 a2 a3 a4 : Value} {T' : List (Nat × x_Row)} {ml' : Nat} {rt' : Option FieldType} {lo2 : x_Lo} (F : x_F mi T ml rt) (hr : x_lk T pc = some (ins, len, a, 5, q, z)) (hc : x_cat ins = 4) (ha : Nat.blt a 1000 = true) (h8 : Nat.ble (x_words r) 8 = true) (Fa : x_F a T' ml' rt') (hk : sh[k]? = some (.inl ci)) (hm : x_mci a = ci) (h12 : Nat.blt ci 12 = true) (hw : Nat.ble (x_words [.ref k, a1, a2, a3, a4]) ml' = true) (hl : lv_args 0 [.ref k, a1, a2, a3, a4] = lo2) (hn : pc + 3 = nx)
    (h : x_Ev X d a 0 lo2 [] (sh, gi, gl, gr) (fun v G1 => x_Ev X (d + 1) mi nx lo (v.toList ++ r) G1 P)) : x_Ev X (d + 1) mi pc lo (a4 :: a3 :: a2 :: a1 :: .ref k :: r) (sh, gi, gl, gr) P := ev_inV F hr hc ha rfl rfl rfl h8 Fa hk hm h12 hw hl hn h
theorem ev_inS5 {a0 a1 a2 a3 a4 : Value} {T' : List (Nat × x_Row)} {ml' : Nat} {rt' : Option FieldType} {lo2 : x_Lo} (F : x_F mi T ml rt) (hr : x_lk T pc = some (ins, len, a, 5, q, z)) (hc : x_cat ins = 4) (ha : Nat.blt a 1000 = true) (h8 : Nat.ble (x_words r) 8 = true) (Fa : x_F a T' ml' rt') (hs : x_stat a = true) (hw : Nat.ble (x_words [a0, a1, a2, a3, a4]) ml' = true) (hl : lv_args 0 [a0, a1, a2, a3, a4] = lo2) (hn : pc + 3 = nx)
    (h : x_Ev X d a 0 lo2 [] G (fun v G1 => x_Ev X (d + 1) mi nx lo (v.toList ++ r) G1 P)) : x_Ev X (d + 1) mi pc lo (a4 :: a3 :: a2 :: a1 :: a0 :: r) G P := ev_inS F hr hc ha rfl rfl rfl h8 Fa hs hw hl hn h
theorem ev_inV6 {k ci : Nat} {a1 a2 a3 a4 a5 : Value} {T' : List (Nat × x_Row)} {ml' : Nat} {rt' : Option FieldType} {lo2 : x_Lo} (F : x_F mi T ml rt) (hr : x_lk T pc = some (ins, len, a, 6, q, z)) (hc : x_cat ins = 4) (ha : Nat.blt a 1000 = true) (h8 : Nat.ble (x_words r) 8 = true) (Fa : x_F a T' ml' rt') (hk : sh[k]? = some (.inl ci)) (hm : x_mci a = ci) (h12 : Nat.blt ci 12 = true) (hw : Nat.ble (x_words [.ref k, a1, a2, a3, a4, a5]) ml' = true) (hl : lv_args 0 [.ref k, a1, a2, a3, a4, a5] = lo2) (hn : pc + 3 = nx)
    (h : x_Ev X d a 0 lo2 [] (sh, gi, gl, gr) (fun v G1 => x_Ev X (d + 1) mi nx lo (v.toList ++ r) G1 P)) : x_Ev X (d + 1) mi pc lo (a5 :: a4 :: a3 :: a2 :: a1 :: .ref k :: r) (sh, gi, gl, gr) P := ev_inV F hr hc ha rfl rfl rfl h8 Fa hk hm h12 hw hl hn h
theorem ev_inS6 {a0 a1 a2 a3 a4 a5 : Value} {T' : List (Nat × x_Row)} {ml' : Nat} {rt' : Option FieldType} {lo2 : x_Lo} (F : x_F mi T ml rt) (hr : x_lk T pc = some (ins, len, a, 6, q, z)) (hc : x_cat ins = 4) (ha : Nat.blt a 1000 = true) (h8 : Nat.ble (x_words r) 8 = true) (Fa : x_F a T' ml' rt') (hs : x_stat a = true) (hw : Nat.ble (x_words [a0, a1, a2, a3, a4, a5]) ml' = true) (hl : lv_args 0 [a0, a1, a2, a3, a4, a5] = lo2) (hn : pc + 3 = nx)
    (h : x_Ev X d a 0 lo2 [] G (fun v G1 => x_Ev X (d + 1) mi nx lo (v.toList ++ r) G1 P)) : x_Ev X (d + 1) mi pc lo (a5 :: a4 :: a3 :: a2 :: a1 :: a0 :: r) G P := ev_inS F hr hc ha rfl rfl rfl h8 Fa hs hw hl hn h
theorem ev_inV7 {k ci : Nat} {a1 a2 a3 a4 a5 a6 : Value} {T' : List (Nat × x_Row)} {ml' : Nat} {rt' : Option FieldType} {lo2 : x_Lo} (F : x_F mi T ml rt) (hr : x_lk T pc = some (ins, len, a, 7, q, z)) (hc : x_cat ins = 4) (ha : Nat.blt a 1000 = true) (h8 : Nat.ble (x_words r) 8 = true) (Fa : x_F a T' ml' rt') (hk : sh[k]? = some (.inl ci)) (hm : x_mci a = ci) (h12 : Nat.blt ci 12 = true) (hw : Nat.ble (x_words [.ref k, a1, a2, a3, a4, a5, a6]) ml' = true) (hl : lv_args 0 [.ref k, a1, a2, a3, a4, a5, a6] = lo2) (hn : pc + 3 = nx)
    (h : x_Ev X d a 0 lo2 [] (sh, gi, gl, gr) (fun v G1 => x_Ev X (d + 1) mi nx lo (v.toList ++ r) G1 P)) : x_Ev X (d + 1) mi pc lo (a6 :: a5 :: a4 :: a3 :: a2 :: a1 :: .ref k :: r) (sh, gi, gl, gr) P := ev_inV F hr hc ha rfl rfl rfl h8 Fa hk hm h12 hw hl hn h
theorem ev_inS7 {a0 a1 a2 a3 a4 a5 a6 : Value} {T' : List (Nat × x_Row)} {ml' : Nat} {rt' : Option FieldType} {lo2 : x_Lo} (F : x_F mi T ml rt) (hr : x_lk T pc = some (ins, len, a, 7, q, z)) (hc : x_cat ins = 4) (ha : Nat.blt a 1000 = true) (h8 : Nat.ble (x_words r) 8 = true) (Fa : x_F a T' ml' rt') (hs : x_stat a = true) (hw : Nat.ble (x_words [a0, a1, a2, a3, a4, a5, a6]) ml' = true) (hl : lv_args 0 [a0, a1, a2, a3, a4, a5, a6] = lo2) (hn : pc + 3 = nx)
    (h : x_Ev X d a 0 lo2 [] G (fun v G1 => x_Ev X (d + 1) mi nx lo (v.toList ++ r) G1 P)) : x_Ev X (d + 1) mi pc lo (a6 :: a5 :: a4 :: a3 :: a2 :: a1 :: a0 :: r) G P := ev_inS F hr hc ha rfl rfl rfl h8 Fa hs hw hl hn h
theorem ev_retK1 {d' mi' nx' : Nat} {w : Value} {P' : Option Value → x_G → Prop} (F : x_F mi T ml rt) (hr : x_lk T pc = some (ins, len, a, b, q, z)) (hc : x_cat ins = 5) (hs : x_ret rt ins st = some (some w)) (kk : x_Ev X d' mi' nx' lo' (w :: r) G P') : x_Ev X d mi pc lo st G (fun v G1 => x_Ev X d' mi' nx' lo' (v.toList ++ r) G1 P') := ev_ret F hr hc hs kk
theorem ev_retK0 {d' mi' nx' : Nat} {P' : Option Value → x_G → Prop} (F : x_F mi T ml rt) (hr : x_lk T pc = some (ins, len, a, b, q, z)) (hc : x_cat ins = 5) (hs : x_ret rt ins st = some none) (kk : x_Ev X d' mi' nx' lo' r G P') : x_Ev X d mi pc lo st G (fun v G1 => x_Ev X d' mi' nx' lo' (v.toList ++ r) G1 P') := ev_ret F hr hc hs kk
end XEV3
/-! ===== printed by gen61.py: the world behind both constructors ===== -/
noncomputable def w1_c0 : x_C := (.inl 10, (x_Tn (x_Tn (x_Tn (x_Tn (x_Tn (x_Tn (x_Tn (.leaf (some 0)) x_Te) x_Te) x_Te) (x_Tn (x_Tn (x_Tn (.leaf (some (-1))) x_Te) x_Te) x_Te)) (x_Tn x_Te (x_Tn (x_Tn (x_Tn (.leaf (some 0)) x_Te) x_Te) x_Te))) (x_Tn x_Te (x_Tn x_Te (x_Tn (x_Tn (x_Tn (.leaf (some 0)) x_Te) x_Te) x_Te)))) (x_Tn (x_Tn (x_Tn x_Te (x_Tn (x_Tn (x_Tn (.leaf (some (-1))) x_Te) x_Te) x_Te)) (x_Tn (x_Tn (x_Tn (x_Tn (.leaf (some 0)) x_Te) x_Te) x_Te) x_Te)) x_Te)), (x_Tn (x_Tn x_Te (x_Tn (x_Tn (x_Tn (x_Tn (x_Tn (.leaf (some 1)) x_Te) x_Te) x_Te) x_Te) x_Te)) (x_Tn (x_Tn (x_Tn (x_Tn (x_Tn (x_Tn (.leaf (some 0)) x_Te) x_Te) x_Te) x_Te) x_Te) x_Te)), (x_Tn (x_Tn (x_Tn (x_Tn (x_Tn x_Te (x_Tn (x_Tn (.leaf (some (.ref 28))) x_Te) x_Te)) x_Te) (x_Tn (x_Tn (x_Tn (x_Tn (.leaf (some (.ref 2))) x_Te) x_Te) x_Te) x_Te)) (x_Tn (x_Tn x_Te (x_Tn (x_Tn (x_Tn (.leaf (some (.ref 19))) x_Te) x_Te) x_Te)) (x_Tn (x_Tn (x_Tn (x_Tn (.leaf (some (.ref 3))) x_Te) x_Te) x_Te) x_Te))) (x_Tn (x_Tn (x_Tn (x_Tn x_Te (x_Tn (x_Tn (.leaf (some (.ref 45))) x_Te) x_Te)) x_Te) (x_Tn x_Te (x_Tn (x_Tn (x_Tn (.leaf (some (.ref 21))) x_Te) x_Te) x_Te))) (x_Tn (x_Tn (x_Tn (x_Tn (x_Tn (.leaf (some (.ref 1))) x_Te) x_Te) x_Te) (x_Tn (x_Tn (x_Tn (.leaf (some (.ref 20))) x_Te) x_Te) x_Te)) (x_Tn (x_Tn (x_Tn (x_Tn (.leaf (some .null)) x_Te) x_Te) x_Te) (x_Tn (x_Tn (x_Tn (.leaf (some (.ref 22))) x_Te) x_Te) x_Te))))))
noncomputable def w1_c1 : x_C := (.inr (4, 4), x_Te, x_Te, (x_Tn (x_Tn (x_Tn (.leaf (some (.ref 61))) x_Te) (x_Tn (.leaf (some (.ref 65))) x_Te)) (x_Tn (x_Tn (.leaf (some (.ref 63))) x_Te) (x_Tn (.leaf (some (.ref 67))) x_Te))))
noncomputable def w1_c2 : x_C := (.inr (2, 900), x_Te, x_Te, x_Te)
noncomputable def w1_c3 : x_C := (.inl 4, (x_Tn (x_Tn (x_Tn (x_Tn (x_Tn (x_Tn (x_Tn (.leaf (some 0)) x_Te) x_Te) x_Te) x_Te) (x_Tn (x_Tn (x_Tn (x_Tn (.leaf (some 0)) x_Te) x_Te) x_Te) x_Te)) (x_Tn x_Te (x_Tn (x_Tn (x_Tn (x_Tn (.leaf (some 0)) x_Te) x_Te) x_Te) x_Te))) (x_Tn (x_Tn x_Te (x_Tn (x_Tn (x_Tn (x_Tn (.leaf (some 0)) x_Te) x_Te) x_Te) x_Te)) (x_Tn (x_Tn (x_Tn (x_Tn (x_Tn (.leaf (some 5)) x_Te) x_Te) x_Te) x_Te) x_Te))), x_Te, (x_Tn (x_Tn (x_Tn (x_Tn x_Te (x_Tn (x_Tn (x_Tn (.leaf (some (.ref 12))) x_Te) x_Te) x_Te)) x_Te) (x_Tn (x_Tn (x_Tn (x_Tn (x_Tn (.leaf (some (.ref 5))) x_Te) x_Te) x_Te) x_Te) x_Te)) (x_Tn (x_Tn (x_Tn (x_Tn (x_Tn (x_Tn (.leaf (some (.ref 4))) x_Te) x_Te) x_Te) (x_Tn (x_Tn (x_Tn (.leaf (some (.ref 13))) x_Te) x_Te) x_Te)) x_Te) (x_Tn x_Te (x_Tn (x_Tn (x_Tn (x_Tn (.leaf (some (.ref 6))) x_Te) x_Te) x_Te) x_Te)))))
noncomputable def w1_c4 : x_C := (.inr (1, 6), x_Te, x_Te, x_Te)
noncomputable def w1_c5 : x_C := (.inr (1, 6), x_Te, x_Te, x_Te)
noncomputable def w1_c6 : x_C := (.inl 3, (x_Tn (x_Tn (x_Tn (x_Tn (x_Tn (x_Tn (x_Tn (.leaf (some 0)) x_Te) x_Te) x_Te) x_Te) x_Te) x_Te) x_Te), x_Te, (x_Tn (x_Tn (x_Tn x_Te (x_Tn (x_Tn (x_Tn (x_Tn (.leaf (some (.ref 10))) x_Te) x_Te) x_Te) x_Te)) (x_Tn (x_Tn (x_Tn (x_Tn (x_Tn (.leaf (some (.ref 8))) x_Te) x_Te) x_Te) x_Te) x_Te)) (x_Tn (x_Tn (x_Tn (x_Tn (x_Tn (x_Tn (.leaf (some (.ref 7))) x_Te) x_Te) x_Te) x_Te) (x_Tn (x_Tn (x_Tn (x_Tn (.leaf (some (.ref 11))) x_Te) x_Te) x_Te) x_Te)) (x_Tn (x_Tn (x_Tn (x_Tn (x_Tn (.leaf (some (.ref 9))) x_Te) x_Te) x_Te) x_Te) x_Te))))
noncomputable def w1_c7 : x_C := (.inr (0, 6), x_Te, x_Te, x_Te)
noncomputable def w1_c8 : x_C := (.inr (0, 6), x_Te, x_Te, x_Te)
noncomputable def w1_c9 : x_C := (.inr (0, 6), x_Te, x_Te, x_Te)
noncomputable def w1_c10 : x_C := (.inr (0, 6), x_Te, x_Te, x_Te)
noncomputable def w1_c11 : x_C := (.inr (3, 6), x_Te, x_Te, x_Te)
noncomputable def w1_c12 : x_C := (.inr (0, 6), x_Te, x_Te, x_Te)
noncomputable def w1_c13 : x_C := (.inl 3, (x_Tn (x_Tn (x_Tn (x_Tn (x_Tn (x_Tn (x_Tn (.leaf (some 0)) x_Te) x_Te) x_Te) x_Te) x_Te) x_Te) x_Te), x_Te, (x_Tn (x_Tn (x_Tn x_Te (x_Tn (x_Tn (x_Tn (x_Tn (.leaf (some (.ref 17))) x_Te) x_Te) x_Te) x_Te)) (x_Tn (x_Tn (x_Tn (x_Tn (x_Tn (.leaf (some (.ref 15))) x_Te) x_Te) x_Te) x_Te) x_Te)) (x_Tn (x_Tn (x_Tn (x_Tn (x_Tn (x_Tn (.leaf (some (.ref 14))) x_Te) x_Te) x_Te) x_Te) (x_Tn (x_Tn (x_Tn (x_Tn (.leaf (some (.ref 18))) x_Te) x_Te) x_Te) x_Te)) (x_Tn (x_Tn (x_Tn (x_Tn (x_Tn (.leaf (some (.ref 16))) x_Te) x_Te) x_Te) x_Te) x_Te))))
noncomputable def w1_c14 : x_C := (.inr (0, 6), x_Te, x_Te, x_Te)
noncomputable def w1_c15 : x_C := (.inr (0, 6), x_Te, x_Te, x_Te)
noncomputable def w1_c16 : x_C := (.inr (0, 6), x_Te, x_Te, x_Te)
noncomputable def w1_c17 : x_C := (.inr (0, 6), x_Te, x_Te, x_Te)
noncomputable def w1_c18 : x_C := (.inr (3, 6), x_Te, x_Te, x_Te)
noncomputable def w1_c19 : x_C := (.inr (5, 3), x_Te, x_Te, x_Te)
noncomputable def w1_c20 : x_C := (.inr (6, 3), x_Te, x_Te, x_Te)
noncomputable def w1_c21 : x_C := (.inr (0, 1422), x_Te, x_Te, x_Te)
noncomputable def w1_c22 : x_C := (.inl 0, (x_Tn (x_Tn x_Te (x_Tn x_Te (x_Tn (x_Tn (x_Tn (x_Tn (.leaf (some 0)) x_Te) x_Te) x_Te) x_Te))) (x_Tn x_Te (x_Tn (x_Tn (x_Tn (x_Tn (x_Tn (.leaf (some 30)) x_Te) x_Te) x_Te) x_Te) x_Te))), x_Te, (x_Tn (x_Tn (x_Tn (x_Tn (x_Tn (x_Tn (x_Tn (.leaf (some (.ref 23))) x_Te) x_Te) x_Te) x_Te) (x_Tn (x_Tn (x_Tn (x_Tn (.leaf (some (.ref 26))) x_Te) x_Te) x_Te) x_Te)) (x_Tn (x_Tn (x_Tn (x_Tn (x_Tn (.leaf (some (.ref 25))) x_Te) x_Te) x_Te) x_Te) x_Te)) (x_Tn (x_Tn (x_Tn (x_Tn (x_Tn (x_Tn (.leaf (some (.ref 24))) x_Te) x_Te) x_Te) x_Te) (x_Tn (x_Tn (x_Tn (x_Tn (.leaf (some (.ref 27))) x_Te) x_Te) x_Te) x_Te)) x_Te)))
noncomputable def w1_c23 : x_C := (.inr (1, 30), x_Te, (x_Tn (x_Tn (x_Tn (x_Tn (x_Tn (.leaf (some 12)) (.leaf (some 406124))) (x_Tn (.leaf (some 12908)) (.leaf (some 635500)))) (x_Tn (x_Tn (.leaf (some 620)) (.leaf (some 413292))) (x_Tn (.leaf (some 20076)) (.leaf (some 642668))))) (x_Tn (x_Tn (x_Tn (.leaf (some 396)) (.leaf (some 413068))) (x_Tn (.leaf (some 19852)) (.leaf (some 642444)))) (x_Tn (x_Tn (.leaf (some 12684)) (.leaf (some 635276))) (x_Tn (.leaf (some 405900)) x_Te)))) (x_Tn (x_Tn (x_Tn (x_Tn (.leaf (some 19)) (.leaf (some 406131))) (x_Tn (.leaf (some 12915)) (.leaf (some 635507)))) (x_Tn (x_Tn (.leaf (some 627)) (.leaf (some 413299))) (x_Tn (.leaf (some 20083)) (.leaf (some 642675))))) (x_Tn (x_Tn (x_Tn (.leaf (some 403)) (.leaf (some 413075))) (x_Tn (.leaf (some 19859)) (.leaf (some 642451)))) (x_Tn (x_Tn (.leaf (some 12691)) (.leaf (some 635283))) (x_Tn (.leaf (some 405907)) x_Te))))), x_Te)
noncomputable def w1_c24 : x_C := (.inr (0, 30), (x_Tn (x_Tn (x_Tn (x_Tn (x_Tn (.leaf (some 1)) (.leaf (some 4))) (x_Tn (.leaf (some 3)) (.leaf (some 4)))) (x_Tn (x_Tn (.leaf (some 2)) (.leaf (some 4))) (x_Tn (.leaf (some 3)) (.leaf (some 4))))) (x_Tn (x_Tn (x_Tn (.leaf (some 2)) (.leaf (some 4))) (x_Tn (.leaf (some 3)) (.leaf (some 4)))) (x_Tn (x_Tn (.leaf (some 3)) (.leaf (some 4))) (x_Tn (.leaf (some 4)) x_Te)))) (x_Tn (x_Tn (x_Tn (x_Tn (.leaf (some 1)) (.leaf (some 4))) (x_Tn (.leaf (some 3)) (.leaf (some 4)))) (x_Tn (x_Tn (.leaf (some 2)) (.leaf (some 4))) (x_Tn (.leaf (some 3)) (.leaf (some 4))))) (x_Tn (x_Tn (x_Tn (.leaf (some 2)) (.leaf (some 4))) (x_Tn (.leaf (some 3)) (.leaf (some 4)))) (x_Tn (x_Tn (.leaf (some 3)) (.leaf (some 4))) (x_Tn (.leaf (some 4)) x_Te))))), x_Te, x_Te)
noncomputable def w1_c25 : x_C := (.inr (1, 30), x_Te, x_Te, x_Te)
noncomputable def w1_c26 : x_C := (.inr (0, 4), x_Te, x_Te, x_Te)
noncomputable def w1_c27 : x_C := (.inr (0, 4), x_Te, x_Te, x_Te)
noncomputable def w1_c28 : x_C := (.inl 1, (x_Tn (x_Tn (x_Tn (x_Tn x_Te (x_Tn (x_Tn (x_Tn (.leaf (some 0)) x_Te) x_Te) x_Te)) (x_Tn (x_Tn (x_Tn (x_Tn (.leaf (some 1000000000)) x_Te) x_Te) x_Te) x_Te)) (x_Tn x_Te (x_Tn (x_Tn (x_Tn (x_Tn (.leaf (some 0)) x_Te) x_Te) x_Te) x_Te))) (x_Tn (x_Tn (x_Tn (x_Tn (x_Tn (x_Tn (.leaf (some 0)) x_Te) x_Te) x_Te) x_Te) (x_Tn (x_Tn (x_Tn (x_Tn (.leaf (some 0)) x_Te) x_Te) x_Te) x_Te)) x_Te)), x_Te, (x_Tn (x_Tn (x_Tn (x_Tn (x_Tn (x_Tn (x_Tn (.leaf (some .null)) x_Te) x_Te) x_Te) x_Te) x_Te) (x_Tn (x_Tn (x_Tn (x_Tn (x_Tn (.leaf (some (.ref 29))) x_Te) x_Te) x_Te) (x_Tn (x_Tn (x_Tn (.leaf (some (.ref 43))) x_Te) x_Te) x_Te)) x_Te)) (x_Tn (x_Tn (x_Tn x_Te (x_Tn (x_Tn (x_Tn (.leaf (some (.ref 42))) x_Te) x_Te) x_Te)) x_Te) (x_Tn (x_Tn (x_Tn (x_Tn (x_Tn (.leaf (some (.ref 35))) x_Te) x_Te) x_Te) (x_Tn (x_Tn (x_Tn (.leaf (some (.ref 44))) x_Te) x_Te) x_Te)) (x_Tn (x_Tn (x_Tn (x_Tn (.leaf (some (.ref 41))) x_Te) x_Te) x_Te) x_Te)))))
noncomputable def w1_c29 : x_C := (.inl 3, (x_Tn (x_Tn (x_Tn (x_Tn (x_Tn (x_Tn (x_Tn (.leaf (some 0)) x_Te) x_Te) x_Te) x_Te) x_Te) x_Te) x_Te), x_Te, (x_Tn (x_Tn (x_Tn x_Te (x_Tn (x_Tn (x_Tn (x_Tn (.leaf (some (.ref 33))) x_Te) x_Te) x_Te) x_Te)) (x_Tn (x_Tn (x_Tn (x_Tn (x_Tn (.leaf (some (.ref 31))) x_Te) x_Te) x_Te) x_Te) x_Te)) (x_Tn (x_Tn (x_Tn (x_Tn (x_Tn (x_Tn (.leaf (some (.ref 30))) x_Te) x_Te) x_Te) x_Te) (x_Tn (x_Tn (x_Tn (x_Tn (.leaf (some (.ref 34))) x_Te) x_Te) x_Te) x_Te)) (x_Tn (x_Tn (x_Tn (x_Tn (x_Tn (.leaf (some (.ref 32))) x_Te) x_Te) x_Te) x_Te) x_Te))))
noncomputable def w1_c30 : x_C := (.inr (0, 6), x_Te, x_Te, x_Te)
noncomputable def w1_c31 : x_C := (.inr (0, 6), x_Te, x_Te, x_Te)
noncomputable def w1_c32 : x_C := (.inr (0, 6), x_Te, x_Te, x_Te)
noncomputable def w1_c33 : x_C := (.inr (0, 6), x_Te, x_Te, x_Te)
noncomputable def w1_c34 : x_C := (.inr (3, 6), x_Te, x_Te, x_Te)
noncomputable def w1_c35 : x_C := (.inl 3, (x_Tn (x_Tn (x_Tn (x_Tn (x_Tn (x_Tn (x_Tn (.leaf (some 0)) x_Te) x_Te) x_Te) x_Te) x_Te) x_Te) x_Te), x_Te, (x_Tn (x_Tn (x_Tn x_Te (x_Tn (x_Tn (x_Tn (x_Tn (.leaf (some (.ref 39))) x_Te) x_Te) x_Te) x_Te)) (x_Tn (x_Tn (x_Tn (x_Tn (x_Tn (.leaf (some (.ref 37))) x_Te) x_Te) x_Te) x_Te) x_Te)) (x_Tn (x_Tn (x_Tn (x_Tn (x_Tn (x_Tn (.leaf (some (.ref 36))) x_Te) x_Te) x_Te) x_Te) (x_Tn (x_Tn (x_Tn (x_Tn (.leaf (some (.ref 40))) x_Te) x_Te) x_Te) x_Te)) (x_Tn (x_Tn (x_Tn (x_Tn (x_Tn (.leaf (some (.ref 38))) x_Te) x_Te) x_Te) x_Te) x_Te))))
noncomputable def w1_c36 : x_C := (.inr (0, 6), x_Te, x_Te, x_Te)
noncomputable def w1_c37 : x_C := (.inr (0, 6), x_Te, x_Te, x_Te)
noncomputable def w1_c38 : x_C := (.inr (0, 6), x_Te, x_Te, x_Te)
noncomputable def w1_c39 : x_C := (.inr (0, 6), x_Te, x_Te, x_Te)
noncomputable def w1_c40 : x_C := (.inr (3, 6), x_Te, x_Te, x_Te)
noncomputable def w1_c41 : x_C := (.inr (0, 72), x_Te, x_Te, x_Te)
noncomputable def w1_c42 : x_C := (.inr (0, 72), x_Te, x_Te, x_Te)
noncomputable def w1_c43 : x_C := (.inr (0, 6), x_Te, x_Te, x_Te)
noncomputable def w1_c44 : x_C := (.inr (0, 6), x_Te, x_Te, x_Te)
noncomputable def w1_c45 : x_C := (.inl 2, (x_Tn (x_Tn (x_Tn (x_Tn x_Te (x_Tn (x_Tn (x_Tn (.leaf (some 0)) x_Te) x_Te) x_Te)) (x_Tn (x_Tn (x_Tn (x_Tn (.leaf (some 0)) x_Te) x_Te) x_Te) (x_Tn (x_Tn (x_Tn (.leaf (some 0)) x_Te) x_Te) x_Te))) (x_Tn (x_Tn x_Te (x_Tn (x_Tn (x_Tn (.leaf (some 0)) x_Te) x_Te) x_Te)) (x_Tn (x_Tn (x_Tn (x_Tn (.leaf (some 0)) x_Te) x_Te) x_Te) (x_Tn (x_Tn (x_Tn (.leaf (some 0)) x_Te) x_Te) x_Te)))) (x_Tn (x_Tn (x_Tn x_Te (x_Tn (x_Tn (x_Tn (.leaf (some 0)) x_Te) x_Te) x_Te)) (x_Tn (x_Tn (x_Tn (x_Tn (.leaf (some 0)) x_Te) x_Te) x_Te) (x_Tn (x_Tn (x_Tn (.leaf (some 0)) x_Te) x_Te) x_Te))) (x_Tn (x_Tn x_Te (x_Tn (x_Tn (x_Tn (.leaf (some 0)) x_Te) x_Te) x_Te)) (x_Tn (x_Tn (x_Tn (x_Tn (.leaf (some 0)) x_Te) x_Te) x_Te) (x_Tn (x_Tn (x_Tn (.leaf (some 0)) x_Te) x_Te) x_Te))))), x_Te, (x_Tn (x_Tn (x_Tn (x_Tn (x_Tn (x_Tn (x_Tn (.leaf (some (.ref 46))) x_Te) x_Te) (x_Tn (x_Tn (.leaf (some (.ref 60))) x_Te) x_Te)) x_Te) x_Te) (x_Tn (x_Tn (x_Tn (x_Tn (x_Tn (.leaf (some (.ref 58))) x_Te) x_Te) x_Te) x_Te) x_Te)) (x_Tn (x_Tn (x_Tn (x_Tn (x_Tn (x_Tn (.leaf (some (.ref 52))) x_Te) x_Te) x_Te) x_Te) x_Te) (x_Tn (x_Tn (x_Tn (x_Tn (x_Tn (.leaf (some (.ref 59))) x_Te) x_Te) x_Te) x_Te) x_Te))))
noncomputable def w1_c46 : x_C := (.inl 3, (x_Tn (x_Tn (x_Tn (x_Tn (x_Tn (x_Tn (x_Tn (.leaf (some 0)) x_Te) x_Te) x_Te) x_Te) x_Te) x_Te) x_Te), x_Te, (x_Tn (x_Tn (x_Tn x_Te (x_Tn (x_Tn (x_Tn (x_Tn (.leaf (some (.ref 50))) x_Te) x_Te) x_Te) x_Te)) (x_Tn (x_Tn (x_Tn (x_Tn (x_Tn (.leaf (some (.ref 48))) x_Te) x_Te) x_Te) x_Te) x_Te)) (x_Tn (x_Tn (x_Tn (x_Tn (x_Tn (x_Tn (.leaf (some (.ref 47))) x_Te) x_Te) x_Te) x_Te) (x_Tn (x_Tn (x_Tn (x_Tn (.leaf (some (.ref 51))) x_Te) x_Te) x_Te) x_Te)) (x_Tn (x_Tn (x_Tn (x_Tn (x_Tn (.leaf (some (.ref 49))) x_Te) x_Te) x_Te) x_Te) x_Te))))
noncomputable def w1_c47 : x_C := (.inr (0, 6), x_Te, x_Te, x_Te)
noncomputable def w1_c48 : x_C := (.inr (0, 6), x_Te, x_Te, x_Te)
noncomputable def w1_c49 : x_C := (.inr (0, 6), x_Te, x_Te, x_Te)
noncomputable def w1_c50 : x_C := (.inr (0, 6), x_Te, x_Te, x_Te)
noncomputable def w1_c51 : x_C := (.inr (3, 6), x_Te, x_Te, x_Te)
noncomputable def w1_c52 : x_C := (.inl 3, (x_Tn (x_Tn (x_Tn (x_Tn (x_Tn (x_Tn (x_Tn (.leaf (some 0)) x_Te) x_Te) x_Te) x_Te) x_Te) x_Te) x_Te), x_Te, (x_Tn (x_Tn (x_Tn x_Te (x_Tn (x_Tn (x_Tn (x_Tn (.leaf (some (.ref 56))) x_Te) x_Te) x_Te) x_Te)) (x_Tn (x_Tn (x_Tn (x_Tn (x_Tn (.leaf (some (.ref 54))) x_Te) x_Te) x_Te) x_Te) x_Te)) (x_Tn (x_Tn (x_Tn (x_Tn (x_Tn (x_Tn (.leaf (some (.ref 53))) x_Te) x_Te) x_Te) x_Te) (x_Tn (x_Tn (x_Tn (x_Tn (.leaf (some (.ref 57))) x_Te) x_Te) x_Te) x_Te)) (x_Tn (x_Tn (x_Tn (x_Tn (x_Tn (.leaf (some (.ref 55))) x_Te) x_Te) x_Te) x_Te) x_Te))))
noncomputable def w1_c53 : x_C := (.inr (0, 6), x_Te, x_Te, x_Te)
noncomputable def w1_c54 : x_C := (.inr (0, 6), x_Te, x_Te, x_Te)
noncomputable def w1_c55 : x_C := (.inr (0, 6), x_Te, x_Te, x_Te)
noncomputable def w1_c56 : x_C := (.inr (0, 6), x_Te, x_Te, x_Te)
noncomputable def w1_c57 : x_C := (.inr (3, 6), x_Te, x_Te, x_Te)
noncomputable def w1_c58 : x_C := (.inr (0, 6), x_Te, x_Te, x_Te)
noncomputable def w1_c59 : x_C := (.inr (0, 6), x_Te, x_Te, x_Te)
noncomputable def w1_c60 : x_C := (.inr (0, 5), x_Te, x_Te, x_Te)
noncomputable def w1_c61 : x_C := (.inl 9, (x_Tn (x_Tn x_Te (x_Tn (x_Tn (x_Tn (x_Tn (x_Tn (.leaf (some (-1))) x_Te) x_Te) x_Te) x_Te) x_Te)) (x_Tn (x_Tn (x_Tn (x_Tn (x_Tn (x_Tn (.leaf (some 0)) x_Te) x_Te) x_Te) x_Te) x_Te) x_Te)), x_Te, (x_Tn (x_Tn (x_Tn (x_Tn (x_Tn (x_Tn (x_Tn (.leaf (some (.ref 62))) x_Te) x_Te) x_Te) x_Te) x_Te) x_Te) x_Te))
noncomputable def w1_c62 : x_C := (.inr (1, 60), x_Te, x_Te, x_Te)
noncomputable def w1_c63 : x_C := (.inl 9, (x_Tn (x_Tn x_Te (x_Tn (x_Tn (x_Tn (x_Tn (x_Tn (.leaf (some (-1))) x_Te) x_Te) x_Te) x_Te) x_Te)) (x_Tn (x_Tn (x_Tn (x_Tn (x_Tn (x_Tn (.leaf (some 0)) x_Te) x_Te) x_Te) x_Te) x_Te) x_Te)), x_Te, (x_Tn (x_Tn (x_Tn (x_Tn (x_Tn (x_Tn (x_Tn (.leaf (some (.ref 64))) x_Te) x_Te) x_Te) x_Te) x_Te) x_Te) x_Te))
noncomputable def w1_c64 : x_C := (.inr (1, 60), x_Te, x_Te, x_Te)
noncomputable def w1_c65 : x_C := (.inl 9, (x_Tn (x_Tn x_Te (x_Tn (x_Tn (x_Tn (x_Tn (x_Tn (.leaf (some (-1))) x_Te) x_Te) x_Te) x_Te) x_Te)) (x_Tn (x_Tn (x_Tn (x_Tn (x_Tn (x_Tn (.leaf (some 0)) x_Te) x_Te) x_Te) x_Te) x_Te) x_Te)), x_Te, (x_Tn (x_Tn (x_Tn (x_Tn (x_Tn (x_Tn (x_Tn (.leaf (some (.ref 66))) x_Te) x_Te) x_Te) x_Te) x_Te) x_Te) x_Te))
noncomputable def w1_c66 : x_C := (.inr (1, 60), x_Te, x_Te, x_Te)
noncomputable def w1_c67 : x_C := (.inl 9, (x_Tn (x_Tn x_Te (x_Tn (x_Tn (x_Tn (x_Tn (x_Tn (.leaf (some (-1))) x_Te) x_Te) x_Te) x_Te) x_Te)) (x_Tn (x_Tn (x_Tn (x_Tn (x_Tn (x_Tn (.leaf (some 0)) x_Te) x_Te) x_Te) x_Te) x_Te) x_Te)), x_Te, (x_Tn (x_Tn (x_Tn (x_Tn (x_Tn (x_Tn (x_Tn (.leaf (some (.ref 68))) x_Te) x_Te) x_Te) x_Te) x_Te) x_Te) x_Te))
noncomputable def w1_c68 : x_C := (.inr (1, 60), x_Te, x_Te, x_Te)
noncomputable def w1_c69 : x_C := (.inl 11, (x_Tn (x_Tn (x_Tn (x_Tn (x_Tn x_Te (x_Tn (x_Tn (.leaf (some (-1))) x_Te) x_Te)) x_Te) x_Te) (x_Tn x_Te (x_Tn x_Te (x_Tn (x_Tn x_Te (x_Tn (.leaf (some (-1))) x_Te)) x_Te)))) (x_Tn (x_Tn (x_Tn (x_Tn x_Te (x_Tn (x_Tn (.leaf (some (-1))) x_Te) x_Te)) x_Te) x_Te) x_Te)), (x_Tn (x_Tn (x_Tn x_Te (x_Tn (x_Tn (x_Tn (x_Tn (.leaf (some 1)) x_Te) x_Te) x_Te) x_Te)) x_Te) x_Te), (x_Tn (x_Tn (x_Tn (x_Tn (x_Tn (x_Tn (x_Tn (.leaf (some (.ref 70))) x_Te) (x_Tn (.leaf (some (.ref 82))) x_Te)) x_Te) (x_Tn (x_Tn (x_Tn (.leaf (some (.ref 75))) (.leaf (some (.ref 100)))) x_Te) x_Te)) (x_Tn (x_Tn (x_Tn x_Te (x_Tn (.leaf (some (.ref 86))) x_Te)) (x_Tn x_Te (x_Tn (.leaf (some (.ref 96))) x_Te))) (x_Tn x_Te (x_Tn (x_Tn (.leaf (some (.ref 80))) x_Te) x_Te)))) (x_Tn (x_Tn (x_Tn (x_Tn x_Te (x_Tn (.leaf (some (.ref 84))) x_Te)) (x_Tn x_Te (x_Tn (.leaf (some (.ref 94))) x_Te))) (x_Tn (x_Tn x_Te (x_Tn (.leaf (some (.ref 90))) x_Te)) (x_Tn (x_Tn (.leaf (some (.ref 78))) x_Te) x_Te))) (x_Tn (x_Tn (x_Tn (x_Tn (.leaf (some (.ref 73))) x_Te) (x_Tn (.leaf (some (.ref 88))) x_Te)) (x_Tn x_Te (x_Tn (.leaf (some (.ref 98))) x_Te))) x_Te))) (x_Tn (x_Tn (x_Tn (x_Tn (x_Tn (x_Tn (.leaf (some (.ref 71))) x_Te) (x_Tn (.leaf (some (.ref 83))) x_Te)) (x_Tn x_Te (x_Tn (.leaf (some (.ref 93))) x_Te))) (x_Tn (x_Tn (x_Tn (.leaf (some (.ref 76))) (.leaf (some (.ref 101)))) (x_Tn (.leaf (some (.ref 89))) x_Te)) x_Te)) (x_Tn (x_Tn (x_Tn (x_Tn (.leaf (some (.ref 72))) x_Te) (x_Tn (.leaf (some (.ref 87))) x_Te)) (x_Tn (x_Tn (.leaf (some (.ref 77))) x_Te) (x_Tn (.leaf (some (.ref 97))) x_Te))) x_Te)) (x_Tn (x_Tn (x_Tn (x_Tn x_Te (x_Tn (.leaf (some (.ref 85))) x_Te)) (x_Tn x_Te (x_Tn (.leaf (some (.ref 95))) x_Te))) (x_Tn (x_Tn x_Te (x_Tn (.leaf (some (.ref 91))) x_Te)) (x_Tn (x_Tn (.leaf (some (.ref 79))) x_Te) x_Te))) (x_Tn (x_Tn (x_Tn (x_Tn (.leaf (some (.ref 74))) (.leaf (some (.ref 99)))) x_Te) x_Te) (x_Tn (x_Tn x_Te (x_Tn (.leaf (some (.ref 92))) x_Te)) (x_Tn (x_Tn (.leaf (some (.ref 81))) x_Te) x_Te)))))))
noncomputable def w1_c70 : x_C := (.inr (0, 1760), (x_Tn (x_Tn (x_Tn x_Te (x_Tn (x_Tn (x_Tn (x_Tn (x_Tn (x_Tn (x_Tn (x_Tn (.leaf (some 5)) x_Te) x_Te) x_Te) x_Te) x_Te) x_Te) x_Te) x_Te)) x_Te) x_Te), x_Te, x_Te)
noncomputable def w1_c71 : x_C := (.inr (1, 100), x_Te, x_Te, x_Te)
noncomputable def w1_c72 : x_C := (.inr (0, 4), x_Te, x_Te, x_Te)
noncomputable def w1_c73 : x_C := (.inr (0, 4), (x_Tn (x_Tn (x_Tn (.leaf (some (-1))) x_Te) (x_Tn (.leaf (some (-1))) x_Te)) (x_Tn (x_Tn (.leaf (some (-1))) x_Te) (x_Tn (.leaf (some (-1))) x_Te))), x_Te, x_Te)
noncomputable def w1_c74 : x_C := (.inr (1, 240), x_Te, x_Te, x_Te)
noncomputable def w1_c75 : x_C := (.inr (2, 900), x_Te, x_Te, x_Te)
noncomputable def w1_c76 : x_C := (.inr (2, 900), x_Te, x_Te, x_Te)
noncomputable def w1_c77 : x_C := (.inr (0, 60), x_Te, x_Te, x_Te)
noncomputable def w1_c78 : x_C := (.inr (0, 500), x_Te, x_Te, x_Te)
noncomputable def w1_c79 : x_C := (.inr (0, 500), x_Te, x_Te, x_Te)
noncomputable def w1_c80 : x_C := (.inr (0, 500), x_Te, x_Te, x_Te)
noncomputable def w1_c81 : x_C := (.inr (0, 500), x_Te, x_Te, x_Te)
noncomputable def w1_c82 : x_C := (.inr (0, 500), x_Te, x_Te, x_Te)
noncomputable def w1_c83 : x_C := (.inr (0, 500), x_Te, x_Te, x_Te)
noncomputable def w1_c84 : x_C := (.inr (1, 30), x_Te, x_Te, x_Te)
noncomputable def w1_c85 : x_C := (.inr (1, 30), x_Te, x_Te, x_Te)
noncomputable def w1_c86 : x_C := (.inr (1, 4), x_Te, x_Te, x_Te)
noncomputable def w1_c87 : x_C := (.inr (0, 30), x_Te, x_Te, x_Te)
noncomputable def w1_c88 : x_C := (.inr (0, 5), x_Te, x_Te, x_Te)
noncomputable def w1_c89 : x_C := (.inr (0, 12), x_Te, x_Te, x_Te)
noncomputable def w1_c90 : x_C := (.inr (0, 6), x_Te, x_Te, x_Te)
noncomputable def w1_c91 : x_C := (.inr (0, 6), x_Te, x_Te, x_Te)
noncomputable def w1_c92 : x_C := (.inr (0, 23716), x_Te, x_Te, x_Te)
noncomputable def w1_c93 : x_C := (.inr (0, 100), x_Te, x_Te, x_Te)
noncomputable def w1_c94 : x_C := (.inr (0, 100), x_Te, x_Te, x_Te)
noncomputable def w1_c95 : x_C := (.inr (0, 100), x_Te, x_Te, x_Te)
noncomputable def w1_c96 : x_C := (.inr (0, 100), x_Te, x_Te, x_Te)
noncomputable def w1_c97 : x_C := (.inr (0, 100), x_Te, x_Te, x_Te)
noncomputable def w1_c98 : x_C := (.inr (0, 100), x_Te, x_Te, x_Te)
noncomputable def w1_c99 : x_C := (.inr (3, 6), x_Te, x_Te, x_Te)
noncomputable def w1_c100 : x_C := (.inr (3, 60), x_Te, x_Te, x_Te)
noncomputable def w1_c101 : x_C := (.inr (0, 5), x_Te, x_Te, x_Te)
noncomputable def W1 : x_W := (102, (x_Tn (x_Tn (x_Tn (x_Tn (x_Tn (x_Tn (x_Tn (x_Tn (.leaf (some w1_c0)) x_Te) (x_Tn (.leaf (some w1_c64)) x_Te)) (x_Tn (x_Tn (.leaf (some w1_c32)) x_Te) (x_Tn (.leaf (some w1_c96)) x_Te))) (x_Tn (x_Tn (x_Tn (.leaf (some w1_c16)) x_Te) (x_Tn (.leaf (some w1_c80)) x_Te)) (x_Tn (x_Tn (.leaf (some w1_c48)) x_Te) x_Te))) (x_Tn (x_Tn (x_Tn (x_Tn (.leaf (some w1_c8)) x_Te) (x_Tn (.leaf (some w1_c72)) x_Te)) (x_Tn (x_Tn (.leaf (some w1_c40)) x_Te) x_Te)) (x_Tn (x_Tn (x_Tn (.leaf (some w1_c24)) x_Te) (x_Tn (.leaf (some w1_c88)) x_Te)) (x_Tn (x_Tn (.leaf (some w1_c56)) x_Te) x_Te)))) (x_Tn (x_Tn (x_Tn (x_Tn (x_Tn (.leaf (some w1_c4)) x_Te) (x_Tn (.leaf (some w1_c68)) x_Te)) (x_Tn (x_Tn (.leaf (some w1_c36)) x_Te) (x_Tn (.leaf (some w1_c100)) x_Te))) (x_Tn (x_Tn (x_Tn (.leaf (some w1_c20)) x_Te) (x_Tn (.leaf (some w1_c84)) x_Te)) (x_Tn (x_Tn (.leaf (some w1_c52)) x_Te) x_Te))) (x_Tn (x_Tn (x_Tn (x_Tn (.leaf (some w1_c12)) x_Te) (x_Tn (.leaf (some w1_c76)) x_Te)) (x_Tn (x_Tn (.leaf (some w1_c44)) x_Te) x_Te)) (x_Tn (x_Tn (x_Tn (.leaf (some w1_c28)) x_Te) (x_Tn (.leaf (some w1_c92)) x_Te)) (x_Tn (x_Tn (.leaf (some w1_c60)) x_Te) x_Te))))) (x_Tn (x_Tn (x_Tn (x_Tn (x_Tn (x_Tn (.leaf (some w1_c2)) x_Te) (x_Tn (.leaf (some w1_c66)) x_Te)) (x_Tn (x_Tn (.leaf (some w1_c34)) x_Te) (x_Tn (.leaf (some w1_c98)) x_Te))) (x_Tn (x_Tn (x_Tn (.leaf (some w1_c18)) x_Te) (x_Tn (.leaf (some w1_c82)) x_Te)) (x_Tn (x_Tn (.leaf (some w1_c50)) x_Te) x_Te))) (x_Tn (x_Tn (x_Tn (x_Tn (.leaf (some w1_c10)) x_Te) (x_Tn (.leaf (some w1_c74)) x_Te)) (x_Tn (x_Tn (.leaf (some w1_c42)) x_Te) x_Te)) (x_Tn (x_Tn (x_Tn (.leaf (some w1_c26)) x_Te) (x_Tn (.leaf (some w1_c90)) x_Te)) (x_Tn (x_Tn (.leaf (some w1_c58)) x_Te) x_Te)))) (x_Tn (x_Tn (x_Tn (x_Tn (x_Tn (.leaf (some w1_c6)) x_Te) (x_Tn (.leaf (some w1_c70)) x_Te)) (x_Tn (x_Tn (.leaf (some w1_c38)) x_Te) x_Te)) (x_Tn (x_Tn (x_Tn (.leaf (some w1_c22)) x_Te) (x_Tn (.leaf (some w1_c86)) x_Te)) (x_Tn (x_Tn (.leaf (some w1_c54)) x_Te) x_Te))) (x_Tn (x_Tn (x_Tn (x_Tn (.leaf (some w1_c14)) x_Te) (x_Tn (.leaf (some w1_c78)) x_Te)) (x_Tn (x_Tn (.leaf (some w1_c46)) x_Te) x_Te)) (x_Tn (x_Tn (x_Tn (.leaf (some w1_c30)) x_Te) (x_Tn (.leaf (some w1_c94)) x_Te)) (x_Tn (x_Tn (.leaf (some w1_c62)) x_Te) x_Te)))))) (x_Tn (x_Tn (x_Tn (x_Tn (x_Tn (x_Tn (x_Tn (.leaf (some w1_c1)) x_Te) (x_Tn (.leaf (some w1_c65)) x_Te)) (x_Tn (x_Tn (.leaf (some w1_c33)) x_Te) (x_Tn (.leaf (some w1_c97)) x_Te))) (x_Tn (x_Tn (x_Tn (.leaf (some w1_c17)) x_Te) (x_Tn (.leaf (some w1_c81)) x_Te)) (x_Tn (x_Tn (.leaf (some w1_c49)) x_Te) x_Te))) (x_Tn (x_Tn (x_Tn (x_Tn (.leaf (some w1_c9)) x_Te) (x_Tn (.leaf (some w1_c73)) x_Te)) (x_Tn (x_Tn (.leaf (some w1_c41)) x_Te) x_Te)) (x_Tn (x_Tn (x_Tn (.leaf (some w1_c25)) x_Te) (x_Tn (.leaf (some w1_c89)) x_Te)) (x_Tn (x_Tn (.leaf (some w1_c57)) x_Te) x_Te)))) (x_Tn (x_Tn (x_Tn (x_Tn (x_Tn (.leaf (some w1_c5)) x_Te) (x_Tn (.leaf (some w1_c69)) x_Te)) (x_Tn (x_Tn (.leaf (some w1_c37)) x_Te) (x_Tn (.leaf (some w1_c101)) x_Te))) (x_Tn (x_Tn (x_Tn (.leaf (some w1_c21)) x_Te) (x_Tn (.leaf (some w1_c85)) x_Te)) (x_Tn (x_Tn (.leaf (some w1_c53)) x_Te) x_Te))) (x_Tn (x_Tn (x_Tn (x_Tn (.leaf (some w1_c13)) x_Te) (x_Tn (.leaf (some w1_c77)) x_Te)) (x_Tn (x_Tn (.leaf (some w1_c45)) x_Te) x_Te)) (x_Tn (x_Tn (x_Tn (.leaf (some w1_c29)) x_Te) (x_Tn (.leaf (some w1_c93)) x_Te)) (x_Tn (x_Tn (.leaf (some w1_c61)) x_Te) x_Te))))) (x_Tn (x_Tn (x_Tn (x_Tn (x_Tn (x_Tn (.leaf (some w1_c3)) x_Te) (x_Tn (.leaf (some w1_c67)) x_Te)) (x_Tn (x_Tn (.leaf (some w1_c35)) x_Te) (x_Tn (.leaf (some w1_c99)) x_Te))) (x_Tn (x_Tn (x_Tn (.leaf (some w1_c19)) x_Te) (x_Tn (.leaf (some w1_c83)) x_Te)) (x_Tn (x_Tn (.leaf (some w1_c51)) x_Te) x_Te))) (x_Tn (x_Tn (x_Tn (x_Tn (.leaf (some w1_c11)) x_Te) (x_Tn (.leaf (some w1_c75)) x_Te)) (x_Tn (x_Tn (.leaf (some w1_c43)) x_Te) x_Te)) (x_Tn (x_Tn (x_Tn (.leaf (some w1_c27)) x_Te) (x_Tn (.leaf (some w1_c91)) x_Te)) (x_Tn (x_Tn (.leaf (some w1_c59)) x_Te) x_Te)))) (x_Tn (x_Tn (x_Tn (x_Tn (x_Tn (.leaf (some w1_c7)) x_Te) (x_Tn (.leaf (some w1_c71)) x_Te)) (x_Tn (x_Tn (.leaf (some w1_c39)) x_Te) x_Te)) (x_Tn (x_Tn (x_Tn (.leaf (some w1_c23)) x_Te) (x_Tn (.leaf (some w1_c87)) x_Te)) (x_Tn (x_Tn (.leaf (some w1_c55)) x_Te) x_Te))) (x_Tn (x_Tn (x_Tn (x_Tn (.leaf (some w1_c15)) x_Te) (x_Tn (.leaf (some w1_c79)) x_Te)) (x_Tn (x_Tn (.leaf (some w1_c47)) x_Te) x_Te)) (x_Tn (x_Tn (x_Tn (.leaf (some w1_c31)) x_Te) (x_Tn (.leaf (some w1_c95)) x_Te)) (x_Tn (x_Tn (.leaf (some w1_c63)) x_Te) x_Te))))))))
/-! ===== trees that hold the same; closed runs as contracts ===== -/
noncomputable def x_sT {α : Type} (e : α → α → Bool) : x_T α → x_T α → Bool
  | .leaf none, .leaf none => true
  | .leaf (some a), .leaf (some b) => e a b
  | .branch _ a b, .branch _ c d => x_sT e a c && x_sT e b d
  | _, _ => false
/-- what stands at the same place in both -/
noncomputable def x_oR {α : Type} (e : α → α → Bool) : Option α → Option α → Prop
  | none, none => True
  | some a, some b => e a b = true
  | _, _ => False
theorem x_sT_tg {α : Type} {e : α → α → Bool} : ∀ (d : Nat) (t u : x_T α), x_sT e t u = true → ∀ i, x_oR e (x_tg d t i) (x_tg d u i)
  | 0, .leaf none, .leaf none, _, _ => trivial
  | 0, .leaf (some a), .leaf (some b), h, _ => h
  | 0, .branch _ _ _, .branch _ _ _, _, _ => trivial
  | d + 1, .leaf none, .leaf none, _, _ => trivial
  | d + 1, .leaf (some a), .leaf (some b), _, _ => trivial
  | d + 1, .branch _ a b, .branch _ c f, h, i => by
    rw [x_sT, Bool.and_eq_true] at h
    rw [x_tg_s, x_tg_s]
    dsimp only
    cases Nat.beq (Nat.mod i 2) 0
    · exact x_sT_tg d b f h.2 _
    · exact x_sT_tg d a c h.1 _
  | _, .leaf none, .leaf (some _), h, _ => by cases h
  | _, .leaf (some _), .leaf none, h, _ => by cases h
  | _, .leaf none, .branch _ _ _, h, _ => by cases h
  | _, .leaf (some _), .branch _ _ _, h, _ => by cases h
  | _, .branch _ _ _, .leaf none, h, _ => by cases h
  | _, .branch _ _ _, .leaf (some _), h, _ => by cases h
noncomputable def x_eL (a b : Int64) : Bool := Nat.beq a.toUInt64.toBitVec.toNat b.toUInt64.toBitVec.toNat
theorem x_eL_ok {a b : Int64} (h : x_eL a b = true) : a = b := Int64.toBitVec_inj.mp (BitVec.eq_of_toNat_eq (Nat.eq_of_beq_eq_true h))
noncomputable def x_eV : Value → Value → Bool
  | .null, .null => true
  | .ref a, .ref b => Nat.beq a b
  | .retAddr a, .retAddr b => Nat.beq a b
  | .int a, .int b => x_eqb a b
  | .long a, .long b => x_eL a b
  | _, _ => false
theorem x_eV_ok {a b : Value} (h : x_eV a b = true) : a = b := by
  unfold x_eV at h
  split at h
  · rfl
  · rw [Nat.eq_of_beq_eq_true h]
  · rw [Nat.eq_of_beq_eq_true h]
  · rw [x_eqb_iff.mp h]
  · rw [x_eL_ok h]
  · cases h
noncomputable def x_eS : Nat ⊕ (Nat × Nat) → Nat ⊕ (Nat × Nat) → Bool
  | .inl a, .inl b => Nat.beq a b
  | .inr a, .inr b => Nat.beq a.1 b.1 && Nat.beq a.2 b.2
  | _, _ => false
theorem x_eS_ok {a b : Nat ⊕ (Nat × Nat)} (h : x_eS a b = true) : a = b := by
  unfold x_eS at h
  split at h
  · rw [Nat.eq_of_beq_eq_true h]
  · next a b =>
    rw [Bool.and_eq_true] at h
    obtain ⟨a1, a2⟩ := a
    obtain ⟨b1, b2⟩ := b
    have h1 : a1 = b1 := Nat.eq_of_beq_eq_true h.1
    have h2 : a2 = b2 := Nat.eq_of_beq_eq_true h.2
    rw [h1, h2]
  · cases h
noncomputable def x_eC (c d : x_C) : Bool := x_eS c.1 d.1 && (x_sT x_eqb c.2.1 d.2.1 && (x_sT x_eL c.2.2.1 d.2.2.1 && x_sT x_eV c.2.2.2 d.2.2.2))
theorem x_oR_eq {α : Type} {e : α → α → Bool} (he : ∀ {a b : α}, e a b = true → a = b) {a b : Option α} (h : x_oR e a b) : a = b := by
  cases a with
  | none => cases b with
    | none => rfl
    | some b => exact (h : False).elim
  | some a => cases b with
    | none => exact (h : False).elim
    | some b => rw [he h]
theorem x_eC_ok {c d : x_C} (h : x_eC c d = true) : c.1 = d.1 ∧ ∀ j, x_cI c j = x_cI d j ∧ x_cL c j = x_cL d j ∧ x_cR c j = x_cR d j := by
  unfold x_eC at h
  rw [Bool.and_eq_true, Bool.and_eq_true, Bool.and_eq_true] at h
  obtain ⟨h1, h2, h3, h4⟩ := h
  have h1 := x_eS_ok h1
  refine ⟨h1, fun j => ⟨?_, ?_, ?_⟩⟩
  · unfold x_cI; rw [h1, x_oR_eq (fun h => x_eqb_iff.mp h) (x_sT_tg _ _ _ h2 j)]
  · unfold x_cL; rw [h1, x_oR_eq (fun h => x_eL_ok h) (x_sT_tg _ _ _ h3 j)]
  · unfold x_cR; rw [h1, x_oR_eq (fun h => x_eV_ok h) (x_sT_tg _ _ _ h4 j)]
noncomputable def x_sW (V W : x_W) : Bool := Nat.beq V.1 W.1 && x_sT x_eC V.2 W.2
theorem x_sW_R {V W : x_W} {G : x_G} (h : x_sW V W = true) (hR : x_R V G) : x_R W G := by
  unfold x_sW at h
  rw [Bool.and_eq_true] at h
  have h1 : V.1 = W.1 := Nat.eq_of_beq_eq_true h.1
  have h2 := x_sT_tg 8 _ _ h.2
  refine ⟨by rw [← h1]; exact hR.1, by rw [← h1]; exact hR.2.1, fun k hk => ?_, fun k hk c hc j hj => ?_⟩
  · rw [hR.2.2.1 k hk]
    have h3 := h2 k
    cases ha : x_tg 8 V.2 k with
    | none => cases hb : x_tg 8 W.2 k with
      | none => rfl
      | some c => rw [ha, hb] at h3; exact (h3 : False).elim
    | some c' => cases hb : x_tg 8 W.2 k with
      | none => rw [ha, hb] at h3; exact (h3 : False).elim
      | some c =>
        rw [ha, hb] at h3
        exact congrArg some (x_eC_ok h3).1
  · have h3 := h2 k
    rw [hc] at h3
    cases ha : x_tg 8 V.2 k with
    | none => rw [ha] at h3; exact (h3 : False).elim
    | some c' =>
    rw [ha] at h3
    obtain ⟨h4, h5⟩ := x_eC_ok h3
    obtain ⟨a1, a2, a3⟩ := h5 j
    rw [← a1, ← a2, ← a3]
    exact hR.2.2.2 k hk c' ha j (by rw [h4]; exact hj)
/-- the size of a world -/
noncomputable def x_szN (W : x_W) (n : Nat) : Nat := Nat.rec 0 (fun k ih => Nat.add ih (match x_gc W k with | some c => x_sz c.1 | none => 0)) n
theorem x_szN_s (W : x_W) (n : Nat) : x_szN W (n + 1) = x_szN W n + (match x_gc W n with | some c => x_sz c.1 | none => 0) := rfl
theorem x_szN_ok {W : x_W} {G : x_G} (hR : x_R W G) : ∀ n, n ≤ G.1.length → ((G.1.take n).map x_sz).sum = x_szN W n
  | 0, _ => rfl
  | n + 1, h => by
    have h1 : n < G.1.length := h
    have h2 : n < 256 := by have := hR.2.1; rw [← hR.1] at this; omega
    rw [List.take_add_one, List.map_append, List.sum_append, x_szN_ok hR n (by omega), x_szN_s]
    congr 1
    have h3 := hR.2.2.1 n h2
    have hg : x_gc W n = x_tg 8 W.2 n := by
      unfold x_gc
      rw [show Nat.blt n 256 = true from Nat.ble_eq_true_of_le h2]; rfl
    rw [hg]
    cases hc : x_tg 8 W.2 n with
    | none => rw [hc] at h3; rw [h3]; rfl
    | some c => rw [hc] at h3; rw [h3]; simp
noncomputable def x_okW (W : x_W) : Bool := Nat.ble W.1 256 && Nat.ble (x_szN W W.1) 7302250
noncomputable def x_okG (G : x_G) : Prop := G.1.length ≤ 600000 ∧ x_nS G ≤ 7302250
theorem x_okW_ok {W : x_W} {G : x_G} (h : x_okW W = true) (hR : x_R W G) : x_okG G := by
  unfold x_okW at h
  rw [Bool.and_eq_true] at h
  have h1 : W.1 ≤ 256 := Nat.le_of_ble_eq_true h.1
  have h2 : x_szN W W.1 ≤ 7302250 := Nat.le_of_ble_eq_true h.2
  have h3 := x_szN_ok hR G.1.length (Nat.le_refl _)
  rw [List.take_length, hR.1] at h3
  refine ⟨by rw [hR.1]; omega, ?_⟩
  unfold x_nS
  rw [h3]; exact h2
/-- a closed run as a contract -/
theorem x_fz {n d mi : Nat} {as : List Value} {W W' : x_W} {v : Option Value} (h : x_fast n d mi (x_tb mi) (lv_args 0 as) [] W = some (v, W')) (hw : Nat.ble (x_words as) (x_ml mi) = true) (hrc : (x_stat mi || x_frcv mi W as) = true) {X : x_Ext} {G : x_G} (hR : x_R W G) {P : Option Value → x_G → Prop} (k : ∀ G', x_R W' G' → P v G') : x_Me X d mi as G P := by
  obtain ⟨G', h1, h2⟩ := x_fast_ok (X := X) n d mi 0 _ _ _ _ _ _ (x_at1_0 mi) h G hR
  refine ⟨Nat.le_of_ble_eq_true hw, ?_, n, v, G', h1, k G' h2⟩
  rw [Bool.or_eq_true] at hrc
  rcases hrc with h | h
  · exact Or.inl h
  · exact Or.inr (x_frcv_ok hR h)
/-- two closed calls, one behind the other: the same number -/
noncomputable def x_pair (n d m1 m2 : Nat) (as1 as2 : List Value) (W : x_W) : Bool :=
  Nat.ble (x_words as1) (x_ml m1) && (Nat.ble (x_words as2) (x_ml m2) && (x_frcv m1 W as1 && match x_fast n d m1 (x_tb m1) (lv_args 0 as1) [] W with
    | some (some (.int x), V) => x_frcv m2 V as2 && (match x_fast n d m2 (x_tb m2) (lv_args 0 as2) [] V with
      | some (some (.int y), U) => x_eqb x y && x_okW U
      | _ => false)
    | _ => false))
theorem x_pair_ok {n d m1 m2 : Nat} {as1 as2 : List Value} {W : x_W} (h : x_pair n d m1 m2 as1 as2 W = true) {X : x_Ext} {G : x_G} (hR : x_R W G) : x_Me X d m1 as1 G (fun v G1 => ∃ x, v = some (.int x) ∧ x_Me X d m2 as2 G1 (fun v2 G2 => v2 = some (.int x) ∧ x_okG G2)) := by
  unfold x_pair at h
  rw [Bool.and_eq_true, Bool.and_eq_true, Bool.and_eq_true] at h
  obtain ⟨h1, h2, h3, h⟩ := h
  split at h
  · next x V hV =>
    rw [Bool.and_eq_true] at h
    obtain ⟨h4, h⟩ := h
    split at h
    · next y U hU =>
      rw [Bool.and_eq_true] at h
      refine x_fz hV h1 (by rw [h3, Bool.or_true]) hR (fun G1 hR1 => ⟨x, rfl, ?_⟩)
      refine x_fz hU h2 (by rw [h4, Bool.or_true]) hR1 (fun G2 hR2 => ⟨?_, x_okW_ok h.2 hR2⟩)
      rw [x_eqb_iff.mp h.1]
    · cases h
  · cases h
/-- the start: both constructors -/
noncomputable def x_ini (n d m1 m2 : Nat) : Bool :=
  Nat.ble 1 (x_ml m1) && (Nat.ble 1 (x_ml m2) && x_nc x_W0 (.inl 10) (fun W => x_frcv m1 W [.ref 0] && match x_fast n d m1 (x_tb m1) (lv_args 0 [.ref 0]) [] W with
    | some (none, V) => Nat.beq V.1 69 && x_nc V (.inl 11) (fun U => x_frcv m2 U [.ref 69] && (match x_fast n d m2 (x_tb m2) (lv_args 0 [.ref 69]) [] U with
      | some (none, Z) => x_sW Z W1
      | _ => false)) false
    | _ => false) false)
theorem x_ini_ok {n d m1 m2 : Nat} (h : x_ini n d m1 m2 = true) (X : x_Ext) : x_Me X d m1 [.ref 0] (x_new x_G0 (.inl 10)) (fun v G1 => v = none ∧ G1.1.length = 69 ∧ x_Me X d m2 [.ref 69] (x_new G1 (.inl 11)) (fun v2 G2 => v2 = none ∧ x_R W1 G2)) := by
  unfold x_ini at h
  rw [Bool.and_eq_true, Bool.and_eq_true] at h
  obtain ⟨h1, h2, h⟩ := h
  unfold x_nc at h
  rw [show Nat.blt x_W0.1 256 = true from rfl] at h
  simp only [cond, x_tp_eq] at h
  have hR0 := x_nc_R (.inl 10) x_R0 rfl
  rw [Bool.and_eq_true] at h
  obtain ⟨h3, h⟩ := h
  split at h
  · next V hV =>
    rw [Bool.and_eq_true] at h
    obtain ⟨h4, h⟩ := h
    cases hb : Nat.blt V.1 256
    · rw [hb] at h; cases h
    rw [hb] at h
    simp only [] at h
    rw [Bool.and_eq_true] at h
    obtain ⟨h5, h⟩ := h
    split at h
    · next Z hZ =>
      refine x_fz hV h1 (by rw [h3, Bool.or_true]) hR0 (fun G1 hR1 => ⟨rfl, ?_, ?_⟩)
      · rw [hR1.1]; exact Nat.eq_of_beq_eq_true h4
      have hR2 := x_nc_R (.inl 11) hR1 hb
      exact x_fz hZ h2 (by rw [h5, Bool.or_true]) hR2 (fun G2 hR3 => ⟨rfl, x_sW_R h hR3⟩)
    · cases h
  · cases h
