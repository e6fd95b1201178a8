/-! ===== rules over typed worlds: contracts that say more ===== -/
theorem t_nei {x y : Int32} (h : ¬ x = y) : x.toInt ≠ y.toInt := fun e => h (Int32.toInt_inj.mp e)
noncomputable def t_PI (wl : List (Nat × Nat)) (sh : List (Nat ⊕ (Nat × Nat))) (gi : Nat → Nat → Int32) (gl : Nat → Nat → Int64) (gr : Nat → Nat → Value) (lo hi : Int) (Q : Int32 → (Nat → Nat → Int32) → (Nat → Nat → Int64) → (Nat → Nat → Value) → Prop) (v : Option Value) (G' : x_G) : Prop := ∃ gi' gl' gr', G' = (sh, gi', gl', gr') ∧ t_I sh gi' gr' ∧ t_X wl sh gi gl gr gi' gl' gr' ∧ ∃ x : Int32, v = some (.int x) ∧ lo ≤ x.toInt ∧ x.toInt ≤ hi ∧ Q x gi' gl' gr'
noncomputable def t_PL (wl : List (Nat × Nat)) (sh : List (Nat ⊕ (Nat × Nat))) (gi : Nat → Nat → Int32) (gl : Nat → Nat → Int64) (gr : Nat → Nat → Value) (Q : Int64 → (Nat → Nat → Int32) → (Nat → Nat → Int64) → (Nat → Nat → Value) → Prop) (v : Option Value) (G' : x_G) : Prop := ∃ gi' gl' gr', G' = (sh, gi', gl', gr') ∧ t_I sh gi' gr' ∧ t_X wl sh gi gl gr gi' gl' gr' ∧ ∃ x : Int64, v = some (.long x) ∧ Q x gi' gl' gr'
noncomputable def t_PN (wl : List (Nat × Nat)) (sh : List (Nat ⊕ (Nat × Nat))) (gi : Nat → Nat → Int32) (gl : Nat → Nat → Int64) (gr : Nat → Nat → Value) (Q : (Nat → Nat → Int32) → (Nat → Nat → Int64) → (Nat → Nat → Value) → Prop) (v : Option Value) (G' : x_G) : Prop := ∃ gi' gl' gr', G' = (sh, gi', gl', gr') ∧ t_I sh gi' gr' ∧ t_X wl sh gi gl gr gi' gl' gr' ∧ v = none ∧ Q gi' gl' gr'
section TQ
variable {X : x_Ext} {d mi pc nx a b q len ml : Nat} {z : Int} {ins : Instr} {lo lo' : x_Lo} {st st' r : List Value} {G : x_G} {P : Option Value → x_G → Prop} {T : List (Nat × x_Row)} {rt : Option FieldType}
theorem ev_anyIE {v : Int32} (F : x_F mi T ml rt) (hr : x_lk T pc = some (ins, len, a, b, q, z)) (hc : x_cat ins = 0) (hs : x_alu ins st = some (.int v :: r)) (hn : pc + len = nx) (kk : ∀ w : Int32, w = v → x_Ev X d mi nx lo (.int w :: r) G P) : x_Ev X d mi pc lo st G P := ev_alu F hr hc hs hn (kk _ rfl)
theorem ev_anyLE {v : Int64} (F : x_F mi T ml rt) (hr : x_lk T pc = some (ins, len, a, b, q, z)) (hc : x_cat ins = 0) (hs : x_alu ins st = some (.long v :: r)) (hn : pc + len = nx) (kk : ∀ w : Int64, w = v → x_Ev X d mi nx lo (.long w :: r) G P) : x_Ev X d mi pc lo st G P := ev_alu F hr hc hs hn (kk _ rfl)
variable {sh : List (Nat ⊕ (Nat × Nat))} {gi gi0 : Nat → Nat → Int32} {gl gl0 : Nat → Nat → Int64} {gr gr0 : Nat → Nat → Value} {wl wc : List (Nat × Nat)}
theorem ev_qN {as : List Value} {Q : (Nat → Nat → Int32) → (Nat → Nat → Int64) → (Nat → Nat → Value) → Prop} (F : x_F mi T ml rt) (hr : x_lk T pc = some (ins, len, a, b, q, z)) (hc : x_cat ins = 4) (ha : Nat.blt a 1000 = true) (hb : Nat.ble b st.length = true) (has : (st.take b).reverse = as) (hrest : st.drop b = r) (h8 : Nat.ble (x_words r) 8 = true) (hM : x_Me X d a as (sh, gi, gl, gr) (t_PN wc sh gi gl gr Q)) (hn : pc + 3 = nx) (hX : t_X wl sh gi0 gl0 gr0 gi gl gr) (hs : t_sub wc wl = true) (kk : ∀ gi2 gl2 gr2, t_I sh gi2 gr2 → t_X wl sh gi0 gl0 gr0 gi2 gl2 gr2 → t_X wc sh gi gl gr gi2 gl2 gr2 → Q gi2 gl2 gr2 → x_Ev X (d + 1) mi nx lo r (sh, gi2, gl2, gr2) P) : x_Ev X (d + 1) mi pc lo st (sh, gi, gl, gr) P := by
  subst has; subst hrest
  refine ev_call F hr hc (decide_eq_true (Nat.le_of_ble_eq_true ha)) (Nat.le_of_ble_eq_true hb) (Nat.le_of_ble_eq_true h8) hM hn ?_
  rintro _ _ ⟨gi2, gl2, gr2, rfl, h1, h2, rfl, h3⟩
  exact kk _ _ _ h1 (hX.tr h2 hs) h2 h3
theorem ev_qI {l u : Int} {as : List Value} {Q : Int32 → (Nat → Nat → Int32) → (Nat → Nat → Int64) → (Nat → Nat → Value) → Prop} (F : x_F mi T ml rt) (hr : x_lk T pc = some (ins, len, a, b, q, z)) (hc : x_cat ins = 4) (ha : Nat.blt a 1000 = true) (hb : Nat.ble b st.length = true) (has : (st.take b).reverse = as) (hrest : st.drop b = r) (h8 : Nat.ble (x_words r) 8 = true) (hM : x_Me X d a as (sh, gi, gl, gr) (t_PI wc sh gi gl gr l u Q)) (hn : pc + 3 = nx) (hX : t_X wl sh gi0 gl0 gr0 gi gl gr) (hs : t_sub wc wl = true) (kk : ∀ (w : Int32) gi2 gl2 gr2, l ≤ w.toInt → w.toInt ≤ u → t_I sh gi2 gr2 → t_X wl sh gi0 gl0 gr0 gi2 gl2 gr2 → t_X wc sh gi gl gr gi2 gl2 gr2 → Q w gi2 gl2 gr2 → x_Ev X (d + 1) mi nx lo (.int w :: r) (sh, gi2, gl2, gr2) P) : x_Ev X (d + 1) mi pc lo st (sh, gi, gl, gr) P := by
  subst has; subst hrest
  refine ev_call F hr hc (decide_eq_true (Nat.le_of_ble_eq_true ha)) (Nat.le_of_ble_eq_true hb) (Nat.le_of_ble_eq_true h8) hM hn ?_
  rintro _ _ ⟨gi2, gl2, gr2, rfl, h1, h2, w, rfl, h3, h4, h5⟩
  exact kk _ _ _ _ h3 h4 h1 (hX.tr h2 hs) h2 h5
theorem ev_qL {as : List Value} {Q : Int64 → (Nat → Nat → Int32) → (Nat → Nat → Int64) → (Nat → Nat → Value) → Prop} (F : x_F mi T ml rt) (hr : x_lk T pc = some (ins, len, a, b, q, z)) (hc : x_cat ins = 4) (ha : Nat.blt a 1000 = true) (hb : Nat.ble b st.length = true) (has : (st.take b).reverse = as) (hrest : st.drop b = r) (h8 : Nat.ble (x_words r) 8 = true) (hM : x_Me X d a as (sh, gi, gl, gr) (t_PL wc sh gi gl gr Q)) (hn : pc + 3 = nx) (hX : t_X wl sh gi0 gl0 gr0 gi gl gr) (hs : t_sub wc wl = true) (kk : ∀ (w : Int64) gi2 gl2 gr2, t_I sh gi2 gr2 → t_X wl sh gi0 gl0 gr0 gi2 gl2 gr2 → t_X wc sh gi gl gr gi2 gl2 gr2 → Q w gi2 gl2 gr2 → x_Ev X (d + 1) mi nx lo (.long w :: r) (sh, gi2, gl2, gr2) P) : x_Ev X (d + 1) mi pc lo st (sh, gi, gl, gr) P := by
  subst has; subst hrest
  refine ev_call F hr hc (decide_eq_true (Nat.le_of_ble_eq_true ha)) (Nat.le_of_ble_eq_true hb) (Nat.le_of_ble_eq_true h8) hM hn ?_
  rintro _ _ ⟨gi2, gl2, gr2, rfl, h1, h2, w, rfl, h5⟩
  exact kk _ _ _ _ h1 (hX.tr h2 hs) h2 h5
/-- bounds at places that lie apart by s -/
noncomputable def t_aba (k c s l u : Nat) (lo hi : Int) : Bool := (List.range (u + 1 - l)).all (fun q => t_abr k (c + s * (l + q)) (c + s * (l + q)) lo hi)
noncomputable def t_abwa (k c s l u : Nat) (lo hi : Int) : Bool := (List.range (u + 1 - l)).all (fun q => t_abw k (c + s * (l + q)) (c + s * (l + q)) lo hi)
theorem t_affp {i x : Int32} {c s l u : Nat} (ha : i.toInt = (c : Int) + (s : Int) * x.toInt) (h1 : (l : Int) ≤ x.toInt) (h2 : x.toInt ≤ (u : Int)) : ∃ q, q < u + 1 - l ∧ i.toNatClampNeg = c + s * (l + q) := by
  refine ⟨x.toInt.toNat - l, by omega, ?_⟩
  have e : x.toInt = ((l + (x.toInt.toNat - l) : Nat) : Int) := by omega
  rw [e] at ha
  have h3 : i.toInt = ((c + s * (l + (x.toInt.toNat - l)) : Nat) : Int) := by rw [ha]; simp
  show i.toInt.toNat = _
  rw [h3]; rfl
theorem t_I.abA (h : t_I sh gi gr) {k c s l u : Nat} {lo hi : Int} {w i x : Int32} (e : w = gi k i.toNatClampNeg) (hb : t_aba k c s l u lo hi = true) (ha : i.toInt = (c : Int) + (s : Int) * x.toInt) (h1 : (l : Int) ≤ x.toInt) (h2 : x.toInt ≤ (u : Int)) : lo ≤ w.toInt ∧ w.toInt ≤ hi := by
  obtain ⟨q, hq, he⟩ := t_affp ha h1 h2
  rw [e, he]
  exact h.ab (List.all_eq_true.mp hb q (List.mem_range.mpr hq)) (Nat.le_refl _) (Nat.le_refl _)
theorem t_I.astA (h : t_I sh gi gr) {a c s l u : Nat} {q : Nat × Nat} {i x y : Int32} {lo hi : Int} (hk : sh[a]? = some (.inr q)) (hb : t_abwa a c s l u lo hi = true) (ha : i.toInt = (c : Int) + (s : Int) * x.toInt) (h1 : (l : Int) ≤ x.toInt) (h2 : x.toInt ≤ (u : Int)) (a1 : lo ≤ y.toInt) (a2 : y.toInt ≤ hi) (ho : decide (a < 102) = true) : t_I sh (x_up2 gi a i.toNatClampNeg y) gr := by
  obtain ⟨q, hq, he⟩ := t_affp ha h1 h2
  rw [he]
  exact h.astL hk (List.all_eq_true.mp hb q (List.mem_range.mpr hq)) (Nat.le_refl _) (Nat.le_refl _) a1 a2 ho
end TQ
section TX
variable {X : x_Ext} {d mi pc nx a b q len ml : Nat} {z : Int} {ins : Instr} {lo lo' : x_Lo} {st st' r : List Value} {G : x_G} {P : Option Value → x_G → Prop} {T : List (Nat × x_Row)} {rt : Option FieldType}
/-- methods of the text of keywords -/
theorem me_x {as : List Value} (F : x_F mi T ml rt) (hm : x_mci mi = 100) (hw : decide (x_words (.retAddr 28 :: as) ≤ ml) = true) (h : x_Ev X d mi 0 (lv_args 0 (.retAddr 28 :: as)) [] G P) : x_Me X d mi (.retAddr 28 :: as) G P := by
  refine ⟨by rw [F.2.1]; exact of_decide_eq_true hw, Or.inr ?_, h⟩
  show (28 == 28 && x_mci mi == 100) = true
  rw [hm]; rfl
theorem ev_inX {as : List Value} {T' : List (Nat × x_Row)} {ml' : Nat} {rt' : Option FieldType} {lo2 : x_Lo} (F : x_F mi T ml rt) (hr : x_lk T pc = some (ins, len, a, b, q, z)) (hc : x_cat ins = 4) (ha : Nat.blt a 1000 = true) (hb : Nat.ble b st.length = true) (has : (st.take b).reverse = .retAddr 28 :: as) (hrest : st.drop b = r) (h8 : Nat.ble (x_words r) 8 = true) (Fa : x_F a T' ml' rt') (hm : x_mci a = 100) (hw : Nat.ble (x_words (.retAddr 28 :: as)) ml' = true) (hl : lv_args 0 (.retAddr 28 :: as) = lo2) (hn : pc + 3 = nx)
    (h : x_Ev X d a 0 lo2 [] G (fun v G1 => x_Ev X (d + 1) mi nx lo (v.toList ++ r) G1 P)) : x_Ev X (d + 1) mi pc lo st G P := by
  subst hrest; subst hl
  refine ev_call F hr hc (decide_eq_true (Nat.le_of_ble_eq_true ha)) (Nat.le_of_ble_eq_true hb) (Nat.le_of_ble_eq_true h8) ?_ hn (fun v G1 h => h)
  rw [has]
  exact me_x Fa hm (decide_eq_true (Nat.le_of_ble_eq_true hw)) h
theorem ev_xba {i : Int32} {l u : Int} (F : x_F mi T ml rt) (hr : x_lk T pc = some (.baload, len, a, b, q, z)) (a1 : l ≤ i.toInt) (h1 : decide (0 ≤ l) = true) (a2 : i.toInt ≤ u) (h2' : decide (u < 138) = true) (hn : pc + len = nx) (kk : ∀ w : Int32, w = x_keys.getD i.toNatClampNeg 0 → x_Ev X d mi nx lo (.int w :: r) G P) : x_Ev X d mi pc lo (.int i :: .retAddr 29 :: r) G P := by
  have hL : x_keys.length = 138 := by decide +kernel
  have h := t_idx (n := x_keys.length) a1 h1 a2 (by rw [hL]; exact h2')
  refine ev_heap F hr rfl ?_ hn (kk _ rfl)
  show (match x_ldX (fun t => t == .byte) X 29 i with | some v => some (v :: r, G) | none => none) = _
  have h3 : x_ldX (fun t => t == .byte) X 29 i = some (.int (x_keys.getD i.toNatClampNeg 0)) := by
    show (if (FieldType.byte == .byte) = true ∧ ¬ (i < 0 ∨ x_keys.length ≤ i.toNatClampNeg) then some (Value.int (x_keys.getD i.toNatClampNeg 0)) else none) = _
    rw [if_pos ⟨rfl, x_ix h.1 h.2⟩]
  rw [h3]
end TX
/-- the letters of the text of keywords -/
noncomputable def x_kc (n : Nat) : Int32 := ((x_keys.getD n 0 &&& 255).toUInt32 % 65536).toInt32
theorem x_kc_ok : ((List.range 138).all (fun n => decide (0 ≤ (x_kc n).toInt) && (decide ((x_kc n).toInt ≤ 127) && (decide ((x_kc n).toInt = 32) || decide (n < x_keys.length - 1)))) && (decide (x_keys.length = 138))) = true := by decide +kernel
theorem t_rc {z y : Int32} (e : z = (y.toUInt32 % 65536).toInt32) : x_ret (some .char) .ireturn [.int z] = some (some (.int z)) := by
  have h : narrow .char (.int z) = .int z := by
    rw [e]
    show Value.int (((y.toUInt32 % 65536).toInt32.toUInt32 % 65536).toInt32) = _
    congr 1
    apply Int32.toBitVec_inj.mp
    show (y.toUInt32 % 65536 % 65536).toBitVec = (y.toUInt32 % 65536).toBitVec
    congr 1
    apply UInt32.toNat_inj.mp
    simp
  exact if_pos h
theorem ev_andE {X : x_Ext} {d mi pc nx a b q len ml : Nat} {z : Int} {lo : x_Lo} {r : List Value} {G : x_G} {P : Option Value → x_G → Prop} {T : List (Nat × x_Row)} {rt : Option FieldType} {x y : Int32} {c : Int} (F : x_F mi T ml rt) (hr : x_lk T pc = some (.iand, len, a, b, q, z)) (hc : y.toInt = c) (h0 : decide (0 ≤ c) = true) (hn : pc + len = nx) (kk : ∀ w : Int32, w = x &&& y → 0 ≤ w.toInt → w.toInt ≤ c → x_Ev X d mi nx lo (.int w :: r) G P) : x_Ev X d mi pc lo (.int y :: .int x :: r) G P := by
  have h := t_andle x y (by rw [hc]; exact of_decide_eq_true h0)
  exact ev_alu F hr rfl rfl hn (kk _ rfl h.1 (by rw [← hc]; exact h.2))
theorem t_kc {i v : Int32} (e : v = x_kc i.toNatClampNeg) (l : 0 ≤ i.toInt) (u : i.toInt ≤ 137) : (v = x_kc i.toNatClampNeg) ∧ (v.toInt ≠ 32 → i.toInt + 1 ≤ 137) ∧ 0 ≤ v.toInt ∧ v.toInt ≤ 127 := by
  have h := x_kc_ok
  rw [Bool.and_eq_true] at h
  have hc := t_clamp l
  have h1 := List.all_eq_true.mp h.1 i.toNatClampNeg (List.mem_range.mpr (by omega))
  rw [← e] at h1
  have h2 : x_keys.length = 138 := of_decide_eq_true h.2
  simp only [Bool.and_eq_true, Bool.or_eq_true, decide_eq_true_eq] at h1
  refine ⟨e, fun hne => ?_, h1.1, h1.2.1⟩
  rcases h1.2.2 with h3 | h3
  · exact absurd h3 hne
  · omega
theorem t_neCl {i : Int32} {l : Int} {j : Nat} (a1 : l ≤ i.toInt) (h : decide ((j : Int) < l) = true) : j ≠ i.toNatClampNeg := by
  have h := of_decide_eq_true h
  have := t_clamp (i := i) (by omega)
  omega
theorem t_neCu {i : Int32} {l u : Int} {j : Nat} (a1 : l ≤ i.toInt) (a2 : i.toInt ≤ u) (h0 : decide (0 ≤ l) = true) (h : decide (u < (j : Int)) = true) : j ≠ i.toNatClampNeg := by
  have h := of_decide_eq_true h
  have h0 := of_decide_eq_true h0
  have := t_clamp (i := i) (by omega)
  omega
noncomputable def t_abwb (k c s u v : Nat) (lo hi : Int) : Bool := (List.range (u + 1)).all (fun p => (List.range (v + 1)).all (fun q => t_abw k (c + s * p + q) (c + s * p + q) lo hi))
section TQ2
variable {sh : List (Nat ⊕ (Nat × Nat))} {gi : Nat → Nat → Int32} {gr : Nat → Nat → Value}
theorem t_I.astB (h : t_I sh gi gr) {a c s u v : Nat} {q : Nat × Nat} {i x y z : Int32} {lo hi : Int} (hk : sh[a]? = some (.inr q)) (hb : t_abwb a c s u v lo hi = true) (ha : i.toInt = (c : Int) + (s : Int) * x.toInt + y.toInt) (h1 : 0 ≤ x.toInt) (h2 : x.toInt ≤ (u : Int)) (h3 : 0 ≤ y.toInt) (h4 : y.toInt ≤ (v : Int)) (a1 : lo ≤ z.toInt) (a2 : z.toInt ≤ hi) (ho : decide (a < 102) = true) : t_I sh (x_up2 gi a i.toNatClampNeg z) gr := by
  have he : i.toNatClampNeg = c + s * x.toInt.toNat + y.toInt.toNat := by
    have e1 : x.toInt = ((x.toInt.toNat : Nat) : Int) := by omega
    have e2 : y.toInt = ((y.toInt.toNat : Nat) : Int) := by omega
    rw [e1, e2] at ha
    have h3 : i.toInt = ((c + s * x.toInt.toNat + y.toInt.toNat : Nat) : Int) := by rw [ha]; simp
    show i.toInt.toNat = _
    rw [h3]; rfl
  rw [he]
  have h5 := List.all_eq_true.mp hb x.toInt.toNat (List.mem_range.mpr (by omega))
  have h6 := List.all_eq_true.mp h5 y.toInt.toNat (List.mem_range.mpr (by omega))
  exact h.astL hk h6 (Nat.le_refl _) (Nat.le_refl _) a1 a2 ho
end TQ2
/-- what a place holds behind a store -/
theorem t_stc {g g' : Nat → Nat → Int32} {k : Nat} {i x : Int32} (e : g' = x_up2 g k i.toNatClampNeg x) (b : Nat) : (b = i.toNatClampNeg ∧ g' k b = x) ∨ (b ≠ i.toNatClampNeg ∧ g' k b = g k b) := by
  subst e
  by_cases h : b = i.toNatClampNeg
  · exact Or.inl ⟨h, by rw [h]; exact x_up2_at _ _ _ _⟩
  · exact Or.inr ⟨h, x_up2_off (Or.inr h)⟩
