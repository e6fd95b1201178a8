/-! ===== rules over typed worlds: contracts that say more ===== -/
theorem t_nei {x y : Int32} (h : ¬ x = y) : x.toInt ≠ y.toInt := fun e => h (Int32.toInt_inj.mp e)
def t_PI (wl : List (Nat × Nat)) (sh : List (Nat ⊕ (Nat × Nat))) (gi : Nat → Nat → Int32) (gl : Nat → Nat → Int64) (gr : Nat → Nat → Value) (lo hi : Int) (Q : Int32 → (Nat → Nat → Int32) → (Nat → Nat → Int64) → (Nat → Nat → Value) → Prop) (v : Option Value) (G' : x_G) : Prop := ∃ gi' gl' gr', G' = (sh, gi', gl', gr') ∧ t_I sh gi' gr' ∧ t_X wl sh gi gl gr gi' gl' gr' ∧ ∃ x : Int32, v = some (.int x) ∧ lo ≤ x.toInt ∧ x.toInt ≤ hi ∧ Q x gi' gl' gr'
def t_PL (wl : List (Nat × Nat)) (sh : List (Nat ⊕ (Nat × Nat))) (gi : Nat → Nat → Int32) (gl : Nat → Nat → Int64) (gr : Nat → Nat → Value) (Q : Int64 → (Nat → Nat → Int32) → (Nat → Nat → Int64) → (Nat → Nat → Value) → Prop) (v : Option Value) (G' : x_G) : Prop := ∃ gi' gl' gr', G' = (sh, gi', gl', gr') ∧ t_I sh gi' gr' ∧ t_X wl sh gi gl gr gi' gl' gr' ∧ ∃ x : Int64, v = some (.long x) ∧ Q x gi' gl' gr'
def t_PN (wl : List (Nat × Nat)) (sh : List (Nat ⊕ (Nat × Nat))) (gi : Nat → Nat → Int32) (gl : Nat → Nat → Int64) (gr : Nat → Nat → Value) (Q : (Nat → Nat → Int32) → (Nat → Nat → Int64) → (Nat → Nat → Value) → Prop) (v : Option Value) (G' : x_G) : Prop := ∃ gi' gl' gr', G' = (sh, gi', gl', gr') ∧ t_I sh gi' gr' ∧ t_X wl sh gi gl gr gi' gl' gr' ∧ v = none ∧ Q gi' gl' gr'
section TQ
variable {X : x_Ext} {d mi pc nx a b q len ml : Nat} {z : Int} {ins : Instr} {lo lo' : x_Lo} {st st' r : List Value} {G : x_G} {P : Option Value → x_G → Prop} {T : List (Nat × x_Row)} {rt : Option FieldType}
theorem ev_anyIE {v : Int32} (F : x_F mi T ml rt) (hr : T.lookup pc = some (ins, len, a, b, q, z)) (hc : x_cat ins = 0) (hs : x_alu ins st = some (.int v :: r)) (hn : pc + len = nx) (kk : ∀ w : Int32, w = v → x_Ev X d mi nx lo (.int w :: r) G P) : x_Ev X d mi pc lo st G P := ev_alu F hr hc hs hn (kk _ rfl)
theorem ev_anyLE {v : Int64} (F : x_F mi T ml rt) (hr : T.lookup pc = some (ins, len, a, b, q, z)) (hc : x_cat ins = 0) (hs : x_alu ins st = some (.long v :: r)) (hn : pc + len = nx) (kk : ∀ w : Int64, w = v → x_Ev X d mi nx lo (.long w :: r) G P) : x_Ev X d mi pc lo st G P := ev_alu F hr hc hs hn (kk _ rfl)
variable {sh : List (Nat ⊕ (Nat × Nat))} {gi gi0 : Nat → Nat → Int32} {gl gl0 : Nat → Nat → Int64} {gr gr0 : Nat → Nat → Value} {wl wc : List (Nat × Nat)}
theorem ev_qN {as : List Value} {Q : (Nat → Nat → Int32) → (Nat → Nat → Int64) → (Nat → Nat → Value) → Prop} (F : x_F mi T ml rt) (hr : T.lookup pc = some (ins, len, a, b, q, z)) (hc : x_cat ins = 4) (ha : Nat.blt a 1000 = true) (hb : Nat.ble b st.length = true) (has : (st.take b).reverse = as) (hrest : st.drop b = r) (h8 : Nat.ble (x_words r) 8 = true) (hM : x_Me X d a as (sh, gi, gl, gr) (t_PN wc sh gi gl gr Q)) (hn : pc + 3 = nx) (hX : t_X wl sh gi0 gl0 gr0 gi gl gr) (hs : t_sub wc wl = true) (kk : ∀ gi2 gl2 gr2, t_I sh gi2 gr2 → t_X wl sh gi0 gl0 gr0 gi2 gl2 gr2 → t_X wc sh gi gl gr gi2 gl2 gr2 → Q gi2 gl2 gr2 → x_Ev X (d + 1) mi nx lo r (sh, gi2, gl2, gr2) P) : x_Ev X (d + 1) mi pc lo st (sh, gi, gl, gr) P := by
  subst has; subst hrest
  refine ev_call F hr hc (decide_eq_true (Nat.le_of_ble_eq_true ha)) (Nat.le_of_ble_eq_true hb) (Nat.le_of_ble_eq_true h8) hM hn ?_
  rintro _ _ ⟨gi2, gl2, gr2, rfl, h1, h2, rfl, h3⟩
  exact kk _ _ _ h1 (hX.tr h2 hs) h2 h3
theorem ev_qI {l u : Int} {as : List Value} {Q : Int32 → (Nat → Nat → Int32) → (Nat → Nat → Int64) → (Nat → Nat → Value) → Prop} (F : x_F mi T ml rt) (hr : T.lookup pc = some (ins, len, a, b, q, z)) (hc : x_cat ins = 4) (ha : Nat.blt a 1000 = true) (hb : Nat.ble b st.length = true) (has : (st.take b).reverse = as) (hrest : st.drop b = r) (h8 : Nat.ble (x_words r) 8 = true) (hM : x_Me X d a as (sh, gi, gl, gr) (t_PI wc sh gi gl gr l u Q)) (hn : pc + 3 = nx) (hX : t_X wl sh gi0 gl0 gr0 gi gl gr) (hs : t_sub wc wl = true) (kk : ∀ (w : Int32) gi2 gl2 gr2, l ≤ w.toInt → w.toInt ≤ u → t_I sh gi2 gr2 → t_X wl sh gi0 gl0 gr0 gi2 gl2 gr2 → t_X wc sh gi gl gr gi2 gl2 gr2 → Q w gi2 gl2 gr2 → x_Ev X (d + 1) mi nx lo (.int w :: r) (sh, gi2, gl2, gr2) P) : x_Ev X (d + 1) mi pc lo st (sh, gi, gl, gr) P := by
  subst has; subst hrest
  refine ev_call F hr hc (decide_eq_true (Nat.le_of_ble_eq_true ha)) (Nat.le_of_ble_eq_true hb) (Nat.le_of_ble_eq_true h8) hM hn ?_
  rintro _ _ ⟨gi2, gl2, gr2, rfl, h1, h2, w, rfl, h3, h4, h5⟩
  exact kk _ _ _ _ h3 h4 h1 (hX.tr h2 hs) h2 h5
theorem ev_qL {as : List Value} {Q : Int64 → (Nat → Nat → Int32) → (Nat → Nat → Int64) → (Nat → Nat → Value) → Prop} (F : x_F mi T ml rt) (hr : T.lookup pc = some (ins, len, a, b, q, z)) (hc : x_cat ins = 4) (ha : Nat.blt a 1000 = true) (hb : Nat.ble b st.length = true) (has : (st.take b).reverse = as) (hrest : st.drop b = r) (h8 : Nat.ble (x_words r) 8 = true) (hM : x_Me X d a as (sh, gi, gl, gr) (t_PL wc sh gi gl gr Q)) (hn : pc + 3 = nx) (hX : t_X wl sh gi0 gl0 gr0 gi gl gr) (hs : t_sub wc wl = true) (kk : ∀ (w : Int64) gi2 gl2 gr2, t_I sh gi2 gr2 → t_X wl sh gi0 gl0 gr0 gi2 gl2 gr2 → t_X wc sh gi gl gr gi2 gl2 gr2 → Q w gi2 gl2 gr2 → x_Ev X (d + 1) mi nx lo (.long w :: r) (sh, gi2, gl2, gr2) P) : x_Ev X (d + 1) mi pc lo st (sh, gi, gl, gr) P := by
  subst has; subst hrest
  refine ev_call F hr hc (decide_eq_true (Nat.le_of_ble_eq_true ha)) (Nat.le_of_ble_eq_true hb) (Nat.le_of_ble_eq_true h8) hM hn ?_
  rintro _ _ ⟨gi2, gl2, gr2, rfl, h1, h2, w, rfl, h5⟩
  exact kk _ _ _ _ h1 (hX.tr h2 hs) h2 h5
/-- bounds at places that lie apart by s -/
def t_aba (k c s l u : Nat) (lo hi : Int) : Bool := (List.range (u + 1 - l)).all (fun q => t_abr k (c + s * (l + q)) (c + s * (l + q)) lo hi)
def t_abwa (k c s l u : Nat) (lo hi : Int) : Bool := (List.range (u + 1 - l)).all (fun q => t_abw k (c + s * (l + q)) (c + s * (l + q)) lo hi)
theorem t_affp {i x : Int32} {c s l u : Nat} (ha : i.toInt = (c : Int) + (s : Int) * x.toInt) (h1 : (l : Int) ≤ x.toInt) (h2 : x.toInt ≤ (u : Int)) : ∃ q, q < u + 1 - l ∧ i.toNatClampNeg = c + s * (l + q) := by
  refine ⟨x.toInt.toNat - l, by omega, ?_⟩
  have e : x.toInt = ((l + (x.toInt.toNat - l) : Nat) : Int) := by omega
  rw [e] at ha
  have h3 : i.toInt = ((c + s * (l + (x.toInt.toNat - l)) : Nat) : Int) := by rw [ha]; simp
  show i.toInt.toNat = _
  rw [h3]; rfl
theorem t_I.abA (h : t_I sh gi gr) {k c s l u : Nat} {lo hi : Int} {w i x : Int32} (e : w = gi k i.toNatClampNeg) (hb : t_aba k c s l u lo hi = true) (ha : i.toInt = (c : Int) + (s : Int) * x.toInt) (h1 : (l : Int) ≤ x.toInt) (h2 : x.toInt ≤ (u : Int)) : lo ≤ w.toInt ∧ w.toInt ≤ hi := by
  obtain ⟨q, hq, he⟩ := t_affp ha h1 h2
  rw [e, he]
  exact h.ab (List.all_eq_true.mp hb q (List.mem_range.mpr hq)) (Nat.le_refl _) (Nat.le_refl _)
theorem t_I.astA (h : t_I sh gi gr) {a c s l u : Nat} {q : Nat × Nat} {i x y : Int32} {lo hi : Int} (hk : sh[a]? = some (.inr q)) (hb : t_abwa a c s l u lo hi = true) (ha : i.toInt = (c : Int) + (s : Int) * x.toInt) (h1 : (l : Int) ≤ x.toInt) (h2 : x.toInt ≤ (u : Int)) (a1 : lo ≤ y.toInt) (a2 : y.toInt ≤ hi) (ho : decide (a < 102) = true) : t_I sh (x_up2 gi a i.toNatClampNeg y) gr := by
  obtain ⟨q, hq, he⟩ := t_affp ha h1 h2
  rw [he]
  exact h.astL hk (List.all_eq_true.mp hb q (List.mem_range.mpr hq)) (Nat.le_refl _) (Nat.le_refl _) a1 a2 ho
end TQ
