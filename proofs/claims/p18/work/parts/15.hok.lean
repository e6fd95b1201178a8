/-! ===== the heap's instructions are what the machine does ===== -/
noncomputable def x_sz : Nat ⊕ (Nat × Nat) → Nat | .inl ci => (x_fty ci).length | .inr (_, n) => n
noncomputable def x_nS (G : x_G) : Nat := (G.1.map x_sz).sum
theorem x_nS_new (G : x_G) (sh : Nat ⊕ (Nat × Nat)) : x_nS (x_new G sh) = x_nS G + x_sz sh := by simp [x_nS, x_new]
theorem x_nC_new (G : x_G) (sh : Nat ⊕ (Nat × Nat)) : (x_new G sh).1.length = G.1.length + 1 := by simp [x_new]
theorem x_nS_eq {G G' : x_G} (h : G'.1 = G.1) : x_nS G' = x_nS G := by simp [x_nS, h]
noncomputable def x_Ao (E : x_Ad) : Nat → Prop := fun q => E.2.2.1 ≤ q
noncomputable def x_ngw : Cond → Bool | .fieldLinkNest .. => true | .methodLinkNest .. => true | .arrayOver (.object _) => true | _ => false
/-- what is known of the things outside, and of the words that a callee must be told -/
noncomputable def x_XF (E : x_Ad) (X : x_Ext) (U : State) : Prop :=
  (∀ w ∈ lw_tbl, x_ngw w = true → va_Nw w U) ∧
  (∀ (a : Nat) (s : String × String × String × Value × Nat × Nat), x_sts[a]? = some s → va_Z s.1 s.2.1 s.2.2.1 (x_cv E.2.2.1 E.2.2.2 s.2.2.2.1) (x_Ao E) U U.heap) ∧
  (∀ (b i : Nat) (v : Value), x_xf b i = some v → ∃ q : Nat, E.2.2.2 i = some q ∧ va_OF (x_xn b).1 (x_xn b).2.1 (x_xn b).2.2 (x_cv E.2.2.1 E.2.2.2 v) q (x_Ao E) U U.heap) ∧
  (∀ (i : Nat) (ty : FieldType) (n : Nat) (f : Nat → Value), x_xar X i = some (ty, n, f) → ∃ q : Nat, E.2.2.2 i = some q ∧ va_T ty q n (fun j => x_cv E.2.2.1 E.2.2.2 (f j)) (x_Ao E) U U.heap) ∧
  (∃ q : Nat, E.2.2.2 28 = some q ∧ vk_R RX12 x_keyix x_keytx q U ∧ va_O "java/lang/String" q (x_Ao E) U U.heap) ∧ x_XA E.2.2.1 E.2.2.2
theorem x_ng_warm {w : Cond} {s U : State} (hn : x_ngw w = true) (hW : s.WarmedH U.vm) (h : va_Nw w s) : va_Nw w U := by
  unfold x_ngw at hn
  split at hn
  · exact va_Nw.warmF hW h
  · exact va_Nw.warmM hW h
  · exact va_AO.moved hW.alike h
  · cases hn
theorem x_ng_same {w : Cond} {u U : State} (hn : x_ngw w = true) (hv : u.vm = U.vm) (h : va_Nw w u) : va_Nw w U := by
  unfold x_ngw at hn
  split at hn
  · exact va_Nw.same rfl hv h
  · exact va_Nw.same rfl hv h
  · exact va_AO.moved (by rw [hv]; exact Vm.Alike.refl _) h
  · cases hn
theorem x_ng_use {w : Cond} {A : Array Value} {U : State} (hn : x_ngw w = true) (h : va_Nw w U) : w.before A U = true := by
  unfold x_ngw at hn
  split at hn
  · exact va_Nw.use rfl h
  · exact va_Nw.use rfl h
  · exact va_AO.use h
  · cases hn
theorem x_XF_moved {E : x_Ad} {X : x_Ext} {s U : State} {H : Heap} {locs : List Loc} (h : x_XF E X s) (hU : U.heap = H) (hW : s.WarmedH U.vm) (hS : va_S (x_Ao E) s.heap H locs) : x_XF E X U := by
  obtain ⟨h1, h2, h3, h4, ⟨q, h5, h6, h7⟩, h8⟩ := h
  subst hU
  refine ⟨fun w hw hn => x_ng_warm hn hW (h1 w hw hn), fun a st hs => (va_Z.moved hW.alike ((h2 a st hs).kept hS.2.1)), fun b i v hv => ?_, fun i ty n f hf => ?_, ⟨q, h5, h6.warm hW, va_O.moved hW.alike (h7.kept hS.2.1)⟩, h8⟩
  · obtain ⟨q, g1, g2⟩ := h3 b i v hv
    exact ⟨q, g1, va_OF.moved hW.alike (g2.kept hS.2.1)⟩
  · obtain ⟨q, g1, g2⟩ := h4 i ty n f hf
    exact ⟨q, g1, va_T.moved hW.alike (g2.kept hS.2.1)⟩
theorem x_XF_same {E : x_Ad} {X : x_Ext} {u U : State} (h : x_XF E X u) (hv : U.vm = u.vm) (hh : U.heap = u.heap) : x_XF E X U := by
  obtain ⟨h1, h2, h3, h4, ⟨q, h5, h6, h7⟩, h8⟩ := h
  have hA : u.vm.Alike U.vm := by rw [hv]; exact Vm.Alike.refl _
  refine ⟨fun w hw hn => x_ng_same hn hv.symm (h1 w hw hn), fun a st hs => ?_, fun b i v hv => ?_, fun i ty n f hf => ?_, ⟨q, h5, h6.same hv, ?_⟩, h8⟩
  · rw [hh]; exact va_Z.moved hA (h2 a st hs)
  · obtain ⟨q, g1, g2⟩ := h3 b i v hv
    exact ⟨q, g1, by rw [hh]; exact va_OF.moved hA g2⟩
  · obtain ⟨q, g1, g2⟩ := h4 i ty n f hf
    exact ⟨q, g1, by rw [hh]; exact va_T.moved hA g2⟩
  · rw [hh]; exact va_O.moved hA h7
noncomputable def x_Cx (p : Program) (s : State) (m : MethodId) (args : Array Value) (meth : Method) (c : Code) (mi : Nat) : Prop := p.tables.exec = Jvm.exec ∧ c.code = x_b mi ∧ c.maxLocals = x_ml mi ∧ s.vm.findClass (x_y mi).cls = some m.cls ∧ (∀ w ∈ x_gw, w.before args s = true) ∧ ((x_y mi).name = "<init>" → meth.name = "<init>")
theorem x_wd {args : Array Value} {s : State} (hts : ∀ w ∈ x_gw, w.before args s = true) {q : Nat} {w : Cond} (h : lw_tbl[q]? = some w) (hg : goodWord w = true) : w.before args s = true := hts w (List.mem_filter.mpr ⟨List.mem_of_getElem? h, hg⟩)
theorem x_ng {E : x_Ad} {X : x_Ext} {args : Array Value} {s : State} (h : x_XF E X s) {q : Nat} {w : Cond} (hw : lw_tbl[q]? = some w) (hn : x_ngw w = true) : w.before args s = true := by
  exact x_ng_use hn (h.1 w (List.mem_of_getElem? hw) hn)
theorem x_S_step {E : x_Ad} {H0 H H1 : Heap} {locs L : List Loc} (h : va_S (x_Ao E) H0 H locs) (hz : H.size ≤ H1.size) (hq : ∀ q, q < E.2.2.1 → H1[q]? = H[q]?) (hL : ∀ z ∈ L, E.2.2.1 ≤ z.base) : va_S (x_Ao E) H0 H1 (locs ++ L) :=
  ⟨Nat.le_trans h.1 hz, fun q h1 h2 => (hq q (Nat.not_le.mp h2)).trans (h.2.1 q h1 h2), fun z hz => (List.mem_append.mp hz).elim (h.2.2 z) (hL z)⟩
theorem x_fd {own own' r n d r' n' d' : String} {i i' : Nat} {Y : Bool} (h : (decide (own = own') && decide (i = i') && decide ((r, n, d) = (r', n', d'))) = true) : own = own' ∧ i = i' ∧ r = r' ∧ n = n' ∧ d = d' := by
  simp only [Bool.and_eq_true, decide_eq_true_eq, Prod.mk.injEq] at h
  exact ⟨h.1.1, h.1.2, h.2.1, h.2.2.1, h.2.2.2⟩
section XHOK
variable {p : Program} {l : Launch} {e : Env} {R : Room} {s : State} {m : MethodId} {args : Array Value} {below : List Frame} {meth : Method} {c : Code} {H : Heap} {locs : List Loc} {cells slots : Nat} {Q : State → Prop}
variable {pc : Nat} {ls : Array Slot} {E : x_Ad} {G : x_G} {X : x_Ext} {mi : Nat}
theorem x_chkF_spec (hts : ∀ w ∈ x_gw, w.before args s = true) (hF : x_XF E X s) {idx a b q : Nat} (h : x_chkF (x_y mi) idx a b q = true) : ∃ C T N, vwCl[a]? = some (C, T, N) ∧ b < N ∧ ((Cond.fieldLink (x_y mi).cls idx (T b).1 (T b).2.1 (T b).2.2.1).before args s = true ∨ ∃ host, (Cond.fieldLinkNest (x_y mi).cls idx (T b).1 (T b).2.1 (T b).2.2.1 host).before args s = true) := by
  unfold x_chkF at h
  split at h
  next C T N own i r n d e1 e2 =>
    simp only [Bool.and_eq_true, decide_eq_true_eq, Prod.mk.injEq] at h
    obtain ⟨⟨⟨h1, rfl⟩, rfl⟩, rfl, rfl, rfl⟩ := h
    exact ⟨C, T, N, e1, h1, Or.inl (x_wd hts e2 rfl)⟩
  next C T N own i r n d ho e1 e2 =>
    simp only [Bool.and_eq_true, decide_eq_true_eq, Prod.mk.injEq] at h
    obtain ⟨⟨⟨h1, rfl⟩, rfl⟩, rfl, rfl, rfl⟩ := h
    exact ⟨C, T, N, e1, h1, Or.inr ⟨ho, x_ng hF e2 rfl⟩⟩
  next => cases h
theorem x_chkP_spec (hts : ∀ w ∈ x_gw, w.before args s = true) (hF : x_XF E X s) (hin : (x_y mi).name = "<init>" → meth.name = "<init>") {idx a b q : Nat} (h : x_chkP (x_y mi) idx a b q = true) : ∃ C T N, vwCl[a]? = some (C, T, N) ∧ b < N ∧ (((T b).2.2.2 = false ∧ ((Cond.fieldLink (x_y mi).cls idx (T b).1 (T b).2.1 (T b).2.2.1).before args s = true ∨ ∃ host, (Cond.fieldLinkNest (x_y mi).cls idx (T b).1 (T b).2.1 (T b).2.2.1 host).before args s = true)) ∨ ((T b).2.2.2 = true ∧ meth.name = "<init>" ∧ (T b).1 = (x_y mi).cls ∧ (Cond.fieldLink (x_y mi).cls idx (T b).1 (T b).2.1 (T b).2.2.1).before args s = true)) := by
  unfold x_chkP at h
  split at h
  next C T N own i r n d e1 e2 =>
    simp only [Bool.and_eq_true, Bool.or_eq_true, Bool.not_eq_true', decide_eq_true_eq, Prod.mk.injEq] at h
    obtain ⟨⟨⟨⟨h1, rfl⟩, rfl⟩, rfl, rfl, rfl⟩, h5⟩ := h
    refine ⟨C, T, N, e1, h1, ?_⟩
    cases hb : (T b).2.2.2 with
    | false => exact Or.inl ⟨rfl, Or.inl (x_wd hts e2 rfl)⟩
    | true =>
      rw [hb] at h5
      rcases h5 with h5 | h5
      · cases h5
      · exact Or.inr ⟨rfl, hin h5.1, h5.2, x_wd hts e2 rfl⟩
  next C T N own i r n d ho e1 e2 =>
    simp only [Bool.and_eq_true, Bool.not_eq_true', decide_eq_true_eq, Prod.mk.injEq] at h
    obtain ⟨⟨⟨⟨h1, rfl⟩, rfl⟩, rfl, rfl, rfl⟩, h5⟩ := h
    exact ⟨C, T, N, e1, h1, Or.inl ⟨h5, Or.inr ⟨ho, x_ng hF e2 rfl⟩⟩⟩
  next => cases h
theorem x_ldA_spec {pr : Nat → Bool} {k : Nat} {i : Int32} {v : Value} (h : x_ldA pr G k i = some v) : ∃ t n, G.1[k]? = some (.inr (t, n)) ∧ pr t = true ∧ vp_in i n ∧ v = x_fv G k i.toNatClampNeg (x_ety t) := by
  unfold x_ldA at h
  split at h
  next t n hk =>
    split at h
    next hc => cases h; exact ⟨t, n, hk, hc.1, hc.2, rfl⟩
    next => cases h
  next => cases h
theorem x_ldX_spec {ok : FieldType → Bool} {i : Int32} {k : Nat} {v : Value} (h : x_ldX ok X k i = some v) : ∃ ty n f, x_xar X k = some (ty, n, f) ∧ ok ty = true ∧ vp_in i n ∧ v = f i.toNatClampNeg := by
  unfold x_ldX at h
  split at h
  next ty n f hk =>
    split at h
    next hc => cases h; exact ⟨ty, n, f, hk, hc.1, hc.2, rfl⟩
    next => cases h
  next => cases h
theorem x_stA_spec {k t : Nat} {i : Int32} {v : Value} {G' : x_G} (h : x_stA G k i t v = some G') : ∃ n, G.1[k]? = some (.inr (t, n)) ∧ vp_in i n ∧ G' = x_put G k i.toNatClampNeg (x_ety t) v := by
  unfold x_stA at h
  split at h
  next t' n hk =>
    split at h
    next hc => obtain ⟨rfl, hc⟩ := hc; cases h; exact ⟨n, hk, hc, rfl⟩
    next => cases h
  next => cases h
end XHOK
theorem x_cplC : (List.range vwCl.length).all (fun a => match vwCl[a]?, x_cpl[a]? with
    | some (C, _, N), some (i, j) => decide (lw_tbl[i]? = some (.instantiable C N)) && decide (lw_tbl[j]? = some (.initialized C))
    | _, _ => false) = true := by decide +kernel
theorem x_cpl_ok (a : Nat) (C : String) (T : u_T) (N : Nat) (h : vwCl[a]? = some (C, T, N)) : lw_tbl[((x_cpl[a]?).getD (0, 0)).1]? = some (.instantiable C N) ∧ lw_tbl[((x_cpl[a]?).getD (0, 0)).2]? = some (.initialized C) := by
  have h1 := List.all_eq_true.mp x_cplC a (List.mem_range.mpr (List.getElem?_eq_some_iff.mp h).1)
  rw [h] at h1
  cases h2 : x_cpl[a]? with
  | none => rw [h2] at h1; cases h1
  | some ij =>
    obtain ⟨i, j⟩ := ij
    rw [h2] at h1
    simpa using h1
theorem x_aplC : ([ArrayType.int, .long, .byte, .boolean] : List ArrayType).all (fun t => decide (lw_tbl[(x_apl[(x_atn t).getD 0]?).getD 0]? = some (.arrayClass (newarray.typeOf t)))) = true := by decide +kernel
theorem x_apl_ok {args : Array Value} {s : State} (hts : ∀ w ∈ x_gw, w.before args s = true) {at_ : ArrayType} {t : Nat} (h : x_atn at_ = some t) : (Cond.arrayClass (newarray.typeOf at_)).before args s = true := by
  have h1 := List.all_eq_true.mp x_aplC at_ (by cases at_ <;> first | (cases h; done) | simp)
  exact x_wd hts (decide_eq_true_eq.mp h1) rfl
theorem x_apqC : ([4, 5, 6] : List Nat).all (fun t => decide (lw_tbl[(x_apl[t]?).getD 0]? = some (.arrayOver (x_ety t)))) = true := by decide +kernel
theorem x_apq_ok {E : x_Ad} {X : x_Ext} {args : Array Value} {s : State} (hF : x_XF E X s) {t : Nat} {C : String} (h4 : 4 ≤ t) (h7 : t < 7) (hty : x_ety t = .object C) : (Cond.arrayOver (.object C)).before args s = true := by
  have h1 := List.all_eq_true.mp x_apqC t (by
    obtain rfl | rfl | rfl : t = 4 ∨ t = 5 ∨ t = 6 := by omega
    all_goals simp)
  have h2 := decide_eq_true_eq.mp h1
  rw [hty] at h2
  exact x_ng hF h2 rfl
