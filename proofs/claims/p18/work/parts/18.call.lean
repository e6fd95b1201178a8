/-! ===== calls ===== -/
noncomputable def x_wsm (mi : Nat) : List Cond := .code (x_y mi) (x_b mi) (x_ml mi) (x_rt mi) :: x_gw
noncomputable def x_Pre (E : x_Ad) (X : x_Ext) (G : x_G) (as : List Value) : Array Value → State → Prop := va_Pc (as.map (x_cv E.2.2.1 E.2.2.2)) (fun U => x_KA E U ∧ x_HR E G U.heap ∧ x_XF E X U)
noncomputable def x_Post (E : x_Ad) (G' : x_G) (v : Option Value) : Array Value → State → Outcome → State → Prop := fun _ st oc t => oc = .returned (v.map (x_cv E.2.2.1 E.2.2.2)) ∧ x_HR E G' t.heap ∧ va_F (x_Ao E) st t
/-- what must be so of the tables, all of it -/
noncomputable def x_CHK : Prop := (∀ mi pc row, x_row mi pc = some row → x_chk (x_y mi) (x_b mi) pc row = true) ∧ ∀ mi, mi < n_L_law → x_okM mi
theorem x_chkM_spec {mi : Nat} (h0 : x_okM mi) : plainName (x_y mi).cls = true ∧ ((x_y mi).cls ≠ "java/lang/invoke/MethodHandle" ∧ (x_y mi).cls ≠ "java/lang/invoke/VarHandle") ∧ lw_tbl[(x_pl mi).1]? = some (.code (x_y mi) (x_b mi) (x_ml mi) (x_rt mi)) ∧ x_ml mi ≤ 20 ∧ lw_tbl[(x_pl mi).2.2.2]? = some (.initialized (x_y mi).cls) ∧
    (x_stat mi = true → lw_tbl[(x_pl mi).2.1]? = some (.static (x_y mi))) ∧ (x_stat mi = false → lw_tbl[(x_pl mi).2.1]? = some (.instanceMethod (x_y mi)) ∧ ((x_y mi).name = "<init>" ∨ lw_tbl[(x_pl mi).2.2.1]? = some (.selects (x_y mi).cls (x_y mi) (x_y mi)))) ∧
    (x_mci mi = 99 ∨ (x_mci mi = 100 ∧ (x_y mi).cls = "java/lang/String") ∨ (vwCl[x_mci mi]?).map (fun q => q.1) = some (x_y mi).cls) := by
  obtain ⟨h, h3⟩ := h0
  unfold x_chkM at h
  simp only [Bool.and_eq_true, decide_eq_true_eq] at h
  obtain ⟨⟨⟨⟨⟨h1, h2⟩, h4⟩, h5⟩, h6⟩, h7⟩ := h
  refine ⟨h1, h2, h3, h4, h5, fun hs => ?_, fun hs => ?_, ?_⟩
  · rw [if_pos hs] at h6; exact decide_eq_true_eq.mp h6
  · rw [if_neg (by rw [hs]; decide)] at h6
    simp only [Bool.and_eq_true, Bool.or_eq_true, decide_eq_true_eq] at h6
    exact h6
  · simp only [Bool.or_eq_true, Bool.and_eq_true, decide_eq_true_eq] at h7
    rcases h7 with (h7 | h7) | h7
    · exact Or.inl h7
    · exact Or.inr (Or.inl h7)
    · exact Or.inr (Or.inr h7)
section XCALL
variable {p : Program} {l : Launch} {e : Env} {R : Room} {s : State} {m : MethodId} {args : Array Value} {below : List Frame} {meth : Method} {c : Code} {H : Heap} {locs : List Loc} {cells slots : Nat} {Q : State → Prop}
variable {pc : Nat} {ls : Array Slot} {E : x_Ad} {G : x_G} {X : x_Ext} {mi : Nat}
theorem x_after {mc ms : Nat} {rest st0 : List Value} {Qa : State → Outcome → State → Prop} {free : Addr → Prop} (hr : va_Run p l e R s m args below meth c H locs cells slots mc ms (F0 m pc ls st0) rest Qa free)
    (k : ∀ (v : Option Value) (st₀ t : State) (H1 : Heap) (L : List Loc), st₀.heap = H → (∀ q ∈ L, free q.base) → t.heap = H1 → Qa st₀ (.returned v) t → W p l e R s m args below meth c H1 (locs ++ L) (cells + mc) (slots + ms) Q (F0 m (pc + 3) ls (v.toList ++ rest))) : W p l e R s m args below meth c H locs cells slots Q (F0 m pc ls st0) := by
  intro T hT X
  obtain ⟨v, st₀, t, T', L, h0, X', hL, e1, e2, hq, st⟩ := hr T hT X
  obtain ⟨t2, a1, b1⟩ := k v st₀ t T'.heap L h0 hL e1.symm hq T' rfl X'
  exact ⟨t2, st t2 a1, b1⟩
theorem x_Pre_blind (as : List Value) : FrameBlind (x_Pre E X G as) := by
  intro a U g mk q
  obtain ⟨q1, q2, q3, q4⟩ := q
  exact ⟨q1, x_KA.moved (u := U) (U := U.calling g mk a) (Vm.Alike.refl U.vm) q2, q3, x_XF_same (u := U) (U := U.calling g mk a) q4 rfl rfl⟩
theorem x_Pre_at (hK : x_KA E s) (hF : x_XF E X s) (hH : x_HR E G H) (hS : va_S (x_Ao E) s.heap H locs) {as : List Value} {av : Array Value} (ha : av = (as.map (x_cv E.2.2.1 E.2.2.2)).toArray) (U : State) (hU : U.heap = H) (hW : s.WarmedH U.vm) : x_Pre E X G as av U :=
  ⟨ha, x_KA.moved hW.alike hK, by rw [hU]; exact hH, x_XF_moved hF hU hW hS⟩
/-- the call's link -/
theorem x_link (hts : ∀ w ∈ x_gw, w.before args s = true) (hF : x_XF E X s) {idx a q : Nat} (h : (match lw_tbl[q]? with
    | some (.methodLink own i y) => decide (own = (x_y mi).cls) && decide (i = idx) && decide (y = x_y a)
    | some (.methodLinkNest own i y _) => decide (own = (x_y mi).cls) && decide (i = idx) && decide (y = x_y a)
    | _ => false) = true) : (Cond.methodLink (x_y mi).cls idx (x_y a)).before args s = true ∨ ∃ host, (Cond.methodLinkNest (x_y mi).cls idx (x_y a) host).before args s = true := by
  split at h
  next own i y e2 =>
    simp only [Bool.and_eq_true, decide_eq_true_eq] at h
    obtain ⟨⟨rfl, rfl⟩, rfl⟩ := h
    exact Or.inl (x_wd hts e2 rfl)
  next own i y ho e2 =>
    simp only [Bool.and_eq_true, decide_eq_true_eq] at h
    obtain ⟨⟨rfl, rfl⟩, rfl⟩ := h
    exact Or.inr ⟨ho, x_ng hF e2 rfl⟩
  next => cases h
theorem x_gw_good {w : Cond} (h : w ∈ x_gw) : goodWord w = true := (List.mem_filter.mp h).2
theorem x_ws_warm (hts : ∀ w ∈ x_gw, w.before args s = true) {a : Nat} (hM : x_okM a) : ∀ w ∈ x_wsm a, ∀ (a' : Array Value) (U : State), s.WarmedH U.vm → w.before a' U = true := by
  have hc : Cond.code (x_y a) (x_b a) (x_ml a) (x_rt a) ∈ x_gw := List.mem_filter.mpr ⟨List.mem_of_getElem? (x_chkM_spec hM).2.2.1, rfl⟩
  have h1 : ∀ w ∈ x_wsm a, w ∈ x_gw := fun w hw => (List.mem_cons.mp hw).elim (fun q => q ▸ hc) id
  exact pay_in hts (fun w hw => ⟨h1 w hw, good_of_word (x_gw_good (h1 w hw))⟩)
/-- a method of ours, called: from its contract to what stands behind the call -/
theorem x_call_ok (C0 : x_Cx p s m args meth c mi) (hK : x_KA E s) (hF : x_XF E X s) (hH : x_HR E G H) (hS : va_S (x_Ao E) s.heap H locs) (hsz : ls.size = x_ml mi) {ins : Instr} {idx a b q kind : Nat} (hins : (kind = 0 ∧ ins = .invokevirtual idx) ∨ (kind = 1 ∧ ins = .invokespecial idx) ∨ (kind = 2 ∧ ins = .invokestatic idx)) (hd : decode (x_b mi) pc = .ok (ins, 3)) (hw : x_chkC (x_y mi) idx a b q kind = true) (ha0 : ¬ a = 1000) (ha1 : ¬ a = 1001) (ha2 : ¬ (a = 1002 ∨ a = 1003))
    (hall : ∀ mi, mi < n_L_law → x_okM mi) {st : List Value} {d mc ms : Nat} (hd1 : 1 ≤ d) (hb : b ≤ st.length) (hr8 : x_words (st.drop b) ≤ 8) (hrcv : x_stat a = true ∨ x_rcv a G (st.take b).reverse = true) {G1 : x_G} {v : Option Value}
    (hM : Met l (x_y a) (x_wsm a) ({ frames := d - 1, cells := mc, slots := ms, locals := 64 * (d - 1) } : Room) (x_Pre E X G (st.take b).reverse) (x_Post E G1 v) mc ms (x_Ao E)) (hfr : d ≤ R.frames) (hlo : 64 * d ≤ R.locals) (hcc : cells + mc ≤ R.cells) (hss : slots + ms ≤ R.slots)
    (k : ∀ (H1 : Heap) (locs1 : List Loc), x_HR E G1 H1 → va_S (x_Ao E) s.heap H1 locs1 → W p l e R s m args below meth c H1 locs1 (cells + mc) (slots + ms) Q (F0 m (pc + 3) ls ((v.toList ++ st.drop b).map (x_cv E.2.2.1 E.2.2.2)))) : W p l e R s m args below meth c H locs cells slots Q (F0 m pc ls (st.map (x_cv E.2.2.1 E.2.2.2))) := by
  obtain ⟨hx, hbb, hml, hown, hts, hinit⟩ := C0
  unfold x_chkC at hw
  rw [if_neg ha0, if_neg ha1, if_neg ha2] at hw
  simp only [Bool.and_eq_true, decide_eq_true_eq] at hw
  obtain ⟨⟨hlt, hlk⟩, hkd⟩ := hw
  have hMa := hall a hlt
  obtain ⟨-, hcn, hcode, hml20, hini, hstat, hinst, hcls⟩ := x_chkM_spec hMa
  have hlink := x_link (mi := mi) hts hF hlk
  have hwarm := x_ws_warm hts hMa
  have hroom : (d - 1) + 1 ≤ R.frames ∧ 8 + (x_ml a + 11) + 64 * (d - 1) ≤ R.locals := ⟨by omega, by omega⟩
  have hcodeb : (Cond.code (x_y a) (x_b a) (x_ml a) (x_rt a)).before args s = true := x_wd hts hcode rfl
  have hinib : (Cond.initialized (x_y a).cls).before args s = true := x_wd hts hini rfl
  have hcin : Cond.code (x_y a) (x_b a) (x_ml a) (x_rt a) ∈ x_wsm a := List.mem_cons_self
  have hrest : ((st.drop b).map (x_cv E.2.2.1 E.2.2.2)).map (fun v => v.category) = (st.drop b).map (fun v => v.category) := by
    rw [List.map_map]; congr 1; funext v; exact x_cv_cat _ _ v
  have hW8 : 2 * (F0 m pc ls (st.map (x_cv E.2.2.1 E.2.2.2))).monitorRoom + (((st.drop b).map (x_cv E.2.2.1 E.2.2.2)).map fun v => v.category).sum ≤ 8 := by
    rw [hrest]; show 2 * 0 + _ ≤ 8; unfold x_words at hr8; omega
  have hfin : ∀ {rest : List Value}, rest = (st.drop b).map (x_cv E.2.2.1 E.2.2.2) → ∀ {as : Array Value}, va_Run p l e R s m args below meth c H locs cells slots mc ms (F0 m pc ls (st.map (x_cv E.2.2.1 E.2.2.2))) rest (x_Post E G1 v as) (x_Ao E) → W p l e R s m args below meth c H locs cells slots Q (F0 m pc ls (st.map (x_cv E.2.2.1 E.2.2.2))) := by
    intro rest hre as hrun
    refine x_after hrun fun v' st₀ t H1 L h0 hL h1 hq => ?_
    obtain ⟨hv, hHR, hFr⟩ := hq
    have hv' : v' = v.map (x_cv E.2.2.1 E.2.2.2) := Outcome.returned.inj hv
    subst hv'
    subst hre
    have e9 : (v.map (x_cv E.2.2.1 E.2.2.2)).toList ++ (st.drop b).map (x_cv E.2.2.1 E.2.2.2) = (v.toList ++ st.drop b).map (x_cv E.2.2.1 E.2.2.2) := by
      cases v <;> simp
    rw [e9]
    subst h1
    rw [← h0] at hS hH
    refine k _ _ hHR (x_S_step hS hFr.1 (fun q hq => hFr.2 q (by rw [hH.1]; omega) (Nat.not_le.mpr hq)) hL)
  have hsplit : st.map (x_cv E.2.2.1 E.2.2.2) = ((st.take b).reverse.map (x_cv E.2.2.1 E.2.2.2)).reverse ++ (st.drop b).map (x_cv E.2.2.1 E.2.2.2) := by
    rw [← List.map_reverse, List.reverse_reverse, ← List.map_append, List.take_append_drop]
  have hlen : (st.take b).reverse.length = b := by simp [hb]
  have S : CallFix p m c (x_b mi) (x_ml mi) s args x_gw (x_y mi).cls := ⟨hx, hbb, hml, hown, hts⟩
  cases hst : x_stat a with
  | true =>
    have hk2 : kind = 2 ∧ (parseMethodDescriptor (x_y a).desc).map (fun d => d.parameters.length) = some b := by
      rcases hins with ⟨rfl, -⟩ | ⟨rfl, -⟩ | ⟨rfl, -⟩
      · simp [hst] at hkd
      · simp [hst] at hkd
      · simp [hst] at hkd; exact ⟨rfl, by simpa using hkd⟩
    obtain ⟨rfl, hpar⟩ := hk2
    obtain rfl : ins = .invokestatic idx := by
      rcases hins with ⟨h, -⟩ | ⟨h, -⟩ | ⟨-, h⟩
      · cases h
      · cases h
      · exact h
    have hsb : (Cond.static (x_y a)).before args s = true := x_wd hts (hstat hst) rfl
    have hnp : ∀ sig, parseMethodDescriptor (x_y a).desc = some sig → b = sig.parameters.length := fun sig h => by rw [h] at hpar; exact (Option.some.inj hpar).symm
    have hpre : PreS s H (x_Pre E X G (st.take b).reverse) ((st.take b).reverse.map (x_cv E.2.2.1 E.2.2.2)) := ⟨x_Pre_blind _, fun U hU hW => x_Pre_at hK hF hH hS rfl U hU hW⟩
    rcases hlink with hlink | ⟨host, hlink⟩
    · exact hfin rfl (va_runS S hM ⟨⟨rfl, rfl, hroom.1, hroom.2, hwarm, hcin, hcodeb, hinib, hcn, hnp, hlink⟩, hsb⟩ hpre rfl (by simpa using hlen) hsz hsplit hW8 hd ⟨hcc, hss⟩)
    · exact hfin rfl (va_runSN S hM ⟨⟨⟨rfl, rfl, hroom.1, hroom.2, hwarm, hcin⟩, hcodeb, hinib, hcn, hnp, hlink⟩, hsb, trivial⟩ hpre rfl (by simpa using hlen) hsz hsplit hW8 hd ⟨hcc, hss⟩)
  | false =>
    obtain ⟨him, hsel⟩ := hinst hst
    have himb : (Cond.instanceMethod (x_y a)).before args s = true := x_wd hts him rfl
    have hrc : x_rcv a G (st.take b).reverse = true := hrcv.resolve_left (by rw [hst]; decide)
    -- the receiver
    obtain ⟨rv, As, has, hcellB, hrvr⟩ : ∃ rv As, (st.take b).reverse = rv :: As ∧ (∀ bb, x_cv E.2.2.1 E.2.2.2 rv = .ref bb → ∃ cellB : Cell, H[bb]? = some cellB ∧ cellB.vm.isStatics = false ∧ s.vm.findClass (x_y a).cls = some cellB.cls) ∧ ∃ bb, x_cv E.2.2.1 E.2.2.2 rv = .ref bb := by
      unfold x_rcv at hrc
      split at hrc
      · next k0 r0 heq =>
        refine ⟨_, _, heq, ?_, _, rfl⟩
        intro bb hbb
        cases hbb
        split at hrc
        · next ci hci =>
          simp only [Bool.and_eq_true, beq_iff_eq, decide_eq_true_eq] at hrc
          obtain ⟨rfl, hlt2⟩ := hrc
          obtain ⟨cell, q1, q2, q3, -⟩ := hH.2 _ _ hci
          refine ⟨cell, q1, by rw [q3]; rfl, ?_⟩
          have hvw : (vwCl[x_mci a]?).map (fun q => q.1) = some (x_y a).cls := by
            rcases hcls with h99 | ⟨h100, -⟩ | hvw
            · omega
            · omega
            · exact hvw
          cases hq : vwCl[x_mci a]? with
          | none => rw [hq] at hvw; cases hvw
          | some qq =>
            rw [hq] at hvw
            have hnm : qq.1 = (x_y a).cls := Option.some.inj hvw
            rw [q2, ← hnm]
            exact (hK.1 _ _ hq).2.1
        · cases hrc
      · next i r0 heq =>
        simp only [Bool.and_eq_true, beq_iff_eq] at hrc
        obtain ⟨rfl, h100⟩ := hrc
        obtain ⟨qa, g1, -, g0⟩ := hF.2.2.2.2.1
        refine ⟨_, _, heq, ?_, qa, x_cv_ext g1⟩
        intro bb hbb
        rw [x_cv_ext g1] at hbb
        cases hbb
        have hstr : (x_y a).cls = "java/lang/String" := by
          rcases hcls with h99 | ⟨-, h⟩ | hvw
          · omega
          · exact h
          · rw [h100, List.getElem?_eq_none (by simp [vwCl])] at hvw; cases hvw
        obtain ⟨cell2, f1, f2, f3, f4⟩ := g0.kept hS.2.1
        exact ⟨cell2, f1, f2, by rw [hstr]; exact f3⟩
      · cases hrc
    obtain ⟨bb, hbb⟩ := hrvr
    have hcb := hcellB bb hbb
    have hpre : PreV s H (x_y a).cls bb (x_Pre E X G (st.take b).reverse) (As.map (x_cv E.2.2.1 E.2.2.2)) := ⟨x_Pre_blind _, hcb, fun U hU hW => x_Pre_at hK hF hH hS (by rw [has, List.map_cons, hbb]) U hU hW⟩
    have hsp : st.map (x_cv E.2.2.1 E.2.2.2) = (As.map (x_cv E.2.2.1 E.2.2.2)).reverse ++ .ref bb :: (st.drop b).map (x_cv E.2.2.1 E.2.2.2) := by
      rw [hsplit, has, List.map_cons, hbb, List.reverse_cons, List.append_assoc]; rfl
    have hAl : As.length + 1 = b := by rw [← hlen, has]; rfl
    have hav : (Value.ref bb :: As.map (x_cv E.2.2.1 E.2.2.2)).toArray = ((st.take b).reverse.map (x_cv E.2.2.1 E.2.2.2)).toArray := by rw [has, List.map_cons, hbb]
    rcases hins with ⟨rfl, rfl⟩ | ⟨rfl, rfl⟩ | ⟨rfl, rfl⟩
    · simp [hst] at hkd
      have hnp : ∀ sig, parseMethodDescriptor (x_y a).desc = some sig → b - 1 = sig.parameters.length := fun sig h => by
        have h1 := hkd.1; rw [h] at h1; simp at h1; omega
      have hselb : (Cond.selects (x_y a).cls (x_y a) (x_y a)).before args s = true := x_wd hts (hsel.resolve_left hkd.2) rfl
      rcases hlink with hlink | ⟨host, hlink⟩
      · exact hfin rfl (va_runV S hM ⟨⟨rfl, rfl, hroom.1, hroom.2, hwarm, hcin, hcodeb, hinib, hcn, hnp, hlink⟩, himb, hselb⟩ hpre rfl (by rw [List.length_map]; omega) hsz hsp hW8 hd ⟨hcc, hss⟩)
      · exact hfin rfl (va_runVN S hM ⟨⟨⟨rfl, rfl, hroom.1, hroom.2, hwarm, hcin⟩, hcodeb, hinib, hcn, hnp, hlink⟩, himb, hselb⟩ hpre rfl (by rw [List.length_map]; omega) hsz hsp hW8 hd ⟨hcc, hss⟩)
    · simp [hst] at hkd
      have hnp : ∀ sig, parseMethodDescriptor (x_y a).desc = some sig → b - 1 = sig.parameters.length := fun sig h => by
        have h1 := hkd.1.1; rw [h] at h1; simp at h1; omega
      have hrt : x_rt a = none := hkd.2
      rw [hrt] at hcodeb hcin
      have hpreS : PreS s H (x_Pre E X G (st.take b).reverse) (.ref bb :: As.map (x_cv E.2.2.1 E.2.2.2)) := ⟨x_Pre_blind _, fun U hU hW => x_Pre_at hK hF hH hS hav U hU hW⟩
      rcases hlink with hlink | ⟨host, hlink⟩
      · exact hfin rfl (va_runI S hM ⟨⟨rfl, rfl, hroom.1, hroom.2, hwarm, hcin, hcodeb, hinib, hcn, hnp, hlink⟩, hkd.1.2, himb⟩ hpreS rfl (by rw [List.length_map]; omega) hsz hsp hW8 hd ⟨hcc, hss⟩)
      · exact hfin rfl (va_runIN S hM ⟨⟨⟨rfl, rfl, hroom.1, hroom.2, hwarm, hcin⟩, hcodeb, hinib, hcn, hnp, hlink⟩, hkd.1.2, himb⟩ hpreS rfl (by rw [List.length_map]; omega) hsz hsp hW8 hd ⟨hcc, hss⟩)
    · simp [hst] at hkd
end XCALL
