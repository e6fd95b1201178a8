/-! ===== THE SHADOW MACHINE IS SOUND: what it runs to, the machine runs to ===== -/
theorem x_objC : lw_tbl[x_objpl.1]? = some (.instanceMethod Lib.objectInit) ∧ lw_tbl[x_objpl.2]? = some (.code Lib.objectInit ⟨#[0xb1]⟩ 1 none) := by decide +kernel
theorem x_cpyC : lw_tbl[x_cpypl.1]? = some (.native arraycopyName) ∧ lw_tbl[x_cpypl.2.1]? = some (.static arraycopyName) ∧ lw_tbl[x_cpypl.2.2]? = some (.initialized "java/lang/System") := by decide +kernel
theorem x_lvargs (bs : Nat) (xa : Nat → Option Nat) : ∀ (i : Nat) (as : List Value), lv_args i (as.map (x_cv bs xa)) = x_cl bs xa (lv_args i as)
  | _, [] => rfl
  | i, v :: as => by
    show (i, x_cv bs xa v) :: lv_args (if (x_cv bs xa v).category = 2 then i + 2 else i + 1) (as.map (x_cv bs xa)) = (i, x_cv bs xa v) :: x_cl bs xa (lv_args (if v.category = 2 then i + 2 else i + 1) as)
    rw [x_cv_cat, x_lvargs]
theorem x_lgsl (vs : List Value) : (lg_sl vs).length = x_words vs := by
  unfold lg_sl x_words
  induction vs with
  | nil => rfl
  | cons v vs ih =>
    rw [List.flatMap_cons, List.length_append, ih, List.map_cons, List.sum_cons]
    congr 1
    rcases lv_cat v with h | h <;> simp [h]
theorem x_words_cv (bs : Nat) (xa : Nat → Option Nat) (vs : List Value) : x_words (vs.map (x_cv bs xa)) = x_words vs := by
  unfold x_words
  rw [List.map_map]
  congr 2
  funext v
  exact x_cv_cat _ _ v
theorem x_words_rev (vs : List Value) : x_words vs.reverse = x_words vs := by
  unfold x_words
  rw [List.map_reverse, List.sum_reverse]
theorem x_ret_len {rt : Option FieldType} {ins : Instr} {st : List Value} {v : Option Value} (h : x_ret rt ins st = some v) : x_cat ins = 5 := by
  unfold x_ret at h
  split at h
  · rfl
  · rfl
  · rfl
  · cases h
theorem x_maxC : lw_tbl[x_mmaxpl.1]? = some (.static Lib.Math.max.name) ∧ lw_tbl[x_mmaxpl.2.1]? = some (.initialized "java/lang/Math") ∧ lw_tbl[x_mmaxpl.2.2]? = some (.code Lib.Math.max.name Lib.Math.max.code 2 (some .int)) := by decide +kernel
theorem x_minC : lw_tbl[x_mminpl.1]? = some (.static Lib.Math.min.name) ∧ lw_tbl[x_mminpl.2.1]? = some (.initialized "java/lang/Math") ∧ lw_tbl[x_mminpl.2.2]? = some (.code Lib.Math.min.name Lib.Math.min.code 2 (some .int)) := by decide +kernel
section XSND
variable {X : x_Ext} {E : x_Ad}
set_option maxHeartbeats 4000000 in
theorem x_sound (hC : x_CHK) : ∀ (n d mi pc : Nat) (lo : x_Lo) (st : List Value) (G : x_G) (v : Option Value) (Gf : x_G), x_exec X n d mi pc lo st G = some (v, Gf) →
    ∀ {p : Program} {l : Launch} {e : Env} {R : Room} {s : State} {m : MethodId} {args : Array Value} {below : List Frame} {meth : Method} {c : Code} {H : Heap} {locs : List Loc} {cells slots : Nat} {Q : State → Prop} {ls : Array Slot} {fc fs : Nat},
    x_Cx p s m args meth c mi → x_KA E s → x_XF E X s → x_HR E G H → va_S (x_Ao E) s.heap H locs → lv_has ls (x_ml mi) (x_cl E.2.2.1 E.2.2.2 lo) → d ≤ R.frames → 64 * d ≤ R.locals →
    fc + G.1.length = cells + Gf.1.length → fs + x_nS G = slots + x_nS Gf → fc ≤ R.cells → fs ≤ R.slots →
    (∀ (pc' : Nat) (ls' : Array Slot) (st' : List Value) (H' : Heap) (locs' : List Loc) (ins : Instr), decode (x_b mi) pc' = .ok (ins, 1) → x_ret (x_rt mi) ins st' = some v → x_HR E Gf H' → va_S (x_Ao E) s.heap H' locs' → W p l e R s m args below meth c H' locs' fc fs Q (F0 m pc' ls' (st'.map (x_cv E.2.2.1 E.2.2.2)))) →
    W p l e R s m args below meth c H locs cells slots Q (F0 m pc ls (st.map (x_cv E.2.2.1 E.2.2.2))) := by
  intro n
  induction n with
  | zero => intro d mi pc lo st G v Gf h; cases h
  | succ n ih =>
    intro d mi pc lo st G v Gf h p l e R s m args below meth c H locs cells slots Q ls fc fs C0 hK hF hH hS hl hfr hlo hfc hfs hcR hsR fin
    have C00 := C0
    obtain ⟨hx, hb, hml, hown, hts, hinit⟩ := C00
    unfold x_exec at h
    split at h
    · cases h
    · next ins len a b q z hrow =>
      have hchk := hC.1 mi pc _ hrow
      simp only [x_chk, Bool.and_eq_true, decide_eq_true_eq] at hchk
      obtain ⟨⟨hdec, hO⟩, hw⟩ := hchk
      have hlen : ∀ {k : Nat}, x_cat ins = k → k ≠ 2 → len = x_len ins := by
        intro k hk h2
        unfold x_chkO at hO
        rw [if_neg (by rw [hk]; exact h2)] at hO
        exact decide_eq_true_eq.mp hO
      split at h
      · next hcat =>
        have hl2 := hlen hcat (by decide)
        subst hl2
        split at h
        · next st' hst =>
          exact x_alu_ok hx hb hdec hst (ih _ _ _ _ _ _ _ _ h C0 hK hF hH hS hl hfr hlo hfc hfs hcR hsR fin)
        · cases h
      · next hcat =>
        have hl2 := hlen hcat (by decide)
        subst hl2
        split at h
        · next lo' st' hst =>
          exact x_loc_ok hx hb hdec hst hl fun ls' hl' => ih _ _ _ _ _ _ _ _ h C0 hK hF hH hS hl' hfr hlo hfc hfs hcR hsR fin
        · cases h
      · next hcat =>
        unfold x_chkO at hO
        rw [if_pos hcat] at hO
        split at h
        · next pc' st' hst =>
          refine x_br_ok hx hb hF.2.2.2.2.2 hdec (fun hne => ?_) (fun o ho => ?_) hst (ih _ _ _ _ _ _ _ _ h C0 hK hF hH hS hl hfr hlo hfc hfs hcR hsR fin)
          · split at hO
            · simp only [Bool.and_eq_true, decide_eq_true_eq] at hO; exact hO.1
            · next hn => exact absurd hn hne
          · rw [ho] at hO
            simp only [Bool.and_eq_true, decide_eq_true_eq] at hO; exact hO.2
        · cases h
      · next hcat =>
        have hl2 := hlen hcat (by decide)
        subst hl2
        split at h
        · next st' G' hst =>
          have hle := x_exec_le _ _ _ _ _ _ _ _ _ h
          have hle0 := x_heap_le hst
          obtain ⟨c', hc'⟩ : ∃ c', c' + G.1.length = cells + G'.1.length := ⟨cells + G'.1.length - G.1.length, by omega⟩
          obtain ⟨s', hs'⟩ : ∃ s', s' + x_nS G = slots + x_nS G' := ⟨slots + x_nS G' - x_nS G, by omega⟩
          exact x_heap_ok C0 hK hF hH hS hdec hw hst hc' hs' (by omega) (by omega) fun H1 locs1 hH1 hS1 => ih _ _ _ _ _ _ _ _ h C0 hK hF hH1 hS1 hl hfr hlo (by omega) (by omega) hcR hsR fin
        · cases h
      · next hcat =>
        have hl2 := hlen hcat (by decide)
        have hl3 : len = 3 := by rw [hl2]; cases ins <;> first | rfl | (simp [x_cat] at hcat)
        subst hl3
        split at h
        · next ha =>
          -- Object.<init>
          subst ha
          split at h
          · next k0 r =>
            split at h
            · next hdr =>
              obtain ⟨i0, rfl, hlk⟩ : ∃ i0, ins = .invokespecial i0 ∧ lw_tbl[q]? = some (.methodLink (x_y mi).cls i0 Lib.objectInit) := by
                cases ins <;> first | (simp [x_cat] at hcat; done) | skip
                all_goals (unfold x_chkW at hw; dsimp only at hw; unfold x_chkC at hw; rw [if_pos rfl] at hw)
                · simp only [Bool.and_eq_true] at hw
                  have hw := hw.2
                  split at hw
                  · next own i y e2 =>
                    simp only [Bool.and_eq_true, decide_eq_true_eq] at hw
                    obtain ⟨⟨rfl, rfl⟩, rfl⟩ := hw
                    exact ⟨_, rfl, e2⟩
                  · cases hw
                · simp at hw
                · simp at hw
              have hr8 := hdr.2
              refine W.objInit hx hb hown (x_wd hts hlk rfl) (x_wd hts x_objC.1 rfl) (x_wd hts x_objC.2 rfl) rfl (by rw [hml]; exact hl.1) rfl hdec (by omega) ?_ ?_
              · have := x_words_cv E.2.2.1 E.2.2.2 r
                unfold x_words at this hr8
                show 2 * 0 + _ + 12 ≤ _
                omega
              · exact ih _ _ _ _ _ _ _ _ h C0 hK hF hH hS hl hfr hlo hfc hfs hcR hsR fin
            · cases h
          · cases h
        · next ha =>
          split at h
          · next ha1 =>
            subst ha1
            split at h
            · next n' dp k1 sp k0 =>
              split at h
              · next t0 n0 t1 n1 hk0 hk1 =>
                split at h
                · next hcond =>
                  obtain ⟨rfl, ht2, hd1, h1, h2, h3, h4, h5⟩ := hcond
                  obtain ⟨i0, rfl, hlk⟩ : ∃ i0, ins = .invokestatic i0 ∧ lw_tbl[q]? = some (.methodLink (x_y mi).cls i0 arraycopyName) := by
                    cases ins <;> first | (simp [x_cat] at hcat; done) | skip
                    all_goals (unfold x_chkW at hw; dsimp only at hw; unfold x_chkC at hw; rw [if_neg (by decide), if_pos rfl] at hw)
                    · simp at hw
                    · simp only [Bool.and_eq_true] at hw
                      have hw := hw.2
                      split at hw
                      · next own i y e2 =>
                        simp only [Bool.and_eq_true, decide_eq_true_eq] at hw
                        obtain ⟨⟨rfl, rfl⟩, rfl⟩ := hw
                        exact ⟨_, rfl, e2⟩
                      · cases hw
                    · simp at hw
                  refine x_cpy_ok hx hb (by rw [hml]; exact hl.1.symm) hK hH hown (x_wd hts hlk rfl) (x_wd hts x_cpyC.1 rfl) (x_wd hts x_cpyC.2.1 rfl) (x_wd hts x_cpyC.2.2 rfl) ht2 hk0 hk1 h1 h2 h3 h4 h5 (by omega) (by omega) hdec fun H1 L hL hH1 hlow => ?_
                  refine ih _ _ _ _ _ _ _ _ h C0 hK hF hH1 (x_S_step hS (by rw [hH1.1, hH.1, x_cpy_1]; exact Nat.le_refl _) hlow (fun zz hz => by rw [hL zz hz]; omega)) hl hfr hlo (by rw [x_cpy_1]; exact hfc) (by rw [x_nS_eq (x_cpy_1 _ _ _ _ _ _ _)]; exact hfs) hcR hsR fin
                · cases h
              · cases h
            · cases h
          · next ha1 =>
            split at h
            · next ha2 =>
              split at h
              · next y x r =>
                split at h
                · next hdr =>
                  obtain ⟨i0, rfl, hlk⟩ : ∃ i0, ins = .invokestatic i0 ∧ lw_tbl[q]? = some (.methodLink (x_y mi).cls i0 (if a = 1002 then Lib.Math.max.name else Lib.Math.min.name)) := by
                    cases ins <;> first | (simp [x_cat] at hcat; done) | skip
                    all_goals (unfold x_chkW at hw; dsimp only at hw; unfold x_chkC at hw; rw [if_neg ha, if_neg ha1, if_pos ha2] at hw)
                    · simp at hw
                    · simp only [Bool.and_eq_true] at hw
                      have hw := hw.2
                      split at hw
                      · next own i y e2 =>
                        simp only [Bool.and_eq_true, decide_eq_true_eq] at hw
                        obtain ⟨⟨rfl, rfl⟩, rfl⟩ := hw
                        exact ⟨_, rfl, e2⟩
                      · cases hw
                    · simp at hw
                  have hr8 := hdr.2
                  have hrw := x_words_cv E.2.2.1 E.2.2.2 r
                  unfold x_words at hrw hr8
                  have hle2 := x_exec_le _ _ _ _ _ _ _ _ _ h
                  have hk := ih _ _ _ _ _ _ _ _ h C0 hK hF hH hS hl hfr hlo hfc hfs hcR hsR fin
                  rcases ha2 with rfl | rfl
                  · rw [if_pos rfl] at hlk
                    exact va_mmax hx hb (by rw [hml]; exact hl.1.symm) hown (x_wd hts hlk rfl) (x_wd hts x_maxC.1 rfl) (x_wd hts x_maxC.2.1 rfl) (x_wd hts x_maxC.2.2 rfl) (by omega) (by omega) (by omega) (by omega) hdec hk
                  · rw [if_neg (by decide)] at hlk
                    exact va_mmin hx hb (by rw [hml]; exact hl.1.symm) hown (x_wd hts hlk rfl) (x_wd hts x_minC.1 rfl) (x_wd hts x_minC.2.1 rfl) (x_wd hts x_minC.2.2 rfl) (by omega) (by omega) (by omega) (by omega) hdec hk
                · cases h
              · cases h
            · next ha2 =>
              split at h
              · next hcond =>
                split at h
                · next v1 G1 hcall =>
                  obtain ⟨hd1, hbl, hr8, hwm, hrcv⟩ := hcond
                  have hle1 := x_exec_le _ _ _ _ _ _ _ _ _ hcall
                  have hle2 := x_exec_le _ _ _ _ _ _ _ _ _ h
                  obtain ⟨idx, kind, hins, hwc⟩ : ∃ idx kind, ((kind = 0 ∧ ins = .invokevirtual idx) ∨ (kind = 1 ∧ ins = .invokespecial idx) ∨ (kind = 2 ∧ ins = .invokestatic idx)) ∧ x_chkC (x_y mi) idx a b q kind = true := by
                    cases ins <;> first | (simp [x_cat] at hcat; done) | skip
                    · exact ⟨_, 1, Or.inr (Or.inl ⟨rfl, rfl⟩), hw⟩
                    · exact ⟨_, 2, Or.inr (Or.inr ⟨rfl, rfl⟩), hw⟩
                    · exact ⟨_, 0, Or.inl ⟨rfl, rfl⟩, hw⟩
                  have halt : a < n_L_law := by
                    unfold x_chkC at hwc
                    rw [if_neg ha, if_neg ha1, if_neg ha2] at hwc
                    simp only [Bool.and_eq_true, decide_eq_true_eq] at hwc
                    exact hwc.1.1
                  have hMa := x_chkM_spec (hC.2 a halt)
                  obtain ⟨mc, hmc⟩ : ∃ mc, mc + G.1.length = G1.1.length := ⟨G1.1.length - G.1.length, by omega⟩
                  obtain ⟨ms, hms⟩ : ∃ ms, ms + x_nS G = x_nS G1 := ⟨x_nS G1 - x_nS G, by omega⟩
                  have hM : Met l (x_y a) (x_wsm a) ({ frames := d - 1, cells := mc, slots := ms, locals := 64 * (d - 1) } : Room) (x_Pre E X G (st.take b).reverse) (x_Post E G1 v1) mc ms (x_Ao E) := by
                    refine Met.ofW (cc := x_b a) (maxL := x_ml a) (ret := x_rt a) hMa.1 rfl ?_
                    intro p e s m args below meth c s₁ B hml' hv
                    obtain ⟨rfl, hK', hH', hF'⟩ := hv
                    have hts' := atoms_spec (ws := x_wsm a) B.pre
                    have hown' : s.vm.findClass (x_y a).cls = some m.cls := findClass_of_methodNamed B.named
                    have hr' := B.returns
                    have hlk' := B.notSynchronized
                    rw [lg_entry_eq]
                    have hl' := lv_entry ((st.take b).reverse.map (x_cv E.2.2.1 E.2.2.2)) (n := x_ml a) (by rw [x_lgsl, x_words_cv, x_words_rev]; exact hwm)
                    rw [x_lvargs] at hl'
                    have hS' : va_S (x_Ao E) s.heap s.heap [] := va_S.rf
                    refine ih (d - 1) a 0 (lv_args 0 (st.take b).reverse) [] G v1 G1 hcall (cells := 0) (slots := 0) (fc := mc) (fs := ms) ⟨B.exec, B.bytes, hml', hown', fun w hw => hts' w (List.mem_cons_of_mem _ hw), fun hn => by rw [← hn]; exact (name_of_methodNamed B.named B.method).1⟩ hK' hF' hH' hS' hl' (Nat.le_refl _) (Nat.le_refl _) (by omega) (by omega) (Nat.le_refl _) (Nat.le_refl _) ?_
                    intro pc' ls' st' H' locs' ins' hdec' hret hH'' hS''
                    have hpost : ∀ t : State, t.heap = H' → s.WarmedH t.vm → x_Post E G1 v1 ((st.take b).reverse.map (x_cv E.2.2.1 E.2.2.2)).toArray s (.returned (v1.map (x_cv E.2.2.1 E.2.2.2))) t := fun t ht _ => ⟨rfl, by rw [ht]; exact hH'', hS''.F ht⟩
                    unfold x_ret at hret
                    split at hret
                    · split at hret
                      · next hrt => cases hret; rw [hrt] at hr'; exact W.iret B.exec B.bytes hr' hpost hS''.2.2 hdec'
                      · next hrt =>
                        split at hret
                        · next hx01 => cases hret; rw [hrt] at hr'; exact W.zret B.exec B.bytes hr' (by rcases hx01 with rfl | rfl <;> rfl) hpost hS''.2.2 hdec'
                        · cases hret
                      · next hrt =>
                        split at hret
                        · next hnn => cases hret; rw [hrt] at hr'; exact W.zret B.exec B.bytes hr' hnn hpost hS''.2.2 hdec'
                        · cases hret
                      · next hrt =>
                        split at hret
                        · next hnn => cases hret; rw [hrt] at hr'; exact W.zret B.exec B.bytes hr' hnn hpost hS''.2.2 hdec'
                        · cases hret
                      · cases hret
                    · split at hret
                      · next hrt => cases hret; rw [hrt] at hr'; exact W.lret B.exec B.bytes hr' hpost hS''.2.2 hdec'
                      · cases hret
                    · split at hret
                      · next hrt => cases hret; rw [hrt] at hr'; exact W.vret B.exec B.bytes hr' hpost hS''.2.2 hdec'
                      · cases hret
                    · cases hret
                  exact x_call_ok C0 hK hF hH hS hl.1 hins hdec hwc ha ha1 ha2 hC.2 hd1 hbl hr8 hrcv hM hfr hlo (by omega) (by omega) fun H1 locs1 hH1 hS1 => ih _ _ _ _ _ _ _ _ h C0 hK hF hH1 hS1 hl hfr hlo (by omega) (by omega) hcR hsR fin
                · cases h
              · cases h
      · split at h
        · next v' hret =>
          cases h
          have hcat := x_ret_len hret
          have hl2 := hlen hcat (by decide)
          have hl1 : len = 1 := by rw [hl2]; cases ins <;> first | rfl | (simp [x_cat] at hcat)
          subst hl1
          obtain rfl : fc = cells := by omega
          obtain rfl : fs = slots := by omega
          exact fin pc ls st H locs ins hdec hret hH hS
        · cases h
end XSND
