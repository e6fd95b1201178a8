/-! ===== every instruction of the heap ===== -/
theorem x_ar {a b c d : Nat} (h : a + b = c + (b + d)) : a = c + d := by omega
section XHK
variable {p : Program} {l : Launch} {e : Env} {R : Room} {s : State} {m : MethodId} {args : Array Value} {below : List Frame} {meth : Method} {c : Code} {H : Heap} {locs : List Loc} {cells slots : Nat} {Q : State → Prop}
variable {pc : Nat} {ls : Array Slot} {E : x_Ad} {G : x_G} {X : x_Ext} {mi : Nat}
theorem x_cv_ext {bs : Nat} {xa : Nat → Option Nat} {i q : Nat} (h : xa i = some q) : x_cv bs xa (.retAddr i) = .ref q := by simp [x_cv, h, va_rf]
set_option maxHeartbeats 4000000 in
theorem x_heap_ok (C0 : x_Cx p s m args meth c mi) (hK : x_KA E s) (hF : x_XF E X s) (hH : x_HR E G H) (hS : va_S (x_Ao E) s.heap H locs) {ins : Instr} {a b q : Nat} {z : Int} {st st' : List Value} {G' : x_G} (hd : decode (x_b mi) pc = .ok (ins, x_len ins)) (hw : x_chkW (x_y mi) a b q z ins = true) (h : x_heap X a b z ins st G = some (st', G')) {cells' slots' : Nat} (hc : cells' + G.1.length = cells + G'.1.length) (hs : slots' + x_nS G = slots + x_nS G') (hcR : cells' ≤ R.cells) (hsR : slots' ≤ R.slots)
    (k : ∀ (H1 : Heap) (locs1 : List Loc), x_HR E G' H1 → va_S (x_Ao E) s.heap H1 locs1 → W p l e R s m args below meth c H1 locs1 cells' slots' Q (F0 m (pc + x_len ins) ls (st'.map (x_cv E.2.2.1 E.2.2.2)))) : W p l e R s m args below meth c H locs cells slots Q (F0 m pc ls (st.map (x_cv E.2.2.1 E.2.2.2))) := by
  obtain ⟨hx, hb, hml, hown, hts, hinit⟩ := C0
  have hsm : G'.1 = G.1 → cells' = cells ∧ slots' = slots := fun hG => by
    rw [hG] at hc; rw [x_nS_eq hG] at hs; exact ⟨by omega, by omega⟩
  have hput : ∀ {k j : Nat} {ty : FieldType} {v : Value} {H1 : Heap} {zz : Loc}, zz.base = E.2.2.1 + k → x_HR E (x_put G k j ty v) H1 → (∀ q, q < E.2.2.1 → H1[q]? = H[q]?) → va_S (x_Ao E) s.heap H1 (locs ++ [zz]) := by
    intro k j ty v H1 zz hz h1 h2
    refine x_S_step hS (by rw [h1.1, hH.1, x_put_1]; exact Nat.le_refl _) h2 (fun y hy => ?_)
    rw [List.mem_singleton.mp hy, hz]
    omega
  have hnew : ∀ {sh : Nat ⊕ (Nat × Nat)} {H1 : Heap}, x_HR E (x_new G sh) H1 → (∀ q, q < E.2.2.1 → H1[q]? = H[q]?) → va_S (x_Ao E) s.heap H1 locs := by
    intro sh H1 h1 h2
    have h3 := x_S_step (L := []) hS (by rw [h1.1, hH.1, x_nC_new]; omega) h2 (fun y hy => by cases hy)
    rwa [List.append_nil] at h3
  unfold x_heap at h
  split at h
  -- ldc
  · rename_i i st G
    unfold x_chkW at hw
    dsimp only at hw
    split at h
    · next ha =>
      cases h
      obtain ⟨rfl, rfl⟩ := hsm rfl
      rw [if_pos ha] at hw
      unfold x_chkK at hw
      split at hw
      · next own i' v e2 =>
        simp only [Bool.and_eq_true, decide_eq_true_eq] at hw
        obtain ⟨⟨rfl, rfl⟩, rfl⟩ := hw
        exact lv_ldc hx hb hown (x_wd hts e2 rfl) hd (k _ _ hH hS)
      · cases hw
    · next ha =>
      cases h
      obtain ⟨rfl, rfl⟩ := hsm rfl
      rw [if_neg ha] at hw
      simp only [Bool.and_eq_true, decide_eq_true_eq] at hw
      obtain ⟨hw1, rfl⟩ := hw
      obtain ⟨q, g1, g2, -⟩ := hF.2.2.2.2.1
      have k1 := k _ _ hH hS
      rw [List.map_cons, x_cv_ext g1] at k1
      exact va_ldcS hx hb hown (by rw [hw1]; exact g2) hd k1
  -- ldc_w
  · cases h
    obtain ⟨rfl, rfl⟩ := hsm rfl
    unfold x_chkW x_chkK at hw
    dsimp only at hw
    split at hw
    · next own i' v e2 =>
      simp only [Bool.and_eq_true, decide_eq_true_eq] at hw
      obtain ⟨⟨rfl, rfl⟩, rfl⟩ := hw
      exact lv_ldcw hx hb hown (x_wd hts e2 rfl) hd (k _ _ hH hS)
    · cases hw
  -- ldc2_w
  · cases h
    obtain ⟨rfl, rfl⟩ := hsm rfl
    unfold x_chkW x_chkL at hw
    dsimp only at hw
    split at hw
    · next own i' v e2 =>
      simp only [Bool.and_eq_true, decide_eq_true_eq] at hw
      obtain ⟨⟨rfl, rfl⟩, rfl⟩ := hw
      exact lv_ldc2 hx hb hown (x_wd hts e2 rfl) hd (k _ _ hH hS)
    · cases hw
  -- getstatic
  · split at h
    · next sv hsv =>
      cases h
      obtain ⟨rfl, rfl⟩ := hsm rfl
      unfold x_chkW x_chkS at hw
      dsimp only at hw
      split at hw
      · next s2 own i r n d e1 e2 =>
        rw [hsv] at e1
        cases e1
        simp only [Bool.and_eq_true, decide_eq_true_eq, Prod.mk.injEq] at hw
        obtain ⟨⟨rfl, rfl⟩, rfl, rfl, rfl⟩ := hw
        exact va_gets hx hb (hF.2.1 a sv hsv) hS hown (x_wd hts e2 rfl) (fun _ h => h) hd (k _ _ hH hS)
      · cases hw
    · cases h
  -- getfield
  · split at h
    · next hg =>
      cases h
      obtain ⟨rfl, rfl⟩ := hsm rfl
      unfold x_chkW at hw
      dsimp only at hw
      have ha : ¬ a = 200 := by
        intro q; subst q; exact absurd hg.2 (by simp [x_fty])
      rw [if_neg ha] at hw
      obtain ⟨C, T, N, h1, h2, h3⟩ := x_chkF_spec hts hF hw
      exact x_getf hx hb hts (x_ci0 a C T N h1).1 hown hK hH hg.1 h2 h3 hd (k _ _ hH hS)
    · cases h
  -- getfield of a thing outside
  · split at h
    · next ha =>
      subst ha
      split at h
      · next v hv =>
        cases h
        obtain ⟨rfl, rfl⟩ := hsm rfl
        obtain ⟨q, g1, g2⟩ := hF.2.2.1 _ _ v hv
        rw [List.map_cons, x_cv_ext g1]
        obtain ⟨cf, kf, fi, f, cell, h1, h2, h3, h4, h5, h6⟩ := g2.kept hS.2.1
        unfold x_chkW x_chkX at hw
        dsimp only at hw
        rw [if_pos rfl] at hw
        split at hw
        · next own i' r n d e2 =>
          simp only [Bool.and_eq_true, decide_eq_true_eq] at hw
          obtain ⟨⟨rfl, rfl⟩, hrnd⟩ := hw
          rw [← hrnd] at h1
          exact W.getf hx hb hown (x_wd hts e2 rfl) h1 h2 h3 h4 h5 rfl rfl hd (k _ _ hH hS)
        · next own i' r n d ho e2 =>
          simp only [Bool.and_eq_true, decide_eq_true_eq] at hw
          obtain ⟨⟨rfl, rfl⟩, hrnd⟩ := hw
          rw [← hrnd] at h1
          exact va_Wgetf hx hb hown (x_ng hF e2 rfl) h1 h2 h3 h4 h5 rfl rfl hd (k _ _ hH hS)
        · cases hw
      · cases h
    · cases h
  -- putfield
  · split at h
    · next hg =>
      cases h
      obtain ⟨rfl, rfl⟩ := hsm (x_put_1 _ _ _ _ _)
      obtain ⟨C, T, N, h1, h2, h3⟩ := x_chkP_spec hts hF hinit hw
      exact x_putf hx hb hts (x_ci0 a C T N h1).1 hown hK hH hg.1 h2 hg.2.2 h3 hd fun H1 z e1 e2 e3 => k _ _ e2 (hput e1 e2 e3)
    · cases h
  -- arraylength
  · split at h
    · next t n hk =>
      split at h
      · next ht =>
        cases h
        obtain ⟨rfl, rfl⟩ := hsm rfl
        exact x_alen hx hb hK hH hk ht hd (k _ _ hH hS)
      · cases h
    · cases h
  · split at h
    · next qq hq =>
      cases h
      obtain ⟨rfl, rfl⟩ := hsm rfl
      obtain ⟨ty, n, f⟩ := qq
      obtain ⟨qa, g1, g2⟩ := hF.2.2.2.1 _ ty n f hq
      rw [List.map_cons, x_cv_ext g1]
      exact va_tlen hx hb g2 hS rfl hd (k _ _ hH hS)
    · cases h
  -- loads
  · split at h
    · next v hv =>
      cases h
      obtain ⟨rfl, rfl⟩ := hsm rfl
      obtain ⟨t, n, h1, h2, h3, rfl⟩ := x_ldA_spec hv
      have ht : t = 0 := by simpa using h2
      subst ht
      exact x_ald_ok hx hb hK hH h1 (by omega) h3 hd (k _ _ hH hS)
    · cases h
  · split at h
    · next v hv =>
      cases h
      obtain ⟨rfl, rfl⟩ := hsm rfl
      obtain ⟨t, n, h1, h2, h3, rfl⟩ := x_ldA_spec hv
      have ht : t = 1 := by simpa using h2
      subst ht
      exact x_ald_ok hx hb hK hH h1 (by omega) h3 hd (k _ _ hH hS)
    · cases h
  · split at h
    · next v hv =>
      cases h
      obtain ⟨rfl, rfl⟩ := hsm rfl
      obtain ⟨t, n, h1, h2, h3, rfl⟩ := x_ldA_spec hv
      have ht : t = 2 ∨ t = 3 := by simpa using h2
      rcases ht with rfl | rfl
      · exact x_ald_ok hx hb hK hH h1 (by omega) h3 hd (k _ _ hH hS)
      · exact x_ald_ok hx hb hK hH h1 (by omega) h3 hd (k _ _ hH hS)
    · cases h
  · split at h
    · next v hv =>
      cases h
      obtain ⟨rfl, rfl⟩ := hsm rfl
      obtain ⟨t, n, h1, h2, h3, rfl⟩ := x_ldA_spec hv
      have ht : t = 4 ∨ t = 5 ∨ t = 6 := by
        simp only [Bool.and_eq_true, decide_eq_true_eq] at h2; omega
      rcases ht with rfl | rfl | rfl
      · exact x_ald_ok hx hb hK hH h1 (by omega) h3 hd (k _ _ hH hS)
      · exact x_ald_ok hx hb hK hH h1 (by omega) h3 hd (k _ _ hH hS)
      · exact x_ald_ok hx hb hK hH h1 (by omega) h3 hd (k _ _ hH hS)
    · cases h
  · split at h
    · next v hv =>
      cases h
      obtain ⟨rfl, rfl⟩ := hsm rfl
      obtain ⟨ty, n, f, h1, h2, h3, rfl⟩ := x_ldX_spec hv
      obtain ⟨qa, g1, g2⟩ := hF.2.2.2.1 _ ty n f h1
      have ht : ty = .int := by simpa using h2
      subst ht
      rw [List.map_cons, List.map_cons, x_cv_ext g1]
      exact va_ti hx hb g2 hS h3 rfl hd (k _ _ hH hS)
    · cases h
  · split at h
    · next v hv =>
      cases h
      obtain ⟨rfl, rfl⟩ := hsm rfl
      obtain ⟨ty, n, f, h1, h2, h3, rfl⟩ := x_ldX_spec hv
      obtain ⟨qa, g1, g2⟩ := hF.2.2.2.1 _ ty n f h1
      have ht : ty = .byte := by simpa using h2
      subst ht
      rw [List.map_cons, List.map_cons, x_cv_ext g1]
      exact va_tb hx hb g2 hS h3 rfl hd (k _ _ hH hS)
    · cases h
  · split at h
    · next v hv =>
      cases h
      obtain ⟨rfl, rfl⟩ := hsm rfl
      obtain ⟨ty, n, f, h1, h2, h3, rfl⟩ := x_ldX_spec hv
      obtain ⟨qa, g1, g2⟩ := hF.2.2.2.1 _ ty n f h1
      rw [List.map_cons, List.map_cons, x_cv_ext g1]
      cases ty with
      | object C => exact vb_tq hx hb g2 hS h3 rfl hd (k _ _ hH hS)
      | _ => cases h2
    · cases h
  -- stores
  · split at h
    · next G2 hG =>
      cases h
      obtain ⟨n, h1, h2, rfl⟩ := x_stA_spec hG
      obtain ⟨rfl, rfl⟩ := hsm (x_put_1 _ _ _ _ _)
      exact x_iast_ok hx hb hK hH h1 h2 hd fun H1 z e1 e2 e3 => k _ _ e2 (hput e1 e2 e3)
    · cases h
  · split at h
    · next G2 hG =>
      cases h
      obtain ⟨n, h1, h2, rfl⟩ := x_stA_spec hG
      obtain ⟨rfl, rfl⟩ := hsm (x_put_1 _ _ _ _ _)
      exact x_last_ok hx hb hK hH h1 h2 hd fun H1 z e1 e2 e3 => k _ _ e2 (hput e1 e2 e3)
    · cases h
  · split at h
    · split at h
      · next G2 hG =>
        cases h
        obtain ⟨n, h1, h2, rfl⟩ := x_stA_spec hG
        obtain ⟨rfl, rfl⟩ := hsm (x_put_1 _ _ _ _ _)
        exact x_bast_ok hx hb hK hH h1 h2 hd fun H1 z e1 e2 e3 => k _ _ e2 (hput e1 e2 e3)
      · cases h
    · split at h
      · next G2 hG =>
        cases h
        obtain ⟨n, h1, h2, rfl⟩ := x_stA_spec hG
        obtain ⟨rfl, rfl⟩ := hsm (x_put_1 _ _ _ _ _)
        exact x_zast_ok hx hb hK hH h1 h2 hd fun H1 z e1 e2 e3 => k _ _ e2 (hput e1 e2 e3)
      · cases h
  · split at h
    · next ht =>
      split at h
      · next G2 hG =>
        cases h
        obtain ⟨n, h1, h2, rfl⟩ := x_stA_spec hG
        obtain ⟨rfl, rfl⟩ := hsm (x_put_1 _ _ _ _ _)
        exact x_aastN_ok hx hb hK hH h1 ht.1 ht.2 h2 hd fun H1 z e1 e2 e3 => k _ _ e2 (hput e1 e2 e3)
      · cases h
    · cases h
  · split at h
    · next ht =>
      split at h
      · next G2 hG =>
        cases h
        obtain ⟨n, h1, h2, rfl⟩ := x_stA_spec hG
        obtain ⟨rfl, rfl⟩ := hsm (x_put_1 _ _ _ _ _)
        exact x_aast_ok hx hb hK hH h1 ht.1 ht.2.1 h2 ht.2.2 hd fun H1 z e1 e2 e3 => k _ _ e2 (hput e1 e2 e3)
      · cases h
    · cases h
  -- new
  · split at h
    · next ha =>
      cases h
      rw [x_nC_new] at hc
      rw [x_nS_new] at hs
      unfold x_chkW x_chkN at hw
      dsimp only at hw
      split at hw
      · next C T N own i C' e1 e2 =>
        simp only [Bool.and_eq_true, decide_eq_true_eq] at hw
        obtain ⟨⟨rfl, rfl⟩, rfl⟩ := hw
        obtain ⟨hCI, hnf, -⟩ := x_ci0 a C T N e1
        have hN : x_sz (.inl a) = N := hCI.2.1
        obtain rfl : cells' = cells + 1 := by omega
        obtain rfl : slots' = slots + N := by omega
        have hpl := x_cpl_ok a C T N e1
        refine x_new_ok hx hb hts hCI (fun j => ?_) hown hK hH (x_wd hts e2 rfl) (x_wd hts hpl.1 rfl) (x_wd hts hpl.2 rfl) hcR hsR hd fun H1 h1 h2 => k _ _ h1 (hnew h1 h2)
        have hall := List.all_eq_true.mp hnf
        by_cases hj : j < (x_fty a).length
        · have h5 := hall _ (List.getElem_mem hj)
          simp only [Bool.and_eq_true, decide_eq_true_eq] at h5
          rw [List.getD_eq_getElem?_getD, List.getElem?_eq_getElem hj]
          exact h5
        · rw [List.getD_eq_getElem?_getD, List.getElem?_eq_none (by omega)]
          exact ⟨(by intro q; cases q), (by intro q; cases q)⟩
      · cases hw
    · cases h
  · split at h
    · next t ht =>
      split at h
      · next hn =>
        cases h
        rw [x_nC_new] at hc
        rw [x_nS_new] at hs
        obtain rfl : cells' = cells + 1 := by omega
        obtain rfl := x_ar hs
        exact x_newa_ok hx hb hK hH ht (x_apl_ok hts ht) hn.1 hn.2 hcR hsR hd fun H1 h1 h2 => k _ _ h1 (hnew h1 h2)
      · cases h
    · cases h
  · split at h
    · next hn =>
      cases h
      rw [x_nC_new] at hc
      rw [x_nS_new] at hs
      obtain rfl : cells' = cells + 1 := by omega
      obtain rfl := x_ar hs
      unfold x_chkW x_chkQ at hw
      dsimp only at hw
      split at hw
      · next own i C' e2 =>
        simp only [Bool.and_eq_true, decide_eq_true_eq] at hw
        obtain ⟨⟨rfl, rfl⟩, hty⟩ := hw
        exact x_newq_ok hx hb hK hH hn.1 hn.2.1 hty hown (x_wd hts e2 rfl) (x_apq_ok hF hn.1 hn.2.1 hty) hn.2.2.1 hn.2.2.2 hcR hsR hd fun H1 h1 h2 => k _ _ h1 (hnew h1 h2)
      · cases hw
    · cases h
  · cases h
end XHK
