/-! ===== the start: what the Statement says of the tables and of the things outside ===== -/
noncomputable def x_flat : List Cond := flatC (Jvm.Cond.and given_1 narrow_1)
noncomputable def x_kwd (i : Nat) : Term := .static "HornBridge$Keyword" (x_kwn.getD i "") "LHornBridge$Keyword;"
noncomputable def x_kws : Term := .static "HornBridge$Tokens" "KEYWORDS" "[LHornBridge$Keyword;"
noncomputable def x_str : Term := .string RX12 x_keyix
theorem x_s1 : ∀ i, i < 27 → Cond.exactly (x_kwd i) "HornBridge$Keyword" ∈ x_flat := by decide +kernel
theorem x_s2 : ∀ i, i < 27 → Cond.eq (.field (x_kwd i) "HornBridge$Keyword" "letters" "J") (.long (x_kwl.getD i 0)) ∈ x_flat := by decide +kernel
theorem x_s3 : ∀ i, i < 27 → Cond.eq (.elem x_kws (.int (Int32.ofNat i))) (x_kwd i) ∈ x_flat := by decide +kernel
theorem x_s4 : Cond.arrayOf x_kws (.object "HornBridge$Keyword") ∈ x_flat ∧ Cond.eq (.length x_kws) (.int (Int32.ofNat 27)) ∈ x_flat := by decide +kernel
theorem x_s5 : Cond.exactly x_str "java/lang/String" ∈ x_flat ∧ Cond.eq (.field x_str "java/lang/String" "coder" "B") (.int 0) ∈ x_flat ∧ Cond.arrayOf (.field x_str "java/lang/String" "value" "[B") .byte ∈ x_flat ∧ Cond.eq (.length (.field x_str "java/lang/String" "value" "[B")) (.int (Int32.ofNat x_keys.length)) ∈ x_flat := by decide +kernel
noncomputable def x_s6p : List Nat := [165, 166, 167, 168, 169, 170, 171, 172, 173, 174, 175, 176, 177, 178, 179, 180, 181, 182, 183, 184, 185, 186, 187, 188, 189, 190, 191, 192, 193, 194, 195, 196, 197, 198, 199, 200, 201, 202, 203, 204, 205, 206, 207, 208, 209, 210, 211, 212, 213, 214, 215, 216, 217, 218, 219, 220, 221, 222, 223, 224, 225, 226, 227, 228, 229, 230, 231, 232, 233, 234, 235, 236, 237, 238, 239, 240, 241, 242, 243, 244, 245, 246, 247, 248, 249, 250, 251, 252, 253, 254, 255, 256, 257, 258, 259, 260, 261, 262, 263, 264, 265, 266, 267, 268, 269, 270, 271, 272, 273, 274, 275, 276, 277, 278, 279, 280, 281, 282, 283, 284, 285, 286, 287, 288, 289, 290, 291, 292, 293, 294, 295, 296, 297, 298, 299, 300, 301, 302]
theorem x_s6L : x_s6p.map (fun i => x_flat[i]?) = (List.range x_keys.length).map (fun j => some (Cond.eq (.elem (.field x_str "java/lang/String" "value" "[B") (.int (Int32.ofNat j))) (.int (x_keys.getD j 0)))) := by decide +kernel
theorem x_s6 (j : Nat) (hj : j < x_keys.length) : Cond.eq (.elem (.field x_str "java/lang/String" "value" "[B") (.int (Int32.ofNat j))) (.int (x_keys.getD j 0)) ∈ x_flat := by
  have h := congrArg (fun l => l[j]?) x_s6L
  simp only [List.getElem?_map, List.getElem?_range hj, Option.map_some] at h
  cases hp : x_s6p[j]? with
  | none => rw [hp] at h; cases h
  | some i =>
    rw [hp] at h
    exact List.mem_of_getElem? (Option.some.inj h)
theorem x_keyL : ([x_keys.length] : List Nat).getD 0 0 < 2 ^ 31 := by decide +kernel
theorem x_xn2 {b : Nat} (h0 : b = 0 → False) (h1 : b = 1 → False) : x_xn b = ("java/lang/String", "coder", "B") := by
  match b, h0, h1 with
  | 0, h0, _ => exact absurd rfl h0
  | 1, _, h1 => exact absurd rfl h1
  | b + 2, _, _ => rfl
theorem x_s7 : lw_tbl[x_keyplace]? = some (.stringRef RX12 x_keyix x_keytx) := by decide +kernel
/-- statics: what kind of thing each holds -/
noncomputable def x_stk (s : String × String × String × Value × Nat × Nat) : Bool := decide (lw_tbl[s.2.2.2.2.1]? = some (.laysStatic s.1 s.2.1 s.2.2.1)) && decide (lw_tbl[s.2.2.2.2.2]? = some (.initialized s.1)) && (match s.2.2.2.1 with
  | .int z => decide (Cond.eq (.static s.1 s.2.1 s.2.2.1) (.int z) ∈ x_flat)
  | .retAddr i => if i < 27 then decide (Term.static s.1 s.2.1 s.2.2.1 = x_kwd i) else if i = 27 then decide (Term.static s.1 s.2.1 s.2.2.1 = x_kws) else decide (i = 41) && decide (Cond.isRef (.static s.1 s.2.1 s.2.2.1) ∈ x_flat) && decide (s.1 = "jdk/internal/util/Preconditions") && decide (s.2.1 = "SIOOBE_FORMATTER") && decide (s.2.2.1 = "Ljava/util/function/BiFunction;")
  | _ => false)
theorem x_s8 : x_sts.all x_stk = true := by decide +kernel
theorem x_s9 : ∀ i, i < 27 → ∀ j, j < 27 → x_kwl.getD i 0 = x_kwl.getD j 0 → i = j := by decide +kernel
theorem x_OF_inj {o n d : String} {v w : Value} {t : Nat} {A : Nat → Prop} {U : State} {H : Heap} (h1 : va_OF o n d v t A U H) (h2 : va_OF o n d w t A U H) : v = w := by
  obtain ⟨cf, k, i, f, cell, a1, -, a3, -, a5, -⟩ := h1
  obtain ⟨cf', k', i', f', cell', b1, -, b3, -, b5, -⟩ := h2
  cases a1.symm.trans b1
  cases a3.symm.trans b3
  exact Option.some.inj (a5.symm.trans b5)
theorem x_init {s : State} {args : Array Value} {b L : Nat} {xs : Nat → Int32} (hts : ∀ w ∈ lw_tbl, w.before args s = true) (hgv : (Jvm.Cond.and given_1 narrow_1).before args s = true) (hX : va_X b L xs s s.heap) (hL : L < 2 ^ 31) (hbl : b < s.heap.size) : ∃ E : x_Ad, E.2.2.1 = s.heap.size ∧ E.2.2.2 30 = some b ∧ x_KA E s ∧ x_XF E (L, xs) s := by
  have hs : ∀ c ∈ x_flat, c.before args s = true := flat_of_before _ hgv
  have hA : ∀ a : Nat, a < s.heap.size → ¬ (fun q => s.heap.size ≤ q) a := fun a h => Nat.not_le.mpr h
  have hgood : ∀ w ∈ x_gw, w.before args s = true := fun w hw => hts w (List.mem_filter.mp hw).1
  -- classes
  have hcl : ∀ ci : Nat, ∃ r : ClassId × (Nat → Nat), ∀ q, vwCl[ci]? = some q → u_Kn s q.1 q.2.1 q.2.2 r.1 r.2 := by
    intro ci
    cases hq : vwCl[ci]? with
    | none => exact ⟨(0, fun _ => 0), fun q h => by cases h⟩
    | some q0 =>
      obtain ⟨C, T, N⟩ := q0
      have hin := (x_ci0 ci C T N hq).1.2.2.2.2
      obtain ⟨cC, iS, hk⟩ := u_known (n := N) hgood hin (hts _ (List.mem_of_getElem? (x_cpl_ok ci C T N hq).1))
      exact ⟨(cC, iS), fun q h => by cases h; exact hk⟩
  obtain ⟨dr, hdr⟩ := Classical.axiomOfChoice hcl
  -- arrays
  have har : ∀ t : Nat, ∃ cA : ClassId, t < 7 → ArrOfT s cA (x_ety t) ∧ va_RA s cA (x_ety t) := by
    intro t
    by_cases ht : t < 4
    · obtain ⟨at_, hat, hty⟩ : ∃ at_, x_atn at_ = some t ∧ newarray.typeOf at_ = x_ety t := by
        obtain rfl | rfl | rfl | rfl : t = 0 ∨ t = 1 ∨ t = 2 ∨ t = 3 := by omega
        · exact ⟨.int, rfl, rfl⟩
        · exact ⟨.long, rfl, rfl⟩
        · exact ⟨.byte, rfl, rfl⟩
        · exact ⟨.boolean, rfl, rfl⟩
      have h := x_apl_ok hgood hat
      rw [hty] at h
      obtain ⟨cA, kA, comp, h1, h2, h3⟩ := Cond.arrayClass_spec h
      refine ⟨cA, fun _ => ⟨fun n z => ⟨(fun k h => by cases h), kA, h2, comp, h3⟩, ?_⟩⟩
      obtain rfl | rfl | rfl | rfl : t = 0 ∨ t = 1 ∨ t = 2 ∨ t = 3 := by omega
      all_goals exact h1
    · by_cases ht7 : t < 7
      · obtain ⟨C, hty⟩ : ∃ C, x_ety t = .object C := by
          obtain rfl | rfl | rfl : t = 4 ∨ t = 5 ∨ t = 6 := by omega
          all_goals exact ⟨_, rfl⟩
        have h1 := List.all_eq_true.mp x_apqC t (by
          obtain rfl | rfl | rfl : t = 4 ∨ t = 5 ∨ t = 6 := by omega
          all_goals simp)
        have h2 := hts _ (List.mem_of_getElem? (decide_eq_true_eq.mp h1))
        rw [hty] at h2
        obtain ⟨comp, cA, kA, f1, -, f3, f4, f5⟩ := Cond.arrayOver_spec h2
        rw [hty]
        exact ⟨cA, fun _ => ⟨fun n z => ⟨(fun k h => by cases h), kA, f3, comp, f4⟩, kA, comp, f3, f4, f1, f5⟩⟩
      · exact ⟨0, fun h => absurd h ht7⟩
  obtain ⟨tc, htc⟩ := Classical.axiomOfChoice har
  -- the words that are no names
  have hkw : ∀ i : Nat, ∃ a : Nat, i < 27 → (x_kwd i).eval args s none [] s = some (.ref a) ∧ a < s.heap.size := by
    intro i
    by_cases hi : i < 27
    · obtain ⟨a, c, cA, kA, q1, q2, q3, q4, q5, q6, -⟩ := Cond.exactly_spec (args := args) (first := s) (o := none) (s := s) (idx := []) (t := x_kwd i) (cls := "HornBridge$Keyword") (hs _ (x_s1 i hi))
      exact ⟨a, fun _ => ⟨q1, (Array.getElem?_eq_some_iff.mp q3).1⟩⟩
    · exact ⟨0, fun h => absurd h hi⟩
  obtain ⟨ka, hka⟩ := Classical.axiomOfChoice hkw
  have hOF : ∀ i, i < 27 → va_OF "HornBridge$Keyword" "letters" "J" (.long (x_kwl.getD i 0)) (ka i) (fun q => s.heap.size ≤ q) s s.heap := fun i hi => vk_OFof (hka i hi).1 (va_eqtl (hs _ (x_s2 i hi))) hA
  obtain ⟨k27, h27e, h27T⟩ := va_Tof (tm := x_kws) (ty := .object "HornBridge$Keyword") (N := 27) (f := fun j => .ref (ka j)) (A := fun q => s.heap.size ≤ q) (by decide) (hs _ x_s4.1) (va_eqt (hs _ x_s4.2)) (fun j hj => va_eqv (hs _ (x_s3 j hj)) (hka j hj).1) hA
  obtain ⟨adK, adV, hvS, hvE⟩ := vk_Sof (args := args) (s := s) (N := 1) (tm := fun _ => x_str) (len := [x_keys.length]) (byt := [x_keys]) (A := fun q => s.heap.size ≤ q) (fun i hi => by
    obtain rfl : i = 0 := by omega
    exact x_keyL) (fun i hi => hs _ x_s5.1) (fun i hi => hs _ x_s5.2.1) (fun i hi => hs _ x_s5.2.2.1) (fun i hi => by
    obtain rfl : i = 0 := by omega
    exact hs _ x_s5.2.2.2) (fun i hi j hj => by
    obtain rfl : i = 0 := by omega
    exact hs _ (x_s6 j hj)) (fun i j hi hj hne => absurd (show i = j by omega) hne) hA
  -- the formatter
  have hfm : ∃ fm : Option Nat, (Term.static "jdk/internal/util/Preconditions" "SIOOBE_FORMATTER" "Ljava/util/function/BiFunction;").eval args s none [] s = some (va_rf fm) ∨ ¬ (Cond.isRef (.static "jdk/internal/util/Preconditions" "SIOOBE_FORMATTER" "Ljava/util/function/BiFunction;")).before args s = true := by
    by_cases h : (Cond.isRef (.static "jdk/internal/util/Preconditions" "SIOOBE_FORMATTER" "Ljava/util/function/BiFunction;")).before args s = true
    · cases hv : (Term.static "jdk/internal/util/Preconditions" "SIOOBE_FORMATTER" "Ljava/util/function/BiFunction;").eval args s none [] s with
      | none => simp [Cond.before, Cond.holds, Cond.value, hv] at h
      | some w =>
        simp only [Cond.before, Cond.holds, Cond.value, hv] at h
        cases w with
        | null => exact ⟨none, Or.inl rfl⟩
        | ref t => exact ⟨some t, Or.inl rfl⟩
        | _ => simp at h
    · exact ⟨none, Or.inr h⟩
  obtain ⟨fm, hfm⟩ := hfm
  let xa : Nat → Option Nat := fun i => if i < 27 then some (ka i) else if i = 27 then some k27 else if i = 28 then some (adK 0) else if i = 29 then some (adV 0) else if i = 30 then some b else fm
  have xa27 : ∀ i, i < 27 → xa i = some (ka i) := fun i hi => if_pos hi
  refine ⟨((fun ci => (dr ci).1, fun ci => (dr ci).2), tc, s.heap.size, xa), rfl, rfl, ⟨fun ci q hq => hdr ci q hq, fun t ht => htc t ht⟩, ?_⟩
  obtain ⟨g1, g2, g3, g4⟩ := hvS.1 0 (by omega)
  refine ⟨fun w hw hn => ?_, fun a st hst => ?_, fun bb i v hv => ?_, fun i ty n f hf => ?_, ⟨adK 0, rfl, vk_R.of (hts _ (List.mem_of_getElem? x_s7)) (hvE 0 (by omega)), g1⟩, fun i hi => ⟨ka i, xa27 i hi, (hka i hi).2⟩, fun i j hi hj he => ?_⟩
  · have h1 := hts w hw
    unfold x_ngw at hn
    split at hn
    · exact va_Nw.of rfl h1
    · exact va_Nw.of rfl h1
    · exact h1
    · cases hn
  · have h1 := List.all_eq_true.mp x_s8 st (List.mem_of_getElem? hst)
    unfold x_stk at h1
    simp only [Bool.and_eq_true, decide_eq_true_eq] at h1
    obtain ⟨⟨hl1, hl2⟩, h3⟩ := h1
    obtain ⟨C, n, d, v, p1, p2⟩ := st
    refine va_Zof (hts _ (List.mem_of_getElem? hl1)) (hts _ (List.mem_of_getElem? hl2)) ?_ hA
    dsimp only at h3 ⊢
    cases v with
    | int z => exact va_eqt (hs _ (by simpa using h3))
    | retAddr i =>
      dsimp only at h3
      show (Term.static C n d).eval args s none [] s = some (va_rf (xa i))
      split at h3
      · next hi =>
        rw [decide_eq_true_eq.mp h3, xa27 i hi]
        exact (hka i hi).1
      · split at h3
        · next hi =>
          subst hi
          rw [decide_eq_true_eq.mp h3]
          exact h27e
        · simp only [Bool.and_eq_true, decide_eq_true_eq] at h3
          obtain ⟨⟨⟨⟨rfl, h5⟩, rfl⟩, rfl⟩, rfl⟩ := h3
          rcases hfm with h6 | h6
          · exact h6
          · exact absurd (hs _ h5) h6
    | _ => cases h3
  · unfold x_xf at hv
    split at hv
    · split at hv
      · next hi => cases hv; exact ⟨ka i, xa27 i hi, hOF i hi⟩
      · cases hv
    · split at hv
      · next hi => cases hv; subst hi; exact ⟨adK 0, rfl, g3⟩
      · cases hv
    · split at hv
      · next h0 h1 hi =>
        cases hv; subst hi
        refine ⟨adK 0, rfl, ?_⟩
        rw [x_xn2 h0 h1]
        exact g2
      · cases hv
  · unfold x_xar at hf
    split at hf
    · next hi =>
      cases hf; subst hi
      refine ⟨k27, rfl, ?_⟩
      obtain ⟨cell, a1, a2, a3, a4, a5, a6, a7⟩ := h27T
      exact ⟨cell, a1, a2, a3, a4, a5, fun j hj => (a6 j hj).trans (by show _ = some (va_rf (xa j)); rw [xa27 j hj]; rfl), a7⟩
    · split at hf
      · next hi => cases hf; subst hi; exact ⟨adV 0, rfl, g4⟩
      · split at hf
        · next hi =>
          cases hf; subst hi
          obtain ⟨scr, a1, a2, a3, a4, a5⟩ := hX
          exact ⟨b, rfl, scr, a1, a2, a3, Nat.le_of_eq a4.symm, congrArg Nat.toInt32 a4, a5, Nat.not_le.mpr hbl⟩
        · cases hf
  · have he' : ka i = ka j := by
      have h5 : xa i = xa j := he
      rw [xa27 i hi, xa27 j hj] at h5
      exact Option.some.inj h5
    have h1 := hOF i hi
    have h2 := hOF j hj
    rw [he'] at h1
    have h3 := x_OF_inj h1 h2
    exact x_s9 i hi j hj (by injection h3)
