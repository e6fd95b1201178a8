/-! ===== trees that hold the same; closed runs as contracts ===== -/
noncomputable def x_sT {α : Type} (e : α → α → Bool) : x_T α → x_T α → Bool
  | .leaf none, .leaf none => true
  | .leaf (some a), .leaf (some b) => e a b
  | .branch _ a b, .branch _ c d => x_sT e a c && x_sT e b d
  | _, _ => false
/-- what stands at the same place in both -/
noncomputable def x_oR {α : Type} (e : α → α → Bool) : Option α → Option α → Prop
  | none, none => True
  | some a, some b => e a b = true
  | _, _ => False
theorem x_sT_tg {α : Type} {e : α → α → Bool} : ∀ (d : Nat) (t u : x_T α), x_sT e t u = true → ∀ i, x_oR e (x_tg d t i) (x_tg d u i)
  | 0, .leaf none, .leaf none, _, _ => trivial
  | 0, .leaf (some a), .leaf (some b), h, _ => h
  | 0, .branch _ _ _, .branch _ _ _, _, _ => trivial
  | d + 1, .leaf none, .leaf none, _, _ => trivial
  | d + 1, .leaf (some a), .leaf (some b), _, _ => trivial
  | d + 1, .branch _ a b, .branch _ c f, h, i => by
    rw [x_sT, Bool.and_eq_true] at h
    rw [x_tg_s, x_tg_s]
    dsimp only
    cases Nat.beq (Nat.mod i 2) 0
    · exact x_sT_tg d b f h.2 _
    · exact x_sT_tg d a c h.1 _
  | _, .leaf none, .leaf (some _), h, _ => by cases h
  | _, .leaf (some _), .leaf none, h, _ => by cases h
  | _, .leaf none, .branch _ _ _, h, _ => by cases h
  | _, .leaf (some _), .branch _ _ _, h, _ => by cases h
  | _, .branch _ _ _, .leaf none, h, _ => by cases h
  | _, .branch _ _ _, .leaf (some _), h, _ => by cases h
noncomputable def x_eL (a b : Int64) : Bool := Nat.beq a.toUInt64.toBitVec.toNat b.toUInt64.toBitVec.toNat
theorem x_eL_ok {a b : Int64} (h : x_eL a b = true) : a = b := Int64.toBitVec_inj.mp (BitVec.eq_of_toNat_eq (Nat.eq_of_beq_eq_true h))
noncomputable def x_eV : Value → Value → Bool
  | .null, .null => true
  | .ref a, .ref b => Nat.beq a b
  | .retAddr a, .retAddr b => Nat.beq a b
  | .int a, .int b => x_eqb a b
  | .long a, .long b => x_eL a b
  | _, _ => false
theorem x_eV_ok {a b : Value} (h : x_eV a b = true) : a = b := by
  unfold x_eV at h
  split at h
  · rfl
  · rw [Nat.eq_of_beq_eq_true h]
  · rw [Nat.eq_of_beq_eq_true h]
  · rw [x_eqb_iff.mp h]
  · rw [x_eL_ok h]
  · cases h
noncomputable def x_eS : Nat ⊕ (Nat × Nat) → Nat ⊕ (Nat × Nat) → Bool
  | .inl a, .inl b => Nat.beq a b
  | .inr a, .inr b => Nat.beq a.1 b.1 && Nat.beq a.2 b.2
  | _, _ => false
theorem x_eS_ok {a b : Nat ⊕ (Nat × Nat)} (h : x_eS a b = true) : a = b := by
  unfold x_eS at h
  split at h
  · rw [Nat.eq_of_beq_eq_true h]
  · next a b =>
    rw [Bool.and_eq_true] at h
    obtain ⟨a1, a2⟩ := a
    obtain ⟨b1, b2⟩ := b
    have h1 : a1 = b1 := Nat.eq_of_beq_eq_true h.1
    have h2 : a2 = b2 := Nat.eq_of_beq_eq_true h.2
    rw [h1, h2]
  · cases h
noncomputable def x_eC (c d : x_C) : Bool := x_eS c.1 d.1 && (x_sT x_eqb c.2.1 d.2.1 && (x_sT x_eL c.2.2.1 d.2.2.1 && x_sT x_eV c.2.2.2 d.2.2.2))
theorem x_oR_eq {α : Type} {e : α → α → Bool} (he : ∀ {a b : α}, e a b = true → a = b) {a b : Option α} (h : x_oR e a b) : a = b := by
  cases a with
  | none => cases b with
    | none => rfl
    | some b => exact (h : False).elim
  | some a => cases b with
    | none => exact (h : False).elim
    | some b => rw [he h]
theorem x_eC_ok {c d : x_C} (h : x_eC c d = true) : c.1 = d.1 ∧ ∀ j, x_cI c j = x_cI d j ∧ x_cL c j = x_cL d j ∧ x_cR c j = x_cR d j := by
  unfold x_eC at h
  rw [Bool.and_eq_true, Bool.and_eq_true, Bool.and_eq_true] at h
  obtain ⟨h1, h2, h3, h4⟩ := h
  have h1 := x_eS_ok h1
  refine ⟨h1, fun j => ⟨?_, ?_, ?_⟩⟩
  · unfold x_cI; rw [h1, x_oR_eq (fun h => x_eqb_iff.mp h) (x_sT_tg _ _ _ h2 j)]
  · unfold x_cL; rw [h1, x_oR_eq (fun h => x_eL_ok h) (x_sT_tg _ _ _ h3 j)]
  · unfold x_cR; rw [h1, x_oR_eq (fun h => x_eV_ok h) (x_sT_tg _ _ _ h4 j)]
noncomputable def x_sW (V W : x_W) : Bool := Nat.beq V.1 W.1 && x_sT x_eC V.2 W.2
theorem x_sW_R {V W : x_W} {G : x_G} (h : x_sW V W = true) (hR : x_R V G) : x_R W G := by
  unfold x_sW at h
  rw [Bool.and_eq_true] at h
  have h1 : V.1 = W.1 := Nat.eq_of_beq_eq_true h.1
  have h2 := x_sT_tg 8 _ _ h.2
  refine ⟨by rw [← h1]; exact hR.1, by rw [← h1]; exact hR.2.1, fun k hk => ?_, fun k hk c hc j hj => ?_⟩
  · rw [hR.2.2.1 k hk]
    have h3 := h2 k
    cases ha : x_tg 8 V.2 k with
    | none => cases hb : x_tg 8 W.2 k with
      | none => rfl
      | some c => rw [ha, hb] at h3; exact (h3 : False).elim
    | some c' => cases hb : x_tg 8 W.2 k with
      | none => rw [ha, hb] at h3; exact (h3 : False).elim
      | some c =>
        rw [ha, hb] at h3
        exact congrArg some (x_eC_ok h3).1
  · have h3 := h2 k
    rw [hc] at h3
    cases ha : x_tg 8 V.2 k with
    | none => rw [ha] at h3; exact (h3 : False).elim
    | some c' =>
    rw [ha] at h3
    obtain ⟨h4, h5⟩ := x_eC_ok h3
    obtain ⟨a1, a2, a3⟩ := h5 j
    rw [← a1, ← a2, ← a3]
    exact hR.2.2.2 k hk c' ha j (by rw [h4]; exact hj)
/-- the size of a world -/
noncomputable def x_szN (W : x_W) (n : Nat) : Nat := Nat.rec 0 (fun k ih => Nat.add ih (match x_gc W k with | some c => x_sz c.1 | none => 0)) n
theorem x_szN_s (W : x_W) (n : Nat) : x_szN W (n + 1) = x_szN W n + (match x_gc W n with | some c => x_sz c.1 | none => 0) := rfl
theorem x_szN_ok {W : x_W} {G : x_G} (hR : x_R W G) : ∀ n, n ≤ G.1.length → ((G.1.take n).map x_sz).sum = x_szN W n
  | 0, _ => rfl
  | n + 1, h => by
    have h1 : n < G.1.length := h
    have h2 : n < 256 := by have := hR.2.1; rw [← hR.1] at this; omega
    rw [List.take_add_one, List.map_append, List.sum_append, x_szN_ok hR n (by omega), x_szN_s]
    congr 1
    have h3 := hR.2.2.1 n h2
    have hg : x_gc W n = x_tg 8 W.2 n := by
      unfold x_gc
      rw [show Nat.blt n 256 = true from Nat.ble_eq_true_of_le h2]; rfl
    rw [hg]
    cases hc : x_tg 8 W.2 n with
    | none => rw [hc] at h3; rw [h3]; rfl
    | some c => rw [hc] at h3; rw [h3]; simp
noncomputable def x_okW (W : x_W) : Bool := Nat.ble W.1 256 && Nat.ble (x_szN W W.1) 7302250
noncomputable def x_okG (G : x_G) : Prop := G.1.length ≤ 600000 ∧ x_nS G ≤ 7302250
theorem x_okW_ok {W : x_W} {G : x_G} (h : x_okW W = true) (hR : x_R W G) : x_okG G := by
  unfold x_okW at h
  rw [Bool.and_eq_true] at h
  have h1 : W.1 ≤ 256 := Nat.le_of_ble_eq_true h.1
  have h2 : x_szN W W.1 ≤ 7302250 := Nat.le_of_ble_eq_true h.2
  have h3 := x_szN_ok hR G.1.length (Nat.le_refl _)
  rw [List.take_length, hR.1] at h3
  refine ⟨by rw [hR.1]; omega, ?_⟩
  unfold x_nS
  rw [h3]; exact h2
/-- a closed run as a contract -/
theorem x_fz {n d mi : Nat} {as : List Value} {W W' : x_W} {v : Option Value} (h : x_fast n d mi (x_tb mi) (lv_args 0 as) [] W = some (v, W')) (hw : Nat.ble (x_words as) (x_ml mi) = true) (hrc : (x_stat mi || x_frcv mi W as) = true) {X : x_Ext} {G : x_G} (hR : x_R W G) {P : Option Value → x_G → Prop} (k : ∀ G', x_R W' G' → P v G') : x_Me X d mi as G P := by
  obtain ⟨G', h1, h2⟩ := x_fast_ok (X := X) n d mi 0 _ _ _ _ _ _ (x_at1_0 mi) h G hR
  refine ⟨Nat.le_of_ble_eq_true hw, ?_, n, v, G', h1, k G' h2⟩
  rw [Bool.or_eq_true] at hrc
  rcases hrc with h | h
  · exact Or.inl h
  · exact Or.inr (x_frcv_ok hR h)
/-- two closed calls, one behind the other: the same number -/
noncomputable def x_pair (n d m1 m2 : Nat) (as1 as2 : List Value) (W : x_W) : Bool :=
  Nat.ble (x_words as1) (x_ml m1) && (Nat.ble (x_words as2) (x_ml m2) && (x_frcv m1 W as1 && match x_fast n d m1 (x_tb m1) (lv_args 0 as1) [] W with
    | some (some (.int x), V) => x_frcv m2 V as2 && (match x_fast n d m2 (x_tb m2) (lv_args 0 as2) [] V with
      | some (some (.int y), U) => x_eqb x y && x_okW U
      | _ => false)
    | _ => false))
theorem x_pair_ok {n d m1 m2 : Nat} {as1 as2 : List Value} {W : x_W} (h : x_pair n d m1 m2 as1 as2 W = true) {X : x_Ext} {G : x_G} (hR : x_R W G) : x_Me X d m1 as1 G (fun v G1 => ∃ x, v = some (.int x) ∧ x_Me X d m2 as2 G1 (fun v2 G2 => v2 = some (.int x) ∧ x_okG G2)) := by
  unfold x_pair at h
  rw [Bool.and_eq_true, Bool.and_eq_true, Bool.and_eq_true] at h
  obtain ⟨h1, h2, h3, h⟩ := h
  split at h
  · next x V hV =>
    rw [Bool.and_eq_true] at h
    obtain ⟨h4, h⟩ := h
    split at h
    · next y U hU =>
      rw [Bool.and_eq_true] at h
      refine x_fz hV h1 (by rw [h3, Bool.or_true]) hR (fun G1 hR1 => ⟨x, rfl, ?_⟩)
      refine x_fz hU h2 (by rw [h4, Bool.or_true]) hR1 (fun G2 hR2 => ⟨?_, x_okW_ok h.2 hR2⟩)
      rw [x_eqb_iff.mp h.1]
    · cases h
  · cases h
/-- the start: both constructors -/
noncomputable def x_ini (n d m1 m2 : Nat) : Bool :=
  Nat.ble 1 (x_ml m1) && (Nat.ble 1 (x_ml m2) && x_nc x_W0 (.inl 10) (fun W => x_frcv m1 W [.ref 0] && match x_fast n d m1 (x_tb m1) (lv_args 0 [.ref 0]) [] W with
    | some (none, V) => Nat.beq V.1 69 && x_nc V (.inl 11) (fun U => x_frcv m2 U [.ref 69] && (match x_fast n d m2 (x_tb m2) (lv_args 0 [.ref 69]) [] U with
      | some (none, Z) => x_sW Z W1
      | _ => false)) false
    | _ => false) false)
theorem x_ini_ok {n d m1 m2 : Nat} (h : x_ini n d m1 m2 = true) (X : x_Ext) : x_Me X d m1 [.ref 0] (x_new x_G0 (.inl 10)) (fun v G1 => v = none ∧ G1.1.length = 69 ∧ x_Me X d m2 [.ref 69] (x_new G1 (.inl 11)) (fun v2 G2 => v2 = none ∧ x_R W1 G2)) := by
  unfold x_ini at h
  rw [Bool.and_eq_true, Bool.and_eq_true] at h
  obtain ⟨h1, h2, h⟩ := h
  unfold x_nc at h
  rw [show Nat.blt x_W0.1 256 = true from rfl] at h
  simp only [cond, x_tp_eq] at h
  have hR0 := x_nc_R (.inl 10) x_R0 rfl
  rw [Bool.and_eq_true] at h
  obtain ⟨h3, h⟩ := h
  split at h
  · next V hV =>
    rw [Bool.and_eq_true] at h
    obtain ⟨h4, h⟩ := h
    cases hb : Nat.blt V.1 256
    · rw [hb] at h; cases h
    rw [hb] at h
    simp only [] at h
    rw [Bool.and_eq_true] at h
    obtain ⟨h5, h⟩ := h
    split at h
    · next Z hZ =>
      refine x_fz hV h1 (by rw [h3, Bool.or_true]) hR0 (fun G1 hR1 => ⟨rfl, ?_, ?_⟩)
      · rw [hR1.1]; exact Nat.eq_of_beq_eq_true h4
      have hR2 := x_nc_R (.inl 11) hR1 hb
      exact x_fz hZ h2 (by rw [h5, Bool.or_true]) hR2 (fun G2 hR3 => ⟨rfl, x_sW_R h hR3⟩)
    · cases h
  · cases h
