/-! ===== SOUND of a call, on both sides ===== -/
noncomputable def s_bi (s : Int64) (b : Int) : Nat → Int64
  | 0 => s
  | i + 1 => s_bi s b i ||| ((1 : Int64) <<< ((Int32.ofInt (b + (i : Nat))).toInt64 &&& 63))
noncomputable def s_bn (x : Int32) : Nat := if x.toInt = 108 then 3 else 1
noncomputable def s_bt (f : Nat → Int32) : Nat → Int64 × Int
  | 0 => (0, 0)
  | k + 1 => (s_bi (s_bt f k).1 (s_bt f k).2 (s_bn (f k)), (s_bt f k).2 + ((s_bn (f k) : Nat) + 1))
theorem s_bi_s {s v v' m : Int64} {b : Int} {y i z : Int32} (h : v = s_bi s b i.toNatClampNeg) (h0 : 0 ≤ i.toInt) (ey : y.toInt = b + i.toInt) (em : m = 1 <<< (y.toInt64 &&& 63)) (ev : v' = v ||| m) (hz : z.toInt = i.toInt + 1) : v' = s_bi s b z.toNatClampNeg := by
  have c1 := t_clamp (i := i) h0
  have c2 := t_clamp (i := z) (by omega)
  rw [show z.toNatClampNeg = i.toNatClampNeg + 1 by omega]
  show v' = s_bi s b i.toNatClampNeg ||| ((1 : Int64) <<< ((Int32.ofInt (b + (i.toNatClampNeg : Nat))).toInt64 &&& 63))
  rw [ev, em, ← h, show b + ((i.toNatClampNeg : Nat) : Int) = y.toInt by omega, Int32.ofInt_toInt]
theorem s_bt_s {f : Nat → Int32} {v : Int64} {k i z n b b' : Int32} (hs : v = s_bi (s_bt f k.toNatClampNeg).1 (s_bt f k.toNatClampNeg).2 i.toNatClampNeg) (hb : b.toInt = (s_bt f k.toNatClampNeg).2) (hn : n.toInt = (s_bn (f k.toNatClampNeg) : Nat)) (hi : i.toInt = n.toInt) (h0 : 0 ≤ k.toInt) (hz : z.toInt = k.toInt + 1) (hb2 : b'.toInt = b.toInt + (n.toInt + 1)) : v = (s_bt f z.toNatClampNeg).1 ∧ b'.toInt = (s_bt f z.toNatClampNeg).2 := by
  have c1 := t_clamp (i := k) h0
  have c2 := t_clamp (i := z) (by omega)
  have c3 := t_clamp (i := i) (by omega)
  rw [show z.toNatClampNeg = k.toNatClampNeg + 1 by omega]
  refine ⟨?_, ?_⟩
  · show v = s_bi (s_bt f k.toNatClampNeg).1 (s_bt f k.toNatClampNeg).2 (s_bn (f k.toNatClampNeg))
    rw [hs, show i.toNatClampNeg = s_bn (f k.toNatClampNeg) by omega]
  · show b'.toInt = (s_bt f k.toNatClampNeg).2 + ((s_bn (f k.toNatClampNeg) : Nat) + 1)
    omega
theorem s_bt_cg {f g : Nat → Int32} : ∀ k : Nat, (∀ t, t < k → f t = g t) → s_bt f k = s_bt g k
  | 0, _ => rfl
  | k + 1, h => by
    show (s_bi (s_bt f k).1 (s_bt f k).2 (s_bn (f k)), (s_bt f k).2 + ((s_bn (f k) : Nat) + 1)) = (s_bi (s_bt g k).1 (s_bt g k).2 (s_bn (g k)), (s_bt g k).2 + ((s_bn (g k) : Nat) + 1))
    rw [s_bt_cg k (fun t ht => h t (by omega)), h k (by omega)]
/-- all words of so many letters -/
noncomputable def s_wl : Nat → List (List Bool)
  | 0 => [[]]
  | n + 1 => (s_wl n).flatMap (fun l => [true :: l, false :: l])
theorem s_wl_mem : ∀ l : List Bool, l ∈ s_wl l.length
  | [] => List.mem_singleton.mpr rfl
  | x :: l => by
    show x :: l ∈ (s_wl l.length).flatMap (fun l => [true :: l, false :: l])
    refine List.mem_flatMap.mpr ⟨l, s_wl_mem l, ?_⟩
    cases x
    · exact List.mem_cons_of_mem _ List.mem_cons_self
    · exact List.mem_cons_self
noncomputable def s_fl (l : List Bool) (t : Nat) : Int32 := if l.getD t false = true then 108 else 115
theorem s_bs_all : ((List.range 7).all (fun k => (s_wl k).all (fun l => decide ((s_bt (s_fl l) k).1 = s_snd (s_ll (s_fl l) 0 k))))) = true := by decide +kernel
theorem s_bs {b : Nat → Int32} {q k : Nat} (hk : k ≤ 6) (hl : ∀ t, t < k → (b (q + t)).toInt = 108 ∨ (b (q + t)).toInt = 115) : (s_bt (fun t => b (q + t)) k).1 = s_snd (s_ll b q k) := by
  have hlen : ((List.range k).map (fun t => decide ((b (q + t)).toInt = 108))).length = k := by rw [List.length_map, List.length_range]
  have e : ∀ t, t < k → b (q + t) = s_fl ((List.range k).map (fun t => decide ((b (q + t)).toInt = 108))) t := by
    intro t ht
    have hg : ((List.range k).map (fun t => decide ((b (q + t)).toInt = 108))).getD t false = decide ((b (q + t)).toInt = 108) := by
      rw [List.getD_eq_getElem?_getD, List.getElem?_map, List.getElem?_range ht]; rfl
    unfold s_fl
    rw [hg]
    apply Int32.toInt_inj.mp
    rcases hl t ht with h | h
    · rw [if_pos (by rw [h]; rfl), h]; rfl
    · rw [if_neg (by rw [h]; decide), h]; rfl
  rw [s_bt_cg k e, s_ll_cg (b := b) (q := q) (b' := s_fl ((List.range k).map (fun t => decide ((b (q + t)).toInt = 108)))) (q' := 0) (fun t ht => by rw [Nat.zero_add]; exact e t ht)]
  have h1 := List.all_eq_true.mp s_bs_all k (List.mem_range.mpr (by omega))
  have h2 := s_wl_mem ((List.range k).map (fun t => decide ((b (q + t)).toInt = 108)))
  rw [hlen] at h2
  exact of_decide_eq_true (List.all_eq_true.mp h1 _ h2)
/-- SOUND of a PORT, by what is told -/
noncomputable def s_so (D : s_D) (p : Nat) : Int64 := s_snd (Int64.ofInt (D (10 + p)))
theorem s_so_m {f : Nat → Int32} {D : s_D} {p : Nat} {m : Int32} (h : t_prt f (D (10 + p))) (hm : m = f 0) : (s_bt (fun t => f (1 + t)) m.toNatClampNeg).1 = s_so D p := by
  obtain ⟨b, q, k, ⟨hk, hw, hl⟩, h0, h1, h2, hx⟩ := h
  have hc := t_clamp (i := m) (by rw [hm]; omega)
  have hmk : m.toNatClampNeg = k := by have hmi : m.toInt = (k : Int) := by rw [hm]; exact h0
                                       omega
  rw [hmk, s_bt_cg k h1, s_bs hk hl]
  unfold s_so
  rw [hx, Int64.ofInt_toInt]
theorem s_so_h {gl : Nat → Nat → Int64} {u p : Nat} {D : s_D} (h : (gl (u + 1) p).toInt = D (10 + p) ∧ gl (u + 2) p = s_snd (gl (u + 1) p)) : gl (u + 2) p = s_so D p := by
  unfold s_so
  rw [h.2, ← h.1, Int64.ofInt_toInt]
/-- HEARD, so many BEATS later, too -/
noncomputable def s_ec (s : Int64) (e : Int) : Int64 := s ||| (s <<< ((Int32.ofInt e).toInt64 &&& 63))
theorem s_ec_0 (s : Int64) : s_ec s 0 = s := by
  unfold s_ec
  have h : (Int32.ofInt 0).toInt64 &&& 63 = 0 := by decide
  rw [h]
  apply Int64.toBitVec_inj.mp
  show s.toBitVec ||| (s.toBitVec <<< _) = s.toBitVec
  simp
theorem s_ec_e {s m v : Int64} {e : Int32} {x : Int} (em : m = s <<< (e.toInt64 &&& 63)) (ev : v = s ||| m) (hx : e.toInt = x) : v = s_ec s x := by
  unfold s_ec
  rw [ev, em, ← hx, Int32.ofInt_toInt]
noncomputable def s_hd (D : s_D) (p : Int) : Int64 := s_if (0 ≤ p ∧ p < D 0) (s_ec (s_so D p.toNat) (D 7)) 0
theorem s_prt_0 {f : Nat → Int32} {x : Int} (h : t_prt f x) : 0 ≤ (f 0).toInt := by
  obtain ⟨b, q, k, _, h0, _⟩ := h; rw [h0]; omega
/-- what is reckoned from a slot, is SOUND -/
theorem s_so_q {g : Nat → Int32} {D : s_D} {p k n : Nat} {m zf : Int32} {v : Int64} (h : t_prt (fun t => g (k + t)) (D (10 + p))) (hm : m = g n) (hn : n = k) (hz : zf.toNatClampNeg = k + 1) (q : 0 ≤ m.toInt → v = (s_bt (fun t => g (zf.toNatClampNeg + t)) m.toNatClampNeg).1) : v = s_so D p := by
  subst hn
  have h0 : 0 ≤ m.toInt := by rw [hm]; exact s_prt_0 h
  rw [q h0, ← s_so_m h hm]
  exact congrArg Prod.fst (s_bt_cg _ (fun t _ => by rw [hz, Nat.add_assoc]))
theorem s_hd_i {D : s_D} {p : Int} (h0 : 0 ≤ p) (h1 : p < D 0) : s_hd D p = s_ec (s_so D p.toNat) (D 7) := s_ifT ⟨h0, h1⟩
theorem s_hd_o {D : s_D} {p : Int} (h : ¬ (0 ≤ p ∧ p < D 0)) : s_hd D p = 0 := s_ifF h
