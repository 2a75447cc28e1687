/-! The reference's state; its calls that ask and do -/
def FrN (m m' : Nat → Nat → Int32) : Prop := (∀ i, (i < 133 ∨ (134 ≤ i ∧ i ≤ 137) ∨ i = 141 ∨ (143 ≤ i ∧ i ≤ 148)) → m' i = m i) ∧ ∀ k, (k = 2 ∨ k = 4 ∨ k = 6 ∨ k = 8 ∨ k = 19 ∨ k = 22) → m' 133 k = m 133 k
def FrK (m m' : Nat → Nat → Int32) : Prop := ∀ i, i < 133 → m' i = m i
theorem FrN.trans {m m1 m2 : Nat → Nat → Int32} (h1 : FrN m m1) (h2 : FrN m1 m2) : FrN m m2 := ⟨fun i hi => (h2.1 i hi).trans (h1.1 i hi), fun k hk => (h2.2 k hk).trans (h1.2 k hk)⟩
theorem FrN.rfl' {m : Nat → Nat → Int32} : FrN m m := ⟨fun _ _ => rfl, fun _ _ => rfl⟩
theorem FrN.k {m m' : Nat → Nat → Int32} (h : FrN m m') : FrK m m' := fun i hi => h.1 i (Or.inl hi)
theorem FrN.up {m : Nat → Nat → Int32} {j : Nat} {v : Int32} (hj : ¬ (j = 2 ∨ j = 4 ∨ j = 6 ∨ j = 8 ∨ j = 19 ∨ j = 22)) : FrN m (ai_up m 133 j v) := ⟨fun i hi => up_ne (by omega), fun k hk => by rw [up_eq, if_neg (by omega)]⟩
theorem FrN.ofS {m m' : Nat → Nat → Int32} (h : FrS (fun i => i = 142) m m') : FrN m m' := ⟨fun i hi => h i (by omega), fun k _ => by rw [h 133 (by omega)]⟩
theorem FrK.trans {m m1 m2 : Nat → Nat → Int32} (h1 : FrK m m1) (h2 : FrK m1 m2) : FrK m m2 := fun i hi => (h2 i hi).trans (h1 i hi)
theorem RG.cg {p : PT} {x : HS} {f g : Nat → Int32} (hp : ptOk p) (h : RG p x f) (hfg : ∀ k, k < 24 → g k = f k) : RG p x g := by
  have hD := hp.2.2.1
  have hB := hp.2.1
  obtain ⟨h0, h1, h2, h3, h4, h5, h6⟩ := h
  exact ⟨h0, fun t ht => by rw [hfg _ (by omega)]; exact h1 t ht, fun t ht => by rw [hfg _ (by omega)]; exact h2 t ht, fun t ht => by rw [hfg _ (by omega)]; exact h3 t ht, fun t ht => by rw [hfg _ (by omega)]; exact h4 t ht, fun t ht => by rw [hfg _ (by omega)]; exact h5 t ht, by rw [hfg _ (by omega)]; exact h6⟩
/-- the reference's state -/
def RM (tx : TX) (p : PT) (x : HS) (n : Nat) (A : Nat → HS) (kp : Nat → Bool) (K : Nat → HS) (so : SO) (sd : Int64) (m : Nat → Nat → Int32) (lg : Nat → Nat → Int64) : Prop :=
  (tx.1 ≤ 48 ∧ m 133 2 = nI tx.1 ∧ ∀ i, i < tx.1 → m 134 i = nI (tx.2 i) ∧ tx.2 i ≤ 255) ∧ RMp p m ∧ RG p x (m 141) ∧
  (n ≤ 14 ∧ m 133 19 = nI n ∧ ∀ i, i < n → RG p (A (n - 1 - i)) (fun k => m 143 (24 * i + k))) ∧
  ((∀ i, i < 2 → m 145 i = bI (kp i)) ∧ ∀ i, i < 2 → kp i = true → RG p (K i) (fun k => m 144 (24 * i + k))) ∧
  (so.1 ≤ 6 ∧ m 133 22 = nI so.1 ∧ ∀ i, i < so.1 → m 146 i = nI (so.2.1 i) ∧ so.2.1 i ≤ 9 ∧ m 147 i = nI (so.2.2.1 i) ∧ so.2.2.1 i ≤ 9 ∧ m 148 i = bI (so.2.2.2 i)) ∧ lg 133 26 = sd
/-- copied from a row to a row -/
def cpS (m : Nat → Nat → Int32) (s sp t tp k : Nat) : Nat → Nat → Int32 := va_up m t (va_cpy (m s) (m t) sp tp k)
theorem cpS_0 {m : Nat → Nat → Int32} {s sp t tp : Nat} : cpS m s sp t tp 0 = m := by
  unfold cpS
  have : va_cpy (m s) (m t) sp tp 0 = m t := by
    funext j
    by_cases h : tp ≤ j
    · exact pk_cpy_out (Or.inr (by omega))
    · exact pk_cpy_out (Or.inl (by omega))
  rw [this, va_us]
theorem cpS_ne {m : Nat → Nat → Int32} {s sp t tp k i : Nat} (h : i ≠ t) : cpS m s sp t tp k i = m i := by simp [cpS, va_up, h]
theorem cpS_in {m : Nat → Nat → Int32} {s sp t tp k j : Nat} (h : j < k) : cpS m s sp t tp k t (tp + j) = m s (sp + j) := by
  unfold cpS
  simp only [va_up, if_true]
  rw [pk_cpy_in (by omega) (by omega)]
  congr 1
  omega
theorem cpS_out {m : Nat → Nat → Int32} {s sp t tp k j : Nat} (h : j < tp ∨ tp + k ≤ j) : cpS m s sp t tp k t j = m t j := by
  unfold cpS
  simp only [va_up, if_true]
  exact pk_cpy_out h
theorem cpS_s {m : Nat → Nat → Int32} {s sp t tp k : Nat} : ai_up (cpS m s sp t tp k) t (tp + k) (m s (sp + k)) = cpS m s sp t tp (k + 1) := by
  funext i j
  by_cases h : i = t
  · subst h
    rw [up_eq]
    by_cases hj : j = tp + k
    · subst hj
      rw [if_pos rfl, cpS_in (Nat.lt_succ_self k)]
    · rw [if_neg hj]
      by_cases h2 : j < tp ∨ tp + k ≤ j
      · rw [cpS_out h2, cpS_out (by omega)]
      · obtain ⟨q, rfl⟩ : ∃ q, j = tp + q := ⟨j - tp, by omega⟩
        rw [cpS_in (by omega), cpS_in (by omega)]
  · rw [up_ne h, cpS_ne h, cpS_ne h]
theorem in_c {k : Int32} {a b : Nat} {u v : Int64} (hu : u = lN a) (hv : v = lN b) (ha : a < 2 ^ 30) (hb : b < 2 ^ 30) : decide (u ≤ k.toInt64 ∧ k.toInt64 ≤ v) = decide (nI a ≤ k ∧ k ≤ nI b) := by
  subst hu hv
  refine decide_eq_decide.mpr (and_congr ?_ ?_)
  · rw [Int64.le_iff_toInt_le, Int32.toInt_toInt64, Int32.le_iff_toInt_le, nI_toInt (by omega), lN_toInt (by omega)]
  · rw [Int64.le_iff_toInt_le, Int32.toInt_toInt64, Int32.le_iff_toInt_le, nI_toInt (by omega), lN_toInt (by omega)]
theorem dec_ix {k : Int32} {n : Nat} (hn : n < 2 ^ 30) : decide (nI 0 ≤ k ∧ k ≤ nI n) = ixB k (n + 1) := by
  unfold ixB
  refine decide_eq_decide.mpr (and_congr ?_ ?_)
  · rw [Int32.not_lt]
  · rw [Int32.le_iff_toInt_le, Int32.lt_iff_toInt_lt, nI_toInt (by omega), nI_toInt (by omega)]
    omega
theorem in_z {k : Int32} {n : Nat} {v : Int64} (hv : v = lN n) (hn : n < 2 ^ 30) : decide ((0 : Int64) ≤ k.toInt64 ∧ k.toInt64 ≤ v) = ixB k (n + 1) := (in_c (a := 0) rfl hv (by decide) hn).trans (dec_ix hn)
section P54
variable {o : ai_S} {d : Nat} {w : ai_W} {m m' : Nat → Nat → Int32} {lg lg' : Nat → Nat → Int64} {tx : TX} {p : PT} {x : HS} {n : Nat} {A : Nat → HS} {kp : Nat → Bool} {K : Nat → HS} {so : SO} {sd : Int64} {r : Option Value × ai_W} {k k2 k3 : Int32}
theorem RM.q (h : RM tx p x n A kp K so sd m lg) (hf : FrN m m') : RM tx p x n A kp K so sd m' lg := by
  obtain ⟨⟨t1, t2, t3⟩, hp, hh, ⟨a1, a2, a3⟩, ⟨w1, w2⟩, ⟨s1, s2, s3⟩, h8⟩ := h
  have g := hf.1
  have f := hf.2
  refine ⟨⟨t1, by rw [f 2 (by omega)]; exact t2, fun i hi => by rw [g 134 (by omega)]; exact t3 i hi⟩, hp.fr (f 4 (by omega)) (f 6 (by omega)) (f 8 (by omega)) (g 135 (by omega)) (g 136 (by omega)) (g 137 (by omega)), by rw [g 141 (by omega)]; exact hh, ⟨a1, by rw [f 19 (by omega)]; exact a2, fun i hi => by rw [g 143 (by omega)]; exact a3 i hi⟩, ⟨fun i hi => by rw [g 145 (by omega)]; exact w1 i hi, fun i hi hk => by rw [g 144 (by omega)]; exact w2 i hi hk⟩, ⟨s1, by rw [f 22 (by omega)]; exact s2, fun i hi => by rw [g 146 (by omega), g 147 (by omega), g 148 (by omega)]; exact s3 i hi⟩, h8⟩
theorem RM.lgq (h : RM tx p x n A kp K so sd m lg) (hl : lg' 133 26 = lg 133 26) : RM tx p x n A kp K so sd m lg' := by
  obtain ⟨h1, h2, h3, h4, h5, h6, h7⟩ := h
  exact ⟨h1, h2, h3, h4, h5, h6, by rw [hl]; exact h7⟩
theorem s_X8_plainly : Ev o d zX8_plainly [.ref 133] (ai_w m lg) none (ai_w (ai_up (ai_up m 133 28 (nI 15)) 133 27 (nI 0)) lg) := by
  rw [ev_X8_plainly]
  simp only [e_X8_plainly_0, e_X8_plainly_1, e_X8_plainly_3, e_X8_plainly_6, e_X8_plainly_7, e_X8_plainly_8, e_X8_plainly_11, eq_self, nI10, not_false_eq_true, not_true_eq_false, is2_i, is2_r, is2_n, nI_add, pk_mul, Nat.reduceAdd, Nat.reduceMul]
theorem frT : FrN m (ai_up m 133 0 (nI 0)) := FrN.up (by decide)
theorem frPL : FrN m (ai_up (ai_up m 133 28 (nI 15)) 133 27 (nI 0)) := (FrN.up (by decide)).trans (FrN.up (by decide))
theorem pl28 : ai_up (ai_up m 133 28 (nI 15)) 133 27 (nI 0) 133 28 = nI 15 := by rw [up_eq, if_neg (by decide), up_eq, if_pos rfl]
theorem pl27 : ai_up (ai_up m 133 28 (nI 15)) 133 27 (nI 0) 133 27 = nI 0 := by rw [up_eq, if_pos rfl]
theorem s_X8_write (h : RM tx p x n A kp K so sd m lg) : ∃ m', RM (uWrite tx k) p x n A kp K so sd m' lg ∧ FrK m m' ∧ Ev o (d + 20) zX8_write [.ref 133, .int k] (ai_w m lg) (some (.int (aWrite tx k))) (ai_w m' lg) := by
  have h' := h.q (frT (m := m))
  have ei := in_z (k := k) (n := 255) (v := 255) rfl (by decide)
  rcases sw_cases k 256 (by decide) with ⟨j, hj, rfl, hs, hx⟩ | ⟨hs, hx, hn⟩
  · by_cases h48 : tx.1 < 48
    · have e : uWrite tx (nI j) = (tx.1 + 1, va_up tx.2 tx.1 j) := by unfold uWrite; rw [hs]; exact if_pos h48
      have ea : aWrite tx (nI j) = nI (tx.1 + 1) := by unfold aWrite; rw [hs]; exact if_pos h48
      rw [e, ea]
      obtain ⟨⟨t1, t2, t3⟩, hp, hh, ⟨a1, a2, a3⟩, ⟨w1, w2⟩, ⟨s1, s2, s3⟩, h8⟩ := h'
      obtain ⟨m1, hm1⟩ : ∃ m1, m1 = ai_up m 133 0 (nI 0) := ⟨_, rfl⟩
      rw [← hm1] at t2 t3 hp hh a2 a3 w1 w2 s2 s3
      have e2 := nI_9 (a := tx.1) (c := 48) (by omega) (by omega)
      have ne : ¬ tx.1 = 48 := by omega
      obtain ⟨m2, hm2⟩ : ∃ m2, m2 = ai_up (ai_up m1 134 tx.1 (nI j)) 133 2 (nI (tx.1 + 1)) := ⟨_, rfl⟩
      have g : ∀ i, i ≠ 133 → i ≠ 134 → m2 i = m1 i := fun i x1 x2 => by rw [hm2, up_ne x1, up_ne x2]
      have f : ∀ q, q ≠ 2 → m2 133 q = m1 133 q := fun q hq => by rw [hm2, up_eq, if_neg hq, up_ne (by decide)]
      refine ⟨m2, ⟨⟨h48, by rw [hm2, up_eq, if_pos rfl], fun i hi => ?_⟩, hp.fr (f 4 (by decide)) (f 6 (by decide)) (f 8 (by decide)) (g 135 (by decide) (by decide)) (g 136 (by decide) (by decide)) (g 137 (by decide) (by decide)), by rw [g 141 (by decide) (by decide)]; exact hh, ⟨a1, by rw [f 19 (by decide)]; exact a2, fun i hi => by rw [g 143 (by decide) (by decide)]; exact a3 i hi⟩, ⟨fun i hi => by rw [g 145 (by decide) (by decide)]; exact w1 i hi, fun i hi hk => by rw [g 144 (by decide) (by decide)]; exact w2 i hi hk⟩, ⟨s1, by rw [f 22 (by decide)]; exact s2, fun i hi => by rw [g 146 (by decide) (by decide), g 147 (by decide) (by decide), g 148 (by decide) (by decide)]; exact s3 i hi⟩, h8⟩, fun i hi => by rw [g i (by omega) (by omega), hm1, up_ne (by omega)], ?_⟩
      · rw [hm2, up_ne (by decide), up_eq]
        simp only [va_up]
        split
        · exact ⟨rfl, by omega⟩
        · exact t3 i (by simp only at hi; omega)
      · rw [ev_X8_write, hm2]
        simp only [e_X8_write_0, e_X8_write_1, e_X8_write_2, e_X8_write_5, e_X8_write_6, e_X8_write_7, e_X8_write_8, e_X8_write_14, e_X8_write_17, e_X8_write_19, e_X8_write_20, e_X8_write_21, e_X8_write_24, e_X8_write_26, e_X8_write_29, e_X8_write_31, e_X8_write_32, e_X8_write_33, e_X8_write_36, e_X8_write_37, e_X8_write_40, e_X8_write_41, e_X8_write_42, e_X8_write_43, e_X8_write_44, e_X8_write_47, e_X8_write_48, e_X8_write_49, e_X8_write_52, e_X8_write_53, e_X8_write_56, eq_self, nI10, not_false_eq_true, not_true_eq_false, is2_i, is2_r, is2_n, nI_add, pk_mul, Nat.reduceAdd, Nat.reduceMul, ← hm1, e_X8_write_11 (hE := s_X8_in), ei, hx, bI_z, Bool.true_eq_false, if_true, t2, e2, ne, m0_134, ml_134, h48, up_ne (show (133 : Nat) ≠ 134 by decide), up_eq]
    · have h48' : tx.1 = 48 := by have := h.1.1; omega
      have e : uWrite tx (nI j) = tx := by unfold uWrite; rw [hs]; exact if_neg h48
      have ea : aWrite tx (nI j) = -4 := by unfold aWrite; rw [hs]; exact if_neg h48
      rw [e, ea]
      refine ⟨_, h', (frT (m := m)).k, ?_⟩
      have t2 := h'.1.2.1
      rw [ev_X8_write]
      simp only [e_X8_write_0, e_X8_write_1, e_X8_write_2, e_X8_write_5, e_X8_write_6, e_X8_write_7, e_X8_write_8, e_X8_write_14, e_X8_write_17, e_X8_write_19, e_X8_write_20, e_X8_write_21, e_X8_write_24, e_X8_write_26, e_X8_write_29, e_X8_write_31, e_X8_write_32, e_X8_write_33, e_X8_write_36, e_X8_write_37, e_X8_write_40, e_X8_write_41, e_X8_write_42, e_X8_write_43, e_X8_write_44, e_X8_write_47, e_X8_write_48, e_X8_write_49, e_X8_write_52, e_X8_write_53, e_X8_write_56, eq_self, nI10, not_false_eq_true, not_true_eq_false, is2_i, is2_r, is2_n, nI_add, pk_mul, Nat.reduceAdd, Nat.reduceMul, e_X8_write_11 (hE := s_X8_in), ei, hx, bI_z, Bool.true_eq_false, if_true, if_false, t2, h48']
  · have e : uWrite tx k = tx := by unfold uWrite; rw [hs]
    have ea : aWrite tx k = -2 := by unfold aWrite; rw [hs]
    rw [e, ea]
    refine ⟨_, h', (frT (m := m)).k, ?_⟩
    rw [ev_X8_write]
    simp only [e_X8_write_0, e_X8_write_1, e_X8_write_2, e_X8_write_5, e_X8_write_6, e_X8_write_7, e_X8_write_8, e_X8_write_14, e_X8_write_17, e_X8_write_19, e_X8_write_20, e_X8_write_21, e_X8_write_24, e_X8_write_26, e_X8_write_29, e_X8_write_31, e_X8_write_32, e_X8_write_33, e_X8_write_36, e_X8_write_37, e_X8_write_40, e_X8_write_41, e_X8_write_42, e_X8_write_43, e_X8_write_44, e_X8_write_47, e_X8_write_48, e_X8_write_49, e_X8_write_52, e_X8_write_53, e_X8_write_56, eq_self, nI10, not_false_eq_true, not_true_eq_false, is2_i, is2_r, is2_n, nI_add, pk_mul, Nat.reduceAdd, Nat.reduceMul, e_X8_write_11 (hE := s_X8_in), ei, hx, bI_z, if_false]
theorem s_X8_wipe (h : RM tx p x n A kp K so sd m lg) : ∃ m', RM (0, tx.2) p x n A kp K so sd m' lg ∧ FrK m m' ∧ Ev o (d + 20) zX8_wipe [.ref 133] (ai_w m lg) (some (.int (nI tx.1))) (ai_w m' lg) := by
  obtain ⟨⟨t1, t2, t3⟩, hp, hh, ⟨a1, a2, a3⟩, ⟨w1, w2⟩, ⟨s1, s2, s3⟩, h8⟩ := h.q (frT (m := m))
  obtain ⟨m1, hm1⟩ : ∃ m1, m1 = ai_up m 133 0 (nI 0) := ⟨_, rfl⟩
  rw [← hm1] at t2 t3 hp hh a2 a3 w1 w2 s2 s3
  have g : ∀ i, i ≠ 133 → ai_up m1 133 2 (nI 0) i = m1 i := fun i x1 => up_ne x1
  have f : ∀ q, q ≠ 2 → ai_up m1 133 2 (nI 0) 133 q = m1 133 q := fun q hq => by rw [up_eq, if_neg hq]
  refine ⟨ai_up m1 133 2 (nI 0), ⟨⟨Nat.zero_le _, by rw [up_eq, if_pos rfl], fun i hi => absurd hi (Nat.not_lt_zero i)⟩, hp.fr (f 4 (by decide)) (f 6 (by decide)) (f 8 (by decide)) (g 135 (by decide)) (g 136 (by decide)) (g 137 (by decide)), by rw [g 141 (by decide)]; exact hh, ⟨a1, by rw [f 19 (by decide)]; exact a2, fun i hi => by rw [g 143 (by decide)]; exact a3 i hi⟩, ⟨fun i hi => by rw [g 145 (by decide)]; exact w1 i hi, fun i hi hk => by rw [g 144 (by decide)]; exact w2 i hi hk⟩, ⟨s1, by rw [f 22 (by decide)]; exact s2, fun i hi => by rw [g 146 (by decide), g 147 (by decide), g 148 (by decide)]; exact s3 i hi⟩, h8⟩, fun i hi => by rw [g i (by omega), hm1, up_ne (by omega)], ?_⟩
  rw [ev_X8_wipe]
  simp only [e_X8_wipe_0, e_X8_wipe_1, e_X8_wipe_2, e_X8_wipe_5, e_X8_wipe_6, e_X8_wipe_9_i, e_X8_wipe_9_r, e_X8_wipe_10, e_X8_wipe_11, e_X8_wipe_12, e_X8_wipe_15, e_X8_wipe_16, eq_self, nI10, not_false_eq_true, not_true_eq_false, is2_i, is2_r, is2_n, nI_add, pk_mul, Nat.reduceAdd, Nat.reduceMul, ← hm1, t2]
theorem s_X8_woke (hp : RMp p m) (hh : RG p x (m 141)) : Ev o d zX8_woke [.ref 133] (ai_w m lg) (some (.int (sumW x.2.2.2.2.1 p.2.2.1))) (ai_w m lg) := by
  have hB := hp.1.2.1
  have lp : ∀ j c, c + j = p.2.2.1 → Rn o d zX8_woke 4 [.ref 133, .int (sumW x.2.2.2.2.1 c), .int (nI c)] [] (ai_w m lg) (some (.int (sumW x.2.2.2.2.1 p.2.2.1)), ai_w m lg) := by
    intro j
    induction j with
    | zero =>
      intro c hj
      have : c = p.2.2.1 := by omega
      subst this
      rw [e_X8_woke_4]
      simp only [e_X8_woke_0, e_X8_woke_1_i, e_X8_woke_1_r, e_X8_woke_2, e_X8_woke_3_i, e_X8_woke_3_r, e_X8_woke_3_n, e_X8_woke_5, e_X8_woke_6, e_X8_woke_9, e_X8_woke_12, e_X8_woke_13, e_X8_woke_14, e_X8_woke_17, e_X8_woke_19, e_X8_woke_20, e_X8_woke_21, e_X8_woke_22, e_X8_woke_23_i, e_X8_woke_23_r, e_X8_woke_24_i, e_X8_woke_24_r, e_X8_woke_24_n, e_X8_woke_27, e_X8_woke_30, e_X8_woke_31, eq_self, nI10, not_false_eq_true, not_true_eq_false, is2_i, is2_r, is2_n, nI_add, pk_mul, Nat.reduceAdd, Nat.reduceMul, hp.2.2.1, Int32.le_refl, if_true]
    | succ j ih =>
      intro c hj
      have e1 : ¬ nI p.2.2.1 ≤ nI c := nI_ge (by omega) (by omega)
      have c24 : 19 + c < 24 := by omega
      have := ih (c + 1) (by omega)
      rw [sumW] at this
      rw [e_X8_woke_4]
      simp only [e_X8_woke_0, e_X8_woke_1_i, e_X8_woke_1_r, e_X8_woke_2, e_X8_woke_3_i, e_X8_woke_3_r, e_X8_woke_3_n, e_X8_woke_5, e_X8_woke_6, e_X8_woke_9, e_X8_woke_12, e_X8_woke_13, e_X8_woke_14, e_X8_woke_17, e_X8_woke_19, e_X8_woke_20, e_X8_woke_21, e_X8_woke_22, e_X8_woke_23_i, e_X8_woke_23_r, e_X8_woke_24_i, e_X8_woke_24_r, e_X8_woke_24_n, e_X8_woke_27, e_X8_woke_30, e_X8_woke_31, eq_self, nI10, not_false_eq_true, not_true_eq_false, is2_i, is2_r, is2_n, nI_add, pk_mul, Nat.reduceAdd, Nat.reduceMul, hp.2.2.1, e1, if_false, m0_141, ml_141, c24, hh.2.2.2.2.2.1 c (by omega)]
      exact this
  rw [ev_X8_woke]
  simp only [e_X8_woke_0, e_X8_woke_1_i, e_X8_woke_1_r, e_X8_woke_2, e_X8_woke_3_i, e_X8_woke_3_r, e_X8_woke_3_n, e_X8_woke_5, e_X8_woke_6, e_X8_woke_9, e_X8_woke_12, e_X8_woke_13, e_X8_woke_14, e_X8_woke_17, e_X8_woke_19, e_X8_woke_20, e_X8_woke_21, e_X8_woke_22, e_X8_woke_23_i, e_X8_woke_23_r, e_X8_woke_24_i, e_X8_woke_24_r, e_X8_woke_24_n, e_X8_woke_27, e_X8_woke_30, e_X8_woke_31, eq_self, nI10, not_false_eq_true, not_true_eq_false, is2_i, is2_r, is2_n, nI_add, pk_mul, Nat.reduceAdd, Nat.reduceMul]
  exact lp p.2.2.1 0 (by omega)
theorem s_X8_about (h : RM tx p x n A kp K so sd m lg) : ∃ m', RM tx p x n A kp K so sd m' lg ∧ FrK m m' ∧ Ev o (d + 20) zX8_about [.ref 133, .int k] (ai_w m lg) (some (.int (aAbout tx p x n so k))) (ai_w m' lg) := by
  have h' := h.q (frT (m := m))
  obtain ⟨m1, hm1⟩ : ∃ m1, m1 = ai_up m 133 0 (nI 0) := ⟨_, rfl⟩
  have hk := (frT (m := m)).k
  rw [← hm1] at h' hk
  refine ⟨m1, h', hk, ?_⟩
  obtain ⟨⟨t1, t2, t3⟩, hp, hh, ⟨a1, a2, a3⟩, ⟨w1, w2⟩, ⟨s1, s2, s3⟩, h8⟩ := h'
  have ha : aiP 141 := Or.inl rfl
  have hn : x.2.2.2.2.2 < 2 ^ 31 := by have := hh.1.2.2.2; omega
  rw [ev_X8_about]
  rcases sw_cases k 12 (by decide) with ⟨j, hj, rfl, hs, _⟩ | ⟨hs, _, hn⟩
  · rcases (show j = 0 ∨ j = 1 ∨ j = 2 ∨ j = 3 ∨ j = 4 ∨ j = 5 ∨ j = 6 ∨ j = 7 ∨ j = 8 ∨ j = 9 ∨ j = 10 ∨ j = 11 by omega) with rfl | rfl | rfl | rfl | rfl | rfl | rfl | rfl | rfl | rfl | rfl | rfl
    all_goals (unfold aAbout; rw [hs]; simp only [e_X8_about_0, e_X8_about_1, e_X8_about_2, e_X8_about_5, e_X8_about_6_0, e_X8_about_6_1, e_X8_about_6_2, e_X8_about_6_3, e_X8_about_6_4, e_X8_about_6_5, e_X8_about_6_6, e_X8_about_6_7, e_X8_about_6_8, e_X8_about_6_9, e_X8_about_6_10, e_X8_about_6_11, e_X8_about_6_d, e_X8_about_68, e_X8_about_69, e_X8_about_72, e_X8_about_73, e_X8_about_74, e_X8_about_77, e_X8_about_78, e_X8_about_79, e_X8_about_82, e_X8_about_83, e_X8_about_84, e_X8_about_87, e_X8_about_89, e_X8_about_90, e_X8_about_91, e_X8_about_92, e_X8_about_93, e_X8_about_96, e_X8_about_98, e_X8_about_102, e_X8_about_103, e_X8_about_104, e_X8_about_105, e_X8_about_108, e_X8_about_113, e_X8_about_114, e_X8_about_115, e_X8_about_116, e_X8_about_122, e_X8_about_123, e_X8_about_124, e_X8_about_125, e_X8_about_128, e_X8_about_133, e_X8_about_134, e_X8_about_138, e_X8_about_139, e_X8_about_140, e_X8_about_143, e_X8_about_144, e_X8_about_145, e_X8_about_148, e_X8_about_149, e_X8_about_150, e_X8_about_153, e_X8_about_154, e_X8_about_156, eq_self, nI10, not_false_eq_true, not_true_eq_false, is2_i, is2_r, is2_n, nI_add, pk_mul, Nat.reduceAdd, Nat.reduceMul, ← hm1, hp.2.1, hp.2.2.1, hp.2.2.2.1, m0_141, ml_141, show (23 : Nat) < 24 by decide, hh.2.2.2.2.2.2, e_X8_about_99 (hE := s_X8_tideOf hp hn), e_X8_about_110 (hE := s_X8_dreamsAt hp hh ha (c := 8) (by decide)), e_X8_about_119 (hE := s_X8_berthed hp hh ha), e_X8_about_130 (hE := s_X8_dreamsAt hp hh ha (c := 9) (by decide)), e_X8_about_135 (hE := s_X8_woke hp hh), a2, s2, t2])
  · have ea : aAbout tx p x n so k = -2 := by unfold aAbout; rw [hs]
    rw [ea]
    simp only [e_X8_about_0, e_X8_about_1, e_X8_about_2, e_X8_about_5, e_X8_about_6_0, e_X8_about_6_1, e_X8_about_6_2, e_X8_about_6_3, e_X8_about_6_4, e_X8_about_6_5, e_X8_about_6_6, e_X8_about_6_7, e_X8_about_6_8, e_X8_about_6_9, e_X8_about_6_10, e_X8_about_6_11, e_X8_about_6_d, e_X8_about_68, e_X8_about_69, e_X8_about_72, e_X8_about_73, e_X8_about_74, e_X8_about_77, e_X8_about_78, e_X8_about_79, e_X8_about_82, e_X8_about_83, e_X8_about_84, e_X8_about_87, e_X8_about_89, e_X8_about_90, e_X8_about_91, e_X8_about_92, e_X8_about_93, e_X8_about_96, e_X8_about_98, e_X8_about_102, e_X8_about_103, e_X8_about_104, e_X8_about_105, e_X8_about_108, e_X8_about_113, e_X8_about_114, e_X8_about_115, e_X8_about_116, e_X8_about_122, e_X8_about_123, e_X8_about_124, e_X8_about_125, e_X8_about_128, e_X8_about_133, e_X8_about_134, e_X8_about_138, e_X8_about_139, e_X8_about_140, e_X8_about_143, e_X8_about_144, e_X8_about_145, e_X8_about_148, e_X8_about_149, e_X8_about_150, e_X8_about_153, e_X8_about_154, e_X8_about_156, eq_self, nI10, not_false_eq_true, not_true_eq_false, is2_i, is2_r, is2_n, nI_add, pk_mul, Nat.reduceAdd, Nat.reduceMul, ← hm1, e_X8_about_6_d (sw_toInt (n := 12) (by decide) hn)]
theorem s_X8_berth (h : RM tx p x n A kp K so sd m lg) : ∃ m', RM tx p x n A kp K so sd m' lg ∧ FrK m m' ∧ Ev o (d + 20) zX8_berth [.ref 133, .int k, .int k2] (ai_w m lg) (some (.int (aBerth p x k k2))) (ai_w m' lg) := by
  have f := (frT (m := m)).trans (frPL (m := ai_up m 133 0 (nI 0)))
  have h' := h.q f
  have r27 := pl27 (m := ai_up m 133 0 (nI 0))
  obtain ⟨m2, hm2⟩ : ∃ m2, m2 = ai_up (ai_up (ai_up m 133 0 (nI 0)) 133 28 (nI 15)) 133 27 (nI 0) := ⟨_, rfl⟩
  rw [← hm2] at h' f r27
  refine ⟨m2, h', f.k, ?_⟩
  obtain ⟨⟨t1, t2, t3⟩, hp, hh, ⟨a1, a2, a3⟩, ⟨w1, w2⟩, ⟨s1, s2, s3⟩, h8⟩ := h'
  have hB := hp.1.2.1
  have ha : aiP 141 := Or.inl rfl
  rw [ev_X8_berth]
  rcases sw_cases k p.2.2.1 (by omega) with ⟨c, hc, rfl, hs, hx⟩ | ⟨hs, hx, hn⟩
  · have c4 : c < 4 := by omega
    have c24 : 15 + c < 24 := by omega
    have c25 : 19 + c < 24 := by omega
    have eW : mWater p x 0 c = pWater p x c := by unfold mWater pWater; rw [tE_0]
    rcases sw_cases k2 5 (by decide) with ⟨j, hj, rfl, hs2, _⟩ | ⟨hs2, _, hn2⟩
    · rcases (show j = 0 ∨ j = 1 ∨ j = 2 ∨ j = 3 ∨ j = 4 by omega) with rfl | rfl | rfl | rfl | rfl
      all_goals (unfold aBerth; rw [hs]; dsimp only; rw [hs2]; simp only [e_X8_berth_0, e_X8_berth_1, e_X8_berth_2, e_X8_berth_5, e_X8_berth_9, e_X8_berth_10, e_X8_berth_14, e_X8_berth_17, e_X8_berth_18, e_X8_berth_19, e_X8_berth_20_0, e_X8_berth_20_1, e_X8_berth_20_2, e_X8_berth_20_3, e_X8_berth_20_4, e_X8_berth_20_d, e_X8_berth_56, e_X8_berth_57, e_X8_berth_60, e_X8_berth_62, e_X8_berth_63, e_X8_berth_64, e_X8_berth_65, e_X8_berth_66, e_X8_berth_67, e_X8_berth_70, e_X8_berth_71, e_X8_berth_72, e_X8_berth_73, e_X8_berth_74, e_X8_berth_75, e_X8_berth_78, e_X8_berth_82, e_X8_berth_83, e_X8_berth_84, e_X8_berth_85, e_X8_berth_88, e_X8_berth_92, e_X8_berth_93, e_X8_berth_94, e_X8_berth_97, e_X8_berth_99, e_X8_berth_100, e_X8_berth_101, e_X8_berth_102, e_X8_berth_103, e_X8_berth_105, eq_self, nI10, not_false_eq_true, not_true_eq_false, is2_i, is2_r, is2_n, nI_add, pk_mul, Nat.reduceAdd, Nat.reduceMul, e_X8_berth_6 (hE := s_X8_plainly), ← hm2, e_X8_berth_11 (hE := s_X8_noBerth hp), hx, Bool.not_true, bI_z, if_true, m0_141, ml_141, m0_136, ml_136, c4, c24, c25, hh.2.2.2.2.1 c hc, hp.2.2.2.2.2.1 c hc, hh.2.2.2.2.2.1 c hc, e_X8_berth_79 (hE := s_X8_waterOf hp hh ha r27 (by decide) hc), eW, e_X8_berth_89 (hE := s_X8_dreamsAt hp hh ha (show c < 2 ^ 31 by omega))])
    · have ea : aBerth p x (nI c) k2 = -2 := by unfold aBerth; rw [hs]; dsimp only; rw [hs2]
      rw [ea]
      simp only [e_X8_berth_0, e_X8_berth_1, e_X8_berth_2, e_X8_berth_5, e_X8_berth_9, e_X8_berth_10, e_X8_berth_14, e_X8_berth_17, e_X8_berth_18, e_X8_berth_19, e_X8_berth_20_0, e_X8_berth_20_1, e_X8_berth_20_2, e_X8_berth_20_3, e_X8_berth_20_4, e_X8_berth_20_d, e_X8_berth_56, e_X8_berth_57, e_X8_berth_60, e_X8_berth_62, e_X8_berth_63, e_X8_berth_64, e_X8_berth_65, e_X8_berth_66, e_X8_berth_67, e_X8_berth_70, e_X8_berth_71, e_X8_berth_72, e_X8_berth_73, e_X8_berth_74, e_X8_berth_75, e_X8_berth_78, e_X8_berth_82, e_X8_berth_83, e_X8_berth_84, e_X8_berth_85, e_X8_berth_88, e_X8_berth_92, e_X8_berth_93, e_X8_berth_94, e_X8_berth_97, e_X8_berth_99, e_X8_berth_100, e_X8_berth_101, e_X8_berth_102, e_X8_berth_103, e_X8_berth_105, eq_self, nI10, not_false_eq_true, not_true_eq_false, is2_i, is2_r, is2_n, nI_add, pk_mul, Nat.reduceAdd, Nat.reduceMul, e_X8_berth_6 (hE := s_X8_plainly), ← hm2, e_X8_berth_11 (hE := s_X8_noBerth hp), hx, Bool.not_true, bI_z, if_true, e_X8_berth_20_d (sw_toInt (n := 5) (by decide) hn2)]
  · have ea : aBerth p x k k2 = -1 := by unfold aBerth; rw [hs]
    rw [ea]
    simp only [e_X8_berth_0, e_X8_berth_1, e_X8_berth_2, e_X8_berth_5, e_X8_berth_9, e_X8_berth_10, e_X8_berth_14, e_X8_berth_17, e_X8_berth_18, e_X8_berth_19, e_X8_berth_20_0, e_X8_berth_20_1, e_X8_berth_20_2, e_X8_berth_20_3, e_X8_berth_20_4, e_X8_berth_20_d, e_X8_berth_56, e_X8_berth_57, e_X8_berth_60, e_X8_berth_62, e_X8_berth_63, e_X8_berth_64, e_X8_berth_65, e_X8_berth_66, e_X8_berth_67, e_X8_berth_70, e_X8_berth_71, e_X8_berth_72, e_X8_berth_73, e_X8_berth_74, e_X8_berth_75, e_X8_berth_78, e_X8_berth_82, e_X8_berth_83, e_X8_berth_84, e_X8_berth_85, e_X8_berth_88, e_X8_berth_92, e_X8_berth_93, e_X8_berth_94, e_X8_berth_97, e_X8_berth_99, e_X8_berth_100, e_X8_berth_101, e_X8_berth_102, e_X8_berth_103, e_X8_berth_105, eq_self, nI10, not_false_eq_true, not_true_eq_false, is2_i, is2_r, is2_n, nI_add, pk_mul, Nat.reduceAdd, Nat.reduceMul, e_X8_berth_6 (hE := s_X8_plainly), ← hm2, e_X8_berth_11 (hE := s_X8_noBerth hp), hx, Bool.not_false, bI_z, Bool.true_eq_false, if_false]
theorem s_X8_dream (h : RM tx p x n A kp K so sd m lg) : ∃ m', RM tx p x n A kp K so sd m' lg ∧ FrK m m' ∧ Ev o (d + 20) zX8_dream [.ref 133, .int k, .int k2] (ai_w m lg) (some (.int (aDream p x k k2))) (ai_w m' lg) := by
  have f := (frT (m := m)).trans (frPL (m := ai_up m 133 0 (nI 0)))
  have h' := h.q f
  have r28 := pl28 (m := ai_up m 133 0 (nI 0))
  obtain ⟨m2, hm2⟩ : ∃ m2, m2 = ai_up (ai_up (ai_up m 133 0 (nI 0)) 133 28 (nI 15)) 133 27 (nI 0) := ⟨_, rfl⟩
  rw [← hm2] at h' f r28
  refine ⟨m2, h', f.k, ?_⟩
  obtain ⟨⟨t1, t2, t3⟩, hp, hh, ⟨a1, a2, a3⟩, ⟨w1, w2⟩, ⟨s1, s2, s3⟩, h8⟩ := h'
  have hD := hp.1.2.2.1
  have hB := hp.1.2.1
  have ha : aiP 141 := Or.inl rfl
  rw [ev_X8_dream]
  rcases sw_cases k p.2.2.2.2.1 (by omega) with ⟨c, hc, rfl, hs, hx⟩ | ⟨hs, hx, hn⟩
  · have c5 : c < 5 := by omega
    have c24 : c < 24 := by omega
    have c25 : 5 + c < 24 := by omega
    have c26 : 10 + c < 24 := by omega
    have h9 := hg_p hp.1 hh hc
    have e8 := nI_9 (a := x.1 c) (c := 8) (by omega) (by omega)
    have em : mk (mCan p x 15 c) p.2.2.1 = mk (pCan p x c) p.2.2.1 := mk_congr (fun b hb => mCan15 (by omega))
    have sm := s_X8_mayBe (o := o) (d := d + 17) (lg := lg) hp hh ha r28 (by decide) hc
    rw [em] at sm
    rcases sw_cases k2 5 (by decide) with ⟨j, hj, rfl, hs2, _⟩ | ⟨hs2, _, hn2⟩
    · rcases (show j = 0 ∨ j = 1 ∨ j = 2 ∨ j = 3 ∨ j = 4 by omega) with rfl | rfl | rfl | rfl | rfl
      all_goals (unfold aDream; rw [hs]; dsimp only; rw [hs2]; simp only [e_X8_dream_0, e_X8_dream_1, e_X8_dream_2, e_X8_dream_5, e_X8_dream_9, e_X8_dream_10, e_X8_dream_14, e_X8_dream_17, e_X8_dream_18, e_X8_dream_19, e_X8_dream_20_0, e_X8_dream_20_1, e_X8_dream_20_2, e_X8_dream_20_3, e_X8_dream_20_4, e_X8_dream_20_d, e_X8_dream_56, e_X8_dream_57, e_X8_dream_60, e_X8_dream_62, e_X8_dream_63, e_X8_dream_64, e_X8_dream_65, e_X8_dream_66, e_X8_dream_67, e_X8_dream_70, e_X8_dream_71, e_X8_dream_72, e_X8_dream_73, e_X8_dream_74, e_X8_dream_77, e_X8_dream_78, e_X8_dream_79, e_X8_dream_80, e_X8_dream_81, e_X8_dream_84, e_X8_dream_85, e_X8_dream_86, e_X8_dream_88, e_X8_dream_91, e_X8_dream_92, e_X8_dream_95, e_X8_dream_96, e_X8_dream_97, e_X8_dream_98, e_X8_dream_99, e_X8_dream_102, e_X8_dream_104, e_X8_dream_105, e_X8_dream_106, e_X8_dream_109, e_X8_dream_110, e_X8_dream_111, e_X8_dream_113, e_X8_dream_116, e_X8_dream_117, e_X8_dream_118, e_X8_dream_121, e_X8_dream_125, e_X8_dream_128, e_X8_dream_129, e_X8_dream_130, e_X8_dream_132, eq_self, nI10, not_false_eq_true, not_true_eq_false, is2_i, is2_r, is2_n, nI_add, pk_mul, Nat.reduceAdd, Nat.reduceMul, e_X8_dream_6 (hE := s_X8_plainly), ← hm2, e_X8_dream_11 (hE := s_X8_noDream hp), hx, Bool.not_true, bI_z, if_true, m0_141, ml_141, m0_137, ml_137, c5, c24, c25, c26, hh.2.1 c hc, hh.2.2.1 c hc, hp.2.2.2.2.2.2 c hc, hh.2.2.2.1 c hc, e8, e_X8_dream_122 (hE := sm)])
      · by_cases h8 : x.1 c = 8 <;> simp [h8]
      · by_cases h8 : x.1 c = 8 <;> simp [h8]
    · have ea : aDream p x (nI c) k2 = -2 := by unfold aDream; rw [hs]; dsimp only; rw [hs2]
      rw [ea]
      simp only [e_X8_dream_0, e_X8_dream_1, e_X8_dream_2, e_X8_dream_5, e_X8_dream_9, e_X8_dream_10, e_X8_dream_14, e_X8_dream_17, e_X8_dream_18, e_X8_dream_19, e_X8_dream_20_0, e_X8_dream_20_1, e_X8_dream_20_2, e_X8_dream_20_3, e_X8_dream_20_4, e_X8_dream_20_d, e_X8_dream_56, e_X8_dream_57, e_X8_dream_60, e_X8_dream_62, e_X8_dream_63, e_X8_dream_64, e_X8_dream_65, e_X8_dream_66, e_X8_dream_67, e_X8_dream_70, e_X8_dream_71, e_X8_dream_72, e_X8_dream_73, e_X8_dream_74, e_X8_dream_77, e_X8_dream_78, e_X8_dream_79, e_X8_dream_80, e_X8_dream_81, e_X8_dream_84, e_X8_dream_85, e_X8_dream_86, e_X8_dream_88, e_X8_dream_91, e_X8_dream_92, e_X8_dream_95, e_X8_dream_96, e_X8_dream_97, e_X8_dream_98, e_X8_dream_99, e_X8_dream_102, e_X8_dream_104, e_X8_dream_105, e_X8_dream_106, e_X8_dream_109, e_X8_dream_110, e_X8_dream_111, e_X8_dream_113, e_X8_dream_116, e_X8_dream_117, e_X8_dream_118, e_X8_dream_121, e_X8_dream_125, e_X8_dream_128, e_X8_dream_129, e_X8_dream_130, e_X8_dream_132, eq_self, nI10, not_false_eq_true, not_true_eq_false, is2_i, is2_r, is2_n, nI_add, pk_mul, Nat.reduceAdd, Nat.reduceMul, e_X8_dream_6 (hE := s_X8_plainly), ← hm2, e_X8_dream_11 (hE := s_X8_noDream hp), hx, Bool.not_true, bI_z, if_true, e_X8_dream_20_d (sw_toInt (n := 5) (by decide) hn2)]
  · have ea : aDream p x k k2 = -1 := by unfold aDream; rw [hs]
    rw [ea]
    simp only [e_X8_dream_0, e_X8_dream_1, e_X8_dream_2, e_X8_dream_5, e_X8_dream_9, e_X8_dream_10, e_X8_dream_14, e_X8_dream_17, e_X8_dream_18, e_X8_dream_19, e_X8_dream_20_0, e_X8_dream_20_1, e_X8_dream_20_2, e_X8_dream_20_3, e_X8_dream_20_4, e_X8_dream_20_d, e_X8_dream_56, e_X8_dream_57, e_X8_dream_60, e_X8_dream_62, e_X8_dream_63, e_X8_dream_64, e_X8_dream_65, e_X8_dream_66, e_X8_dream_67, e_X8_dream_70, e_X8_dream_71, e_X8_dream_72, e_X8_dream_73, e_X8_dream_74, e_X8_dream_77, e_X8_dream_78, e_X8_dream_79, e_X8_dream_80, e_X8_dream_81, e_X8_dream_84, e_X8_dream_85, e_X8_dream_86, e_X8_dream_88, e_X8_dream_91, e_X8_dream_92, e_X8_dream_95, e_X8_dream_96, e_X8_dream_97, e_X8_dream_98, e_X8_dream_99, e_X8_dream_102, e_X8_dream_104, e_X8_dream_105, e_X8_dream_106, e_X8_dream_109, e_X8_dream_110, e_X8_dream_111, e_X8_dream_113, e_X8_dream_116, e_X8_dream_117, e_X8_dream_118, e_X8_dream_121, e_X8_dream_125, e_X8_dream_128, e_X8_dream_129, e_X8_dream_130, e_X8_dream_132, eq_self, nI10, not_false_eq_true, not_true_eq_false, is2_i, is2_r, is2_n, nI_add, pk_mul, Nat.reduceAdd, Nat.reduceMul, e_X8_dream_6 (hE := s_X8_plainly), ← hm2, e_X8_dream_11 (hE := s_X8_noDream hp), hx, Bool.not_false, bI_z, Bool.true_eq_false, if_false]
end P54
