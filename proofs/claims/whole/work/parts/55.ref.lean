/-! The reference: acts, slots, soundings -/
def shS (m : Nat → Nat → Int32) (k : Nat) : Nat → Nat → Int32 := va_up m 143 (fun j => if j < k then m 143 (j + 24) else m 143 j)
theorem shS_0 {m : Nat → Nat → Int32} : shS m 0 = m := by
  unfold shS
  have : (fun j => if j < 0 then m 143 (j + 24) else m 143 j) = m 143 := by funext j; simp
  rw [this, va_us]
theorem shS_ne {m : Nat → Nat → Int32} {k i : Nat} (h : i ≠ 143) : shS m k i = m i := by simp [shS, va_up, h]
theorem shS_at {m : Nat → Nat → Int32} {k j : Nat} : shS m k 143 j = if j < k then m 143 (j + 24) else m 143 j := by simp [shS, va_up]
theorem shS_s {m : Nat → Nat → Int32} {k : Nat} : ai_up (shS m k) 143 k (shS m k 143 (k + 24)) = shS m (k + 1) := by
  funext i j
  by_cases h : i = 143
  · subst h
    rw [up_eq, shS_at, shS_at, shS_at]
    by_cases hj : j = k
    · subst hj
      rw [if_pos rfl, if_neg (by omega), if_pos (by omega)]
    · rw [if_neg hj]
      by_cases h2 : j < k
      · rw [if_pos h2, if_pos (by omega)]
      · rw [if_neg h2, if_neg (by omega)]
  · rw [up_ne h, shS_ne h, shS_ne h]
section P55
variable {o : ai_S} {d : Nat} {w : ai_W} {m m' : Nat → Nat → Int32} {lg lg' : Nat → Nat → Int64} {tx : TX} {p : PT} {x : HS} {n : Nat} {A : Nat → HS} {kp : Nat → Bool} {K : Nat → HS} {so : SO} {sd : Int64} {r : Option Value × ai_W} {k k2 k3 : Int32}
theorem lp_X8_note1 : ∀ (j i : Nat), i + j = 312 → ∀ r, Rn o d zX8_note 11 [.ref 133, .int (nI i)] [] (ai_w (shS m i) lg) r = Rn o d zX8_note 39 [.ref 133, .int (nI 312)] [] (ai_w (shS m 312) lg) r := by
  intro j
  induction j with
  | zero =>
    intro i hj r
    have : i = 312 := by omega
    subst this
    rw [e_X8_note_11]
    simp only [e_X8_note_0, e_X8_note_1, e_X8_note_4, e_X8_note_6, e_X8_note_9, e_X8_note_10_i, e_X8_note_10_r, e_X8_note_12, e_X8_note_15, e_X8_note_18, e_X8_note_19, e_X8_note_22, e_X8_note_23, e_X8_note_24, e_X8_note_27, e_X8_note_28, e_X8_note_30, e_X8_note_31, e_X8_note_32, e_X8_note_33_i, e_X8_note_33_r, e_X8_note_36, e_X8_note_40, e_X8_note_41, e_X8_note_44, e_X8_note_45, e_X8_note_46, e_X8_note_49, e_X8_note_50_i, e_X8_note_50_r, e_X8_note_52, e_X8_note_54, e_X8_note_57, e_X8_note_58, e_X8_note_61, e_X8_note_63, e_X8_note_64, e_X8_note_67, e_X8_note_68, e_X8_note_69, e_X8_note_70, e_X8_note_71, e_X8_note_74, e_X8_note_75, e_X8_note_76, e_X8_note_77_i, e_X8_note_77_r, e_X8_note_80, e_X8_note_83, e_X8_note_84, e_X8_note_85, e_X8_note_88, e_X8_note_89, e_X8_note_90, e_X8_note_93, eq_self, nI10, not_false_eq_true, not_true_eq_false, is2_i, is2_r, is2_n, nI_add, pk_mul, Nat.reduceAdd, Nat.reduceMul, Int32.le_refl, if_true]
  | succ j ih =>
    intro i hj r
    have e1 : ¬ nI 312 ≤ nI i := nI_ge (by omega) (by omega)
    have i1 : i < 336 := by omega
    have i2 : i + 24 < 336 := by omega
    rw [e_X8_note_11, ← ih (i + 1) (by omega) r]
    simp only [e_X8_note_0, e_X8_note_1, e_X8_note_4, e_X8_note_6, e_X8_note_9, e_X8_note_10_i, e_X8_note_10_r, e_X8_note_12, e_X8_note_15, e_X8_note_18, e_X8_note_19, e_X8_note_22, e_X8_note_23, e_X8_note_24, e_X8_note_27, e_X8_note_28, e_X8_note_30, e_X8_note_31, e_X8_note_32, e_X8_note_33_i, e_X8_note_33_r, e_X8_note_36, e_X8_note_40, e_X8_note_41, e_X8_note_44, e_X8_note_45, e_X8_note_46, e_X8_note_49, e_X8_note_50_i, e_X8_note_50_r, e_X8_note_52, e_X8_note_54, e_X8_note_57, e_X8_note_58, e_X8_note_61, e_X8_note_63, e_X8_note_64, e_X8_note_67, e_X8_note_68, e_X8_note_69, e_X8_note_70, e_X8_note_71, e_X8_note_74, e_X8_note_75, e_X8_note_76, e_X8_note_77_i, e_X8_note_77_r, e_X8_note_80, e_X8_note_83, e_X8_note_84, e_X8_note_85, e_X8_note_88, e_X8_note_89, e_X8_note_90, e_X8_note_93, eq_self, nI10, not_false_eq_true, not_true_eq_false, is2_i, is2_r, is2_n, nI_add, pk_mul, Nat.reduceAdd, Nat.reduceMul, e1, if_false, m0_143, ml_143, i1, i2, shS_s]
theorem lp_X8_note2 {N : Nat} (hN : N < 14) (h19 : m 133 19 = nI N) : ∀ (j i : Nat), i + j = 24 → ∀ r, Rn o d zX8_note 51 [.ref 133, .int (nI i)] [] (ai_w (cpS m 141 0 143 (24 * N) i) lg) r = Rn o d zX8_note 83 [.ref 133, .int (nI 24)] [] (ai_w (cpS m 141 0 143 (24 * N) 24) lg) r := by
  intro j
  induction j with
  | zero =>
    intro i hj r
    have : i = 24 := by omega
    subst this
    rw [e_X8_note_51]
    simp only [e_X8_note_0, e_X8_note_1, e_X8_note_4, e_X8_note_6, e_X8_note_9, e_X8_note_10_i, e_X8_note_10_r, e_X8_note_12, e_X8_note_15, e_X8_note_18, e_X8_note_19, e_X8_note_22, e_X8_note_23, e_X8_note_24, e_X8_note_27, e_X8_note_28, e_X8_note_30, e_X8_note_31, e_X8_note_32, e_X8_note_33_i, e_X8_note_33_r, e_X8_note_36, e_X8_note_39, e_X8_note_40, e_X8_note_41, e_X8_note_44, e_X8_note_45, e_X8_note_46, e_X8_note_49, e_X8_note_50_i, e_X8_note_50_r, e_X8_note_52, e_X8_note_54, e_X8_note_57, e_X8_note_58, e_X8_note_61, e_X8_note_63, e_X8_note_64, e_X8_note_67, e_X8_note_68, e_X8_note_69, e_X8_note_70, e_X8_note_71, e_X8_note_74, e_X8_note_75, e_X8_note_76, e_X8_note_77_i, e_X8_note_77_r, e_X8_note_80, e_X8_note_84, e_X8_note_85, e_X8_note_88, e_X8_note_89, e_X8_note_90, e_X8_note_93, eq_self, nI10, not_false_eq_true, not_true_eq_false, is2_i, is2_r, is2_n, nI_add, pk_mul, Nat.reduceAdd, Nat.reduceMul, Int32.le_refl, if_true]
  | succ j ih =>
    intro i hj r
    have e1 : ¬ nI 24 ≤ nI i := nI_ge (by omega) (by omega)
    have i1 : i < 24 := by omega
    have i2 : 24 * N + i < 336 := by omega
    have st := cpS_s (m := m) (s := 141) (sp := 0) (t := 143) (tp := 24 * N) (k := i)
    rw [Nat.zero_add] at st
    rw [e_X8_note_51, ← ih (i + 1) (by omega) r]
    simp only [e_X8_note_0, e_X8_note_1, e_X8_note_4, e_X8_note_6, e_X8_note_9, e_X8_note_10_i, e_X8_note_10_r, e_X8_note_12, e_X8_note_15, e_X8_note_18, e_X8_note_19, e_X8_note_22, e_X8_note_23, e_X8_note_24, e_X8_note_27, e_X8_note_28, e_X8_note_30, e_X8_note_31, e_X8_note_32, e_X8_note_33_i, e_X8_note_33_r, e_X8_note_36, e_X8_note_39, e_X8_note_40, e_X8_note_41, e_X8_note_44, e_X8_note_45, e_X8_note_46, e_X8_note_49, e_X8_note_50_i, e_X8_note_50_r, e_X8_note_52, e_X8_note_54, e_X8_note_57, e_X8_note_58, e_X8_note_61, e_X8_note_63, e_X8_note_64, e_X8_note_67, e_X8_note_68, e_X8_note_69, e_X8_note_70, e_X8_note_71, e_X8_note_74, e_X8_note_75, e_X8_note_76, e_X8_note_77_i, e_X8_note_77_r, e_X8_note_80, e_X8_note_84, e_X8_note_85, e_X8_note_88, e_X8_note_89, e_X8_note_90, e_X8_note_93, eq_self, nI10, not_false_eq_true, not_true_eq_false, is2_i, is2_r, is2_n, nI_add, pk_mul, Nat.reduceAdd, Nat.reduceMul, e1, if_false, m0_143, ml_143, m0_141, ml_141, i1, i2, cpS_ne (show (133 : Nat) ≠ 143 by decide), cpS_ne (show (141 : Nat) ≠ 143 by decide), h19, st]
theorem note_B (h : RM tx p x n A kp K so sd m lg) (hn : n < 14) : RM tx p x (n + 1) (pushA A x) kp K so sd (ai_up (cpS m 141 0 143 (24 * n) 24) 133 19 (nI (n + 1))) lg := by
  obtain ⟨⟨t1, t2, t3⟩, hp, hh, ⟨a1, a2, a3⟩, ⟨w1, w2⟩, ⟨s1, s2, s3⟩, h8⟩ := h
  obtain ⟨m2, hm2⟩ : ∃ m2, m2 = ai_up (cpS m 141 0 143 (24 * n) 24) 133 19 (nI (n + 1)) := ⟨_, rfl⟩
  have g : ∀ i, i ≠ 133 → i ≠ 143 → m2 i = m i := fun i x1 x2 => by rw [hm2, up_ne x1, cpS_ne x2]
  have f : ∀ q, q ≠ 19 → m2 133 q = m 133 q := fun q hq => by rw [hm2, up_eq, if_neg hq, cpS_ne (by decide)]
  have b : m2 143 = cpS m 141 0 143 (24 * n) 24 143 := by rw [hm2, up_ne (by decide)]
  rw [← hm2]
  refine ⟨⟨t1, by rw [f 2 (by decide)]; exact t2, fun i hi => by rw [g 134 (by decide) (by decide)]; exact t3 i hi⟩, hp.fr (f 4 (by decide)) (f 6 (by decide)) (f 8 (by decide)) (g 135 (by decide) (by decide)) (g 136 (by decide) (by decide)) (g 137 (by decide) (by decide)), by rw [g 141 (by decide) (by decide)]; exact hh, ⟨by omega, by rw [hm2, up_eq, if_pos rfl], fun i hi => ?_⟩, ⟨fun i hi => by rw [g 145 (by decide) (by decide)]; exact w1 i hi, fun i hi hk => by rw [g 144 (by decide) (by decide)]; exact w2 i hi hk⟩, ⟨s1, by rw [f 22 (by decide)]; exact s2, fun i hi => by rw [g 146 (by decide) (by decide), g 147 (by decide) (by decide), g 148 (by decide) (by decide)]; exact s3 i hi⟩, h8⟩
  rw [b]
  by_cases hin : i = n
  · subst hin
    rw [show i + 1 - 1 - i = 0 by omega, show pushA A x 0 = x from rfl]
    refine hh.cg hp.1 (fun q hq => ?_)
    show cpS m 141 0 143 (24 * i) 24 143 (24 * i + q) = m 141 q
    rw [cpS_in hq, Nat.zero_add]
  · have e : pushA A x (n + 1 - 1 - i) = A (n - 1 - i) := by
      unfold pushA
      rw [if_neg (by omega)]
      congr 1
      omega
    rw [e]
    refine (a3 i (by omega)).cg hp.1 (fun q hq => ?_)
    show cpS m 141 0 143 (24 * n) 24 143 (24 * i + q) = m 143 (24 * i + q)
    rw [cpS_out (Or.inl (by omega))]
theorem note_A (h : RM tx p x 14 A kp K so sd m lg) : RM tx p x 13 A kp K so sd (ai_up (shS m 312) 133 19 (nI 13)) lg := by
  obtain ⟨⟨t1, t2, t3⟩, hp, hh, ⟨a1, a2, a3⟩, ⟨w1, w2⟩, ⟨s1, s2, s3⟩, h8⟩ := h
  obtain ⟨m2, hm2⟩ : ∃ m2, m2 = ai_up (shS m 312) 133 19 (nI 13) := ⟨_, rfl⟩
  have g : ∀ i, i ≠ 133 → i ≠ 143 → m2 i = m i := fun i x1 x2 => by rw [hm2, up_ne x1, shS_ne x2]
  have f : ∀ q, q ≠ 19 → m2 133 q = m 133 q := fun q hq => by rw [hm2, up_eq, if_neg hq, shS_ne (by decide)]
  have b : m2 143 = shS m 312 143 := by rw [hm2, up_ne (by decide)]
  rw [← hm2]
  refine ⟨⟨t1, by rw [f 2 (by decide)]; exact t2, fun i hi => by rw [g 134 (by decide) (by decide)]; exact t3 i hi⟩, hp.fr (f 4 (by decide)) (f 6 (by decide)) (f 8 (by decide)) (g 135 (by decide) (by decide)) (g 136 (by decide) (by decide)) (g 137 (by decide) (by decide)), by rw [g 141 (by decide) (by decide)]; exact hh, ⟨by omega, by rw [hm2, up_eq, if_pos rfl], fun i hi => ?_⟩, ⟨fun i hi => by rw [g 145 (by decide) (by decide)]; exact w1 i hi, fun i hi hk => by rw [g 144 (by decide) (by decide)]; exact w2 i hi hk⟩, ⟨s1, by rw [f 22 (by decide)]; exact s2, fun i hi => by rw [g 146 (by decide) (by decide), g 147 (by decide) (by decide), g 148 (by decide) (by decide)]; exact s3 i hi⟩, h8⟩
  rw [b]
  have := a3 (i + 1) (by omega)
  rw [show 14 - 1 - (i + 1) = 13 - 1 - i by omega] at this
  refine this.cg hp.1 (fun q hq => ?_)
  show shS m 312 143 (24 * i + q) = m 143 (24 * (i + 1) + q)
  rw [shS_at, if_pos (by omega)]
  congr 1
  omega
theorem s_X8_note (h : RM tx p x n A kp K so sd m lg) : ∃ m', RM tx p x (min 14 (n + 1)) (pushA A x) kp K so sd m' lg ∧ FrK m m' ∧ (m' 133 28 = m 133 28 ∧ m' 133 27 = m 133 27) ∧ Ev o d zX8_note [.ref 133] (ai_w m lg) none (ai_w m' lg) := by
  have hn14 := h.2.2.2.1.1
  have r19 := h.2.2.2.1.2.1
  by_cases h14 : n = 14
  · subst h14
    have hA := note_A h
    have hB := note_B hA (by decide)
    have q19 : ai_up (shS m 312) 133 19 (nI 13) 133 19 = nI 13 := by rw [up_eq, if_pos rfl]
    refine ⟨_, hB, fun i hi => ?_, ⟨?_, ?_⟩, ?_⟩
    · rw [up_ne (by omega), cpS_ne (by omega), up_ne (by omega), shS_ne (by omega)]
    · rw [up_eq, if_neg (by decide), cpS_ne (by decide), up_eq, if_neg (by decide), shS_ne (by decide)]
    · rw [up_eq, if_neg (by decide), cpS_ne (by decide), up_eq, if_neg (by decide), shS_ne (by decide)]
    · have l1 := fun r => lp_X8_note1 (o := o) (d := d) (m := m) (lg := lg) 312 0 (by omega) r
      have l2 := fun r => lp_X8_note2 (o := o) (d := d) (m := ai_up (shS m 312) 133 19 (nI 13)) (lg := lg) (N := 13) (by decide) q19 24 0 (by omega) r
      rw [shS_0] at l1
      rw [cpS_0] at l2
      have s13 : nI 14 - nI 1 = nI 13 := by decide
      rw [ev_X8_note]
      simp only [e_X8_note_0, e_X8_note_1, e_X8_note_4, e_X8_note_6, e_X8_note_9, e_X8_note_10_i, e_X8_note_10_r, e_X8_note_12, e_X8_note_15, e_X8_note_18, e_X8_note_19, e_X8_note_22, e_X8_note_23, e_X8_note_24, e_X8_note_27, e_X8_note_28, e_X8_note_30, e_X8_note_31, e_X8_note_32, e_X8_note_33_i, e_X8_note_33_r, e_X8_note_36, e_X8_note_39, e_X8_note_40, e_X8_note_41, e_X8_note_44, e_X8_note_45, e_X8_note_46, e_X8_note_49, e_X8_note_50_i, e_X8_note_50_r, e_X8_note_52, e_X8_note_54, e_X8_note_57, e_X8_note_58, e_X8_note_61, e_X8_note_63, e_X8_note_64, e_X8_note_67, e_X8_note_68, e_X8_note_69, e_X8_note_70, e_X8_note_71, e_X8_note_74, e_X8_note_75, e_X8_note_76, e_X8_note_77_i, e_X8_note_77_r, e_X8_note_80, e_X8_note_83, e_X8_note_84, e_X8_note_85, e_X8_note_88, e_X8_note_89, e_X8_note_90, e_X8_note_93, eq_self, nI10, not_false_eq_true, not_true_eq_false, is2_i, is2_r, is2_n, nI_add, pk_mul, Nat.reduceAdd, Nat.reduceMul, r19, if_false]
      refine Eq.mpr (l1 _) ?_
      simp only [e_X8_note_0, e_X8_note_1, e_X8_note_4, e_X8_note_6, e_X8_note_9, e_X8_note_10_i, e_X8_note_10_r, e_X8_note_12, e_X8_note_15, e_X8_note_18, e_X8_note_19, e_X8_note_22, e_X8_note_23, e_X8_note_24, e_X8_note_27, e_X8_note_28, e_X8_note_30, e_X8_note_31, e_X8_note_32, e_X8_note_33_i, e_X8_note_33_r, e_X8_note_36, e_X8_note_39, e_X8_note_40, e_X8_note_41, e_X8_note_44, e_X8_note_45, e_X8_note_46, e_X8_note_49, e_X8_note_50_i, e_X8_note_50_r, e_X8_note_52, e_X8_note_54, e_X8_note_57, e_X8_note_58, e_X8_note_61, e_X8_note_63, e_X8_note_64, e_X8_note_67, e_X8_note_68, e_X8_note_69, e_X8_note_70, e_X8_note_71, e_X8_note_74, e_X8_note_75, e_X8_note_76, e_X8_note_77_i, e_X8_note_77_r, e_X8_note_80, e_X8_note_83, e_X8_note_84, e_X8_note_85, e_X8_note_88, e_X8_note_89, e_X8_note_90, e_X8_note_93, eq_self, nI10, not_false_eq_true, not_true_eq_false, is2_i, is2_r, is2_n, nI_add, pk_mul, Nat.reduceAdd, Nat.reduceMul, shS_ne (show (133 : Nat) ≠ 143 by decide), r19, s13]
      refine Eq.mpr (l2 _) ?_
      simp only [e_X8_note_0, e_X8_note_1, e_X8_note_4, e_X8_note_6, e_X8_note_9, e_X8_note_10_i, e_X8_note_10_r, e_X8_note_12, e_X8_note_15, e_X8_note_18, e_X8_note_19, e_X8_note_22, e_X8_note_23, e_X8_note_24, e_X8_note_27, e_X8_note_28, e_X8_note_30, e_X8_note_31, e_X8_note_32, e_X8_note_33_i, e_X8_note_33_r, e_X8_note_36, e_X8_note_39, e_X8_note_40, e_X8_note_41, e_X8_note_44, e_X8_note_45, e_X8_note_46, e_X8_note_49, e_X8_note_50_i, e_X8_note_50_r, e_X8_note_52, e_X8_note_54, e_X8_note_57, e_X8_note_58, e_X8_note_61, e_X8_note_63, e_X8_note_64, e_X8_note_67, e_X8_note_68, e_X8_note_69, e_X8_note_70, e_X8_note_71, e_X8_note_74, e_X8_note_75, e_X8_note_76, e_X8_note_77_i, e_X8_note_77_r, e_X8_note_80, e_X8_note_83, e_X8_note_84, e_X8_note_85, e_X8_note_88, e_X8_note_89, e_X8_note_90, e_X8_note_93, eq_self, nI10, not_false_eq_true, not_true_eq_false, is2_i, is2_r, is2_n, nI_add, pk_mul, Nat.reduceAdd, Nat.reduceMul, cpS_ne (show (133 : Nat) ≠ 143 by decide), q19]
  · have hB := note_B h (by omega)
    rw [show min 14 (n + 1) = n + 1 by omega]
    refine ⟨_, hB, fun i hi => ?_, ⟨?_, ?_⟩, ?_⟩
    · rw [up_ne (by omega), cpS_ne (by omega)]
    · rw [up_eq, if_neg (by decide), cpS_ne (by decide)]
    · rw [up_eq, if_neg (by decide), cpS_ne (by decide)]
    · have l2 := fun r => lp_X8_note2 (o := o) (d := d) (m := m) (lg := lg) (N := n) (by omega) r19 24 0 (by omega) r
      rw [cpS_0] at l2
      have ne : ¬ nI n = nI 14 := fun z => h14 ((nI_eq (by omega) (by omega)).mp z)
      rw [ev_X8_note]
      simp only [e_X8_note_0, e_X8_note_1, e_X8_note_4, e_X8_note_6, e_X8_note_9, e_X8_note_10_i, e_X8_note_10_r, e_X8_note_12, e_X8_note_15, e_X8_note_18, e_X8_note_19, e_X8_note_22, e_X8_note_23, e_X8_note_24, e_X8_note_27, e_X8_note_28, e_X8_note_30, e_X8_note_31, e_X8_note_32, e_X8_note_33_i, e_X8_note_33_r, e_X8_note_36, e_X8_note_39, e_X8_note_40, e_X8_note_41, e_X8_note_44, e_X8_note_45, e_X8_note_46, e_X8_note_49, e_X8_note_50_i, e_X8_note_50_r, e_X8_note_52, e_X8_note_54, e_X8_note_57, e_X8_note_58, e_X8_note_61, e_X8_note_63, e_X8_note_64, e_X8_note_67, e_X8_note_68, e_X8_note_69, e_X8_note_70, e_X8_note_71, e_X8_note_74, e_X8_note_75, e_X8_note_76, e_X8_note_77_i, e_X8_note_77_r, e_X8_note_80, e_X8_note_83, e_X8_note_84, e_X8_note_85, e_X8_note_88, e_X8_note_89, e_X8_note_90, e_X8_note_93, eq_self, nI10, not_false_eq_true, not_true_eq_false, is2_i, is2_r, is2_n, nI_add, pk_mul, Nat.reduceAdd, Nat.reduceMul, r19, ne, if_true]
      refine Eq.mpr (l2 _) ?_
      simp only [e_X8_note_0, e_X8_note_1, e_X8_note_4, e_X8_note_6, e_X8_note_9, e_X8_note_10_i, e_X8_note_10_r, e_X8_note_12, e_X8_note_15, e_X8_note_18, e_X8_note_19, e_X8_note_22, e_X8_note_23, e_X8_note_24, e_X8_note_27, e_X8_note_28, e_X8_note_30, e_X8_note_31, e_X8_note_32, e_X8_note_33_i, e_X8_note_33_r, e_X8_note_36, e_X8_note_39, e_X8_note_40, e_X8_note_41, e_X8_note_44, e_X8_note_45, e_X8_note_46, e_X8_note_49, e_X8_note_50_i, e_X8_note_50_r, e_X8_note_52, e_X8_note_54, e_X8_note_57, e_X8_note_58, e_X8_note_61, e_X8_note_63, e_X8_note_64, e_X8_note_67, e_X8_note_68, e_X8_note_69, e_X8_note_70, e_X8_note_71, e_X8_note_74, e_X8_note_75, e_X8_note_76, e_X8_note_77_i, e_X8_note_77_r, e_X8_note_80, e_X8_note_83, e_X8_note_84, e_X8_note_85, e_X8_note_88, e_X8_note_89, e_X8_note_90, e_X8_note_93, eq_self, nI10, not_false_eq_true, not_true_eq_false, is2_i, is2_r, is2_n, nI_add, pk_mul, Nat.reduceAdd, Nat.reduceMul, cpS_ne (show (133 : Nat) ≠ 143 by decide), r19]
theorem RM.pg {y : HS} (h : RM tx p x n A kp K so sd m lg) (hf : FrS (fun i => i = 141) m m') (hy : RG p y (m' 141)) : RM tx p y n A kp K so sd m' lg := by
  obtain ⟨⟨t1, t2, t3⟩, hp, hh, ⟨a1, a2, a3⟩, ⟨w1, w2⟩, ⟨s1, s2, s3⟩, h8⟩ := h
  have g : ∀ i, i ≠ 141 → m' i = m i := fun i hi => hf i hi
  have g3 := g 133 (by decide)
  refine ⟨⟨t1, by rw [g3]; exact t2, fun i hi => by rw [g 134 (by decide)]; exact t3 i hi⟩, hp.fr (by rw [g3]) (by rw [g3]) (by rw [g3]) (g 135 (by decide)) (g 136 (by decide)) (g 137 (by decide)), hy, ⟨a1, by rw [g3]; exact a2, fun i hi => by rw [g 143 (by decide)]; exact a3 i hi⟩, ⟨fun i hi => by rw [g 145 (by decide)]; exact w1 i hi, fun i hi hk => by rw [g 144 (by decide)]; exact w2 i hi hk⟩, ⟨s1, by rw [g3]; exact s2, fun i hi => by rw [g 146 (by decide), g 147 (by decide), g 148 (by decide)]; exact s3 i hi⟩, h8⟩
theorem s_X8_night (h : RM tx p x n A kp K so sd m lg) (hng : x.2.2.2.2.2 + 1 ≤ 1000) : ∃ m', RM tx p (pNight p x) (min 14 (n + 1)) (pushA A x) kp K so sd m' lg ∧ FrK m m' ∧ Ev o (d + 20) zX8_night [.ref 133] (ai_w m lg) (some (.int (nI (pCnt p x)))) (ai_w m' lg) := by
  have f := (frT (m := m)).trans (frPL (m := ai_up m 133 0 (nI 0)))
  have h' := h.q f
  obtain ⟨m2, b1, b2, b3, b4⟩ := s_X8_note (o := o) (d := d + 19) h'
  rw [pl28, pl27] at b3
  obtain ⟨m3, c1, c2, c3⟩ := s_X8_goNight (o := o) (d := d + 14) (lg := lg) (Or.inl rfl) b1.2.1 b3.1 b3.2 b1.2.2.1 hng
  refine ⟨m3, b1.pg c2 c1, f.k.trans (b2.trans (fun i hi => c2 i (by omega))), ?_⟩
  rw [ev_X8_night]
  simp only [e_X8_night_0, e_X8_night_1, e_X8_night_2, e_X8_night_5, e_X8_night_9, e_X8_night_13, e_X8_night_14, e_X8_night_15, e_X8_night_21, eq_self, nI10, not_false_eq_true, not_true_eq_false, is2_i, is2_r, is2_n, nI_add, pk_mul, Nat.reduceAdd, Nat.reduceMul, e_X8_night_6 (hE := s_X8_plainly), e_X8_night_10 (hE := b4), e_X8_night_18 (hE := c3)]
theorem s_X8_moorF (h : RM tx p x n A kp K so sd m lg) (hd : dMoor p x k k2 = none) : ∃ m', RM tx p x n A kp K so sd m' lg ∧ FrK m m' ∧ Ev o (d + 20) zX8_moor [.ref 133, .int k, .int k2] (ai_w m lg) (some (.int (aMoor p x k k2))) (ai_w m' lg) := by
  have f := (frT (m := m)).trans (frPL (m := ai_up m 133 0 (nI 0)))
  have h' := h.q f
  have r28 := pl28 (m := ai_up m 133 0 (nI 0))
  obtain ⟨m2, hm2⟩ : ∃ m2, m2 = ai_up (ai_up (ai_up m 133 0 (nI 0)) 133 28 (nI 15)) 133 27 (nI 0) := ⟨_, rfl⟩
  rw [← hm2] at h' f r28
  refine ⟨m2, h', f.k, ?_⟩
  have hp := h'.2.1
  have hh := h'.2.2.1
  have hD := hp.1.2.2.1
  have hB := hp.1.2.1
  have ha : aiP 141 := Or.inl rfl
  rw [ev_X8_moor]
  unfold dMoor at hd
  unfold aMoor
  rcases sw_cases k p.2.2.2.2.1 (by omega) with ⟨dd, hdd, rfl, hs, hx⟩ | ⟨hs, hx, hn⟩
  · rcases sw_cases k2 p.2.2.1 (by omega) with ⟨c, hc, rfl, hs2, hx2⟩ | ⟨hs2, hx2, hn2⟩
    · rw [hs, hs2] at hd ⊢
      dsimp only at hd ⊢
      by_cases hq : x.1 dd = 8 ∧ pCan p x dd c = true
      · rw [if_pos hq] at hd; cases hd
      · rw [if_neg hq]
        have d24 : dd < 24 := by omega
        have h9 := hg_p hp.1 hh hdd
        have e8 := nI_9 (a := x.1 dd) (c := 8) (by omega) (by omega)
        have sc := s_X8_canBe (o := o) (d := d + 18) (lg := lg) hp hh ha r28 (by decide) hdd hc
        rw [mCan15 (by omega)] at sc
        by_cases h8 : x.1 dd = 8
        · have hc0 : pCan p x dd c = false := by
            cases h9 : pCan p x dd c
            · rfl
            · exact absurd ⟨h8, h9⟩ hq
          simp only [e_X8_moor_0, e_X8_moor_1, e_X8_moor_2, e_X8_moor_5, e_X8_moor_9, e_X8_moor_10, e_X8_moor_14, e_X8_moor_17, e_X8_moor_18, e_X8_moor_22, e_X8_moor_25, e_X8_moor_26, e_X8_moor_27, e_X8_moor_28, e_X8_moor_31, e_X8_moor_32, e_X8_moor_33, e_X8_moor_35, e_X8_moor_38, e_X8_moor_39, e_X8_moor_40, e_X8_moor_43, e_X8_moor_44, e_X8_moor_48, e_X8_moor_51, e_X8_moor_53, e_X8_moor_54, e_X8_moor_58, e_X8_moor_59, e_X8_moor_62, e_X8_moor_63, e_X8_moor_64, e_X8_moor_65, e_X8_moor_66, e_X8_moor_67, e_X8_moor_70, e_X8_moor_77, eq_self, nI10, not_false_eq_true, not_true_eq_false, is2_i, is2_r, is2_n, nI_add, pk_mul, Nat.reduceAdd, Nat.reduceMul, e_X8_moor_6 (hE := s_X8_plainly), ← hm2, e_X8_moor_11 (hE := s_X8_noDream hp), e_X8_moor_19 (hE := s_X8_noBerth hp), hx, hx2, Bool.not_true, bI_z, if_true, if_false, m0_141, ml_141, d24, hh.2.1 dd hdd, h8, e_X8_moor_45 (hE := sc), hc0]
        · simp only [e_X8_moor_0, e_X8_moor_1, e_X8_moor_2, e_X8_moor_5, e_X8_moor_9, e_X8_moor_10, e_X8_moor_14, e_X8_moor_17, e_X8_moor_18, e_X8_moor_22, e_X8_moor_25, e_X8_moor_26, e_X8_moor_27, e_X8_moor_28, e_X8_moor_31, e_X8_moor_32, e_X8_moor_33, e_X8_moor_35, e_X8_moor_38, e_X8_moor_39, e_X8_moor_40, e_X8_moor_43, e_X8_moor_44, e_X8_moor_48, e_X8_moor_51, e_X8_moor_53, e_X8_moor_54, e_X8_moor_58, e_X8_moor_59, e_X8_moor_62, e_X8_moor_63, e_X8_moor_64, e_X8_moor_65, e_X8_moor_66, e_X8_moor_67, e_X8_moor_70, e_X8_moor_77, eq_self, nI10, not_false_eq_true, not_true_eq_false, is2_i, is2_r, is2_n, nI_add, pk_mul, Nat.reduceAdd, Nat.reduceMul, e_X8_moor_6 (hE := s_X8_plainly), ← hm2, e_X8_moor_11 (hE := s_X8_noDream hp), e_X8_moor_19 (hE := s_X8_noBerth hp), hx, hx2, Bool.not_true, bI_z, if_true, if_false, m0_141, ml_141, d24, hh.2.1 dd hdd, e8, h8]
    · rw [hs, hs2]
      simp only [e_X8_moor_0, e_X8_moor_1, e_X8_moor_2, e_X8_moor_5, e_X8_moor_9, e_X8_moor_10, e_X8_moor_14, e_X8_moor_17, e_X8_moor_18, e_X8_moor_22, e_X8_moor_25, e_X8_moor_26, e_X8_moor_27, e_X8_moor_28, e_X8_moor_31, e_X8_moor_32, e_X8_moor_33, e_X8_moor_35, e_X8_moor_38, e_X8_moor_39, e_X8_moor_40, e_X8_moor_43, e_X8_moor_44, e_X8_moor_48, e_X8_moor_51, e_X8_moor_53, e_X8_moor_54, e_X8_moor_58, e_X8_moor_59, e_X8_moor_62, e_X8_moor_63, e_X8_moor_64, e_X8_moor_65, e_X8_moor_66, e_X8_moor_67, e_X8_moor_70, e_X8_moor_77, eq_self, nI10, not_false_eq_true, not_true_eq_false, is2_i, is2_r, is2_n, nI_add, pk_mul, Nat.reduceAdd, Nat.reduceMul, e_X8_moor_6 (hE := s_X8_plainly), ← hm2, e_X8_moor_11 (hE := s_X8_noDream hp), e_X8_moor_19 (hE := s_X8_noBerth hp), hx, hx2, Bool.not_true, Bool.not_false, bI_z, if_true, if_false, Bool.true_eq_false]
  · rw [hs]
    simp only [e_X8_moor_0, e_X8_moor_1, e_X8_moor_2, e_X8_moor_5, e_X8_moor_9, e_X8_moor_10, e_X8_moor_14, e_X8_moor_17, e_X8_moor_18, e_X8_moor_22, e_X8_moor_25, e_X8_moor_26, e_X8_moor_27, e_X8_moor_28, e_X8_moor_31, e_X8_moor_32, e_X8_moor_33, e_X8_moor_35, e_X8_moor_38, e_X8_moor_39, e_X8_moor_40, e_X8_moor_43, e_X8_moor_44, e_X8_moor_48, e_X8_moor_51, e_X8_moor_53, e_X8_moor_54, e_X8_moor_58, e_X8_moor_59, e_X8_moor_62, e_X8_moor_63, e_X8_moor_64, e_X8_moor_65, e_X8_moor_66, e_X8_moor_67, e_X8_moor_70, e_X8_moor_77, eq_self, nI10, not_false_eq_true, not_true_eq_false, is2_i, is2_r, is2_n, nI_add, pk_mul, Nat.reduceAdd, Nat.reduceMul, e_X8_moor_6 (hE := s_X8_plainly), ← hm2, e_X8_moor_11 (hE := s_X8_noDream hp), hx, Bool.not_false, bI_z, if_true, Bool.true_eq_false]
theorem s_X8_moorT {dd c : Nat} (h : RM tx p x n A kp K so sd m lg) (hd : dMoor p x k k2 = some (dd, c)) : ∃ m', RM tx p (va_up x.1 dd c, x.2) (min 14 (n + 1)) (pushA A x) kp K so sd m' lg ∧ FrK m m' ∧ Ev o (d + 20) zX8_moor [.ref 133, .int k, .int k2] (ai_w m lg) (some (.int (aMoor p x k k2))) (ai_w m' lg) := by
  have f := (frT (m := m)).trans (frPL (m := ai_up m 133 0 (nI 0)))
  have h' := h.q f
  have r28 := pl28 (m := ai_up m 133 0 (nI 0))
  obtain ⟨m2, hm2⟩ : ∃ m2, m2 = ai_up (ai_up (ai_up m 133 0 (nI 0)) 133 28 (nI 15)) 133 27 (nI 0) := ⟨_, rfl⟩
  rw [← hm2] at h' f r28
  have hp := h'.2.1
  have hh := h'.2.2.1
  have hD := hp.1.2.2.1
  have hB := hp.1.2.1
  have ha : aiP 141 := Or.inl rfl
  unfold dMoor at hd
  unfold aMoor
  rcases sw_cases k p.2.2.2.2.1 (by omega) with ⟨dd', hdd, rfl, hs, hx⟩ | ⟨hs, hx, hn⟩
  · rcases sw_cases k2 p.2.2.1 (by omega) with ⟨c', hc, rfl, hs2, hx2⟩ | ⟨hs2, hx2, hn2⟩
    · rw [hs, hs2] at hd ⊢
      dsimp only at hd ⊢
      by_cases hq : x.1 dd' = 8 ∧ pCan p x dd' c' = true
      · rw [if_pos hq] at hd ⊢
        cases hd
        have d24 : dd < 24 := by omega
        have sc := s_X8_canBe (o := o) (d := d + 18) (lg := lg) hp hh ha r28 (by decide) hdd hc
        rw [mCan15 (by omega), hq.2] at sc
        obtain ⟨m3, b1, b2, b3, b4⟩ := s_X8_note (o := o) (d := d + 19) h'
        have g1 := b1.2.2.1.pl b1.2.1.1 (dd := dd) (v := c) (by omega) (Or.inl hc)
        have r1 := b1.pg (frA (m := m3) (a := 141) (k := dd) (v := nI c)) g1
        have hM : mk (atP (va_up x.1 dd c, x.2) c) p.2.2.2.2.1 < 32 := Nat.lt_of_lt_of_le (mk_lt _ _) (Nat.pow_le_pow_right (by decide) hD)
        have sda := s_X8_dreamsAt (o := o) (d := d + 19) (lg := lg) r1.2.1 r1.2.2.1 ha (c := c) (by omega)
        refine ⟨_, r1, f.k.trans (b2.trans (fun i hi => up_ne (by omega))), ?_⟩
        rw [ev_X8_moor]
        simp only [e_X8_moor_0, e_X8_moor_1, e_X8_moor_2, e_X8_moor_5, e_X8_moor_9, e_X8_moor_10, e_X8_moor_14, e_X8_moor_17, e_X8_moor_18, e_X8_moor_22, e_X8_moor_25, e_X8_moor_26, e_X8_moor_27, e_X8_moor_28, e_X8_moor_31, e_X8_moor_32, e_X8_moor_33, e_X8_moor_35, e_X8_moor_38, e_X8_moor_39, e_X8_moor_40, e_X8_moor_43, e_X8_moor_44, e_X8_moor_48, e_X8_moor_51, e_X8_moor_53, e_X8_moor_54, e_X8_moor_58, e_X8_moor_59, e_X8_moor_62, e_X8_moor_63, e_X8_moor_64, e_X8_moor_65, e_X8_moor_66, e_X8_moor_67, e_X8_moor_70, e_X8_moor_77, eq_self, nI10, not_false_eq_true, not_true_eq_false, is2_i, is2_r, is2_n, nI_add, pk_mul, Nat.reduceAdd, Nat.reduceMul, e_X8_moor_6 (hE := s_X8_plainly), ← hm2, e_X8_moor_11 (hE := s_X8_noDream hp), e_X8_moor_19 (hE := s_X8_noBerth hp), hx, hx2, Bool.not_true, bI_z, if_true, if_false, m0_141, ml_141, d24, hh.2.1 dd hdd, hq.1, e_X8_moor_45 (hE := sc), Bool.true_eq_false, e_X8_moor_55 (hE := b4), e_X8_moor_71 (hE := sda), e_X8_moor_74 (hE := s_X8_many hM), pcn_mk _ hD]
      · rw [if_neg hq] at hd; cases hd
    · rw [hs, hs2] at hd; cases hd
  · rw [hs] at hd; cases hd
theorem s_X8_goTow {a dd : Nat} (ha : aiP a) (hp : ptOk p) (hh : RG p x (m a)) (hd : dd < p.2.2.2.2.1) : ∃ m', RG p (va_up x.1 dd 8, va_up x.2.1 dd (nI 0), x.2.2) (m' a) ∧ FrS (fun i => i = a) m m' ∧ Ev o d zX8_goTow [.ref a, .int (nI dd)] (ai_w m lg) none (ai_w m' lg) := by
  have hD := hp.2.2.1
  have d24 : dd < 24 := by omega
  have d25 : 5 + dd < 24 := by omega
  refine ⟨ai_up (ai_up m a dd (nI 8)) a (5 + dd) (nI 0), (hh.pl hp (dd := dd) (v := 8) (by omega) (Or.inr (Or.inl rfl))).la hp (by omega), frA.trans frA, ?_⟩
  rw [ev_X8_goTow]
  simp only [e_X8_goTow_0, e_X8_goTow_1, e_X8_goTow_2, e_X8_goTow_4, e_X8_goTow_5, e_X8_goTow_6, e_X8_goTow_7, e_X8_goTow_8, e_X8_goTow_9, e_X8_goTow_10, e_X8_goTow_11, eq_self, nI10, not_false_eq_true, not_true_eq_false, is2_i, is2_r, is2_n, nI_add, pk_mul, Nat.reduceAdd, Nat.reduceMul, aiP0 ha, aiPl ha, d24, d25]
theorem s_X8_towF (h : RM tx p x n A kp K so sd m lg) (hd : dTow p x k = none) : ∃ m', RM tx p x n A kp K so sd m' lg ∧ FrK m m' ∧ Ev o (d + 20) zX8_tow [.ref 133, .int k] (ai_w m lg) (some (.int (aTow p x k))) (ai_w m' lg) := by
  have f := frT (m := m)
  have h' := h.q f
  obtain ⟨m2, hm2⟩ : ∃ m2, m2 = ai_up m 133 0 (nI 0) := ⟨_, rfl⟩
  rw [← hm2] at h' f
  refine ⟨m2, h', f.k, ?_⟩
  have hp := h'.2.1
  have hh := h'.2.2.1
  have hD := hp.1.2.2.1
  rw [ev_X8_tow]
  unfold dTow at hd
  unfold aTow
  rcases sw_cases k p.2.2.2.2.1 (by omega) with ⟨dd, hdd, rfl, hs, hx⟩ | ⟨hs, hx, hn⟩
  · rw [hs] at hd ⊢
    dsimp only at hd ⊢
    by_cases hq : x.1 dd < 4
    · rw [if_pos hq] at hd; cases hd
    · rw [if_neg hq]
      have d24 : dd < 24 := by omega
      have h9 := hg_p hp.1 hh hdd
      have e4 : ¬ nI (x.1 dd) < nI 4 := nI_nlt (by omega) (by omega)
      simp only [e_X8_tow_0, e_X8_tow_1, e_X8_tow_2, e_X8_tow_5, e_X8_tow_6, e_X8_tow_10, e_X8_tow_13, e_X8_tow_14, e_X8_tow_15, e_X8_tow_16, e_X8_tow_19, e_X8_tow_20, e_X8_tow_21_i, e_X8_tow_21_r, e_X8_tow_21_n, e_X8_tow_22, e_X8_tow_23, e_X8_tow_24, e_X8_tow_27, e_X8_tow_29, e_X8_tow_30, e_X8_tow_34, e_X8_tow_35, e_X8_tow_38, e_X8_tow_42, e_X8_tow_43, eq_self, nI10, not_false_eq_true, not_true_eq_false, is2_i, is2_r, is2_n, nI_add, pk_mul, Nat.reduceAdd, Nat.reduceMul, ← hm2, e_X8_tow_7 (hE := s_X8_noDream hp), hx, Bool.not_true, bI_z, if_true, m0_141, ml_141, d24, hh.2.1 dd hdd, e4, if_false]
  · rw [hs]
    simp only [e_X8_tow_0, e_X8_tow_1, e_X8_tow_2, e_X8_tow_5, e_X8_tow_6, e_X8_tow_10, e_X8_tow_13, e_X8_tow_14, e_X8_tow_15, e_X8_tow_16, e_X8_tow_19, e_X8_tow_20, e_X8_tow_21_i, e_X8_tow_21_r, e_X8_tow_21_n, e_X8_tow_22, e_X8_tow_23, e_X8_tow_24, e_X8_tow_27, e_X8_tow_29, e_X8_tow_30, e_X8_tow_34, e_X8_tow_35, e_X8_tow_38, e_X8_tow_42, e_X8_tow_43, eq_self, nI10, not_false_eq_true, not_true_eq_false, is2_i, is2_r, is2_n, nI_add, pk_mul, Nat.reduceAdd, Nat.reduceMul, ← hm2, e_X8_tow_7 (hE := s_X8_noDream hp), hx, Bool.not_false, bI_z, Bool.true_eq_false, if_false]
theorem s_X8_towT {dd : Nat} (h : RM tx p x n A kp K so sd m lg) (hd : dTow p x k = some dd) : ∃ m', RM tx p (va_up x.1 dd 8, va_up x.2.1 dd (nI 0), x.2.2) (min 14 (n + 1)) (pushA A x) kp K so sd m' lg ∧ FrK m m' ∧ Ev o (d + 20) zX8_tow [.ref 133, .int k] (ai_w m lg) (some (.int (aTow p x k))) (ai_w m' lg) := by
  have f := frT (m := m)
  have h' := h.q f
  obtain ⟨m2, hm2⟩ : ∃ m2, m2 = ai_up m 133 0 (nI 0) := ⟨_, rfl⟩
  rw [← hm2] at h' f
  have hp := h'.2.1
  have hh := h'.2.2.1
  have hD := hp.1.2.2.1
  unfold dTow at hd
  unfold aTow
  rcases sw_cases k p.2.2.2.2.1 (by omega) with ⟨dd', hdd, rfl, hs, hx⟩ | ⟨hs, hx, hn⟩
  · rw [hs] at hd ⊢
    dsimp only at hd ⊢
    by_cases hq : x.1 dd' < 4
    · rw [if_pos hq] at hd ⊢
      cases hd
      have d24 : dd < 24 := by omega
      have e4 : nI (x.1 dd) < nI 4 := nI_lt (by omega) (by omega)
      obtain ⟨m3, b1, b2, b3, b4⟩ := s_X8_note (o := o) (d := d + 19) h'
      obtain ⟨m4, c1, c2, c3⟩ := s_X8_goTow (o := o) (d := d + 19) (lg := lg) (Or.inl rfl) b1.2.1.1 b1.2.2.1 hdd
      refine ⟨m4, b1.pg c2 c1, f.k.trans (b2.trans (fun i hi => c2 i (by omega))), ?_⟩
      rw [ev_X8_tow]
      simp only [e_X8_tow_0, e_X8_tow_1, e_X8_tow_2, e_X8_tow_5, e_X8_tow_6, e_X8_tow_10, e_X8_tow_13, e_X8_tow_14, e_X8_tow_15, e_X8_tow_16, e_X8_tow_19, e_X8_tow_20, e_X8_tow_21_i, e_X8_tow_21_r, e_X8_tow_21_n, e_X8_tow_22, e_X8_tow_23, e_X8_tow_24, e_X8_tow_27, e_X8_tow_29, e_X8_tow_30, e_X8_tow_34, e_X8_tow_35, e_X8_tow_38, e_X8_tow_42, e_X8_tow_43, eq_self, nI10, not_false_eq_true, not_true_eq_false, is2_i, is2_r, is2_n, nI_add, pk_mul, Nat.reduceAdd, Nat.reduceMul, ← hm2, e_X8_tow_7 (hE := s_X8_noDream hp), hx, Bool.not_true, bI_z, if_true, m0_141, ml_141, d24, hh.2.1 dd hdd, e4, e_X8_tow_31 (hE := b4), e_X8_tow_39 (hE := c3)]
    · rw [if_neg hq] at hd; cases hd
  · rw [hs] at hd; cases hd
theorem s_X8_undoF (h : RM tx p x 0 A kp K so sd m lg) : ∃ m', RM tx p x 0 A kp K so sd m' lg ∧ FrK m m' ∧ Ev o (d + 20) zX8_undo [.ref 133] (ai_w m lg) (some (.int (-3))) (ai_w m' lg) := by
  have f := frT (m := m)
  have h' := h.q f
  refine ⟨_, h', f.k, ?_⟩
  rw [ev_X8_undo]
  simp only [e_X8_undo_0, e_X8_undo_1, e_X8_undo_2, e_X8_undo_5, e_X8_undo_6, e_X8_undo_9, e_X8_undo_12, e_X8_undo_14, e_X8_undo_15, e_X8_undo_16, e_X8_undo_17, e_X8_undo_20, e_X8_undo_21, e_X8_undo_22, e_X8_undo_25, e_X8_undo_26_i, e_X8_undo_26_r, e_X8_undo_28, e_X8_undo_30, e_X8_undo_33, e_X8_undo_34, e_X8_undo_37, e_X8_undo_38, e_X8_undo_39, e_X8_undo_42, e_X8_undo_44, e_X8_undo_45, e_X8_undo_48, e_X8_undo_49, e_X8_undo_50, e_X8_undo_51, e_X8_undo_52, e_X8_undo_53_i, e_X8_undo_53_r, e_X8_undo_56, e_X8_undo_59, e_X8_undo_60, e_X8_undo_63, eq_self, nI10, not_false_eq_true, not_true_eq_false, is2_i, is2_r, is2_n, nI_add, pk_mul, Nat.reduceAdd, Nat.reduceMul, h'.2.2.2.1.2.1, if_false]
theorem s_X8_undoT (h : RM tx p x n A kp K so sd m lg) (hn : 0 < n) : ∃ m', RM tx p (A 0) (n - 1) (fun i => A (i + 1)) kp K so sd m' lg ∧ FrK m m' ∧ Ev o (d + 20) zX8_undo [.ref 133] (ai_w m lg) (some (.int (nI (n - 1)))) (ai_w m' lg) := by
  have f := frT (m := m)
  have h' := h.q f
  obtain ⟨m1, hm1⟩ : ∃ m1, m1 = ai_up m 133 0 (nI 0) := ⟨_, rfl⟩
  rw [← hm1] at h' f
  obtain ⟨⟨t1, t2, t3⟩, hp, hh, ⟨a1, a2, a3⟩, ⟨w1, w2⟩, ⟨s1, s2, s3⟩, h8⟩ := h'
  obtain ⟨m2, hm2⟩ : ∃ m2, m2 = ai_up m1 133 19 (nI (n - 1)) := ⟨_, rfl⟩
  have q19 : m2 133 19 = nI (n - 1) := by rw [hm2, up_eq, if_pos rfl]
  have lp : ∀ (j i : Nat), i + j = 24 → ∀ r, Rn o (d + 20) zX8_undo 27 [.ref 133, .int (nI i)] [] (ai_w (cpS m2 143 (24 * (n - 1)) 141 0 i) lg) r = Rn o (d + 20) zX8_undo 59 [.ref 133, .int (nI 24)] [] (ai_w (cpS m2 143 (24 * (n - 1)) 141 0 24) lg) r := by
    intro j
    induction j with
    | zero =>
      intro i hj r
      have : i = 24 := by omega
      subst this
      rw [e_X8_undo_27]
      simp only [e_X8_undo_0, e_X8_undo_1, e_X8_undo_2, e_X8_undo_5, e_X8_undo_6, e_X8_undo_9, e_X8_undo_12, e_X8_undo_14, e_X8_undo_15, e_X8_undo_16, e_X8_undo_17, e_X8_undo_20, e_X8_undo_21, e_X8_undo_22, e_X8_undo_25, e_X8_undo_26_i, e_X8_undo_26_r, e_X8_undo_28, e_X8_undo_30, e_X8_undo_33, e_X8_undo_34, e_X8_undo_37, e_X8_undo_38, e_X8_undo_39, e_X8_undo_42, e_X8_undo_44, e_X8_undo_45, e_X8_undo_48, e_X8_undo_49, e_X8_undo_50, e_X8_undo_51, e_X8_undo_52, e_X8_undo_53_i, e_X8_undo_53_r, e_X8_undo_56, e_X8_undo_60, e_X8_undo_63, eq_self, nI10, not_false_eq_true, not_true_eq_false, is2_i, is2_r, is2_n, nI_add, pk_mul, Nat.reduceAdd, Nat.reduceMul, Int32.le_refl, if_true]
    | succ j ih =>
      intro i hj r
      have e1 : ¬ nI 24 ≤ nI i := nI_ge (by omega) (by omega)
      have i1 : i < 24 := by omega
      have i2 : 24 * (n - 1) + i < 336 := by omega
      have st := cpS_s (m := m2) (s := 143) (sp := 24 * (n - 1)) (t := 141) (tp := 0) (k := i)
      rw [Nat.zero_add] at st
      rw [e_X8_undo_27, ← ih (i + 1) (by omega) r]
      simp only [e_X8_undo_0, e_X8_undo_1, e_X8_undo_2, e_X8_undo_5, e_X8_undo_6, e_X8_undo_9, e_X8_undo_12, e_X8_undo_14, e_X8_undo_15, e_X8_undo_16, e_X8_undo_17, e_X8_undo_20, e_X8_undo_21, e_X8_undo_22, e_X8_undo_25, e_X8_undo_26_i, e_X8_undo_26_r, e_X8_undo_28, e_X8_undo_30, e_X8_undo_33, e_X8_undo_34, e_X8_undo_37, e_X8_undo_38, e_X8_undo_39, e_X8_undo_42, e_X8_undo_44, e_X8_undo_45, e_X8_undo_48, e_X8_undo_49, e_X8_undo_50, e_X8_undo_51, e_X8_undo_52, e_X8_undo_53_i, e_X8_undo_53_r, e_X8_undo_56, e_X8_undo_60, e_X8_undo_63, eq_self, nI10, not_false_eq_true, not_true_eq_false, is2_i, is2_r, is2_n, nI_add, pk_mul, Nat.reduceAdd, Nat.reduceMul, e1, if_false, m0_143, ml_143, m0_141, ml_141, i1, i2, cpS_ne (show (133 : Nat) ≠ 141 by decide), cpS_ne (show (143 : Nat) ≠ 141 by decide), q19, st]
  obtain ⟨m3, hm3⟩ : ∃ m3, m3 = cpS m2 143 (24 * (n - 1)) 141 0 24 := ⟨_, rfl⟩
  have g : ∀ i, i ≠ 133 → i ≠ 141 → m3 i = m1 i := fun i x1 x2 => by rw [hm3, cpS_ne x2, hm2, up_ne x1]
  have ff : ∀ q, q ≠ 19 → m3 133 q = m1 133 q := fun q hq => by rw [hm3, cpS_ne (by decide), hm2, up_eq, if_neg hq]
  have l2 := fun r => lp 24 0 (by omega) r
  rw [cpS_0, ← hm3] at l2
  have b1 : m2 143 = m1 143 := by rw [hm2, up_ne (by decide)]
  have r0 := a3 (n - 1) (by omega)
  rw [show n - 1 - (n - 1) = 0 by omega] at r0
  refine ⟨m3, ⟨⟨t1, by rw [ff 2 (by decide)]; exact t2, fun i hi => by rw [g 134 (by decide) (by decide)]; exact t3 i hi⟩, hp.fr (ff 4 (by decide)) (ff 6 (by decide)) (ff 8 (by decide)) (g 135 (by decide) (by decide)) (g 136 (by decide) (by decide)) (g 137 (by decide) (by decide)), ?_, ⟨by omega, by rw [hm3, cpS_ne (by decide)]; exact q19, fun i hi => ?_⟩, ⟨fun i hi => by rw [g 145 (by decide) (by decide)]; exact w1 i hi, fun i hi hk => by rw [g 144 (by decide) (by decide)]; exact w2 i hi hk⟩, ⟨s1, by rw [ff 22 (by decide)]; exact s2, fun i hi => by rw [g 146 (by decide) (by decide), g 147 (by decide) (by decide), g 148 (by decide) (by decide)]; exact s3 i hi⟩, h8⟩, f.k.trans (fun i hi => g i (by omega) (by omega)), ?_⟩
  · refine r0.cg hp.1 (fun q hq => ?_)
    have := cpS_in (m := m2) (s := 143) (sp := 24 * (n - 1)) (t := 141) (tp := 0) hq
    rw [Nat.zero_add, b1, ← hm3] at this
    exact this
  · rw [g 143 (by decide) (by decide)]
    have := a3 i (by omega)
    show RG p (A (n - 1 - 1 - i + 1)) _
    rw [show n - 1 - 1 - i + 1 = n - 1 - i by omega]
    exact this
  · have ne : ¬ nI n = nI 0 := fun z => by have := (nI_eq (by omega) (by omega)).mp z; omega
    have sb : nI n - nI 1 = nI (n - 1) := pk_sub (by omega)
    rw [ev_X8_undo]
    simp only [e_X8_undo_0, e_X8_undo_1, e_X8_undo_2, e_X8_undo_5, e_X8_undo_6, e_X8_undo_9, e_X8_undo_12, e_X8_undo_14, e_X8_undo_15, e_X8_undo_16, e_X8_undo_17, e_X8_undo_20, e_X8_undo_21, e_X8_undo_22, e_X8_undo_25, e_X8_undo_26_i, e_X8_undo_26_r, e_X8_undo_28, e_X8_undo_30, e_X8_undo_33, e_X8_undo_34, e_X8_undo_37, e_X8_undo_38, e_X8_undo_39, e_X8_undo_42, e_X8_undo_44, e_X8_undo_45, e_X8_undo_48, e_X8_undo_49, e_X8_undo_50, e_X8_undo_51, e_X8_undo_52, e_X8_undo_53_i, e_X8_undo_53_r, e_X8_undo_56, e_X8_undo_59, e_X8_undo_60, e_X8_undo_63, eq_self, nI10, not_false_eq_true, not_true_eq_false, is2_i, is2_r, is2_n, nI_add, pk_mul, Nat.reduceAdd, Nat.reduceMul, ← hm1, a2, ne, if_true, sb, ← hm2]
    refine Eq.mpr (l2 _) ?_
    simp only [e_X8_undo_0, e_X8_undo_1, e_X8_undo_2, e_X8_undo_5, e_X8_undo_6, e_X8_undo_9, e_X8_undo_12, e_X8_undo_14, e_X8_undo_15, e_X8_undo_16, e_X8_undo_17, e_X8_undo_20, e_X8_undo_21, e_X8_undo_22, e_X8_undo_25, e_X8_undo_26_i, e_X8_undo_26_r, e_X8_undo_28, e_X8_undo_30, e_X8_undo_33, e_X8_undo_34, e_X8_undo_37, e_X8_undo_38, e_X8_undo_39, e_X8_undo_42, e_X8_undo_44, e_X8_undo_45, e_X8_undo_48, e_X8_undo_49, e_X8_undo_50, e_X8_undo_51, e_X8_undo_52, e_X8_undo_53_i, e_X8_undo_53_r, e_X8_undo_56, e_X8_undo_59, e_X8_undo_60, e_X8_undo_63, eq_self, nI10, not_false_eq_true, not_true_eq_false, is2_i, is2_r, is2_n, nI_add, pk_mul, Nat.reduceAdd, Nat.reduceMul, hm3, cpS_ne (show (133 : Nat) ≠ 141 by decide), q19]
end P55
