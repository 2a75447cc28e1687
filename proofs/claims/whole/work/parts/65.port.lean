/-! the reference reads a thing, a port -/
section HEAR
variable {a : Nat × (Nat → Nat)} {b c : Nat × (Nat → Nat) × (Nat → Nat)} {l v : Nat} {s : PS}
theorem hr1 (h : s.2.2.2.1 = 1) : psHear s l = (psRoom s l, s.1, s.2.1, s.2.2.1, l, none) := by
  unfold psHear
  rw [if_neg (by omega), if_pos h]
theorem hrT (h : 48 ≤ l ∧ l ≤ 57) : psHear (a, b, c, 84, none) l = (true, (a.1 + 1, va_up a.2 a.1 (l - 48)), b, c, 1, none) := by
  unfold psHear
  rw [if_neg (show ¬ (84 : Nat) = 0 by decide), if_neg (show ¬ (84 : Nat) = 1 by decide), if_neg (by omega)]
  dsimp only
  rw [if_neg (by omega), if_pos rfl]
theorem hrTn (h : ¬ (48 ≤ l ∧ l ≤ 57)) : (psHear (a, b, c, 84, none) l).1 = false := by
  unfold psHear
  rw [if_neg (show ¬ (84 : Nat) = 0 by decide), if_neg (show ¬ (84 : Nat) = 1 by decide), if_pos (by omega)]
theorem hrB (h : 48 ≤ l ∧ l ≤ 57) : psHear (a, b, c, 66, none) l = (true, a, b, c, 66, some (l - 48)) := by
  unfold psHear
  rw [if_neg (show ¬ (66 : Nat) = 0 by decide), if_neg (show ¬ (66 : Nat) = 1 by decide), if_neg (by omega)]
  dsimp only
  rw [if_neg (by omega), if_neg (by decide)]
theorem hrBn (h : ¬ (48 ≤ l ∧ l ≤ 57)) : (psHear (a, b, c, 66, none) l).1 = false := by
  unfold psHear
  rw [if_neg (show ¬ (66 : Nat) = 0 by decide), if_neg (show ¬ (66 : Nat) = 1 by decide), if_pos (by omega)]
theorem hrB2 (h : 48 ≤ l ∧ l ≤ 51) : psHear (a, b, c, 66, some v) l = (true, a, (b.1 + 1, va_up b.2.1 b.1 v, va_up b.2.2 b.1 (l - 48)), c, 1, some v) := by
  unfold psHear
  rw [if_neg (show ¬ (66 : Nat) = 0 by decide), if_neg (show ¬ (66 : Nat) = 1 by decide), if_neg (by omega)]
  dsimp only
  rw [if_neg (by omega), if_pos rfl]
theorem hrB2n (h : ¬ (48 ≤ l ∧ l ≤ 51)) : (psHear (a, b, c, 66, some v) l).1 = false := by
  unfold psHear
  rw [if_neg (show ¬ (66 : Nat) = 0 by decide), if_neg (show ¬ (66 : Nat) = 1 by decide)]
  split
  · rfl
  · dsimp only
    rw [if_pos (by omega)]
theorem hrD (h : 49 ≤ l ∧ l ≤ 57) : psHear (a, b, c, 68, none) l = (true, a, b, c, 68, some (l - 48)) := by
  unfold psHear
  rw [if_neg (show ¬ (68 : Nat) = 0 by decide), if_neg (show ¬ (68 : Nat) = 1 by decide), if_neg (by omega)]
  dsimp only
  rw [if_neg (by omega), if_neg (by decide)]
theorem hrDn (h : ¬ (49 ≤ l ∧ l ≤ 57)) : (psHear (a, b, c, 68, none) l).1 = false := by
  unfold psHear
  rw [if_neg (show ¬ (68 : Nat) = 0 by decide), if_neg (show ¬ (68 : Nat) = 1 by decide)]
  split
  · rfl
  · dsimp only
    rw [if_pos ⟨rfl, by omega⟩]
theorem hrD2 (h : 48 ≤ l ∧ l ≤ 51) : psHear (a, b, c, 68, some v) l = (true, a, b, (c.1 + 1, va_up c.2.1 c.1 v, va_up c.2.2 c.1 (l - 48)), 1, some v) := by
  unfold psHear
  rw [if_neg (show ¬ (68 : Nat) = 0 by decide), if_neg (show ¬ (68 : Nat) = 1 by decide), if_neg (by omega)]
  dsimp only
  rw [if_neg (by omega), if_neg (by decide)]
theorem hrD2n (h : ¬ (48 ≤ l ∧ l ≤ 51)) : (psHear (a, b, c, 68, some v) l).1 = false := by
  unfold psHear
  rw [if_neg (show ¬ (68 : Nat) = 0 by decide), if_neg (show ¬ (68 : Nat) = 1 by decide)]
  split
  · rfl
  · dsimp only
    rw [if_pos (by omega)]
theorem hear_ok {s s' : PS} (h : psOk s) (e : psHear s l = (true, s')) : psOk s' := by
  have := psHear_ok (l := l) h (by rw [e])
  rw [e] at this
  exact this
theorem tl_go {x : TX} {i : Nat} {s s' : PS} (h : i < x.1) (e : psHear s (x.2 i) = (true, s')) : psTell x.2 i (x.1 - i) s = psTell x.2 (i + 1) (x.1 - (i + 1)) s' := by
  rw [tl_step h, e, if_pos rfl]
end HEAR
section P65
variable {o : ai_S} {d : Nat} {w : ai_W} {m m' : Nat → Nat → Int32} {lg lg' : Nat → Nat → Int64} {tx : TX} {i lo hi : Nat} {s : PS}
/-- what readThing does -/
def rtQ (o : ai_S) (d : Nat) (tx : TX) (i : Nat) (s : PS) (m : Nat → Nat → Int32) (lg : Nat → Nat → Int64) : Prop := ∃ m' b, FrQ m m' ∧ Ev o (d + 3) zX8_readThing [.ref 133] (ai_w m lg) (some (.int (bI b))) (ai_w m' lg) ∧ (b = false → ∃ f, f ≤ tx.1 ∧ m' 133 3 = nI f ∧ psFt tx (psTell tx.2 i (tx.1 - i) s) = some f) ∧ (b = true → ∃ j s', i < j ∧ j ≤ tx.1 ∧ m' 133 3 = nI j ∧ RPm s' m' ∧ psOk s' ∧ s'.2.2.2.1 = 1 ∧ psTell tx.2 i (tx.1 - i) s = psTell tx.2 j (tx.1 - j) s')
theorem s_X8_thingN (h : RXm tx m) (hi : i < tx.1) (h3 : m 133 3 = nI i) (hR : RPm s m) (hs : psOk s) (h1 : s.2.2.2.1 = 1) (hr : psRoom s (tx.2 i) = false) : rtQ o d tx i s m lg := by
  obtain ⟨t1, t2, t3⟩ := h
  obtain ⟨u1, u2⟩ := t3 i hi
  obtain ⟨b1, b2, b3, b4, b5, b6⟩ := hR
  have i48 : i < 48 := by omega
  have k1 := hs.1
  have k2 := hs.2.1
  have k3 := hs.2.2.1
  have s1 : nI (i + 1) - nI 1 = nI i := (pk_sub (by omega)).trans (by rw [Nat.add_sub_cancel])
  refine ⟨ai_up (ai_up m 133 3 (nI (i + 1))) 133 3 (nI i), false, (FrQ.up (Or.inl rfl)).trans (FrQ.up (Or.inl rfl)), ?_, fun _ => ⟨i, by omega, by rw [up_eq, if_pos rfl], tl_bad (by omega) (fun _ => by rw [hr1 h1]; exact hr) (Or.inr hi)⟩, fun z => by cases z⟩
  have hr' := of_decide_eq_false hr
  have e5 : (nI 4 ≤ nI s.1.1) = (4 ≤ s.1.1) := propext (nI_leI (by omega) (by omega))
  have e6 : (nI 4 ≤ nI s.2.1.1) = (4 ≤ s.2.1.1) := propext (nI_leI (by omega) (by omega))
  have e7 : (nI 5 ≤ nI s.2.2.1.1) = (5 ≤ s.2.2.1.1) := propext (nI_leI (by omega) (by omega))
  have e84 := nI_9 (a := tx.2 i) (c := 84) (by omega) (by omega)
  have e66 := nI_9 (a := tx.2 i) (c := 66) (by omega) (by omega)
  have e68 := nI_9 (a := tx.2 i) (c := 68) (by omega) (by omega)
  have q10 : ai_up m 133 3 (nI (i + 1)) 133 10 = nI s.1.1 := by rw [up_eq, if_neg (by decide)]; exact b1
  have q12 : ai_up m 133 3 (nI (i + 1)) 133 12 = nI s.2.1.1 := by rw [up_eq, if_neg (by decide)]; exact b2
  have q14 : ai_up m 133 3 (nI (i + 1)) 133 14 = nI s.2.2.1.1 := by rw [up_eq, if_neg (by decide)]; exact b3
  have q3 : ai_up m 133 3 (nI (i + 1)) 133 3 = nI (i + 1) := by rw [up_eq, if_pos rfl]
  rw [ev_X8_readThing]
  simp only [e_X8_readThing_0, e_X8_readThing_1, e_X8_readThing_4, e_X8_readThing_5, e_X8_readThing_8, e_X8_readThing_9_i, e_X8_readThing_9_r, e_X8_readThing_10, e_X8_readThing_11, e_X8_readThing_12, e_X8_readThing_15, e_X8_readThing_16, e_X8_readThing_17, e_X8_readThing_20, e_X8_readThing_21, e_X8_readThing_23, e_X8_readThing_26, e_X8_readThing_27, e_X8_readThing_30, e_X8_readThing_31, e_X8_readThing_34, e_X8_readThing_38, e_X8_readThing_39, e_X8_readThing_40, e_X8_readThing_42, e_X8_readThing_45, e_X8_readThing_46, e_X8_readThing_49, e_X8_readThing_50, e_X8_readThing_53, e_X8_readThing_57, e_X8_readThing_58, e_X8_readThing_59, e_X8_readThing_61, e_X8_readThing_64, e_X8_readThing_65, e_X8_readThing_68, e_X8_readThing_69, e_X8_readThing_72, e_X8_readThing_76, e_X8_readThing_77, e_X8_readThing_78, e_X8_readThing_79, e_X8_readThing_82, e_X8_readThing_83, e_X8_readThing_84, e_X8_readThing_87, e_X8_readThing_88, eq_self, nI10, not_false_eq_true, not_true_eq_false, is2_i, is2_r, is2_n, nI_add, pk_mul, Nat.reduceAdd, Nat.reduceMul, h3, m0_134, ml_134, i48, u1, e84, e66, e68, q10, q12, q14, q3, e5, e6, e7, s1, nar_0, bI_f]
  by_cases a1 : tx.2 i = 84
  · have g : 4 ≤ s.1.1 := by omega
    simp [a1, g]
  · by_cases a2 : tx.2 i = 66
    · have g : 4 ≤ s.2.1.1 := by omega
      simp [a2, g]
    · by_cases a3 : tx.2 i = 68
      · have g : 5 ≤ s.2.2.1.1 := by omega
        simp [a3, g]
      · simp [a1, a2, a3]
theorem s_X8_thingT (h : RXm tx m) (hi : i < tx.1) (h3 : m 133 3 = nI i) (hR : RPm s m) (hs : psOk s) (h1 : s.2.2.2.1 = 1) (hl : tx.2 i = 84) (h4 : s.1.1 < 4) : rtQ o d tx i s m lg := by
  have h' := h
  obtain ⟨t1, t2, t3⟩ := h'
  obtain ⟨u1, u2⟩ := t3 i hi
  rw [hl] at u1
  have i48 : i < 48 := by omega
  have e5 : (nI 4 ≤ nI s.1.1) = False := by simp only [eq_iff_iff, iff_false]; exact nI_ge (by omega) (by omega)
  obtain ⟨m1, hm1⟩ : ∃ m1, m1 = ai_up m 133 3 (nI (i + 1)) := ⟨_, rfl⟩
  have f1 : FrQ m m1 := by rw [hm1]; exact FrQ.up (Or.inl rfl)
  have r3 : m1 133 3 = nI (i + 1) := by rw [hm1, up_eq, if_pos rfl]
  have hR1 : RPm s m1 := by rw [hm1]; exact hR.p3
  have e0 : psHear s (tx.2 i) = (true, s.1, s.2.1, s.2.2.1, 84, none) := by
    rw [hr1 h1, hl, show psRoom s 84 = true from decide_eq_true (Or.inl ⟨rfl, h4⟩)]
  have ok1 := hear_ok hs e0
  have g0 := tl_go hi e0
  have run : ∀ r, Rn o (d + 3) zX8_readThing 0 [.ref 133, .null] [] (ai_w m lg) r = Rn o (d + 3) zX8_readThing 35 [.ref 133, .int (nI 84)] [.ref 133] (ai_w m1 lg) r := fun r => by
    simp only [e_X8_readThing_0, e_X8_readThing_1, e_X8_readThing_4, e_X8_readThing_5, e_X8_readThing_8, e_X8_readThing_9_i, e_X8_readThing_9_r, e_X8_readThing_10, e_X8_readThing_11, e_X8_readThing_12, e_X8_readThing_15, e_X8_readThing_16, e_X8_readThing_17, e_X8_readThing_20, e_X8_readThing_21, e_X8_readThing_23, e_X8_readThing_26, e_X8_readThing_27, e_X8_readThing_30, e_X8_readThing_31, e_X8_readThing_34, e_X8_readThing_38, e_X8_readThing_39, e_X8_readThing_40, e_X8_readThing_42, e_X8_readThing_45, e_X8_readThing_46, e_X8_readThing_49, e_X8_readThing_50, e_X8_readThing_53, e_X8_readThing_57, e_X8_readThing_58, e_X8_readThing_59, e_X8_readThing_61, e_X8_readThing_64, e_X8_readThing_65, e_X8_readThing_68, e_X8_readThing_69, e_X8_readThing_72, e_X8_readThing_76, e_X8_readThing_77, e_X8_readThing_78, e_X8_readThing_79, e_X8_readThing_82, e_X8_readThing_83, e_X8_readThing_84, e_X8_readThing_87, e_X8_readThing_88, eq_self, nI10, not_false_eq_true, not_true_eq_false, is2_i, is2_r, is2_n, nI_add, pk_mul, Nat.reduceAdd, Nat.reduceMul, h3, m0_134, ml_134, i48, u1, ← hm1, hR1.1, e5, if_false]
  by_cases hf : fgAt tx (i + 1) 0 9
  · obtain ⟨m2, c1, c2, c3, c4⟩ := s_X8_tideT (o := o) (d := d) (lg := lg) (h.fr f1) r3 hf hR1 h4
    have e2 := hrT (a := s.1) (b := s.2.1) (c := s.2.2.1) hf.2
    refine ⟨m2, true, f1.trans c1, ?_, fun z => (by cases z), fun _ => ⟨i + 1 + 1, _, by omega, hf.1, c2, c3, hear_ok ok1 e2, rfl, g0.trans (tl_go hf.1 e2)⟩⟩
    rw [ev_X8_readThing, run]
    simp only [e_X8_readThing_0, e_X8_readThing_1, e_X8_readThing_4, e_X8_readThing_5, e_X8_readThing_8, e_X8_readThing_9_i, e_X8_readThing_9_r, e_X8_readThing_10, e_X8_readThing_11, e_X8_readThing_12, e_X8_readThing_15, e_X8_readThing_16, e_X8_readThing_17, e_X8_readThing_20, e_X8_readThing_21, e_X8_readThing_23, e_X8_readThing_26, e_X8_readThing_27, e_X8_readThing_30, e_X8_readThing_31, e_X8_readThing_34, e_X8_readThing_38, e_X8_readThing_39, e_X8_readThing_40, e_X8_readThing_42, e_X8_readThing_45, e_X8_readThing_46, e_X8_readThing_49, e_X8_readThing_50, e_X8_readThing_53, e_X8_readThing_57, e_X8_readThing_58, e_X8_readThing_59, e_X8_readThing_61, e_X8_readThing_64, e_X8_readThing_65, e_X8_readThing_68, e_X8_readThing_69, e_X8_readThing_72, e_X8_readThing_76, e_X8_readThing_77, e_X8_readThing_78, e_X8_readThing_79, e_X8_readThing_82, e_X8_readThing_83, e_X8_readThing_84, e_X8_readThing_87, e_X8_readThing_88, eq_self, nI10, not_false_eq_true, not_true_eq_false, is2_i, is2_r, is2_n, nI_add, pk_mul, Nat.reduceAdd, Nat.reduceMul, e_X8_readThing_35 (hE := c4), nar_b]
  · have c4 := s_X8_tideF (o := o) (d := d) (lg := lg) (h.fr f1) (show i + 1 ≤ tx.1 from hi) r3 hf
    refine ⟨m1, false, f1, ?_, fun _ => ⟨i + 1, hi, r3, by
      rw [g0]
      exact tl_bad hi (fun q => hrTn (fun z => hf ⟨q, z⟩)) (Or.inl (show (84 : Nat) ≠ 1 by decide))⟩, fun z => (by cases z)⟩
    rw [ev_X8_readThing, run]
    simp only [e_X8_readThing_0, e_X8_readThing_1, e_X8_readThing_4, e_X8_readThing_5, e_X8_readThing_8, e_X8_readThing_9_i, e_X8_readThing_9_r, e_X8_readThing_10, e_X8_readThing_11, e_X8_readThing_12, e_X8_readThing_15, e_X8_readThing_16, e_X8_readThing_17, e_X8_readThing_20, e_X8_readThing_21, e_X8_readThing_23, e_X8_readThing_26, e_X8_readThing_27, e_X8_readThing_30, e_X8_readThing_31, e_X8_readThing_34, e_X8_readThing_38, e_X8_readThing_39, e_X8_readThing_40, e_X8_readThing_42, e_X8_readThing_45, e_X8_readThing_46, e_X8_readThing_49, e_X8_readThing_50, e_X8_readThing_53, e_X8_readThing_57, e_X8_readThing_58, e_X8_readThing_59, e_X8_readThing_61, e_X8_readThing_64, e_X8_readThing_65, e_X8_readThing_68, e_X8_readThing_69, e_X8_readThing_72, e_X8_readThing_76, e_X8_readThing_77, e_X8_readThing_78, e_X8_readThing_79, e_X8_readThing_82, e_X8_readThing_83, e_X8_readThing_84, e_X8_readThing_87, e_X8_readThing_88, eq_self, nI10, not_false_eq_true, not_true_eq_false, is2_i, is2_r, is2_n, nI_add, pk_mul, Nat.reduceAdd, Nat.reduceMul, e_X8_readThing_35 (hE := c4), nar_b]
theorem s_X8_thingB (h : RXm tx m) (hi : i < tx.1) (h3 : m 133 3 = nI i) (hR : RPm s m) (hs : psOk s) (h1 : s.2.2.2.1 = 1) (hl : tx.2 i = 66) (h4 : s.2.1.1 < 4) : rtQ o d tx i s m lg := by
  have h' := h
  obtain ⟨t1, t2, t3⟩ := h'
  obtain ⟨u1, u2⟩ := t3 i hi
  rw [hl] at u1
  have i48 : i < 48 := by omega
  have e5 : (nI 4 ≤ nI s.2.1.1) = False := by simp only [eq_iff_iff, iff_false]; exact nI_ge (by omega) (by omega)
  have x1 : (nI 66 = nI 84) = False := by rw [nI_9 (by decide) (by decide)]; decide
  obtain ⟨m1, hm1⟩ : ∃ m1, m1 = ai_up m 133 3 (nI (i + 1)) := ⟨_, rfl⟩
  have f1 : FrQ m m1 := by rw [hm1]; exact FrQ.up (Or.inl rfl)
  have r3 : m1 133 3 = nI (i + 1) := by rw [hm1, up_eq, if_pos rfl]
  have hR1 : RPm s m1 := by rw [hm1]; exact hR.p3
  have e0 : psHear s (tx.2 i) = (true, s.1, s.2.1, s.2.2.1, 66, none) := by
    rw [hr1 h1, hl, show psRoom s 66 = true from decide_eq_true (Or.inr (Or.inl ⟨rfl, h4⟩))]
  have ok1 := hear_ok hs e0
  have g0 := tl_go hi e0
  have run : ∀ r, Rn o (d + 3) zX8_readThing 0 [.ref 133, .null] [] (ai_w m lg) r = Rn o (d + 3) zX8_readThing 54 [.ref 133, .int (nI 66)] [.ref 133] (ai_w m1 lg) r := fun r => by
    simp only [e_X8_readThing_0, e_X8_readThing_1, e_X8_readThing_4, e_X8_readThing_5, e_X8_readThing_8, e_X8_readThing_9_i, e_X8_readThing_9_r, e_X8_readThing_10, e_X8_readThing_11, e_X8_readThing_12, e_X8_readThing_15, e_X8_readThing_16, e_X8_readThing_17, e_X8_readThing_20, e_X8_readThing_21, e_X8_readThing_23, e_X8_readThing_26, e_X8_readThing_27, e_X8_readThing_30, e_X8_readThing_31, e_X8_readThing_34, e_X8_readThing_38, e_X8_readThing_39, e_X8_readThing_40, e_X8_readThing_42, e_X8_readThing_45, e_X8_readThing_46, e_X8_readThing_49, e_X8_readThing_50, e_X8_readThing_53, e_X8_readThing_57, e_X8_readThing_58, e_X8_readThing_59, e_X8_readThing_61, e_X8_readThing_64, e_X8_readThing_65, e_X8_readThing_68, e_X8_readThing_69, e_X8_readThing_72, e_X8_readThing_76, e_X8_readThing_77, e_X8_readThing_78, e_X8_readThing_79, e_X8_readThing_82, e_X8_readThing_83, e_X8_readThing_84, e_X8_readThing_87, e_X8_readThing_88, eq_self, nI10, not_false_eq_true, not_true_eq_false, is2_i, is2_r, is2_n, nI_add, pk_mul, Nat.reduceAdd, Nat.reduceMul, h3, m0_134, ml_134, i48, u1, ← hm1, hR1.2.1, e5, x1, if_false, if_true]
  by_cases hf : fgAt tx (i + 1) 0 9
  · have e2 := hrB (a := s.1) (b := s.2.1) (c := s.2.2.1) hf.2
    have ok2 := hear_ok ok1 e2
    have g1 := g0.trans (tl_go hf.1 e2)
    by_cases hg : fgAt tx (i + 1 + 1) 0 3
    · obtain ⟨m2, c1, c2, c3, c4⟩ := s_X8_berthT (o := o) (d := d) (lg := lg) (h.fr f1) r3 hf hg hR1 h4
      have e3 := hrB2 (a := s.1) (b := s.2.1) (c := s.2.2.1) (v := tx.2 (i + 1) - 48) hg.2
      refine ⟨m2, true, f1.trans c1, ?_, fun z => (by cases z), fun _ => ⟨i + 1 + 1 + 1, _, by omega, hg.1, c2, c3, hear_ok ok2 e3, rfl, g1.trans (tl_go hg.1 e3)⟩⟩
      rw [ev_X8_readThing, run]
      simp only [e_X8_readThing_0, e_X8_readThing_1, e_X8_readThing_4, e_X8_readThing_5, e_X8_readThing_8, e_X8_readThing_9_i, e_X8_readThing_9_r, e_X8_readThing_10, e_X8_readThing_11, e_X8_readThing_12, e_X8_readThing_15, e_X8_readThing_16, e_X8_readThing_17, e_X8_readThing_20, e_X8_readThing_21, e_X8_readThing_23, e_X8_readThing_26, e_X8_readThing_27, e_X8_readThing_30, e_X8_readThing_31, e_X8_readThing_34, e_X8_readThing_38, e_X8_readThing_39, e_X8_readThing_40, e_X8_readThing_42, e_X8_readThing_45, e_X8_readThing_46, e_X8_readThing_49, e_X8_readThing_50, e_X8_readThing_53, e_X8_readThing_57, e_X8_readThing_58, e_X8_readThing_59, e_X8_readThing_61, e_X8_readThing_64, e_X8_readThing_65, e_X8_readThing_68, e_X8_readThing_69, e_X8_readThing_72, e_X8_readThing_76, e_X8_readThing_77, e_X8_readThing_78, e_X8_readThing_79, e_X8_readThing_82, e_X8_readThing_83, e_X8_readThing_84, e_X8_readThing_87, e_X8_readThing_88, eq_self, nI10, not_false_eq_true, not_true_eq_false, is2_i, is2_r, is2_n, nI_add, pk_mul, Nat.reduceAdd, Nat.reduceMul, e_X8_readThing_54 (hE := c4), nar_b]
    · have c4 := s_X8_berthG (o := o) (d := d) (lg := lg) (h.fr f1) r3 hf hg
      refine ⟨_, false, f1.trans (FrQ.up (Or.inl rfl)), ?_, fun _ => ⟨i + 1 + 1, hf.1, by rw [up_eq, if_pos rfl], by
        rw [g1]
        exact tl_bad hf.1 (fun q => hrB2n (fun z => hg ⟨q, z⟩)) (Or.inl (show (66 : Nat) ≠ 1 by decide))⟩, fun z => (by cases z)⟩
      rw [ev_X8_readThing, run]
      simp only [e_X8_readThing_0, e_X8_readThing_1, e_X8_readThing_4, e_X8_readThing_5, e_X8_readThing_8, e_X8_readThing_9_i, e_X8_readThing_9_r, e_X8_readThing_10, e_X8_readThing_11, e_X8_readThing_12, e_X8_readThing_15, e_X8_readThing_16, e_X8_readThing_17, e_X8_readThing_20, e_X8_readThing_21, e_X8_readThing_23, e_X8_readThing_26, e_X8_readThing_27, e_X8_readThing_30, e_X8_readThing_31, e_X8_readThing_34, e_X8_readThing_38, e_X8_readThing_39, e_X8_readThing_40, e_X8_readThing_42, e_X8_readThing_45, e_X8_readThing_46, e_X8_readThing_49, e_X8_readThing_50, e_X8_readThing_53, e_X8_readThing_57, e_X8_readThing_58, e_X8_readThing_59, e_X8_readThing_61, e_X8_readThing_64, e_X8_readThing_65, e_X8_readThing_68, e_X8_readThing_69, e_X8_readThing_72, e_X8_readThing_76, e_X8_readThing_77, e_X8_readThing_78, e_X8_readThing_79, e_X8_readThing_82, e_X8_readThing_83, e_X8_readThing_84, e_X8_readThing_87, e_X8_readThing_88, eq_self, nI10, not_false_eq_true, not_true_eq_false, is2_i, is2_r, is2_n, nI_add, pk_mul, Nat.reduceAdd, Nat.reduceMul, e_X8_readThing_54 (hE := c4), nar_b]
  · have c4 := s_X8_berthF (o := o) (d := d) (lg := lg) (h.fr f1) (show i + 1 ≤ tx.1 from hi) r3 hf
    refine ⟨m1, false, f1, ?_, fun _ => ⟨i + 1, hi, r3, by
      rw [g0]
      exact tl_bad hi (fun q => hrBn (fun z => hf ⟨q, z⟩)) (Or.inl (show (66 : Nat) ≠ 1 by decide))⟩, fun z => (by cases z)⟩
    rw [ev_X8_readThing, run]
    simp only [e_X8_readThing_0, e_X8_readThing_1, e_X8_readThing_4, e_X8_readThing_5, e_X8_readThing_8, e_X8_readThing_9_i, e_X8_readThing_9_r, e_X8_readThing_10, e_X8_readThing_11, e_X8_readThing_12, e_X8_readThing_15, e_X8_readThing_16, e_X8_readThing_17, e_X8_readThing_20, e_X8_readThing_21, e_X8_readThing_23, e_X8_readThing_26, e_X8_readThing_27, e_X8_readThing_30, e_X8_readThing_31, e_X8_readThing_34, e_X8_readThing_38, e_X8_readThing_39, e_X8_readThing_40, e_X8_readThing_42, e_X8_readThing_45, e_X8_readThing_46, e_X8_readThing_49, e_X8_readThing_50, e_X8_readThing_53, e_X8_readThing_57, e_X8_readThing_58, e_X8_readThing_59, e_X8_readThing_61, e_X8_readThing_64, e_X8_readThing_65, e_X8_readThing_68, e_X8_readThing_69, e_X8_readThing_72, e_X8_readThing_76, e_X8_readThing_77, e_X8_readThing_78, e_X8_readThing_79, e_X8_readThing_82, e_X8_readThing_83, e_X8_readThing_84, e_X8_readThing_87, e_X8_readThing_88, eq_self, nI10, not_false_eq_true, not_true_eq_false, is2_i, is2_r, is2_n, nI_add, pk_mul, Nat.reduceAdd, Nat.reduceMul, e_X8_readThing_54 (hE := c4), nar_b]
theorem s_X8_thingD (h : RXm tx m) (hi : i < tx.1) (h3 : m 133 3 = nI i) (hR : RPm s m) (hs : psOk s) (h1 : s.2.2.2.1 = 1) (hl : tx.2 i = 68) (h4 : s.2.2.1.1 < 5) : rtQ o d tx i s m lg := by
  have h' := h
  obtain ⟨t1, t2, t3⟩ := h'
  obtain ⟨u1, u2⟩ := t3 i hi
  rw [hl] at u1
  have i48 : i < 48 := by omega
  have e5 : (nI 5 ≤ nI s.2.2.1.1) = False := by simp only [eq_iff_iff, iff_false]; exact nI_ge (by omega) (by omega)
  have x1 : (nI 68 = nI 84) = False := by rw [nI_9 (by decide) (by decide)]; decide
  have x2 : (nI 68 = nI 66) = False := by rw [nI_9 (by decide) (by decide)]; decide
  obtain ⟨m1, hm1⟩ : ∃ m1, m1 = ai_up m 133 3 (nI (i + 1)) := ⟨_, rfl⟩
  have f1 : FrQ m m1 := by rw [hm1]; exact FrQ.up (Or.inl rfl)
  have r3 : m1 133 3 = nI (i + 1) := by rw [hm1, up_eq, if_pos rfl]
  have hR1 : RPm s m1 := by rw [hm1]; exact hR.p3
  have e0 : psHear s (tx.2 i) = (true, s.1, s.2.1, s.2.2.1, 68, none) := by
    rw [hr1 h1, hl, show psRoom s 68 = true from decide_eq_true (Or.inr (Or.inr ⟨rfl, h4⟩))]
  have ok1 := hear_ok hs e0
  have g0 := tl_go hi e0
  have run : ∀ r, Rn o (d + 3) zX8_readThing 0 [.ref 133, .null] [] (ai_w m lg) r = Rn o (d + 3) zX8_readThing 73 [.ref 133, .int (nI 68)] [.ref 133] (ai_w m1 lg) r := fun r => by
    simp only [e_X8_readThing_0, e_X8_readThing_1, e_X8_readThing_4, e_X8_readThing_5, e_X8_readThing_8, e_X8_readThing_9_i, e_X8_readThing_9_r, e_X8_readThing_10, e_X8_readThing_11, e_X8_readThing_12, e_X8_readThing_15, e_X8_readThing_16, e_X8_readThing_17, e_X8_readThing_20, e_X8_readThing_21, e_X8_readThing_23, e_X8_readThing_26, e_X8_readThing_27, e_X8_readThing_30, e_X8_readThing_31, e_X8_readThing_34, e_X8_readThing_38, e_X8_readThing_39, e_X8_readThing_40, e_X8_readThing_42, e_X8_readThing_45, e_X8_readThing_46, e_X8_readThing_49, e_X8_readThing_50, e_X8_readThing_53, e_X8_readThing_57, e_X8_readThing_58, e_X8_readThing_59, e_X8_readThing_61, e_X8_readThing_64, e_X8_readThing_65, e_X8_readThing_68, e_X8_readThing_69, e_X8_readThing_72, e_X8_readThing_76, e_X8_readThing_77, e_X8_readThing_78, e_X8_readThing_79, e_X8_readThing_82, e_X8_readThing_83, e_X8_readThing_84, e_X8_readThing_87, e_X8_readThing_88, eq_self, nI10, not_false_eq_true, not_true_eq_false, is2_i, is2_r, is2_n, nI_add, pk_mul, Nat.reduceAdd, Nat.reduceMul, h3, m0_134, ml_134, i48, u1, ← hm1, hR1.2.2.1, e5, x1, x2, if_false, if_true]
  by_cases hf : fgAt tx (i + 1) 1 9
  · have e2 := hrD (a := s.1) (b := s.2.1) (c := s.2.2.1) hf.2
    have ok2 := hear_ok ok1 e2
    have g1 := g0.trans (tl_go hf.1 e2)
    by_cases hg : fgAt tx (i + 1 + 1) 0 3
    · obtain ⟨m2, c1, c2, c3, c4⟩ := s_X8_dreamT (o := o) (d := d) (lg := lg) (h.fr f1) r3 hf hg hR1 h4
      have e3 := hrD2 (a := s.1) (b := s.2.1) (c := s.2.2.1) (v := tx.2 (i + 1) - 48) hg.2
      refine ⟨m2, true, f1.trans c1, ?_, fun z => (by cases z), fun _ => ⟨i + 1 + 1 + 1, _, by omega, hg.1, c2, c3, hear_ok ok2 e3, rfl, g1.trans (tl_go hg.1 e3)⟩⟩
      rw [ev_X8_readThing, run]
      simp only [e_X8_readThing_0, e_X8_readThing_1, e_X8_readThing_4, e_X8_readThing_5, e_X8_readThing_8, e_X8_readThing_9_i, e_X8_readThing_9_r, e_X8_readThing_10, e_X8_readThing_11, e_X8_readThing_12, e_X8_readThing_15, e_X8_readThing_16, e_X8_readThing_17, e_X8_readThing_20, e_X8_readThing_21, e_X8_readThing_23, e_X8_readThing_26, e_X8_readThing_27, e_X8_readThing_30, e_X8_readThing_31, e_X8_readThing_34, e_X8_readThing_38, e_X8_readThing_39, e_X8_readThing_40, e_X8_readThing_42, e_X8_readThing_45, e_X8_readThing_46, e_X8_readThing_49, e_X8_readThing_50, e_X8_readThing_53, e_X8_readThing_57, e_X8_readThing_58, e_X8_readThing_59, e_X8_readThing_61, e_X8_readThing_64, e_X8_readThing_65, e_X8_readThing_68, e_X8_readThing_69, e_X8_readThing_72, e_X8_readThing_76, e_X8_readThing_77, e_X8_readThing_78, e_X8_readThing_79, e_X8_readThing_82, e_X8_readThing_83, e_X8_readThing_84, e_X8_readThing_87, e_X8_readThing_88, eq_self, nI10, not_false_eq_true, not_true_eq_false, is2_i, is2_r, is2_n, nI_add, pk_mul, Nat.reduceAdd, Nat.reduceMul, e_X8_readThing_73 (hE := c4), nar_b]
    · have c4 := s_X8_dreamG (o := o) (d := d) (lg := lg) (h.fr f1) r3 hf hg
      refine ⟨_, false, f1.trans (FrQ.up (Or.inl rfl)), ?_, fun _ => ⟨i + 1 + 1, hf.1, by rw [up_eq, if_pos rfl], by
        rw [g1]
        exact tl_bad hf.1 (fun q => hrD2n (fun z => hg ⟨q, z⟩)) (Or.inl (show (68 : Nat) ≠ 1 by decide))⟩, fun z => (by cases z)⟩
      rw [ev_X8_readThing, run]
      simp only [e_X8_readThing_0, e_X8_readThing_1, e_X8_readThing_4, e_X8_readThing_5, e_X8_readThing_8, e_X8_readThing_9_i, e_X8_readThing_9_r, e_X8_readThing_10, e_X8_readThing_11, e_X8_readThing_12, e_X8_readThing_15, e_X8_readThing_16, e_X8_readThing_17, e_X8_readThing_20, e_X8_readThing_21, e_X8_readThing_23, e_X8_readThing_26, e_X8_readThing_27, e_X8_readThing_30, e_X8_readThing_31, e_X8_readThing_34, e_X8_readThing_38, e_X8_readThing_39, e_X8_readThing_40, e_X8_readThing_42, e_X8_readThing_45, e_X8_readThing_46, e_X8_readThing_49, e_X8_readThing_50, e_X8_readThing_53, e_X8_readThing_57, e_X8_readThing_58, e_X8_readThing_59, e_X8_readThing_61, e_X8_readThing_64, e_X8_readThing_65, e_X8_readThing_68, e_X8_readThing_69, e_X8_readThing_72, e_X8_readThing_76, e_X8_readThing_77, e_X8_readThing_78, e_X8_readThing_79, e_X8_readThing_82, e_X8_readThing_83, e_X8_readThing_84, e_X8_readThing_87, e_X8_readThing_88, eq_self, nI10, not_false_eq_true, not_true_eq_false, is2_i, is2_r, is2_n, nI_add, pk_mul, Nat.reduceAdd, Nat.reduceMul, e_X8_readThing_73 (hE := c4), nar_b]
  · have c4 := s_X8_dreamF (o := o) (d := d) (lg := lg) (h.fr f1) (show i + 1 ≤ tx.1 from hi) r3 hf
    refine ⟨m1, false, f1, ?_, fun _ => ⟨i + 1, hi, r3, by
      rw [g0]
      exact tl_bad hi (fun q => hrDn (fun z => hf ⟨q, z⟩)) (Or.inl (show (68 : Nat) ≠ 1 by decide))⟩, fun z => (by cases z)⟩
    rw [ev_X8_readThing, run]
    simp only [e_X8_readThing_0, e_X8_readThing_1, e_X8_readThing_4, e_X8_readThing_5, e_X8_readThing_8, e_X8_readThing_9_i, e_X8_readThing_9_r, e_X8_readThing_10, e_X8_readThing_11, e_X8_readThing_12, e_X8_readThing_15, e_X8_readThing_16, e_X8_readThing_17, e_X8_readThing_20, e_X8_readThing_21, e_X8_readThing_23, e_X8_readThing_26, e_X8_readThing_27, e_X8_readThing_30, e_X8_readThing_31, e_X8_readThing_34, e_X8_readThing_38, e_X8_readThing_39, e_X8_readThing_40, e_X8_readThing_42, e_X8_readThing_45, e_X8_readThing_46, e_X8_readThing_49, e_X8_readThing_50, e_X8_readThing_53, e_X8_readThing_57, e_X8_readThing_58, e_X8_readThing_59, e_X8_readThing_61, e_X8_readThing_64, e_X8_readThing_65, e_X8_readThing_68, e_X8_readThing_69, e_X8_readThing_72, e_X8_readThing_76, e_X8_readThing_77, e_X8_readThing_78, e_X8_readThing_79, e_X8_readThing_82, e_X8_readThing_83, e_X8_readThing_84, e_X8_readThing_87, e_X8_readThing_88, eq_self, nI10, not_false_eq_true, not_true_eq_false, is2_i, is2_r, is2_n, nI_add, pk_mul, Nat.reduceAdd, Nat.reduceMul, e_X8_readThing_73 (hE := c4), nar_b]
theorem s_X8_readThing (h : RXm tx m) (hi : i < tx.1) (h3 : m 133 3 = nI i) (hR : RPm s m) (hs : psOk s) (h1 : s.2.2.2.1 = 1) : rtQ o d tx i s m lg := by
  cases hr : psRoom s (tx.2 i)
  · exact s_X8_thingN h hi h3 hR hs h1 hr
  · rcases of_decide_eq_true hr with z | z | z
    · exact s_X8_thingT h hi h3 hR hs h1 z.1 z.2
    · exact s_X8_thingB h hi h3 hR hs h1 z.1 z.2
    · exact s_X8_thingD h hi h3 hR hs h1 z.1 z.2
theorem lp_X8_readPort : ∀ (k i : Nat) (s : PS) (m : Nat → Nat → Int32), tx.1 - i ≤ k → i ≤ tx.1 → RXm tx m → m 133 3 = nI i → RPm s m → psOk s → s.2.2.2.1 = 1 → ∃ m', FrQ m m' ∧ (psFt tx (psTell tx.2 i (tx.1 - i) s) = none → RPm (psTell tx.2 i (tx.1 - i) s).2 m' ∧ psOk (psTell tx.2 i (tx.1 - i) s).2) ∧ Rn o (d + 4) zX8_readPort 45 [.ref 133] [] (ai_w m lg) (some (.int (ftI (psFt tx (psTell tx.2 i (tx.1 - i) s)))), ai_w m' lg) := by
  intro k
  induction k with
  | zero =>
    intro i s m hk hi h h3 hR hs h1
    have : i = tx.1 := by omega
    subst this
    rw [tl_end (Nat.le_refl _)]
    have e : psFt tx (none, s) = none := by unfold psFt; dsimp only; rw [if_pos h1]
    rw [e]
    refine ⟨m, FrQ.rfl', fun _ => ⟨hR, hs⟩, ?_⟩
    rw [e_X8_readPort_45]
    simp only [e_X8_readPort_0, e_X8_readPort_1, e_X8_readPort_2, e_X8_readPort_5, e_X8_readPort_6, e_X8_readPort_7, e_X8_readPort_10, e_X8_readPort_11, e_X8_readPort_12, e_X8_readPort_15, e_X8_readPort_16, e_X8_readPort_17, e_X8_readPort_20, e_X8_readPort_21, e_X8_readPort_24, e_X8_readPort_27, e_X8_readPort_28, e_X8_readPort_31, e_X8_readPort_32, e_X8_readPort_33, e_X8_readPort_35, e_X8_readPort_38, e_X8_readPort_39, e_X8_readPort_40, e_X8_readPort_41, e_X8_readPort_42, e_X8_readPort_46, e_X8_readPort_49, e_X8_readPort_50, e_X8_readPort_53, e_X8_readPort_56, e_X8_readPort_60, e_X8_readPort_63, e_X8_readPort_64, e_X8_readPort_67, e_X8_readPort_68, e_X8_readPort_70, eq_self, nI10, not_false_eq_true, not_true_eq_false, is2_i, is2_r, is2_n, nI_add, pk_mul, Nat.reduceAdd, Nat.reduceMul, h3, h.2.1, Int32.le_refl, if_true, ftI]
  | succ k ih =>
    intro i s m hk hi h h3 hR hs h1
    by_cases hlt : i < tx.1
    · have h48 := h.1
      have hn : (nI tx.1 ≤ nI i) = False := by simp only [eq_iff_iff, iff_false]; exact nI_ge hlt (by omega)
      obtain ⟨m1, b, f1, ev, hF, hT⟩ := s_X8_readThing (o := o) (d := d) (lg := lg) h hlt h3 hR hs h1
      cases b with
      | false =>
        obtain ⟨f, g0, g1, g2⟩ := hF rfl
        refine ⟨m1, f1, fun z => (by rw [g2] at z; cases z), ?_⟩
        rw [g2, e_X8_readPort_45]
        simp only [e_X8_readPort_0, e_X8_readPort_1, e_X8_readPort_2, e_X8_readPort_5, e_X8_readPort_6, e_X8_readPort_7, e_X8_readPort_10, e_X8_readPort_11, e_X8_readPort_12, e_X8_readPort_15, e_X8_readPort_16, e_X8_readPort_17, e_X8_readPort_20, e_X8_readPort_21, e_X8_readPort_24, e_X8_readPort_27, e_X8_readPort_28, e_X8_readPort_31, e_X8_readPort_32, e_X8_readPort_33, e_X8_readPort_35, e_X8_readPort_38, e_X8_readPort_39, e_X8_readPort_40, e_X8_readPort_41, e_X8_readPort_42, e_X8_readPort_46, e_X8_readPort_49, e_X8_readPort_50, e_X8_readPort_53, e_X8_readPort_56, e_X8_readPort_60, e_X8_readPort_63, e_X8_readPort_64, e_X8_readPort_67, e_X8_readPort_68, e_X8_readPort_70, eq_self, nI10, not_false_eq_true, not_true_eq_false, is2_i, is2_r, is2_n, nI_add, pk_mul, Nat.reduceAdd, Nat.reduceMul, h3, h.2.1, hn, if_false, e_X8_readPort_57 (hE := ev), bI_z, g1, ftI]
      | true =>
        obtain ⟨j, s', g0, g1, g2, g3, g4, g5, g6⟩ := hT rfl
        obtain ⟨m', c1, c2, c3⟩ := ih j s' m1 (by omega) g1 (h.fr f1) g2 g3 g4 g5
        rw [g6]
        refine ⟨m', f1.trans c1, c2, ?_⟩
        rw [e_X8_readPort_45]
        simp only [e_X8_readPort_0, e_X8_readPort_1, e_X8_readPort_2, e_X8_readPort_5, e_X8_readPort_6, e_X8_readPort_7, e_X8_readPort_10, e_X8_readPort_11, e_X8_readPort_12, e_X8_readPort_15, e_X8_readPort_16, e_X8_readPort_17, e_X8_readPort_20, e_X8_readPort_21, e_X8_readPort_24, e_X8_readPort_27, e_X8_readPort_28, e_X8_readPort_31, e_X8_readPort_32, e_X8_readPort_33, e_X8_readPort_35, e_X8_readPort_38, e_X8_readPort_39, e_X8_readPort_40, e_X8_readPort_41, e_X8_readPort_42, e_X8_readPort_46, e_X8_readPort_49, e_X8_readPort_50, e_X8_readPort_53, e_X8_readPort_56, e_X8_readPort_60, e_X8_readPort_63, e_X8_readPort_64, e_X8_readPort_67, e_X8_readPort_68, e_X8_readPort_70, eq_self, nI10, not_false_eq_true, not_true_eq_false, is2_i, is2_r, is2_n, nI_add, pk_mul, Nat.reduceAdd, Nat.reduceMul, h3, h.2.1, hn, if_false, e_X8_readPort_57 (hE := ev), bI_z, Bool.true_eq_false, if_true]
        exact c3
    · exact ih i s m (by omega) hi h h3 hR hs h1
theorem s_X8_readPort (h : RXm tx m) : ∃ m', FrQ m m' ∧ (psFault tx = none → RPm (pTold tx) m' ∧ psOk (pTold tx)) ∧ Ev o (d + 4) zX8_readPort [.ref 133] (ai_w m lg) (some (.int (ftI (psFault tx)))) (ai_w m' lg) := by
  obtain ⟨t1, t2, t3⟩ := h
  obtain ⟨m1, hm1⟩ : ∃ m1, m1 = ai_up (ai_up (ai_up (ai_up m 133 3 (nI 0)) 133 10 (nI 0)) 133 12 (nI 0)) 133 14 (nI 0) := ⟨_, rfl⟩
  have f1 : FrQ m m1 := by rw [hm1]; exact (FrQ.up (by omega)).trans ((FrQ.up (by omega)).trans ((FrQ.up (by omega)).trans (FrQ.up (by omega))))
  have r2 : m1 133 2 = nI tx.1 := by rw [f1.2 2 (by decide) (by decide) (by decide) (by decide)]; exact t2
  have r134 : m1 134 = m 134 := f1.1 134 (by decide) (by decide) (by decide) (by decide)
  rw [psFault_ft]
  have e0 := nI_9 (a := tx.1) (c := 0) (by omega) (by omega)
  by_cases z : tx.1 = 0
  · have e : psFt tx (psTell tx.2 0 tx.1 psNew) = some 0 := by
      rw [z]
      show psFt tx (none, psNew) = some 0
      unfold psFt
      dsimp only
      rw [if_neg (by decide), z]
    rw [e]
    refine ⟨m1, f1, fun q => (by cases q), ?_⟩
    rw [ev_X8_readPort]
    simp only [e_X8_readPort_0, e_X8_readPort_1, e_X8_readPort_2, e_X8_readPort_5, e_X8_readPort_6, e_X8_readPort_7, e_X8_readPort_10, e_X8_readPort_11, e_X8_readPort_12, e_X8_readPort_15, e_X8_readPort_16, e_X8_readPort_17, e_X8_readPort_20, e_X8_readPort_21, e_X8_readPort_24, e_X8_readPort_27, e_X8_readPort_28, e_X8_readPort_31, e_X8_readPort_32, e_X8_readPort_33, e_X8_readPort_35, e_X8_readPort_38, e_X8_readPort_39, e_X8_readPort_40, e_X8_readPort_41, e_X8_readPort_42, e_X8_readPort_46, e_X8_readPort_49, e_X8_readPort_50, e_X8_readPort_53, e_X8_readPort_56, e_X8_readPort_60, e_X8_readPort_63, e_X8_readPort_64, e_X8_readPort_67, e_X8_readPort_68, e_X8_readPort_70, eq_self, nI10, not_false_eq_true, not_true_eq_false, is2_i, is2_r, is2_n, nI_add, pk_mul, Nat.reduceAdd, Nat.reduceMul, ← hm1, r2, e0, z, if_true, ftI]
  · obtain ⟨u1, u2⟩ := t3 0 (by omega)
    have e72 := nI_9 (a := tx.2 0) (c := 72) (by omega) (by omega)
    have hlt : 0 < tx.1 := by omega
    have st := tl_step (x := tx) (i := 0) (s := psNew) hlt
    rw [Nat.sub_zero] at st
    have hh : psHear psNew (tx.2 0) = (decide (tx.2 0 = 72), psNew.1, psNew.2.1, psNew.2.2.1, 1, none) := by
      unfold psHear
      rw [if_pos (show psNew.2.2.2.1 = 0 from rfl)]
      rfl
    by_cases q : tx.2 0 = 72
    · rw [hh, decide_eq_true q, if_pos rfl, Nat.zero_add] at st
      obtain ⟨m2, hm2⟩ : ∃ m2, m2 = ai_up m1 133 3 (nI 1) := ⟨_, rfl⟩
      have f2 : FrQ m1 m2 := by rw [hm2]; exact FrQ.up (Or.inl rfl)
      have hR : RPm (psNew.1, psNew.2.1, psNew.2.2.1, 1, none) m2 := by
        rw [hm2]
        refine RPm.p3 ⟨?_, ?_, ?_, fun i hi => absurd hi (Nat.not_lt_zero i), fun i hi => absurd hi (Nat.not_lt_zero i), fun i hi => absurd hi (Nat.not_lt_zero i)⟩
        · rw [hm1]; simp only [up_eq]; rfl
        · rw [hm1]; simp only [up_eq]; rfl
        · rw [hm1]; simp only [up_eq]; rfl
      have ok : psOk (psNew.1, psNew.2.1, psNew.2.2.1, 1, none) := hear_ok (l := 72) psNew_ok (by rw [← q, hh, decide_eq_true q])
      obtain ⟨m', c1, c2, c3⟩ := lp_X8_readPort (o := o) (d := d) (lg := lg) (tx := tx) tx.1 1 _ m2 (by omega) hlt (RXm.fr ⟨t1, t2, t3⟩ (f1.trans f2)) (by rw [hm2, up_eq, if_pos rfl]) hR ok rfl
      unfold pTold
      rw [st]
      refine ⟨m', f1.trans (f2.trans c1), c2, ?_⟩
      rw [ev_X8_readPort]
      simp only [e_X8_readPort_0, e_X8_readPort_1, e_X8_readPort_2, e_X8_readPort_5, e_X8_readPort_6, e_X8_readPort_7, e_X8_readPort_10, e_X8_readPort_11, e_X8_readPort_12, e_X8_readPort_15, e_X8_readPort_16, e_X8_readPort_17, e_X8_readPort_20, e_X8_readPort_21, e_X8_readPort_24, e_X8_readPort_27, e_X8_readPort_28, e_X8_readPort_31, e_X8_readPort_32, e_X8_readPort_33, e_X8_readPort_35, e_X8_readPort_38, e_X8_readPort_39, e_X8_readPort_40, e_X8_readPort_41, e_X8_readPort_42, e_X8_readPort_46, e_X8_readPort_49, e_X8_readPort_50, e_X8_readPort_53, e_X8_readPort_56, e_X8_readPort_60, e_X8_readPort_63, e_X8_readPort_64, e_X8_readPort_67, e_X8_readPort_68, e_X8_readPort_70, eq_self, nI10, not_false_eq_true, not_true_eq_false, is2_i, is2_r, is2_n, nI_add, pk_mul, Nat.reduceAdd, Nat.reduceMul, ← hm1, r2, e0, z, if_false, m0_134, ml_134, Nat.reduceLT, r134, u1, e72, q, if_true, ← hm2]
      exact c3
    · rw [hh, decide_eq_false q, if_neg (by decide)] at st
      have e : psFt tx (psTell tx.2 0 tx.1 psNew) = some 0 := by rw [st]; rfl
      rw [e]
      refine ⟨m1, f1, fun q => (by cases q), ?_⟩
      rw [ev_X8_readPort]
      simp only [e_X8_readPort_0, e_X8_readPort_1, e_X8_readPort_2, e_X8_readPort_5, e_X8_readPort_6, e_X8_readPort_7, e_X8_readPort_10, e_X8_readPort_11, e_X8_readPort_12, e_X8_readPort_15, e_X8_readPort_16, e_X8_readPort_17, e_X8_readPort_20, e_X8_readPort_21, e_X8_readPort_24, e_X8_readPort_27, e_X8_readPort_28, e_X8_readPort_31, e_X8_readPort_32, e_X8_readPort_33, e_X8_readPort_35, e_X8_readPort_38, e_X8_readPort_39, e_X8_readPort_40, e_X8_readPort_41, e_X8_readPort_42, e_X8_readPort_46, e_X8_readPort_49, e_X8_readPort_50, e_X8_readPort_53, e_X8_readPort_56, e_X8_readPort_60, e_X8_readPort_63, e_X8_readPort_64, e_X8_readPort_67, e_X8_readPort_68, e_X8_readPort_70, eq_self, nI10, not_false_eq_true, not_true_eq_false, is2_i, is2_r, is2_n, nI_add, pk_mul, Nat.reduceAdd, Nat.reduceMul, ← hm1, r2, e0, z, if_false, m0_134, ml_134, Nat.reduceLT, r134, u1, e72, q, ftI]
end P65
