/-! Text, Sounded, Acts -/
theorem q0_2 : ai_a0 2 = true := by decide +kernel
theorem ql_2 : ai_len 2 = 48 := by decide +kernel
theorem q0_114 : ai_a0 114 = true := by decide +kernel
theorem ql_114 : ai_len 114 = 6 := by decide +kernel
theorem q0_115 : ai_a0 115 = true := by decide +kernel
theorem ql_115 : ai_len 115 = 6 := by decide +kernel
theorem q1_116 : ai_a1 116 = true := by decide +kernel
theorem ql_116 : ai_len 116 = 6 := by decide +kernel
theorem q2_28 : ai_a2 28 = true := by decide +kernel
theorem ql_28 : ai_len 28 = 14 := by decide +kernel
theorem q2_119 : ai_a2 119 = true := by decide +kernel
theorem ql_119 : ai_len 119 = 2 := by decide +kernel
theorem q1_120 : ai_a1 120 = true := by decide +kernel
theorem ql_120 : ai_len 120 = 2 := by decide +kernel
theorem nar_bI {b : Bool} : vp_nar .boolean (bI b) = bI b := by cases b <;> decide
theorem bI_eq {a b : Bool} : (bI a = bI b) = (a = b) := by cases a <;> cases b <;> simp [bI, nI10] <;> decide
/-- the text: how long, its bytes -/
abbrev TX : Type := Nat × (Nat → Nat)
def RX (s : TX) (m : Nat → Nat → Int32) : Prop := s.1 ≤ 48 ∧ m 1 1 = nI s.1 ∧ ∀ i, i < s.1 → m 2 i = nI (s.2 i) ∧ s.2 i ≤ 255
/-- what was sounded: how many, draughts, nights, whether they grounded -/
abbrev SO : Type := Nat × (Nat → Nat) × (Nat → Nat) × (Nat → Bool)
def RS (s : SO) (m : Nat → Nat → Int32) : Prop := s.1 ≤ 6 ∧ m 113 3 = nI s.1 ∧ (∀ i, i < s.1 → m 114 i = nI (s.2.1 i) ∧ s.2.1 i ≤ 9) ∧ (∀ i, i < s.1 → m 115 i = nI (s.2.2.1 i) ∧ s.2.2.1 i ≤ 9) ∧ ∀ i, i < s.1 → m 116 i = bI (s.2.2.2 i)
def allB (f : Nat → Bool) : Nat → Bool
  | 0 => true
  | n + 1 => allB f n && f n
/-- only cells in S have changed -/
def FrS (S : Nat → Prop) (m m' : Nat → Nat → Int32) : Prop := ∀ i, ¬ S i → m' i = m i
def soIs (p : PT) (s : SO) (kd dp i : Nat) : Bool := decide (decide ((if kd = 3 then min 9 (dp + s.2.2.1 i) else dp) + pTide p (s.2.2.1 i) < s.2.1 i) = s.2.2.2 i)
theorem mn9' : ∀ g, g ≤ 18 → (if nI g < nI 9 then nI g else nI 9) = nI (min 9 g) := by decide +kernel
section P37
variable {o : ai_S} {d : Nat} {w : ai_W} {m : Nat → Nat → Int32} {lg : Nat → Nat → Int64} {p : PT} {x : HS} {b : Nat} {r : Option Value × ai_W}
theorem s_X5_empty {s : TX} (h : RX s m) : ∃ m', RX (0, s.2) m' ∧ FrS (fun i => i = 1) m m' ∧ Ev o d zX5_empty [.ref 1] (ai_w m lg) (some (.int (nI s.1))) (ai_w m' lg) := by
  refine ⟨ai_up m 1 1 (nI 0), ⟨Nat.zero_le _, by rw [up_eq]; rfl, fun i hi => absurd hi (Nat.not_lt_zero i)⟩, fun i hi => up_ne hi, ?_⟩
  rw [ev_X5_empty]
  simp only [e_X5_empty_0, e_X5_empty_1, e_X5_empty_4_i, e_X5_empty_4_r, e_X5_empty_5, e_X5_empty_6, e_X5_empty_7, e_X5_empty_10, e_X5_empty_11, eq_self, nI10, not_false_eq_true, not_true_eq_false, is2_i, is2_r, is2_n, nI_add, pk_mul, Nat.reduceAdd, Nat.reduceMul, h.2.1]
theorem s_X5_add {s : TX} {v : Nat} (h : RX s m) (hv : v ≤ 255) (h48 : s.1 < 48) : ∃ m', RX (s.1 + 1, va_up s.2 s.1 v) m' ∧ FrS (fun i => i = 1 ∨ i = 2) m m' ∧ Ev o d zX5_add [.ref 1, .int (nI v)] (ai_w m lg) (some (.int (nI (s.1 + 1)))) (ai_w m' lg) := by
  have e : (nI s.1 < nI 48) = (s.1 < 48) := propext (nI_ltI (by omega) (by omega))
  refine ⟨ai_up (ai_up m 2 s.1 (nI v)) 1 1 (nI (s.1 + 1)), ⟨h48, by rw [up_eq]; rfl, fun i hi => ?_⟩, fun i hi => ?_, ?_⟩
  · rw [up_ne (by decide), up_eq]
    simp only [va_up]
    split
    · exact ⟨rfl, hv⟩
    · exact h.2.2 i (by simp only at hi; omega)
  · rw [up_ne (fun z => hi (Or.inl z)), up_ne (fun z => hi (Or.inr z))]
  · rw [ev_X5_add]
    simp only [e_X5_add_0, e_X5_add_1, e_X5_add_4, e_X5_add_6, e_X5_add_9, e_X5_add_11, e_X5_add_12, e_X5_add_13, e_X5_add_16, e_X5_add_17, e_X5_add_20, e_X5_add_21, e_X5_add_22, e_X5_add_23, e_X5_add_24, e_X5_add_27, e_X5_add_28, e_X5_add_29, e_X5_add_32, e_X5_add_33, e_X5_add_36, eq_self, nI10, not_false_eq_true, not_true_eq_false, is2_i, is2_r, is2_n, nI_add, pk_mul, Nat.reduceAdd, Nat.reduceMul, h.2.1, e, h48, if_true, q0_2, ql_2, up_ne (show (1 : Nat) ≠ 2 by decide), up_eq]
theorem s_X5_addF {s : TX} {v : Int32} (h : RX s m) (h48 : ¬ s.1 < 48) : Ev o d zX5_add [.ref 1, .int v] (ai_w m lg) (some (.int (-4))) (ai_w m lg) := by
  have := h.1
  have e : (nI s.1 < nI 48) = (s.1 < 48) := propext (nI_ltI (by omega) (by omega))
  rw [ev_X5_add]
  simp only [e_X5_add_0, e_X5_add_1, e_X5_add_4, e_X5_add_6, e_X5_add_9, e_X5_add_11, e_X5_add_12, e_X5_add_13, e_X5_add_16, e_X5_add_17, e_X5_add_20, e_X5_add_21, e_X5_add_22, e_X5_add_23, e_X5_add_24, e_X5_add_27, e_X5_add_28, e_X5_add_29, e_X5_add_32, e_X5_add_33, e_X5_add_36, eq_self, nI10, not_false_eq_true, not_true_eq_false, is2_i, is2_r, is2_n, nI_add, pk_mul, Nat.reduceAdd, Nat.reduceMul, h.2.1, e, h48, if_false]
theorem s_X4_empty {s : SO} (h : RS s m) : ∃ m', RS (0, s.2) m' ∧ FrS (fun i => i = 113) m m' ∧ Ev o d zX4_empty [.ref 113] (ai_w m lg) (some (.int (nI s.1))) (ai_w m' lg) := by
  refine ⟨ai_up m 113 3 (nI 0), ⟨Nat.zero_le _, by rw [up_eq]; rfl, fun i hi => absurd hi (Nat.not_lt_zero i), fun i hi => absurd hi (Nat.not_lt_zero i), fun i hi => absurd hi (Nat.not_lt_zero i)⟩, fun i hi => up_ne hi, ?_⟩
  rw [ev_X4_empty]
  simp only [e_X4_empty_0, e_X4_empty_1, e_X4_empty_4_i, e_X4_empty_4_r, e_X4_empty_5, e_X4_empty_6, e_X4_empty_7, e_X4_empty_10, e_X4_empty_11, eq_self, nI10, not_false_eq_true, not_true_eq_false, is2_i, is2_r, is2_n, nI_add, pk_mul, Nat.reduceAdd, Nat.reduceMul, h.2.1]
theorem s_X4_add {s : SO} {g t : Nat} {q : Bool} (h : RS s m) (hg : g ≤ 9) (ht : t ≤ 9) (h6 : s.1 < 6) : ∃ m', RS (s.1 + 1, va_up s.2.1 s.1 g, va_up s.2.2.1 s.1 t, va_up s.2.2.2 s.1 q) m' ∧ FrS (fun i => 113 ≤ i ∧ i ≤ 116) m m' ∧ Ev o d zX4_add [.ref 113, .int (nI g), .int (nI t), .int (bI q)] (ai_w m lg) (some (.int (nI (s.1 + 1)))) (ai_w m' lg) := by
  have e : (nI s.1 < nI 6) = (s.1 < 6) := propext (nI_ltI (by omega) (by omega))
  refine ⟨ai_up (ai_up (ai_up (ai_up m 114 s.1 (nI g)) 115 s.1 (nI t)) 116 s.1 (bI q)) 113 3 (nI (s.1 + 1)), ⟨h6, by rw [up_eq]; rfl, fun i hi => ?_, fun i hi => ?_, fun i hi => ?_⟩, fun i hi => ?_, ?_⟩
  · rw [up_ne (by decide), up_ne (by decide), up_ne (by decide), up_eq]
    simp only [va_up]
    split
    · exact ⟨rfl, hg⟩
    · exact h.2.2.1 i (by simp only at hi; omega)
  · rw [up_ne (by decide), up_ne (by decide), up_eq, up_ne (by decide)]
    simp only [va_up]
    split
    · exact ⟨rfl, ht⟩
    · exact h.2.2.2.1 i (by simp only at hi; omega)
  · rw [up_ne (by decide), up_eq, up_ne (by decide), up_ne (by decide)]
    simp only [va_up]
    split
    · rfl
    · exact h.2.2.2.2 i (by simp only at hi; omega)
  · rw [up_ne (by omega), up_ne (by omega), up_ne (by omega), up_ne (by omega)]
  · rw [ev_X4_add]
    simp only [e_X4_add_0, e_X4_add_1, e_X4_add_4, e_X4_add_6, e_X4_add_9, e_X4_add_11, e_X4_add_12, e_X4_add_13, e_X4_add_16, e_X4_add_17, e_X4_add_20, e_X4_add_21, e_X4_add_22, e_X4_add_23, e_X4_add_26, e_X4_add_27, e_X4_add_30, e_X4_add_31, e_X4_add_32, e_X4_add_33, e_X4_add_36, e_X4_add_37, e_X4_add_40, e_X4_add_41, e_X4_add_42, e_X4_add_43, e_X4_add_44, e_X4_add_47, e_X4_add_48, e_X4_add_49, e_X4_add_52, e_X4_add_53, e_X4_add_56, eq_self, nI10, not_false_eq_true, not_true_eq_false, is2_i, is2_r, is2_n, nI_add, pk_mul, Nat.reduceAdd, Nat.reduceMul, h.2.1, e, h6, if_true, q0_114, ql_114, q0_115, ql_115, q1_116, ql_116, up_ne (show (113 : Nat) ≠ 114 by decide), up_ne (show (113 : Nat) ≠ 115 by decide), up_ne (show (113 : Nat) ≠ 116 by decide), up_eq, nar_bI]
theorem s_X4_addF {s : SO} {g t q : Int32} (h : RS s m) (h6 : ¬ s.1 < 6) : Ev o d zX4_add [.ref 113, .int g, .int t, .int q] (ai_w m lg) (some (.int (-4))) (ai_w m lg) := by
  have := h.1
  have e : (nI s.1 < nI 6) = (s.1 < 6) := propext (nI_ltI (by omega) (by omega))
  rw [ev_X4_add]
  simp only [e_X4_add_0, e_X4_add_1, e_X4_add_4, e_X4_add_6, e_X4_add_9, e_X4_add_11, e_X4_add_12, e_X4_add_13, e_X4_add_16, e_X4_add_17, e_X4_add_20, e_X4_add_21, e_X4_add_22, e_X4_add_23, e_X4_add_26, e_X4_add_27, e_X4_add_30, e_X4_add_31, e_X4_add_32, e_X4_add_33, e_X4_add_36, e_X4_add_37, e_X4_add_40, e_X4_add_41, e_X4_add_42, e_X4_add_43, e_X4_add_44, e_X4_add_47, e_X4_add_48, e_X4_add_49, e_X4_add_52, e_X4_add_53, e_X4_add_56, eq_self, nI10, not_false_eq_true, not_true_eq_false, is2_i, is2_r, is2_n, nI_add, pk_mul, Nat.reduceAdd, Nat.reduceMul, h.2.1, e, h6, if_false]
theorem lp_X4_agrees {s : SO} (h : RS s m) (hp : RT p m) {kd dp : Nat} (hk : kd ≤ 3) (hd : dp ≤ 9) : ∀ k n (a5 a6 : Value), n + k = s.1 → allB (soIs p s kd dp) n = true → Rn o (d + 2) zX4_agrees 3 [.ref 113, .int (nI kd), .int (nI dp), .ref 3, .int (nI n), a5, a6] [] (ai_w m lg) (some (.int (bI (allB (soIs p s kd dp) s.1))), ai_w m lg) := by
  have h6 := h.1
  intro k
  induction k with
  | zero =>
    intro n a5 a6 hk ha
    have : n = s.1 := by omega
    subst this
    rw [e_X4_agrees_3]
    simp only [e_X4_agrees_0, e_X4_agrees_1_i, e_X4_agrees_1_r, e_X4_agrees_1_n, e_X4_agrees_5, e_X4_agrees_6, e_X4_agrees_9, e_X4_agrees_12, e_X4_agrees_13, e_X4_agrees_14, e_X4_agrees_17, e_X4_agrees_19, e_X4_agrees_20, e_X4_agrees_21, e_X4_agrees_24, e_X4_agrees_26, e_X4_agrees_27, e_X4_agrees_28, e_X4_agrees_31, e_X4_agrees_34, e_X4_agrees_35_i, e_X4_agrees_35_r, e_X4_agrees_35_n, e_X4_agrees_37, e_X4_agrees_38, e_X4_agrees_41, e_X4_agrees_43, e_X4_agrees_44, e_X4_agrees_46, e_X4_agrees_47, e_X4_agrees_48, e_X4_agrees_51, e_X4_agrees_53, e_X4_agrees_57, e_X4_agrees_58, e_X4_agrees_61, e_X4_agrees_62, e_X4_agrees_65, e_X4_agrees_66_i, e_X4_agrees_66_r, e_X4_agrees_66_n, e_X4_agrees_68, e_X4_agrees_70, e_X4_agrees_71, e_X4_agrees_74, e_X4_agrees_76, e_X4_agrees_77, e_X4_agrees_80, e_X4_agrees_81, e_X4_agrees_82_i, e_X4_agrees_82_r, e_X4_agrees_82_n, e_X4_agrees_85, e_X4_agrees_88, e_X4_agrees_89, eq_self, nI10, not_false_eq_true, not_true_eq_false, is2_i, is2_r, is2_n, nI_add, pk_mul, Nat.reduceAdd, Nat.reduceMul, h.2.1, Int32.le_refl, if_true, ha, bI_t, nar_1]
  | succ k ih =>
    intro n a5 a6 hk2 ha
    have hlt : n < s.1 := by omega
    have h6' : n < 6 := by omega
    have hn : ¬ nI s.1 ≤ nI n := nI_ge hlt (by omega)
    obtain ⟨g1, g2⟩ := h.2.2.1 n hlt
    obtain ⟨t1, t2⟩ := h.2.2.2.1 n hlt
    have q1 := h.2.2.2.2 n hlt
    have hti := pTide_le hp.1 (s.2.2.1 n)
    have e9 := mn9' (dp + s.2.2.1 n) (by omega)
    -- the rest, behind 'deep'
    have tail : ∀ deep a6, deep ≤ 9 → deep = (if kd = 3 then min 9 (dp + s.2.2.1 n) else dp) → Rn o (d + 2) zX4_agrees 37 [.ref 113, .int (nI kd), .int (nI dp), .ref 3, .int (nI n), .int (nI deep), a6] [] (ai_w m lg) (some (.int (bI (allB (soIs p s kd dp) s.1))), ai_w m lg) := by
      intro deep a6 hdeep he
      have ec : (nI (s.2.1 n) ≤ nI (deep + pTide p (s.2.2.1 n))) = (s.2.1 n ≤ deep + pTide p (s.2.2.1 n)) := propext (nI_leI (by omega) (by omega))
      have hs : soIs p s kd dp n = decide (decide (deep + pTide p (s.2.2.1 n) < s.2.1 n) = s.2.2.2 n) := by unfold soIs; rw [he]
      have fin : ∀ z : Bool, z = decide (deep + pTide p (s.2.2.1 n) < s.2.1 n) → Rn o (d + 2) zX4_agrees 66 [.ref 113, .int (nI kd), .int (nI dp), .ref 3, .int (nI n), .int (nI deep), a6] [.int (bI z)] (ai_w m lg) (some (.int (bI (allB (soIs p s kd dp) s.1))), ai_w m lg) := by
        intro z hz
        simp only [e_X4_agrees_0, e_X4_agrees_1_i, e_X4_agrees_1_r, e_X4_agrees_1_n, e_X4_agrees_5, e_X4_agrees_6, e_X4_agrees_9, e_X4_agrees_12, e_X4_agrees_13, e_X4_agrees_14, e_X4_agrees_17, e_X4_agrees_19, e_X4_agrees_20, e_X4_agrees_21, e_X4_agrees_24, e_X4_agrees_26, e_X4_agrees_27, e_X4_agrees_28, e_X4_agrees_31, e_X4_agrees_34, e_X4_agrees_35_i, e_X4_agrees_35_r, e_X4_agrees_35_n, e_X4_agrees_37, e_X4_agrees_38, e_X4_agrees_41, e_X4_agrees_43, e_X4_agrees_44, e_X4_agrees_46, e_X4_agrees_47, e_X4_agrees_48, e_X4_agrees_51, e_X4_agrees_53, e_X4_agrees_57, e_X4_agrees_58, e_X4_agrees_61, e_X4_agrees_62, e_X4_agrees_65, e_X4_agrees_66_i, e_X4_agrees_66_r, e_X4_agrees_66_n, e_X4_agrees_68, e_X4_agrees_70, e_X4_agrees_71, e_X4_agrees_74, e_X4_agrees_76, e_X4_agrees_77, e_X4_agrees_80, e_X4_agrees_81, e_X4_agrees_82_i, e_X4_agrees_82_r, e_X4_agrees_82_n, e_X4_agrees_85, e_X4_agrees_88, e_X4_agrees_89, eq_self, nI10, not_false_eq_true, not_true_eq_false, is2_i, is2_r, is2_n, nI_add, pk_mul, Nat.reduceAdd, Nat.reduceMul, q1_116, ql_116, h6', q1, bI_eq, nar_0]
        by_cases hq : z = s.2.2.2 n
        · rw [if_pos hq]
          refine ih (n + 1) _ _ (by omega) ?_
          unfold allB
          rw [ha, hs, ← hz, hq]
          simp
        · rw [if_neg hq]
          have hf : soIs p s kd dp n = false := by rw [hs, ← hz]; simp [hq]
          have : ∀ j, n < j → allB (soIs p s kd dp) j = false := by
            intro j
            induction j with
            | zero => intro z; omega
            | succ j ihj =>
              intro hj
              unfold allB
              by_cases hnj : n = j
              · subst hnj; rw [hf]; simp
              · rw [ihj (by omega)]; rfl
          rw [this s.1 hlt]
          rfl
      simp only [e_X4_agrees_0, e_X4_agrees_1_i, e_X4_agrees_1_r, e_X4_agrees_1_n, e_X4_agrees_5, e_X4_agrees_6, e_X4_agrees_9, e_X4_agrees_12, e_X4_agrees_13, e_X4_agrees_14, e_X4_agrees_17, e_X4_agrees_19, e_X4_agrees_20, e_X4_agrees_21, e_X4_agrees_24, e_X4_agrees_26, e_X4_agrees_27, e_X4_agrees_28, e_X4_agrees_31, e_X4_agrees_34, e_X4_agrees_35_i, e_X4_agrees_35_r, e_X4_agrees_35_n, e_X4_agrees_37, e_X4_agrees_38, e_X4_agrees_41, e_X4_agrees_43, e_X4_agrees_44, e_X4_agrees_46, e_X4_agrees_47, e_X4_agrees_48, e_X4_agrees_51, e_X4_agrees_53, e_X4_agrees_57, e_X4_agrees_58, e_X4_agrees_61, e_X4_agrees_62, e_X4_agrees_65, e_X4_agrees_68, e_X4_agrees_70, e_X4_agrees_71, e_X4_agrees_74, e_X4_agrees_76, e_X4_agrees_77, e_X4_agrees_80, e_X4_agrees_81, e_X4_agrees_82_i, e_X4_agrees_82_r, e_X4_agrees_82_n, e_X4_agrees_85, e_X4_agrees_88, e_X4_agrees_89, eq_self, nI10, not_false_eq_true, not_true_eq_false, is2_i, is2_r, is2_n, nI_add, pk_mul, Nat.reduceAdd, Nat.reduceMul, ai_T3, q0_114, ql_114, q0_115, ql_115, h6', g1, t1, e_X4_agrees_54 (hb := ai_T3) (hE := s_X6_tideOn hp (show s.2.2.1 n < 2 ^ 31 by omega)), ec]
      by_cases hc : s.2.1 n ≤ deep + pTide p (s.2.2.1 n)
      · rw [if_pos hc]
        exact fin false (by rw [decide_eq_false (by omega)])
      · rw [if_neg hc]
        exact fin true (by rw [decide_eq_true (by omega)])
    rw [e_X4_agrees_3]
    simp only [e_X4_agrees_0, e_X4_agrees_1_i, e_X4_agrees_1_r, e_X4_agrees_1_n, e_X4_agrees_5, e_X4_agrees_6, e_X4_agrees_9, e_X4_agrees_12, e_X4_agrees_13, e_X4_agrees_14, e_X4_agrees_17, e_X4_agrees_19, e_X4_agrees_20, e_X4_agrees_21, e_X4_agrees_24, e_X4_agrees_26, e_X4_agrees_27, e_X4_agrees_28, e_X4_agrees_31, e_X4_agrees_34, e_X4_agrees_35_i, e_X4_agrees_35_r, e_X4_agrees_35_n, e_X4_agrees_38, e_X4_agrees_41, e_X4_agrees_43, e_X4_agrees_44, e_X4_agrees_46, e_X4_agrees_47, e_X4_agrees_48, e_X4_agrees_51, e_X4_agrees_53, e_X4_agrees_57, e_X4_agrees_58, e_X4_agrees_61, e_X4_agrees_62, e_X4_agrees_65, e_X4_agrees_66_i, e_X4_agrees_66_r, e_X4_agrees_66_n, e_X4_agrees_68, e_X4_agrees_70, e_X4_agrees_71, e_X4_agrees_74, e_X4_agrees_76, e_X4_agrees_77, e_X4_agrees_80, e_X4_agrees_81, e_X4_agrees_82_i, e_X4_agrees_82_r, e_X4_agrees_82_n, e_X4_agrees_85, e_X4_agrees_88, e_X4_agrees_89, eq_self, nI10, not_false_eq_true, not_true_eq_false, is2_i, is2_r, is2_n, nI_add, pk_mul, Nat.reduceAdd, Nat.reduceMul, h.2.1, hn, if_false, nI_9 (a := kd) (c := 3) (by omega) (by omega), q0_115, ql_115, h6', t1, e9]
    by_cases h3 : kd = 3
    · subst h3
      simp only [eq_self, not_true_eq_false, if_false]
      exact tail _ _ (by omega) (by rw [if_pos rfl])
    · simp only [h3, not_false_eq_true, if_true]
      exact tail _ _ (by omega) (by rw [if_neg h3])
theorem s_X4_agrees {s : SO} (h : RS s m) (hp : RT p m) {kd dp : Nat} (hk : kd ≤ 3) (hd : dp ≤ 9) : Ev o (d + 2) zX4_agrees [.ref 113, .int (nI kd), .int (nI dp), .ref 3] (ai_w m lg) (some (.int (bI (allB (soIs p s kd dp) s.1)))) (ai_w m lg) := by
  rw [ev_X4_agrees]
  simp only [e_X4_agrees_0, e_X4_agrees_1_i, e_X4_agrees_1_r, e_X4_agrees_1_n, e_X4_agrees_5, e_X4_agrees_6, e_X4_agrees_9, e_X4_agrees_12, e_X4_agrees_13, e_X4_agrees_14, e_X4_agrees_17, e_X4_agrees_19, e_X4_agrees_20, e_X4_agrees_21, e_X4_agrees_24, e_X4_agrees_26, e_X4_agrees_27, e_X4_agrees_28, e_X4_agrees_31, e_X4_agrees_34, e_X4_agrees_35_i, e_X4_agrees_35_r, e_X4_agrees_35_n, e_X4_agrees_37, e_X4_agrees_38, e_X4_agrees_41, e_X4_agrees_43, e_X4_agrees_44, e_X4_agrees_46, e_X4_agrees_47, e_X4_agrees_48, e_X4_agrees_51, e_X4_agrees_53, e_X4_agrees_57, e_X4_agrees_58, e_X4_agrees_61, e_X4_agrees_62, e_X4_agrees_65, e_X4_agrees_66_i, e_X4_agrees_66_r, e_X4_agrees_66_n, e_X4_agrees_68, e_X4_agrees_70, e_X4_agrees_71, e_X4_agrees_74, e_X4_agrees_76, e_X4_agrees_77, e_X4_agrees_80, e_X4_agrees_81, e_X4_agrees_82_i, e_X4_agrees_82_r, e_X4_agrees_82_n, e_X4_agrees_85, e_X4_agrees_88, e_X4_agrees_89, eq_self, nI10, not_false_eq_true, not_true_eq_false, is2_i, is2_r, is2_n, nI_add, pk_mul, Nat.reduceAdd, Nat.reduceMul]
  exact lp_X4_agrees h hp hk hd s.1 0 _ _ (by omega) rfl
-- Acts: a ring; the last one first
def RA (p : PT) (A : Nat → HS) (n q : Nat) (m : Nat → Nat → Int32) : Prop := q < 14 ∧ m 27 1 = nI q ∧ n ≤ 14 ∧ m 27 2 = nI n ∧ ∀ i, i < n → RH p (A i) m (29 + 6 * ((q + 13 - i) % 14))
def pushA (A : Nat → HS) (x : HS) : Nat → HS := fun i => if i = 0 then x else A (i - 1)
theorem mn14 : ∀ g, g ≤ 14 → (if nI (g + 1) < nI 14 then nI (g + 1) else nI 14) = nI (min 14 (g + 1)) := by decide +kernel
theorem RH.frS {p : PT} {x : HS} {c : Nat} {m m' : Nat → Nat → Int32} (h : RH p x m c) (hf : ∀ i, c ≤ i → i ≤ c + 5 → m' i = m i) : RH p x m' c := by
  obtain ⟨h0, h1, h2, h3, h4, h5, h6⟩ := h
  refine ⟨h0, ?_, ?_, ?_, ?_, ?_, ?_⟩
  · intro t ht; rw [hf (c + 1) (by omega) (by omega)]; exact h1 t ht
  · intro t ht; rw [hf (c + 2) (by omega) (by omega)]; exact h2 t ht
  · intro t ht; rw [hf (c + 3) (by omega) (by omega)]; exact h3 t ht
  · intro t ht; rw [hf (c + 4) (by omega) (by omega)]; exact h4 t ht
  · intro t ht; rw [hf (c + 5) (by omega) (by omega)]; exact h5 t ht
  · rw [hf c (by omega) (by omega)]; exact h6
theorem s_X0_remember {A : Nat → HS} {n q : Nat} (hp : RT p m) (hA : RA p A n q m) (hx : RH p x m 15) : ∃ m' q', RA p (pushA A x) (min 14 (n + 1)) q' m' ∧ FrS (fun i => 27 ≤ i ∧ i ≤ 112) m m' ∧ Ev o (d + 2) zX0_remember [.ref 27, .ref 15] (ai_w m lg) none (ai_w m' lg) := by
  obtain ⟨hq, a1, hn, a2, a3⟩ := hA
  obtain ⟨m1, g1, g2, g3⟩ := s_X2_becomes (o := o) (d := d) (lg := lg) (ai_Hact q hq) ai_H15 (by omega) hp hx
  have r14 : nI (q + 1) - nI (q + 1) / nI 14 * nI 14 = nI ((q + 1) % 14) := pk_rem (by omega) (by omega) (by omega)
  have z14 : ¬ nI 14 = 0 := by decide
  have f27 : m1 27 = m 27 := g2 27 (by omega)
  have b1 : m1 27 1 = nI q := by rw [f27]; exact a1
  have b2 : m1 27 2 = nI n := by rw [f27]; exact a2
  refine ⟨ai_up (ai_up m1 27 1 (nI ((q + 1) % 14))) 27 2 (nI (min 14 (n + 1))), (q + 1) % 14, ⟨by omega, ?_, by omega, ?_, fun i hi => ?_⟩, fun i hi => ?_, ?_⟩
  · rw [up_eq, if_neg (by decide), up_eq, if_pos rfl]
  · rw [up_eq, if_pos rfl]
  · have hup : ∀ c, 29 ≤ c → RH p (pushA A x i) m1 c → RH p (pushA A x i) (ai_up (ai_up m1 27 1 (nI ((q + 1) % 14))) 27 2 (nI (min 14 (n + 1)))) c := fun c hc h => h.frS (fun j h1 h2 => by rw [up_ne (by omega), up_ne (by omega)])
    by_cases h0 : i = 0
    · subst h0
      have e : ((q + 1) % 14 + 13 - 0) % 14 = q := by omega
      rw [e]
      exact hup _ (by omega) g1
    · have e : ((q + 1) % 14 + 13 - i) % 14 = (q + 13 - (i - 1)) % 14 := by omega
      rw [e]
      refine hup _ (by omega) ?_
      rw [show pushA A x i = A (i - 1) by unfold pushA; rw [if_neg h0]]
      refine (a3 (i - 1) (by omega)).fr (ai_Hact q hq) (ai_Hact _ (by omega)) ?_ g2
      omega
  · rw [up_ne (by omega), up_ne (by omega)]
    exact g2 i (by omega)
  · rw [ev_X0_remember]
    simp only [e_X0_remember_0, e_X0_remember_1, e_X0_remember_4, e_X0_remember_5, e_X0_remember_8, e_X0_remember_9, e_X0_remember_13, e_X0_remember_14, e_X0_remember_15, e_X0_remember_18, e_X0_remember_19, e_X0_remember_20, e_X0_remember_22, e_X0_remember_23, e_X0_remember_26, e_X0_remember_27, e_X0_remember_29, e_X0_remember_30, e_X0_remember_33, e_X0_remember_34, e_X0_remember_35, e_X0_remember_38, e_X0_remember_41, eq_self, nI10, not_false_eq_true, not_true_eq_false, is2_i, is2_r, is2_n, nI_add, pk_mul, Nat.reduceAdd, Nat.reduceMul, a1, q2_28, ql_28, hq, ai_act q hq, e_X0_remember_8 q2_28 (by rw [ql_28]; exact hq) (ai_act q hq), e_X0_remember_10 (hb := ai_Hact q hq) (hE := g3), b1, z14, r14, up_eq, show ((2 : Nat) = 1) = False by simp, if_false, b2, mn14 n hn]
theorem s_X0_takeBack {A : Nat → HS} {n q : Nat} (hp : RT p m) (hA : RA p A n q m) (hn0 : 0 < n) : ∃ m' q', RA p (fun i => A (i + 1)) (n - 1) q' m' ∧ RH p (A 0) m' 15 ∧ FrS (fun i => i = 27 ∨ (15 ≤ i ∧ i ≤ 20)) m m' ∧ Ev o (d + 2) zX0_takeBack [.ref 27, .ref 15] (ai_w m lg) none (ai_w m' lg) := by
  obtain ⟨hq, a1, hn, a2, a3⟩ := hA
  have hq' : (q + 13) % 14 < 14 := by omega
  obtain ⟨m1, hm1⟩ : ∃ m1, m1 = ai_up (ai_up m 27 1 (nI ((q + 13) % 14))) 27 2 (nI (n - 1)) := ⟨_, rfl⟩
  have f1 : ∀ i, i ≠ 27 → m1 i = m i := fun i hi => by rw [hm1, up_ne hi, up_ne hi]
  have hp1 : RT p m1 := by
    obtain ⟨h0, h1, h2, h3, h4, h5, h6⟩ := hp
    exact ⟨h0, by rw [f1 3 (by decide)]; exact h1, by rw [f1 3 (by decide)]; exact h2, by rw [f1 3 (by decide)]; exact h3, fun t ht => by rw [f1 4 (by decide)]; exact h4 t ht, fun t ht => by rw [f1 6 (by decide)]; exact h5 t ht, fun t ht => by rw [f1 8 (by decide)]; exact h6 t ht⟩
  have hx : RH p (A 0) m1 (29 + 6 * ((q + 13) % 14)) := by
    have := (a3 0 hn0).frS (m' := m1) (fun j h1 h2 => f1 j (by omega))
    exact this
  obtain ⟨m2, g1, g2, g3⟩ := s_X2_becomes (o := o) (d := d) (lg := lg) ai_H15 (ai_Hact _ hq') (by omega) hp1 hx
  have r14 : nI (q + 13) - nI (q + 13) / nI 14 * nI 14 = nI ((q + 13) % 14) := pk_rem (by omega) (by omega) (by omega)
  have z14 : ¬ nI 14 = 0 := by decide
  have s1 : nI (q + 14) - nI 1 = nI (q + 13) := by rw [pk_sub (by omega)]; rfl
  have s2 : nI n - nI 1 = nI (n - 1) := pk_sub (by omega)
  have f27 : m2 27 = m1 27 := g2 27 (by omega)
  refine ⟨m2, (q + 13) % 14, ⟨hq', ?_, by omega, ?_, fun i hi => ?_⟩, g1, fun i hi => ?_, ?_⟩
  · rw [f27, hm1, up_eq, if_neg (by decide), up_eq, if_pos rfl]
  · rw [f27, hm1, up_eq, if_pos rfl]
  · have e : ((q + 13) % 14 + 13 - i) % 14 = (q + 13 - (i + 1)) % 14 := by omega
    rw [e]
    refine (((a3 (i + 1) (by omega)).frS (m' := m1) (fun j h1 h2 => f1 j (by omega)))).fr ai_H15 (ai_Hact _ (by omega)) (by omega) g2
  · rw [g2 i (by omega), f1 i (fun z => hi (Or.inl z))]
  · rw [hm1] at g3
    rw [ev_X0_takeBack]
    simp only [e_X0_takeBack_0, e_X0_takeBack_1, e_X0_takeBack_2, e_X0_takeBack_5, e_X0_takeBack_7, e_X0_takeBack_8, e_X0_takeBack_9, e_X0_takeBack_10, e_X0_takeBack_12, e_X0_takeBack_13, e_X0_takeBack_16, e_X0_takeBack_17, e_X0_takeBack_18, e_X0_takeBack_21, e_X0_takeBack_22, e_X0_takeBack_23, e_X0_takeBack_26, e_X0_takeBack_27, e_X0_takeBack_28, e_X0_takeBack_31, e_X0_takeBack_32, e_X0_takeBack_35, e_X0_takeBack_39, eq_self, nI10, not_false_eq_true, not_true_eq_false, is2_i, is2_r, is2_n, nI_add, pk_mul, Nat.reduceAdd, Nat.reduceMul, a1, s1, z14, r14, up_eq, show ((2 : Nat) = 1) = False by simp, show ((1 : Nat) = 2) = False by simp, if_false, if_true, a2, s2, e_X0_takeBack_35 q2_28 (by rw [ql_28]; exact hq') (ai_act _ hq'), e_X0_takeBack_36 (hb := ai_H15) (hE := g3)]
theorem s_X0_forget {A : Nat → HS} {n q : Nat} (hA : RA p A n q m) : ∃ m', RA p A 0 q m' ∧ FrS (fun i => i = 27) m m' ∧ Ev o d zX0_forget [.ref 27] (ai_w m lg) none (ai_w m' lg) := by
  obtain ⟨hq, a1, hn, a2, a3⟩ := hA
  refine ⟨ai_up m 27 2 (nI 0), ⟨hq, by rw [up_eq, if_neg (by decide)]; exact a1, by omega, by rw [up_eq, if_pos rfl], fun i hi => absurd hi (Nat.not_lt_zero i)⟩, fun i hi => up_ne hi, ?_⟩
  rw [ev_X0_forget]
  simp only [e_X0_forget_0, e_X0_forget_1, e_X0_forget_2, e_X0_forget_5, eq_self, nI10, not_false_eq_true, not_true_eq_false, is2_i, is2_r, is2_n, nI_add, pk_mul, Nat.reduceAdd, Nat.reduceMul]
end P37
