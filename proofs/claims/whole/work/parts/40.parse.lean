/-! Told hears a text -/
/-- tides; berths: depths, kinds; dreams: draughts, kinds; what is open; its first figure -/
abbrev PS : Type := (Nat × (Nat → Nat)) × (Nat × (Nat → Nat) × (Nat → Nat)) × (Nat × (Nat → Nat) × (Nat → Nat)) × Nat × Option Nat
def figI (f : Option Nat) : Int32 := match f with
  | none => -9
  | some v => nI v
def RPs (t : Nat) (s : PS) (m : Nat → Nat → Int32) : Prop := m t 5 = nI s.1.1 ∧ m t 6 = nI s.2.1.1 ∧ m t 7 = nI s.2.2.1.1 ∧ m t 8 = nI s.2.2.2.1 ∧ m t 9 = figI s.2.2.2.2 ∧ (∀ i, i < s.1.1 → m (t + 1) i = nI (s.1.2 i)) ∧ (∀ i, i < s.2.1.1 → m (t + 2) i = nI (s.2.1.2.1 i) ∧ m (t + 3) i = nI (s.2.1.2.2 i)) ∧ ∀ i, i < s.2.2.1.1 → m (t + 4) i = nI (s.2.2.1.2.1 i) ∧ m (t + 5) i = nI (s.2.2.1.2.2 i)
def psOk (s : PS) : Prop := s.1.1 ≤ 4 ∧ s.2.1.1 ≤ 4 ∧ s.2.2.1.1 ≤ 5 ∧ (∀ v, s.2.2.2.2 = some v → v ≤ 9) ∧ (s.2.2.2.1 = 0 ∨ s.2.2.2.1 = 1 ∨ (s.2.2.2.1 = 84 ∧ s.1.1 < 4 ∧ s.2.2.2.2 = none) ∨ (s.2.2.2.1 = 66 ∧ s.2.1.1 < 4) ∨ (s.2.2.2.1 = 68 ∧ s.2.2.1.1 < 5 ∧ s.2.2.2.2 ≠ some 0)) ∧
  (∀ i, i < s.1.1 → s.1.2 i ≤ 9) ∧ (∀ i, i < s.2.1.1 → s.2.1.2.1 i ≤ 9 ∧ s.2.1.2.2 i ≤ 3) ∧ ∀ i, i < s.2.2.1.1 → 1 ≤ s.2.2.1.2.1 i ∧ s.2.2.1.2.1 i ≤ 9 ∧ s.2.2.1.2.2 i ≤ 3
def psNew : PS := ((0, fun _ => 0), (0, fun _ => 0, fun _ => 0), (0, fun _ => 0, fun _ => 0), 0, none)
def psRoom (s : PS) (l : Nat) : Bool := decide ((l = 84 ∧ s.1.1 < 4) ∨ (l = 66 ∧ s.2.1.1 < 4) ∨ (l = 68 ∧ s.2.2.1.1 < 5))
/-- a byte is heard: whether a port can go on with it, what is told then -/
def psHear (s : PS) (l : Nat) : Bool × PS :=
  if s.2.2.2.1 = 0 then (decide (l = 72), s.1, s.2.1, s.2.2.1, 1, s.2.2.2.2)
  else if s.2.2.2.1 = 1 then (psRoom s l, s.1, s.2.1, s.2.2.1, l, none)
  else if l < 48 ∨ 57 < l then (false, s)
  else match s.2.2.2.2 with
    | none => if s.2.2.2.1 = 68 ∧ l - 48 = 0 then (false, s)
      else if s.2.2.2.1 = 84 then (true, (s.1.1 + 1, va_up s.1.2 s.1.1 (l - 48)), s.2.1, s.2.2.1, 1, none)
      else (true, s.1, s.2.1, s.2.2.1, s.2.2.2.1, some (l - 48))
    | some v => if 3 < l - 48 then (false, s)
      else if s.2.2.2.1 = 66 then (true, s.1, (s.2.1.1 + 1, va_up s.2.1.2.1 s.2.1.1 v, va_up s.2.1.2.2 s.2.1.1 (l - 48)), s.2.2.1, 1, some v)
      else (true, s.1, s.2.1, (s.2.2.1.1 + 1, va_up s.2.2.1.2.1 s.2.2.1.1 v, va_up s.2.2.1.2.2 s.2.2.1.1 (l - 48)), 1, some v)
theorem psHear_ok {s : PS} {l : Nat} (h : psOk s) (ht : (psHear s l).1 = true) : psOk (psHear s l).2 := by
  obtain ⟨a1, a2, a3, a4, a5, a6, a7, a8⟩ := h
  unfold psHear at ht ⊢
  split at ht
  · rename_i h0
    rw [if_pos h0]
    exact ⟨a1, a2, a3, a4, Or.inr (Or.inl rfl), a6, a7, a8⟩
  · rename_i h0
    rw [if_neg h0]
    split at ht
    · rename_i h1
      rw [if_pos h1]
      refine ⟨a1, a2, a3, fun v hv => (by cases hv), ?_, a6, a7, a8⟩
      have := of_decide_eq_true (show decide _ = true from ht)
      rcases this with z | z | z
      · exact Or.inr (Or.inr (Or.inl ⟨z.1, z.2, rfl⟩))
      · exact Or.inr (Or.inr (Or.inr (Or.inl z)))
      · exact Or.inr (Or.inr (Or.inr (Or.inr ⟨z.1, z.2, fun z => by cases z⟩)))
    · rename_i h1
      rw [if_neg h1]
      split at ht
      · cases ht
      · rename_i h2
        rw [if_neg h2]
        split at ht
        · rename_i hf
          try rw [hf]
          try dsimp only
          split at ht
          · cases ht
          · rename_i h3
            rw [if_neg h3]
            split at ht
            · rename_i h4
              rw [if_pos h4]
              have hT : s.1.1 < 4 := by
                rcases a5 with z | z | z | z | z
                · exact absurd z h0
                · exact absurd z h1
                · exact z.2.1
                · rw [h4] at z; exact absurd z.1 (by decide)
                · rw [h4] at z; exact absurd z.1 (by decide)
              refine ⟨hT, a2, a3, fun v hv => (by cases hv), Or.inr (Or.inl rfl), fun i hi => ?_, a7, a8⟩
              simp only [va_up]
              split
              · omega
              · exact a6 i (by simp only at hi; omega)
            · rename_i h4
              rw [if_neg h4]
              refine ⟨a1, a2, a3, fun v hv => (by cases hv; omega), ?_, a6, a7, a8⟩
              rcases a5 with z | z | z | z | z
              · exact absurd z h0
              · exact absurd z h1
              · exact absurd z.1 h4
              · exact Or.inr (Or.inr (Or.inr (Or.inl z)))
              · refine Or.inr (Or.inr (Or.inr (Or.inr ⟨z.1, z.2.1, fun e => h3 ⟨z.1, Option.some.inj e⟩⟩)))
        · rename_i v hf
          try rw [hf]
          try dsimp only
          have hv9 := a4 v hf
          split at ht
          · cases ht
          · rename_i h3
            rw [if_neg h3]
            split at ht
            · rename_i h4
              rw [if_pos h4]
              have hB : s.2.1.1 < 4 := by
                rcases a5 with z | z | z | z | z
                · exact absurd z h0
                · exact absurd z h1
                · rw [h4] at z; exact absurd z.1 (by decide)
                · exact z.2
                · rw [h4] at z; exact absurd z.1 (by decide)
              refine ⟨a1, hB, a3, fun u hu => (by cases hu; exact hv9), Or.inr (Or.inl rfl), a6, fun i hi => ?_, a8⟩
              simp only [va_up]
              split
              · omega
              · exact a7 i (by simp only at hi; omega)
            · rename_i h4
              rw [if_neg h4]
              have hD : s.2.2.1.1 < 5 ∧ v ≠ 0 := by
                rcases a5 with z | z | z | z | z
                · exact absurd z h0
                · exact absurd z h1
                · rw [z.2.2] at hf; cases hf
                · exact absurd z.1 h4
                · exact ⟨z.2.1, fun e => z.2.2 (by rw [hf, e])⟩
              refine ⟨a1, a2, hD.1, fun u hu => (by cases hu; exact hv9), Or.inr (Or.inl rfl), a6, a7, fun i hi => ?_⟩
              simp only [va_up]
              split
              · omega
              · exact a8 i (by simp only at hi; omega)
section P40
variable {o : ai_S} {d : Nat} {w : ai_W} {m : Nat → Nat → Int32} {lg : Nat → Nat → Int64} {t : Nat} {s : PS} {l : Nat} {r : Option Value × ai_W}
theorem s_X6_beginAnew (hT : ai_T t) : ∃ m', RPs t psNew m' ∧ Fr t m m' ∧ Ev o d zX6_beginAnew [.ref t] (ai_w m lg) none (ai_w m' lg) := by
  refine ⟨ai_up (ai_up (ai_up (ai_up (ai_up m t 5 (nI 0)) t 6 (nI 0)) t 7 (nI 0)) t 8 (nI 0)) t 9 (-9), ?_, ?_, ?_⟩
  · refine ⟨?_, ?_, ?_, ?_, ?_, fun i hi => absurd hi (Nat.not_lt_zero i), fun i hi => absurd hi (Nat.not_lt_zero i), fun i hi => absurd hi (Nat.not_lt_zero i)⟩
    all_goals (simp only [up_eq]; rfl)
  · have : ∀ k v m, Fr t m (ai_up m t k v) := fun k v m => Fr.up (j := 0) (by omega)
    exact (this _ _ _).trans ((this _ _ _).trans ((this _ _ _).trans ((this _ _ _).trans (this _ _ _))))
  · rw [ev_X6_beginAnew]
    simp only [e_X6_beginAnew_0, e_X6_beginAnew_1, e_X6_beginAnew_2, e_X6_beginAnew_5, e_X6_beginAnew_6, e_X6_beginAnew_7, e_X6_beginAnew_10, e_X6_beginAnew_11, e_X6_beginAnew_12, e_X6_beginAnew_15, e_X6_beginAnew_16, e_X6_beginAnew_17, e_X6_beginAnew_20, e_X6_beginAnew_21, e_X6_beginAnew_23, e_X6_beginAnew_26, eq_self, nI10, not_false_eq_true, not_true_eq_false, is2_i, is2_r, is2_n, nI_add, pk_mul, Nat.reduceAdd, Nat.reduceMul, hT]
theorem s_X6_mayEnd (hT : ai_T t) (hs : psOk s) (h : RPs t s m) : Ev o d zX6_mayEnd [.ref t] (ai_w m lg) (some (.int (bI (decide (s.2.2.2.1 = 1))))) (ai_w m lg) := by
  have h9 : s.2.2.2.1 < 2 ^ 31 := by have := hs.2.2.2.2.1; omega
  rw [ev_X6_mayEnd]
  simp only [e_X6_mayEnd_0, e_X6_mayEnd_1, e_X6_mayEnd_4, e_X6_mayEnd_5, e_X6_mayEnd_8, e_X6_mayEnd_9, e_X6_mayEnd_12, e_X6_mayEnd_13, eq_self, nI10, not_false_eq_true, not_true_eq_false, is2_i, is2_r, is2_n, nI_add, pk_mul, Nat.reduceAdd, Nat.reduceMul, hT, h.2.2.2.1, nI_9 (a := s.2.2.2.1) (c := 1) h9 (by omega), nar_0, nar_1]
  by_cases h1 : s.2.2.2.1 = 1 <;> simp [h1, bI]
theorem s_X6_hasRoomFor (hT : ai_T t) (hs : s.1.1 ≤ 4 ∧ s.2.1.1 ≤ 4 ∧ s.2.2.1.1 ≤ 5) (h5 : m t 5 = nI s.1.1) (h6 : m t 6 = nI s.2.1.1) (h7 : m t 7 = nI s.2.2.1.1) (hl : l ≤ 255) : Ev o d zX6_hasRoomFor [.ref t, .int (nI l)] (ai_w m lg) (some (.int (bI (psRoom s l)))) (ai_w m lg) := by
  have e5 : (nI 4 ≤ nI s.1.1) = (4 ≤ s.1.1) := propext (nI_leI (by omega) (by omega))
  have e6 : (nI 4 ≤ nI s.2.1.1) = (4 ≤ s.2.1.1) := propext (nI_leI (by omega) (by omega))
  have e7 : (nI 5 ≤ nI s.2.2.1.1) = (5 ≤ s.2.2.1.1) := propext (nI_leI (by omega) (by omega))
  rw [ev_X6_hasRoomFor]
  unfold psRoom
  by_cases a1 : l = 84
  · subst a1
    simp only [e_X6_hasRoomFor_0, e_X6_hasRoomFor_1_66, e_X6_hasRoomFor_1_68, e_X6_hasRoomFor_1_84, e_X6_hasRoomFor_1_d, e_X6_hasRoomFor_36, e_X6_hasRoomFor_37, e_X6_hasRoomFor_40, e_X6_hasRoomFor_41, e_X6_hasRoomFor_44, e_X6_hasRoomFor_45, e_X6_hasRoomFor_48, e_X6_hasRoomFor_49, e_X6_hasRoomFor_50, e_X6_hasRoomFor_51, e_X6_hasRoomFor_54, e_X6_hasRoomFor_55, e_X6_hasRoomFor_58, e_X6_hasRoomFor_59, e_X6_hasRoomFor_62, e_X6_hasRoomFor_63, e_X6_hasRoomFor_64, e_X6_hasRoomFor_65, e_X6_hasRoomFor_68, e_X6_hasRoomFor_69, e_X6_hasRoomFor_72, e_X6_hasRoomFor_73, e_X6_hasRoomFor_76, e_X6_hasRoomFor_77, e_X6_hasRoomFor_78, e_X6_hasRoomFor_79, eq_self, nI10, not_false_eq_true, not_true_eq_false, is2_i, is2_r, is2_n, nI_add, pk_mul, Nat.reduceAdd, Nat.reduceMul, hT, h5, e5, nar_0, nar_1]
    by_cases q : 4 ≤ s.1.1
    · simp [q, Nat.not_lt.mpr q, bI]
    · simp [q, Nat.not_le.mp q, bI]
  · by_cases a2 : l = 66
    · subst a2
      simp only [e_X6_hasRoomFor_0, e_X6_hasRoomFor_1_66, e_X6_hasRoomFor_1_68, e_X6_hasRoomFor_1_84, e_X6_hasRoomFor_1_d, e_X6_hasRoomFor_36, e_X6_hasRoomFor_37, e_X6_hasRoomFor_40, e_X6_hasRoomFor_41, e_X6_hasRoomFor_44, e_X6_hasRoomFor_45, e_X6_hasRoomFor_48, e_X6_hasRoomFor_49, e_X6_hasRoomFor_50, e_X6_hasRoomFor_51, e_X6_hasRoomFor_54, e_X6_hasRoomFor_55, e_X6_hasRoomFor_58, e_X6_hasRoomFor_59, e_X6_hasRoomFor_62, e_X6_hasRoomFor_63, e_X6_hasRoomFor_64, e_X6_hasRoomFor_65, e_X6_hasRoomFor_68, e_X6_hasRoomFor_69, e_X6_hasRoomFor_72, e_X6_hasRoomFor_73, e_X6_hasRoomFor_76, e_X6_hasRoomFor_77, e_X6_hasRoomFor_78, e_X6_hasRoomFor_79, eq_self, nI10, not_false_eq_true, not_true_eq_false, is2_i, is2_r, is2_n, nI_add, pk_mul, Nat.reduceAdd, Nat.reduceMul, hT, h6, e6, nar_0, nar_1]
      by_cases q : 4 ≤ s.2.1.1
      · simp [q, Nat.not_lt.mpr q, bI]
      · simp [q, Nat.not_le.mp q, bI]
    · by_cases a3 : l = 68
      · subst a3
        simp only [e_X6_hasRoomFor_0, e_X6_hasRoomFor_1_66, e_X6_hasRoomFor_1_68, e_X6_hasRoomFor_1_84, e_X6_hasRoomFor_1_d, e_X6_hasRoomFor_36, e_X6_hasRoomFor_37, e_X6_hasRoomFor_40, e_X6_hasRoomFor_41, e_X6_hasRoomFor_44, e_X6_hasRoomFor_45, e_X6_hasRoomFor_48, e_X6_hasRoomFor_49, e_X6_hasRoomFor_50, e_X6_hasRoomFor_51, e_X6_hasRoomFor_54, e_X6_hasRoomFor_55, e_X6_hasRoomFor_58, e_X6_hasRoomFor_59, e_X6_hasRoomFor_62, e_X6_hasRoomFor_63, e_X6_hasRoomFor_64, e_X6_hasRoomFor_65, e_X6_hasRoomFor_68, e_X6_hasRoomFor_69, e_X6_hasRoomFor_72, e_X6_hasRoomFor_73, e_X6_hasRoomFor_76, e_X6_hasRoomFor_77, e_X6_hasRoomFor_78, e_X6_hasRoomFor_79, eq_self, nI10, not_false_eq_true, not_true_eq_false, is2_i, is2_r, is2_n, nI_add, pk_mul, Nat.reduceAdd, Nat.reduceMul, hT, h7, e7, nar_0, nar_1]
        by_cases q : 5 ≤ s.2.2.1.1
        · simp [q, Nat.not_lt.mpr q, bI]
        · simp [q, Nat.not_le.mp q, bI]
      · rw [e_X6_hasRoomFor_0, e_X6_hasRoomFor_1_d (by rw [nI_toInt (by omega)]; omega)]
        simp only [e_X6_hasRoomFor_0, e_X6_hasRoomFor_1_66, e_X6_hasRoomFor_1_68, e_X6_hasRoomFor_1_84, e_X6_hasRoomFor_1_d, e_X6_hasRoomFor_36, e_X6_hasRoomFor_37, e_X6_hasRoomFor_40, e_X6_hasRoomFor_41, e_X6_hasRoomFor_44, e_X6_hasRoomFor_45, e_X6_hasRoomFor_48, e_X6_hasRoomFor_49, e_X6_hasRoomFor_50, e_X6_hasRoomFor_51, e_X6_hasRoomFor_54, e_X6_hasRoomFor_55, e_X6_hasRoomFor_58, e_X6_hasRoomFor_59, e_X6_hasRoomFor_62, e_X6_hasRoomFor_63, e_X6_hasRoomFor_64, e_X6_hasRoomFor_65, e_X6_hasRoomFor_68, e_X6_hasRoomFor_69, e_X6_hasRoomFor_72, e_X6_hasRoomFor_73, e_X6_hasRoomFor_76, e_X6_hasRoomFor_77, e_X6_hasRoomFor_78, e_X6_hasRoomFor_79, eq_self, nI10, not_false_eq_true, not_true_eq_false, is2_i, is2_r, is2_n, nI_add, pk_mul, Nat.reduceAdd, Nat.reduceMul, nar_0]
        simp [a1, a2, a3, bI]
theorem s_X6_hearsFirst (hT : ai_T t) (hs : psOk s) (h : RPs t s m) {v : Nat} (hv : v ≤ 9) (hf : s.2.2.2.2 = none) (h0 : s.2.2.2.1 ≠ 0) (h1 : s.2.2.2.1 ≠ 1) : ∃ m', Fr t m m' ∧
    (if s.2.2.2.1 = 68 ∧ v = 0 then Ev o d zX6_hearsFirst [.ref t, .int (nI v)] (ai_w m lg) (some (.int (bI false))) (ai_w m' lg)
     else (RPs t (if s.2.2.2.1 = 84 then ((s.1.1 + 1, va_up s.1.2 s.1.1 v), s.2.1, s.2.2.1, 1, none) else (s.1, s.2.1, s.2.2.1, s.2.2.2.1, some v)) m' ∧ Ev o d zX6_hearsFirst [.ref t, .int (nI v)] (ai_w m lg) (some (.int (bI true))) (ai_w m' lg))) := by
  obtain ⟨a1, a2, a3, a4, a5, a6, a7, a8⟩ := hs
  obtain ⟨b1, b2, b3, b4, b5, b6, b7, b8⟩ := h
  have h9 : s.2.2.2.1 < 2 ^ 31 := by omega
  have e68 := nI_9 (a := s.2.2.2.1) (c := 68) h9 (by omega)
  have e84 := nI_9 (a := s.2.2.2.1) (c := 84) h9 (by omega)
  have ev0 := nI_9 (a := v) (c := 0) (by omega) (by omega)
  by_cases g : s.2.2.2.1 = 68 ∧ v = 0
  · refine ⟨m, Fr.rfl', ?_⟩
    rw [if_pos g, ev_X6_hearsFirst]
    simp only [e_X6_hearsFirst_0, e_X6_hearsFirst_1, e_X6_hearsFirst_4, e_X6_hearsFirst_6, e_X6_hearsFirst_9, e_X6_hearsFirst_10, e_X6_hearsFirst_13, e_X6_hearsFirst_14, e_X6_hearsFirst_15, e_X6_hearsFirst_16, e_X6_hearsFirst_19, e_X6_hearsFirst_21, e_X6_hearsFirst_24, e_X6_hearsFirst_25, e_X6_hearsFirst_28, e_X6_hearsFirst_29, e_X6_hearsFirst_32, e_X6_hearsFirst_33, e_X6_hearsFirst_34, e_X6_hearsFirst_35, e_X6_hearsFirst_36, e_X6_hearsFirst_39, e_X6_hearsFirst_40, e_X6_hearsFirst_41, e_X6_hearsFirst_44, e_X6_hearsFirst_45, e_X6_hearsFirst_46, e_X6_hearsFirst_49, e_X6_hearsFirst_52, e_X6_hearsFirst_53, e_X6_hearsFirst_54, e_X6_hearsFirst_57, e_X6_hearsFirst_58, eq_self, nI10, not_false_eq_true, not_true_eq_false, is2_i, is2_r, is2_n, nI_add, pk_mul, Nat.reduceAdd, Nat.reduceMul, hT, b4, e68, g.1, g.2, if_false, bI_f, nar_0]
  · by_cases h84 : s.2.2.2.1 = 84
    · have hT4 : s.1.1 < 4 := by
        rcases a5 with z | z | z | z | z
        · exact absurd z h0
        · exact absurd z h1
        · exact z.2.1
        · omega
        · omega
      refine ⟨ai_up (ai_up (ai_up m (t + 1) s.1.1 (nI v)) t 5 (nI (s.1.1 + 1))) t 8 (nI 1), (Fr.up (j := 1) (by omega)).trans ((Fr.up (j := 0) (by omega)).trans (Fr.up (j := 0) (by omega))), ?_⟩
      rw [if_neg g, if_pos h84]
      refine ⟨⟨?_, ?_, ?_, ?_, ?_, fun i hi => ?_, fun i hi => ?_, fun i hi => ?_⟩, ?_⟩
      · rw [up_eq, if_neg (by decide), up_eq, if_pos rfl]
      · rw [up_eq, if_neg (by decide), up_eq, if_neg (by decide), up_ne (by omega)]; exact b2
      · rw [up_eq, if_neg (by decide), up_eq, if_neg (by decide), up_ne (by omega)]; exact b3
      · rw [up_eq, if_pos rfl]
      · rw [up_eq, if_neg (by decide), up_eq, if_neg (by decide), up_ne (by omega), b5, hf]
      · rw [up_ne (by omega), up_ne (by omega), up_eq]
        simp only [va_up]
        split
        · rfl
        · exact b6 i (by simp only at hi; omega)
      · rw [up_ne (by omega), up_ne (by omega), up_ne (by omega), up_ne (by omega), up_ne (by omega), up_ne (by omega)]; exact b7 i hi
      · rw [up_ne (by omega), up_ne (by omega), up_ne (by omega), up_ne (by omega), up_ne (by omega), up_ne (by omega)]; exact b8 i hi
      · rw [ev_X6_hearsFirst]
        have n68 : ¬ nI 84 = nI 68 := by decide
        simp only [e_X6_hearsFirst_0, e_X6_hearsFirst_1, e_X6_hearsFirst_4, e_X6_hearsFirst_6, e_X6_hearsFirst_9, e_X6_hearsFirst_10, e_X6_hearsFirst_13, e_X6_hearsFirst_14, e_X6_hearsFirst_15, e_X6_hearsFirst_16, e_X6_hearsFirst_19, e_X6_hearsFirst_21, e_X6_hearsFirst_24, e_X6_hearsFirst_25, e_X6_hearsFirst_28, e_X6_hearsFirst_29, e_X6_hearsFirst_32, e_X6_hearsFirst_33, e_X6_hearsFirst_34, e_X6_hearsFirst_35, e_X6_hearsFirst_36, e_X6_hearsFirst_39, e_X6_hearsFirst_40, e_X6_hearsFirst_41, e_X6_hearsFirst_44, e_X6_hearsFirst_45, e_X6_hearsFirst_46, e_X6_hearsFirst_49, e_X6_hearsFirst_52, e_X6_hearsFirst_53, e_X6_hearsFirst_54, e_X6_hearsFirst_57, e_X6_hearsFirst_58, eq_self, nI10, not_false_eq_true, not_true_eq_false, is2_i, is2_r, is2_n, nI_add, pk_mul, Nat.reduceAdd, Nat.reduceMul, hT, tA1 hT, tL1 hT, b4, e68, e84, h84, n68, if_true, if_false, b1, hT4, up_ne (show t ≠ t + 1 by omega), bI_t, nar_1]
    · refine ⟨ai_up m t 9 (nI v), Fr.up (j := 0) (by omega), ?_⟩
      rw [if_neg g, if_neg h84]
      refine ⟨⟨?_, ?_, ?_, ?_, ?_, fun i hi => ?_, fun i hi => ?_, fun i hi => ?_⟩, ?_⟩
      · rw [up_eq, if_neg (by decide)]; exact b1
      · rw [up_eq, if_neg (by decide)]; exact b2
      · rw [up_eq, if_neg (by decide)]; exact b3
      · rw [up_eq, if_neg (by decide)]; exact b4
      · rw [up_eq, if_pos rfl]; rfl
      · rw [up_ne (by omega)]; exact b6 i hi
      · rw [up_ne (by omega), up_ne (by omega)]; exact b7 i hi
      · rw [up_ne (by omega), up_ne (by omega)]; exact b8 i hi
      · rw [ev_X6_hearsFirst]
        simp only [e_X6_hearsFirst_0, e_X6_hearsFirst_1, e_X6_hearsFirst_4, e_X6_hearsFirst_6, e_X6_hearsFirst_9, e_X6_hearsFirst_10, e_X6_hearsFirst_13, e_X6_hearsFirst_14, e_X6_hearsFirst_15, e_X6_hearsFirst_16, e_X6_hearsFirst_19, e_X6_hearsFirst_21, e_X6_hearsFirst_24, e_X6_hearsFirst_25, e_X6_hearsFirst_28, e_X6_hearsFirst_29, e_X6_hearsFirst_32, e_X6_hearsFirst_33, e_X6_hearsFirst_34, e_X6_hearsFirst_35, e_X6_hearsFirst_36, e_X6_hearsFirst_39, e_X6_hearsFirst_40, e_X6_hearsFirst_41, e_X6_hearsFirst_44, e_X6_hearsFirst_45, e_X6_hearsFirst_46, e_X6_hearsFirst_49, e_X6_hearsFirst_52, e_X6_hearsFirst_53, e_X6_hearsFirst_54, e_X6_hearsFirst_57, e_X6_hearsFirst_58, eq_self, nI10, not_false_eq_true, not_true_eq_false, is2_i, is2_r, is2_n, nI_add, pk_mul, Nat.reduceAdd, Nat.reduceMul, hT, b4, e68, e84, h84, ev0, if_true, bI_t, nar_1]
        by_cases q1 : s.2.2.2.1 = 68
        · have : v ≠ 0 := fun z => g ⟨q1, z⟩
          simp [q1, this]
        · simp [q1]
theorem s_X6_hearsKind (hT : ai_T t) (hs : psOk s) (h : RPs t s m) {k v : Nat} (hk : k ≤ 9) (hf : s.2.2.2.2 = some v) (h0 : s.2.2.2.1 ≠ 0) (h1 : s.2.2.2.1 ≠ 1) : ∃ m', Fr t m m' ∧
    (if 3 < k then Ev o d zX6_hearsKind [.ref t, .int (nI k)] (ai_w m lg) (some (.int (bI false))) (ai_w m' lg)
     else (RPs t (if s.2.2.2.1 = 66 then (s.1, (s.2.1.1 + 1, va_up s.2.1.2.1 s.2.1.1 v, va_up s.2.1.2.2 s.2.1.1 k), s.2.2.1, 1, some v) else (s.1, s.2.1, (s.2.2.1.1 + 1, va_up s.2.2.1.2.1 s.2.2.1.1 v, va_up s.2.2.1.2.2 s.2.2.1.1 k), 1, some v)) m' ∧ Ev o d zX6_hearsKind [.ref t, .int (nI k)] (ai_w m lg) (some (.int (bI true))) (ai_w m' lg))) := by
  obtain ⟨a1, a2, a3, a4, a5, a6, a7, a8⟩ := hs
  obtain ⟨b1, b2, b3, b4, b5, b6, b7, b8⟩ := h
  have h9 : s.2.2.2.1 < 2 ^ 31 := by omega
  have e66 := nI_9 (a := s.2.2.2.1) (c := 66) h9 (by omega)
  have ek : (nI k ≤ nI 3) = (k ≤ 3) := propext (nI_leI (by omega) (by omega))
  rw [hf] at b5
  by_cases g : 3 < k
  · refine ⟨m, Fr.rfl', ?_⟩
    rw [if_pos g, ev_X6_hearsKind]
    simp only [e_X6_hearsKind_0, e_X6_hearsKind_1, e_X6_hearsKind_2, e_X6_hearsKind_5, e_X6_hearsKind_6, e_X6_hearsKind_7, e_X6_hearsKind_8, e_X6_hearsKind_11, e_X6_hearsKind_13, e_X6_hearsKind_16, e_X6_hearsKind_17, e_X6_hearsKind_20, e_X6_hearsKind_21, e_X6_hearsKind_24, e_X6_hearsKind_25, e_X6_hearsKind_28, e_X6_hearsKind_29, e_X6_hearsKind_30, e_X6_hearsKind_33, e_X6_hearsKind_34, e_X6_hearsKind_37, e_X6_hearsKind_38, e_X6_hearsKind_39, e_X6_hearsKind_40, e_X6_hearsKind_41, e_X6_hearsKind_44, e_X6_hearsKind_45, e_X6_hearsKind_46, e_X6_hearsKind_49, e_X6_hearsKind_52, e_X6_hearsKind_53, e_X6_hearsKind_56, e_X6_hearsKind_57, e_X6_hearsKind_60, e_X6_hearsKind_61, e_X6_hearsKind_64, e_X6_hearsKind_65, e_X6_hearsKind_66, e_X6_hearsKind_69, e_X6_hearsKind_70, e_X6_hearsKind_73, e_X6_hearsKind_74, e_X6_hearsKind_75, e_X6_hearsKind_76, e_X6_hearsKind_77, e_X6_hearsKind_80, e_X6_hearsKind_81, e_X6_hearsKind_82, e_X6_hearsKind_85, e_X6_hearsKind_86, e_X6_hearsKind_87, e_X6_hearsKind_90, e_X6_hearsKind_91, eq_self, nI10, not_false_eq_true, not_true_eq_false, is2_i, is2_r, is2_n, nI_add, pk_mul, Nat.reduceAdd, Nat.reduceMul, ek, Nat.not_le.mpr g, if_false, bI_f, nar_0]
  · have gk := Nat.not_lt.mp g
    by_cases h66 : s.2.2.2.1 = 66
    · have hB4 : s.2.1.1 < 4 := by
        rcases a5 with z | z | z | z | z
        · exact absurd z h0
        · exact absurd z h1
        · omega
        · exact z.2
        · omega
      refine ⟨ai_up (ai_up (ai_up (ai_up m (t + 2) s.2.1.1 (nI v)) (t + 3) s.2.1.1 (nI k)) t 6 (nI (s.2.1.1 + 1))) t 8 (nI 1), (Fr.up (j := 2) (by omega)).trans ((Fr.up (j := 3) (by omega)).trans ((Fr.up (j := 0) (by omega)).trans (Fr.up (j := 0) (by omega)))), ?_⟩
      rw [if_neg g, if_pos h66]
      refine ⟨⟨?_, ?_, ?_, ?_, ?_, fun i hi => ?_, fun i hi => ?_, fun i hi => ?_⟩, ?_⟩
      · rw [up_eq, if_neg (by decide), up_eq, if_neg (by decide), up_ne (by omega), up_ne (by omega)]; exact b1
      · rw [up_eq, if_neg (by decide), up_eq, if_pos rfl]
      · rw [up_eq, if_neg (by decide), up_eq, if_neg (by decide), up_ne (by omega), up_ne (by omega)]; exact b3
      · rw [up_eq, if_pos rfl]
      · rw [up_eq, if_neg (by decide), up_eq, if_neg (by decide), up_ne (by omega), up_ne (by omega)]; exact b5
      · rw [up_ne (by omega), up_ne (by omega), up_ne (by omega), up_ne (by omega)]; exact b6 i hi
      · rw [up_ne (by omega), up_ne (by omega), up_ne (by omega), up_eq, up_ne (show t + 3 ≠ t by omega), up_ne (show t + 3 ≠ t by omega), up_eq, up_ne (show t + 3 ≠ t + 2 by omega)]
        simp only [va_up]
        by_cases q : i = s.2.1.1
        · simp [q]
        · simp only [q, if_false]
          exact b7 i (by simp only at hi; omega)
      · rw [up_ne (by omega), up_ne (by omega), up_ne (by omega), up_ne (by omega), up_ne (show t + 5 ≠ t by omega), up_ne (show t + 5 ≠ t by omega), up_ne (by omega), up_ne (by omega)]; exact b8 i hi
      · rw [ev_X6_hearsKind]
        simp only [e_X6_hearsKind_0, e_X6_hearsKind_1, e_X6_hearsKind_2, e_X6_hearsKind_5, e_X6_hearsKind_6, e_X6_hearsKind_7, e_X6_hearsKind_8, e_X6_hearsKind_11, e_X6_hearsKind_13, e_X6_hearsKind_16, e_X6_hearsKind_17, e_X6_hearsKind_20, e_X6_hearsKind_21, e_X6_hearsKind_24, e_X6_hearsKind_25, e_X6_hearsKind_28, e_X6_hearsKind_29, e_X6_hearsKind_30, e_X6_hearsKind_33, e_X6_hearsKind_34, e_X6_hearsKind_37, e_X6_hearsKind_38, e_X6_hearsKind_39, e_X6_hearsKind_40, e_X6_hearsKind_41, e_X6_hearsKind_44, e_X6_hearsKind_45, e_X6_hearsKind_46, e_X6_hearsKind_49, e_X6_hearsKind_52, e_X6_hearsKind_53, e_X6_hearsKind_56, e_X6_hearsKind_57, e_X6_hearsKind_60, e_X6_hearsKind_61, e_X6_hearsKind_64, e_X6_hearsKind_65, e_X6_hearsKind_66, e_X6_hearsKind_69, e_X6_hearsKind_70, e_X6_hearsKind_73, e_X6_hearsKind_74, e_X6_hearsKind_75, e_X6_hearsKind_76, e_X6_hearsKind_77, e_X6_hearsKind_80, e_X6_hearsKind_81, e_X6_hearsKind_82, e_X6_hearsKind_85, e_X6_hearsKind_86, e_X6_hearsKind_87, e_X6_hearsKind_90, e_X6_hearsKind_91, eq_self, nI10, not_false_eq_true, not_true_eq_false, is2_i, is2_r, is2_n, nI_add, pk_mul, Nat.reduceAdd, Nat.reduceMul, hT, tA2 hT, tL2 hT, tA3 hT, tL3 hT, ek, gk, b4, e66, h66, if_true, if_false, b2, b5, hB4, figI, up_ne (show t ≠ t + 2 by omega), up_ne (show t ≠ t + 3 by omega), bI_t, nar_1]
    · have hD5 : s.2.2.1.1 < 5 := by
        rcases a5 with z | z | z | z | z
        · exact absurd z h0
        · exact absurd z h1
        · rw [z.2.2] at hf; cases hf
        · exact absurd z.1 h66
        · exact z.2.1
      refine ⟨ai_up (ai_up (ai_up (ai_up m (t + 4) s.2.2.1.1 (nI v)) (t + 5) s.2.2.1.1 (nI k)) t 7 (nI (s.2.2.1.1 + 1))) t 8 (nI 1), (Fr.up (j := 4) (by omega)).trans ((Fr.up (j := 5) (by omega)).trans ((Fr.up (j := 0) (by omega)).trans (Fr.up (j := 0) (by omega)))), ?_⟩
      rw [if_neg g, if_neg h66]
      refine ⟨⟨?_, ?_, ?_, ?_, ?_, fun i hi => ?_, fun i hi => ?_, fun i hi => ?_⟩, ?_⟩
      · rw [up_eq, if_neg (by decide), up_eq, if_neg (by decide), up_ne (by omega), up_ne (by omega)]; exact b1
      · rw [up_eq, if_neg (by decide), up_eq, if_neg (by decide), up_ne (by omega), up_ne (by omega)]; exact b2
      · rw [up_eq, if_neg (by decide), up_eq, if_pos rfl]
      · rw [up_eq, if_pos rfl]
      · rw [up_eq, if_neg (by decide), up_eq, if_neg (by decide), up_ne (by omega), up_ne (by omega)]; exact b5
      · rw [up_ne (by omega), up_ne (by omega), up_ne (by omega), up_ne (by omega)]; exact b6 i hi
      · rw [up_ne (by omega), up_ne (by omega), up_ne (by omega), up_ne (by omega), up_ne (show t + 3 ≠ t by omega), up_ne (show t + 3 ≠ t by omega), up_ne (by omega), up_ne (by omega)]; exact b7 i hi
      · rw [up_ne (by omega), up_ne (by omega), up_ne (by omega), up_eq, up_ne (show t + 5 ≠ t by omega), up_ne (show t + 5 ≠ t by omega), up_eq, up_ne (show t + 5 ≠ t + 4 by omega)]
        simp only [va_up]
        by_cases q : i = s.2.2.1.1
        · simp [q]
        · simp only [q, if_false]
          exact b8 i (by simp only at hi; omega)
      · rw [ev_X6_hearsKind]
        simp only [e_X6_hearsKind_0, e_X6_hearsKind_1, e_X6_hearsKind_2, e_X6_hearsKind_5, e_X6_hearsKind_6, e_X6_hearsKind_7, e_X6_hearsKind_8, e_X6_hearsKind_11, e_X6_hearsKind_13, e_X6_hearsKind_16, e_X6_hearsKind_17, e_X6_hearsKind_20, e_X6_hearsKind_21, e_X6_hearsKind_24, e_X6_hearsKind_25, e_X6_hearsKind_28, e_X6_hearsKind_29, e_X6_hearsKind_30, e_X6_hearsKind_33, e_X6_hearsKind_34, e_X6_hearsKind_37, e_X6_hearsKind_38, e_X6_hearsKind_39, e_X6_hearsKind_40, e_X6_hearsKind_41, e_X6_hearsKind_44, e_X6_hearsKind_45, e_X6_hearsKind_46, e_X6_hearsKind_49, e_X6_hearsKind_52, e_X6_hearsKind_53, e_X6_hearsKind_56, e_X6_hearsKind_57, e_X6_hearsKind_60, e_X6_hearsKind_61, e_X6_hearsKind_64, e_X6_hearsKind_65, e_X6_hearsKind_66, e_X6_hearsKind_69, e_X6_hearsKind_70, e_X6_hearsKind_73, e_X6_hearsKind_74, e_X6_hearsKind_75, e_X6_hearsKind_76, e_X6_hearsKind_77, e_X6_hearsKind_80, e_X6_hearsKind_81, e_X6_hearsKind_82, e_X6_hearsKind_85, e_X6_hearsKind_86, e_X6_hearsKind_87, e_X6_hearsKind_90, e_X6_hearsKind_91, eq_self, nI10, not_false_eq_true, not_true_eq_false, is2_i, is2_r, is2_n, nI_add, pk_mul, Nat.reduceAdd, Nat.reduceMul, hT, tA4 hT, tL4 hT, tA5 hT, tL5 hT, ek, gk, b4, e66, h66, if_true, if_false, b3, b5, hD5, figI, up_ne (show t ≠ t + 4 by omega), up_ne (show t ≠ t + 5 by omega), bI_t, nar_1]
end P40
