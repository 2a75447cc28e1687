/-! Told hears a byte; Text tells itself -/
section P41
variable {o : ai_S} {d : Nat} {w : ai_W} {m : Nat → Nat → Int32} {lg : Nat → Nat → Int64} {t : Nat} {s : PS} {l : Nat} {r : Option Value × ai_W}
theorem s_X6_hears (hT : ai_T t) (hs : psOk s) (h : RPs t s m) (hl : l ≤ 255) : ∃ m', Fr t m m' ∧ ((psHear s l).1 = true → RPs t (psHear s l).2 m') ∧ Ev o (d + 1) zX6_hears [.ref t, .int (nI l)] (ai_w m lg) (some (.int (bI (psHear s l).1))) (ai_w m' lg) := by
  have hs' := hs
  have h' := h
  obtain ⟨a1, a2, a3, a4, a5, a6, a7, a8⟩ := hs'
  obtain ⟨b1, b2, b3, b4, b5, b6, b7, b8⟩ := h'
  have h9 : s.2.2.2.1 < 2 ^ 31 := by omega
  have e0 := nI_9 (a := s.2.2.2.1) (c := 0) h9 (by omega)
  have e1 := nI_9 (a := s.2.2.2.1) (c := 1) h9 (by omega)
  by_cases h0 : s.2.2.2.1 = 0
  · have e : psHear s l = (decide (l = 72), s.1, s.2.1, s.2.2.1, 1, s.2.2.2.2) := by unfold psHear; rw [if_pos h0]
    rw [e]
    refine ⟨ai_up m t 8 (nI 1), Fr.up (j := 0) (by omega), fun _ => ⟨?_, ?_, ?_, ?_, ?_, fun i hi => ?_, fun i hi => ?_, fun i hi => ?_⟩, ?_⟩
    · rw [up_eq, if_neg (by decide)]; exact b1
    · rw [up_eq, if_neg (by decide)]; exact b2
    · rw [up_eq, if_neg (by decide)]; exact b3
    · rw [up_eq, if_pos rfl]
    · rw [up_eq, if_neg (by decide)]; exact b5
    · rw [up_ne (by omega)]; exact b6 i hi
    · rw [up_ne (by omega), up_ne (by omega)]; exact b7 i hi
    · rw [up_ne (by omega), up_ne (by omega)]; exact b8 i hi
    · rw [ev_X6_hears]
      simp only [e_X6_hears_0, e_X6_hears_1, e_X6_hears_4, e_X6_hears_7, e_X6_hears_8, e_X6_hears_9, e_X6_hears_12, e_X6_hears_13, e_X6_hears_15, e_X6_hears_18, e_X6_hears_19, e_X6_hears_22, e_X6_hears_23, e_X6_hears_24, e_X6_hears_25, e_X6_hears_28, e_X6_hears_29, e_X6_hears_32, e_X6_hears_33, e_X6_hears_34, e_X6_hears_37, e_X6_hears_38, e_X6_hears_40, e_X6_hears_43, e_X6_hears_44, e_X6_hears_48, e_X6_hears_49, e_X6_hears_50, e_X6_hears_52, e_X6_hears_55, e_X6_hears_56, e_X6_hears_58, e_X6_hears_61, e_X6_hears_62, e_X6_hears_63, e_X6_hears_64, e_X6_hears_67, e_X6_hears_69, e_X6_hears_72, e_X6_hears_73, e_X6_hears_74, e_X6_hears_76, e_X6_hears_80, e_X6_hears_83, e_X6_hears_84, e_X6_hears_85, e_X6_hears_87, e_X6_hears_91, eq_self, nI10, not_false_eq_true, not_true_eq_false, is2_i, is2_r, is2_n, nI_add, pk_mul, Nat.reduceAdd, Nat.reduceMul, hT, b4, h0, if_false, nI_9 (a := l) (c := 72) (by omega) (by omega), nar_0, nar_1]
      by_cases q : l = 72 <;> simp [q, bI]
  · by_cases h1 : s.2.2.2.1 = 1
    · have e : psHear s l = (psRoom s l, s.1, s.2.1, s.2.2.1, l, none) := by unfold psHear; rw [if_neg h0, if_pos h1]
      rw [e]
      have sr := s_X6_hasRoomFor (o := o) (d := d) (lg := lg) (m := ai_up (ai_up m t 8 (nI l)) t 9 (-9)) (s := s) hT ⟨a1, a2, a3⟩ (by rw [up_eq, if_neg (by decide), up_eq, if_neg (by decide)]; exact b1) (by rw [up_eq, if_neg (by decide), up_eq, if_neg (by decide)]; exact b2) (by rw [up_eq, if_neg (by decide), up_eq, if_neg (by decide)]; exact b3) hl
      refine ⟨ai_up (ai_up m t 8 (nI l)) t 9 (-9), (Fr.up (j := 0) (by omega)).trans (Fr.up (j := 0) (by omega)), fun _ => ⟨?_, ?_, ?_, ?_, ?_, fun i hi => ?_, fun i hi => ?_, fun i hi => ?_⟩, ?_⟩
      · rw [up_eq, if_neg (by decide), up_eq, if_neg (by decide)]; exact b1
      · rw [up_eq, if_neg (by decide), up_eq, if_neg (by decide)]; exact b2
      · rw [up_eq, if_neg (by decide), up_eq, if_neg (by decide)]; exact b3
      · rw [up_eq, if_neg (by decide), up_eq, if_pos rfl]
      · rw [up_eq, if_pos rfl]; rfl
      · rw [up_ne (by omega), up_ne (by omega)]; exact b6 i hi
      · rw [up_ne (by omega), up_ne (by omega), up_ne (by omega), up_ne (by omega)]; exact b7 i hi
      · rw [up_ne (by omega), up_ne (by omega), up_ne (by omega), up_ne (by omega)]; exact b8 i hi
      · rw [ev_X6_hears]
        simp only [e_X6_hears_0, e_X6_hears_1, e_X6_hears_4, e_X6_hears_7, e_X6_hears_8, e_X6_hears_9, e_X6_hears_12, e_X6_hears_13, e_X6_hears_15, e_X6_hears_18, e_X6_hears_19, e_X6_hears_22, e_X6_hears_23, e_X6_hears_24, e_X6_hears_25, e_X6_hears_28, e_X6_hears_29, e_X6_hears_32, e_X6_hears_33, e_X6_hears_34, e_X6_hears_37, e_X6_hears_38, e_X6_hears_40, e_X6_hears_43, e_X6_hears_44, e_X6_hears_48, e_X6_hears_49, e_X6_hears_50, e_X6_hears_52, e_X6_hears_55, e_X6_hears_56, e_X6_hears_58, e_X6_hears_61, e_X6_hears_62, e_X6_hears_63, e_X6_hears_64, e_X6_hears_67, e_X6_hears_69, e_X6_hears_72, e_X6_hears_73, e_X6_hears_74, e_X6_hears_76, e_X6_hears_80, e_X6_hears_83, e_X6_hears_84, e_X6_hears_85, e_X6_hears_87, e_X6_hears_91, eq_self, nI10, not_false_eq_true, not_true_eq_false, is2_i, is2_r, is2_n, nI_add, pk_mul, Nat.reduceAdd, Nat.reduceMul, hT, b4, h1, if_false, if_true, e_X6_hears_45 (hb := hT) (hE := sr), nar_b]
    · have n0 : (nI s.2.2.2.1 = nI 0) = False := by rw [e0]; simp [h0]
      have n1 : (nI s.2.2.2.1 = nI 1) = False := by rw [e1]; simp [h1]
      have l48 : (nI l < nI 48) = (l < 48) := propext (nI_ltI (by omega) (by omega))
      have l57 : (nI l ≤ nI 57) = (l ≤ 57) := propext (nI_leI (by omega) (by omega))
      by_cases h2 : l < 48 ∨ 57 < l
      · have e : psHear s l = (false, s) := by unfold psHear; rw [if_neg h0, if_neg h1, if_pos h2]
        rw [e]
        refine ⟨m, Fr.rfl', fun z => (by cases z), ?_⟩
        rw [ev_X6_hears]
        simp only [e_X6_hears_0, e_X6_hears_1, e_X6_hears_4, e_X6_hears_7, e_X6_hears_8, e_X6_hears_9, e_X6_hears_12, e_X6_hears_13, e_X6_hears_15, e_X6_hears_18, e_X6_hears_19, e_X6_hears_22, e_X6_hears_23, e_X6_hears_24, e_X6_hears_25, e_X6_hears_28, e_X6_hears_29, e_X6_hears_32, e_X6_hears_33, e_X6_hears_34, e_X6_hears_37, e_X6_hears_38, e_X6_hears_40, e_X6_hears_43, e_X6_hears_44, e_X6_hears_48, e_X6_hears_49, e_X6_hears_50, e_X6_hears_52, e_X6_hears_55, e_X6_hears_56, e_X6_hears_58, e_X6_hears_61, e_X6_hears_62, e_X6_hears_63, e_X6_hears_64, e_X6_hears_67, e_X6_hears_69, e_X6_hears_72, e_X6_hears_73, e_X6_hears_74, e_X6_hears_76, e_X6_hears_80, e_X6_hears_83, e_X6_hears_84, e_X6_hears_85, e_X6_hears_87, e_X6_hears_91, eq_self, nI10, not_false_eq_true, not_true_eq_false, is2_i, is2_r, is2_n, nI_add, pk_mul, Nat.reduceAdd, Nat.reduceMul, hT, b4, n0, n1, if_true, l48, l57, nar_0, bI_f]
        by_cases q : l < 48
        · simp [q]
        · have : ¬ l ≤ 57 := by omega
          simp [q, this]
      · have q1 : ¬ l < 48 := fun z => h2 (Or.inl z)
        have q2 : l ≤ 57 := by omega
        have sb : nI l - nI 48 = nI (l - 48) := pk_sub (by omega)
        cases hf : s.2.2.2.2 with
        | none =>
          obtain ⟨m', g1, g2⟩ := s_X6_hearsFirst (o := o) (d := d) (lg := lg) hT hs h (v := l - 48) (by omega) hf h0 h1
          rw [hf] at b5
          by_cases h3 : s.2.2.2.1 = 68 ∧ l - 48 = 0
          · have e : psHear s l = (false, s) := by unfold psHear; rw [if_neg h0, if_neg h1, if_neg h2, hf]; dsimp only; rw [if_pos h3]
            rw [if_pos h3] at g2
            rw [e]
            refine ⟨m', g1, fun z => (by cases z), ?_⟩
            rw [ev_X6_hears]
            simp only [e_X6_hears_0, e_X6_hears_1, e_X6_hears_4, e_X6_hears_7, e_X6_hears_8, e_X6_hears_9, e_X6_hears_12, e_X6_hears_13, e_X6_hears_15, e_X6_hears_18, e_X6_hears_19, e_X6_hears_22, e_X6_hears_23, e_X6_hears_24, e_X6_hears_25, e_X6_hears_28, e_X6_hears_29, e_X6_hears_32, e_X6_hears_33, e_X6_hears_34, e_X6_hears_37, e_X6_hears_38, e_X6_hears_40, e_X6_hears_43, e_X6_hears_44, e_X6_hears_48, e_X6_hears_49, e_X6_hears_50, e_X6_hears_52, e_X6_hears_55, e_X6_hears_56, e_X6_hears_58, e_X6_hears_61, e_X6_hears_62, e_X6_hears_63, e_X6_hears_64, e_X6_hears_67, e_X6_hears_69, e_X6_hears_72, e_X6_hears_73, e_X6_hears_74, e_X6_hears_76, e_X6_hears_80, e_X6_hears_83, e_X6_hears_84, e_X6_hears_85, e_X6_hears_87, e_X6_hears_91, eq_self, nI10, not_false_eq_true, not_true_eq_false, is2_i, is2_r, is2_n, nI_add, pk_mul, Nat.reduceAdd, Nat.reduceMul, hT, b4, n0, n1, if_true, l48, l57, q1, q2, if_false, b5, figI, sb, e_X6_hears_77 (hb := hT) (hE := g2), nar_b]
          · rw [if_neg h3] at g2
            have e : psHear s l = (true, if s.2.2.2.1 = 84 then ((s.1.1 + 1, va_up s.1.2 s.1.1 (l - 48)), s.2.1, s.2.2.1, 1, none) else (s.1, s.2.1, s.2.2.1, s.2.2.2.1, some (l - 48))) := by
              unfold psHear
              rw [if_neg h0, if_neg h1, if_neg h2, hf]
              dsimp only
              rw [if_neg h3]
              split <;> rfl
            rw [e]
            refine ⟨m', g1, fun _ => g2.1, ?_⟩
            rw [ev_X6_hears]
            simp only [e_X6_hears_0, e_X6_hears_1, e_X6_hears_4, e_X6_hears_7, e_X6_hears_8, e_X6_hears_9, e_X6_hears_12, e_X6_hears_13, e_X6_hears_15, e_X6_hears_18, e_X6_hears_19, e_X6_hears_22, e_X6_hears_23, e_X6_hears_24, e_X6_hears_25, e_X6_hears_28, e_X6_hears_29, e_X6_hears_32, e_X6_hears_33, e_X6_hears_34, e_X6_hears_37, e_X6_hears_38, e_X6_hears_40, e_X6_hears_43, e_X6_hears_44, e_X6_hears_48, e_X6_hears_49, e_X6_hears_50, e_X6_hears_52, e_X6_hears_55, e_X6_hears_56, e_X6_hears_58, e_X6_hears_61, e_X6_hears_62, e_X6_hears_63, e_X6_hears_64, e_X6_hears_67, e_X6_hears_69, e_X6_hears_72, e_X6_hears_73, e_X6_hears_74, e_X6_hears_76, e_X6_hears_80, e_X6_hears_83, e_X6_hears_84, e_X6_hears_85, e_X6_hears_87, e_X6_hears_91, eq_self, nI10, not_false_eq_true, not_true_eq_false, is2_i, is2_r, is2_n, nI_add, pk_mul, Nat.reduceAdd, Nat.reduceMul, hT, b4, n0, n1, if_true, l48, l57, q1, q2, if_false, b5, figI, sb, e_X6_hears_77 (hb := hT) (hE := g2.2), nar_b]
        | some v =>
          obtain ⟨m', g1, g2⟩ := s_X6_hearsKind (o := o) (d := d) (lg := lg) hT hs h (k := l - 48) (by omega) hf h0 h1
          have hv9 := a4 v hf
          rw [hf] at b5
          have nv : ¬ nI v = -9 := by
            have : ∀ v, v ≤ 9 → ¬ nI v = -9 := by decide +kernel
            exact this v hv9
          by_cases h3 : 3 < l - 48
          · have e : psHear s l = (false, s) := by unfold psHear; rw [if_neg h0, if_neg h1, if_neg h2, hf]; dsimp only; rw [if_pos h3]
            rw [if_pos h3] at g2
            rw [e]
            refine ⟨m', g1, fun z => (by cases z), ?_⟩
            rw [ev_X6_hears]
            simp only [e_X6_hears_0, e_X6_hears_1, e_X6_hears_4, e_X6_hears_7, e_X6_hears_8, e_X6_hears_9, e_X6_hears_12, e_X6_hears_13, e_X6_hears_15, e_X6_hears_18, e_X6_hears_19, e_X6_hears_22, e_X6_hears_23, e_X6_hears_24, e_X6_hears_25, e_X6_hears_28, e_X6_hears_29, e_X6_hears_32, e_X6_hears_33, e_X6_hears_34, e_X6_hears_37, e_X6_hears_38, e_X6_hears_40, e_X6_hears_43, e_X6_hears_44, e_X6_hears_48, e_X6_hears_49, e_X6_hears_50, e_X6_hears_52, e_X6_hears_55, e_X6_hears_56, e_X6_hears_58, e_X6_hears_61, e_X6_hears_62, e_X6_hears_63, e_X6_hears_64, e_X6_hears_67, e_X6_hears_69, e_X6_hears_72, e_X6_hears_73, e_X6_hears_74, e_X6_hears_76, e_X6_hears_80, e_X6_hears_83, e_X6_hears_84, e_X6_hears_85, e_X6_hears_87, e_X6_hears_91, eq_self, nI10, not_false_eq_true, not_true_eq_false, is2_i, is2_r, is2_n, nI_add, pk_mul, Nat.reduceAdd, Nat.reduceMul, hT, b4, n0, n1, if_true, l48, l57, q1, q2, if_false, b5, figI, nv, sb, e_X6_hears_88 (hb := hT) (hE := g2), nar_b]
          · rw [if_neg h3] at g2
            have e : psHear s l = (true, if s.2.2.2.1 = 66 then (s.1, (s.2.1.1 + 1, va_up s.2.1.2.1 s.2.1.1 v, va_up s.2.1.2.2 s.2.1.1 (l - 48)), s.2.2.1, 1, some v) else (s.1, s.2.1, (s.2.2.1.1 + 1, va_up s.2.2.1.2.1 s.2.2.1.1 v, va_up s.2.2.1.2.2 s.2.2.1.1 (l - 48)), 1, some v)) := by
              unfold psHear
              rw [if_neg h0, if_neg h1, if_neg h2, hf]
              dsimp only
              rw [if_neg h3]
              split <;> rfl
            rw [e]
            refine ⟨m', g1, fun _ => g2.1, ?_⟩
            rw [ev_X6_hears]
            simp only [e_X6_hears_0, e_X6_hears_1, e_X6_hears_4, e_X6_hears_7, e_X6_hears_8, e_X6_hears_9, e_X6_hears_12, e_X6_hears_13, e_X6_hears_15, e_X6_hears_18, e_X6_hears_19, e_X6_hears_22, e_X6_hears_23, e_X6_hears_24, e_X6_hears_25, e_X6_hears_28, e_X6_hears_29, e_X6_hears_32, e_X6_hears_33, e_X6_hears_34, e_X6_hears_37, e_X6_hears_38, e_X6_hears_40, e_X6_hears_43, e_X6_hears_44, e_X6_hears_48, e_X6_hears_49, e_X6_hears_50, e_X6_hears_52, e_X6_hears_55, e_X6_hears_56, e_X6_hears_58, e_X6_hears_61, e_X6_hears_62, e_X6_hears_63, e_X6_hears_64, e_X6_hears_67, e_X6_hears_69, e_X6_hears_72, e_X6_hears_73, e_X6_hears_74, e_X6_hears_76, e_X6_hears_80, e_X6_hears_83, e_X6_hears_84, e_X6_hears_85, e_X6_hears_87, e_X6_hears_91, eq_self, nI10, not_false_eq_true, not_true_eq_false, is2_i, is2_r, is2_n, nI_add, pk_mul, Nat.reduceAdd, Nat.reduceMul, hT, b4, n0, n1, if_true, l48, l57, q1, q2, if_false, b5, figI, nv, sb, e_X6_hears_88 (hb := hT) (hE := g2.2), nar_b]
/-- a text, from a place on: the place of the first fault, if it can't go on; what is told -/
def psTell (x : Nat → Nat) : Nat → Nat → PS → Option Nat × PS
  | _, 0, s => (none, s)
  | i, k + 1, s => if (psHear s (x i)).1 = true then psTell x (i + 1) k (psHear s (x i)).2 else (some i, s)
/-- FAULT of a text, as it is told (none: none) -/
def psFault (x : TX) : Option Nat := match psTell x.2 0 x.1 psNew with
  | (some i, _) => some i
  | (none, s) => if s.2.2.2.1 = 1 then none else some x.1
def pTold (x : TX) : PS := (psTell x.2 0 x.1 psNew).2
theorem psNew_ok : psOk psNew := ⟨Nat.zero_le _, Nat.zero_le _, Nat.zero_le _, fun v h => (by cases h), Or.inl rfl, fun i hi => absurd hi (Nat.not_lt_zero i), fun i hi => absurd hi (Nat.not_lt_zero i), fun i hi => absurd hi (Nat.not_lt_zero i)⟩
theorem lp_X5_tell {x : TX} (hT : ai_T t) (ht : t = 3 ∨ t = 9) : ∀ (k i : Nat) (s : PS) (m : Nat → Nat → Int32), i + k = x.1 → RX x m → psOk s → RPs t s m → ∃ m', Fr t m m' ∧ ((psTell x.2 i k s).1 = none → RPs t (psTell x.2 i k s).2 m' ∧ psOk (psTell x.2 i k s).2) ∧ Rn o (d + 2) zX5_tell 6 [.ref 1, .ref t, .int (nI i)] [] (ai_w m lg) (some (.int (match psTell x.2 i k s with | (some j, _) => nI j | (none, s) => if s.2.2.2.1 = 1 then -9 else nI x.1)), ai_w m' lg) := by
  intro k
  induction k with
  | zero =>
    intro i s m hk hx hs h
    have : i = x.1 := by omega
    subst this
    refine ⟨m, Fr.rfl', fun _ => ⟨h, hs⟩, ?_⟩
    rw [e_X5_tell_6]
    simp only [e_X5_tell_0, e_X5_tell_4, e_X5_tell_5_i, e_X5_tell_5_r, e_X5_tell_5_n, e_X5_tell_7, e_X5_tell_8, e_X5_tell_11, e_X5_tell_14, e_X5_tell_15, e_X5_tell_16, e_X5_tell_19, e_X5_tell_20, e_X5_tell_24, e_X5_tell_27, e_X5_tell_28, e_X5_tell_29_i, e_X5_tell_29_r, e_X5_tell_29_n, e_X5_tell_32, e_X5_tell_35, e_X5_tell_39, e_X5_tell_42, e_X5_tell_44, e_X5_tell_47, e_X5_tell_48, e_X5_tell_51, eq_self, nI10, not_false_eq_true, not_true_eq_false, is2_i, is2_r, is2_n, nI_add, pk_mul, Nat.reduceAdd, Nat.reduceMul, hx.2.1, Int32.le_refl, if_true, e_X5_tell_36 (hb := hT) (hE := s_X6_mayEnd hT hs h), bI_z, psTell]
    by_cases h1 : s.2.2.2.1 = 1 <;> simp [h1]
  | succ k ih =>
    intro i s m hk hx hs h
    have h48 := hx.1
    have hlt : i < x.1 := by omega
    have hn : ¬ nI x.1 ≤ nI i := nI_ge hlt (by omega)
    have i48 : i < 48 := by omega
    obtain ⟨c1, c2⟩ := hx.2.2 i hlt
    obtain ⟨m1, f1, f2, f3⟩ := s_X6_hears (o := o) (d := d) (lg := lg) hT hs h c2
    cases hh : (psHear s (x.2 i)).1
    · rw [hh] at f3
      refine ⟨m1, f1, fun z => ?_, ?_⟩
      · unfold psTell at z
        rw [hh] at z
        cases z
      · rw [e_X5_tell_6]
        simp only [e_X5_tell_0, e_X5_tell_4, e_X5_tell_5_i, e_X5_tell_5_r, e_X5_tell_5_n, e_X5_tell_7, e_X5_tell_8, e_X5_tell_11, e_X5_tell_14, e_X5_tell_15, e_X5_tell_16, e_X5_tell_19, e_X5_tell_20, e_X5_tell_24, e_X5_tell_27, e_X5_tell_28, e_X5_tell_29_i, e_X5_tell_29_r, e_X5_tell_29_n, e_X5_tell_32, e_X5_tell_35, e_X5_tell_39, e_X5_tell_42, e_X5_tell_44, e_X5_tell_47, e_X5_tell_48, e_X5_tell_51, eq_self, nI10, not_false_eq_true, not_true_eq_false, is2_i, is2_r, is2_n, nI_add, pk_mul, Nat.reduceAdd, Nat.reduceMul, hx.2.1, hn, if_false, q0_2, ql_2, i48, c1, e_X5_tell_21 (hb := hT) (hE := f3), bI_z, psTell, hh, Bool.false_eq_true]
    · have f2' := f2 hh
      have hx1 : RX x m1 := ⟨hx.1, by rw [f1 1 (by omega)]; exact hx.2.1, fun j hj => by rw [f1 2 (by omega)]; exact hx.2.2 j hj⟩
      obtain ⟨m', g1, g2, g3⟩ := ih (i + 1) _ m1 (by omega) hx1 (psHear_ok hs hh) f2'
      rw [hh] at f3
      have ep : psTell x.2 i (k + 1) s = psTell x.2 (i + 1) k (psHear s (x.2 i)).2 := by
        rw [psTell, if_pos hh]
      rw [ep]
      refine ⟨m', f1.trans g1, g2, ?_⟩
      rw [e_X5_tell_6]
      simp only [e_X5_tell_0, e_X5_tell_4, e_X5_tell_5_i, e_X5_tell_5_r, e_X5_tell_5_n, e_X5_tell_7, e_X5_tell_8, e_X5_tell_11, e_X5_tell_14, e_X5_tell_15, e_X5_tell_16, e_X5_tell_19, e_X5_tell_20, e_X5_tell_24, e_X5_tell_27, e_X5_tell_28, e_X5_tell_29_i, e_X5_tell_29_r, e_X5_tell_29_n, e_X5_tell_32, e_X5_tell_35, e_X5_tell_39, e_X5_tell_42, e_X5_tell_44, e_X5_tell_47, e_X5_tell_48, e_X5_tell_51, eq_self, nI10, not_false_eq_true, not_true_eq_false, is2_i, is2_r, is2_n, nI_add, pk_mul, Nat.reduceAdd, Nat.reduceMul, hx.2.1, hn, if_false, q0_2, ql_2, i48, c1, e_X5_tell_21 (hb := hT) (hE := f3), bI_z, Bool.true_eq_false, if_true]
      exact g3
def ftI (f : Option Nat) : Int32 := match f with
  | none => -9
  | some i => nI i
theorem s_X5_tell {x : TX} (hT : ai_T t) (ht : t = 3 ∨ t = 9) (hx : RX x m) : ∃ m', Fr t m m' ∧ (psFault x = none → RPs t (pTold x) m' ∧ psOk (pTold x) ∧ (pTold x).2.2.2.1 = 1) ∧ Ev o (d + 2) zX5_tell [.ref 1, .ref t] (ai_w m lg) (some (.int (ftI (psFault x)))) (ai_w m' lg) := by
  obtain ⟨m1, f1, f2, f3⟩ := s_X6_beginAnew (o := o) (d := d + 1) (lg := lg) (m := m) hT
  have hx1 : RX x m1 := ⟨hx.1, by rw [f2 1 (by omega)]; exact hx.2.1, fun j hj => by rw [f2 2 (by omega)]; exact hx.2.2 j hj⟩
  obtain ⟨m', g1, g2, g3⟩ := lp_X5_tell (o := o) (d := d) (lg := lg) hT ht x.1 0 psNew m1 (by omega) hx1 psNew_ok f1
  refine ⟨m', f2.trans g1, fun z => ?_, ?_⟩
  · unfold psFault at z
    unfold pTold
    split at z
    · cases z
    · rename_i s he
      have := g2 (by rw [he])
      rw [he] at this ⊢
      split at z
      · exact ⟨this.1, this.2, by assumption⟩
      · cases z
  · rw [ev_X5_tell]
    simp only [e_X5_tell_0, e_X5_tell_4, e_X5_tell_5_i, e_X5_tell_5_r, e_X5_tell_5_n, e_X5_tell_7, e_X5_tell_8, e_X5_tell_11, e_X5_tell_14, e_X5_tell_15, e_X5_tell_16, e_X5_tell_19, e_X5_tell_20, e_X5_tell_24, e_X5_tell_27, e_X5_tell_28, e_X5_tell_29_i, e_X5_tell_29_r, e_X5_tell_29_n, e_X5_tell_32, e_X5_tell_35, e_X5_tell_39, e_X5_tell_42, e_X5_tell_44, e_X5_tell_47, e_X5_tell_48, e_X5_tell_51, eq_self, nI10, not_false_eq_true, not_true_eq_false, is2_i, is2_r, is2_n, nI_add, pk_mul, Nat.reduceAdd, Nat.reduceMul, e_X5_tell_1 (hb := hT) (hE := f3)]
    have e : ftI (psFault x) = (match psTell x.2 0 x.1 psNew with | (some j, _) => nI j | (none, s) => if s.2.2.2.1 = 1 then -9 else nI x.1) := by
      unfold psFault
      split
      · rfl
      · split <;> rfl
    rw [e]
    exact g3
end P41
