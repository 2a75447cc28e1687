/-! SleepHarbour's own methods: doings judged, years -/
def lT (v : Int64) : Nat := v.toBitVec.toNat
theorem lT_lN {n : Nat} (h : n < 2 ^ 64) : lT (lN n) = n := by
  unfold lT lN
  show (BitVec.ofNat 64 n).toNat = n
  rw [BitVec.toNat_ofNat, Nat.mod_eq_of_lt h]
theorem lN_lT (v : Int64) : lN (lT v) = v := by
  apply Int64.toBitVec_inj.1
  show BitVec.ofNat 64 v.toBitVec.toNat = v.toBitVec
  simp
/-- what is left of the seed -/
def yrQ (v : Int64) : Nat := lT v / 2 ^ 33 % 32
theorem sh33 (v : Int64) : (v.toUInt64 >>> ((nI 33).toInt64.toUInt64 &&& Int64.toUInt64 63)).toInt64 = lN (lT v / 2 ^ 33) := by
  apply Int64.toBitVec_inj.1
  have e : ((nI 33).toInt64.toUInt64 &&& Int64.toUInt64 63) = 33 := by decide
  rw [e]
  apply BitVec.eq_of_toNat_eq
  have hv : lT v < 2 ^ 64 := v.toBitVec.isLt
  show (v.toUInt64 >>> 33).toBitVec.toNat = (BitVec.ofNat 64 (lT v / 2 ^ 33)).toNat
  rw [BitVec.toNat_ofNat, Nat.mod_eq_of_lt (by omega), UInt64.toBitVec_shiftRight]
  show (v.toBitVec >>> ((33 : UInt64).toBitVec % 64)).toNat = _
  rw [show ((33 : UInt64).toBitVec % 64) = 33#64 from by decide]
  rw [BitVec.ushiftRight_eq', BitVec.toNat_ushiftRight, Nat.shiftRight_eq_div_pow]
  rfl
theorem rem32 (v : Int64) : (lN (lT v / 2 ^ 33) - lN (lT v / 2 ^ 33) / 32 * 32).toInt32 = nI (yrQ v) := by
  have hv : lT v < 2 ^ 64 := v.toBitVec.isLt
  rw [show (32 : Int64) = lN 32 from rfl, pk_lRem (by omega) (by decide) (by decide), lN_i]
  rfl
theorem yrQ_lt (v : Int64) : yrQ v < 32 := Nat.mod_lt _ (by decide)
def sdN (v : Int64) : Int64 := v * 6364136223846793005 + 1442695040888963407
/-- years: steps to go, the harbour, the seed, dreamt so far -/
def yrs (p : PT) : Nat → HS → Int64 → Nat → Nat × Int64
  | 0, _, s, a => (a, s)
  | j + 1, y, s, a => yrs p j (pDrift p y (yrQ (sdN s))) (sdN s) (a + cn (atP (pDrift p y (yrQ (sdN s))) 9) p.2.2.2.2.1)
/-- doings judged: steps to go, which is next -/
def jdg (p : PT) (R N : Nat) : Nat → Nat → HS → Int32
  | 0, _, _ => -9
  | j + 1, i, y => if (pDoes p y (R / 1000 ^ (N - 1 - i) % 1000)).1 = true then jdg p R N j (i + 1) (pDoes p y (R / 1000 ^ (N - 1 - i) % 1000)).2 else nI i
section P47
variable {o : ai_S} {d : Nat} {w : ai_W} {m m' : Nat → Nat → Int32} {lg lg' : Nat → Nat → Int64} {tx : TX} {p : PT} {x : HS} {n : Nat} {A : Nat → HS} {kp : Nat → Bool} {K : Nat → HS} {so : SO} {sd : Int64} {r : Option Value × ai_W} {k k2 k3 : Int32}
theorem s_X7_withoutLast {R N : Nat} (hR : R < 2 ^ 63) (hN : N < 2 ^ 31) : Ev o d zX7_withoutLast [.long (lN R), .int (nI N)] w (some (.long (lN (R / 1000 ^ N)))) w := by
  have z1 : ¬ (1000 : Int64) = 0 := by decide
  have lp : ∀ j i, i + j = N → Rn o d zX7_withoutLast 5 [.long (lN R), .null, .int (nI N), .long (lN (R / 1000 ^ i)), .null, .int (nI i)] [] w (some (.long (lN (R / 1000 ^ N))), w) := by
    intro j
    induction j with
    | zero =>
      intro i hj
      have : i = N := by omega
      subst this
      rw [e_X7_withoutLast_5]
      simp only [e_X7_withoutLast_0, e_X7_withoutLast_1_i, e_X7_withoutLast_1_r, e_X7_withoutLast_1_n, e_X7_withoutLast_2, e_X7_withoutLast_3_i, e_X7_withoutLast_3_r, e_X7_withoutLast_3_n, e_X7_withoutLast_7, e_X7_withoutLast_8, e_X7_withoutLast_11, e_X7_withoutLast_12, e_X7_withoutLast_15, e_X7_withoutLast_16_i, e_X7_withoutLast_16_r, e_X7_withoutLast_16_n, e_X7_withoutLast_17_i, e_X7_withoutLast_17_r, e_X7_withoutLast_17_n, e_X7_withoutLast_20, e_X7_withoutLast_23, e_X7_withoutLast_24, eq_self, nI10, not_false_eq_true, not_true_eq_false, is2_i, is2_r, is2_n, nI_add, pk_mul, Nat.reduceAdd, Nat.reduceMul, Int32.le_refl, if_true]
    | succ j ih =>
      intro i hj
      have e1 : ¬ nI N ≤ nI i := nI_ge (by omega) hN
      have hle : R / 1000 ^ i ≤ R := Nat.div_le_self _ _
      have e2 : lN (R / 1000 ^ i) / 1000 = lN (R / 1000 ^ (i + 1)) := by
        rw [show (1000 : Int64) = lN 1000 from rfl, pk_lDiv (by omega) (by decide) (by decide), Nat.div_div_eq_div_mul, Nat.pow_succ]
      have := ih (i + 1) (by omega)
      rw [e_X7_withoutLast_5]
      simp only [e_X7_withoutLast_0, e_X7_withoutLast_1_i, e_X7_withoutLast_1_r, e_X7_withoutLast_1_n, e_X7_withoutLast_2, e_X7_withoutLast_3_i, e_X7_withoutLast_3_r, e_X7_withoutLast_3_n, e_X7_withoutLast_7, e_X7_withoutLast_8, e_X7_withoutLast_11, e_X7_withoutLast_12, e_X7_withoutLast_15, e_X7_withoutLast_16_i, e_X7_withoutLast_16_r, e_X7_withoutLast_16_n, e_X7_withoutLast_17_i, e_X7_withoutLast_17_r, e_X7_withoutLast_17_n, e_X7_withoutLast_20, e_X7_withoutLast_23, e_X7_withoutLast_24, eq_self, nI10, not_false_eq_true, not_true_eq_false, is2_i, is2_r, is2_n, nI_add, pk_mul, Nat.reduceAdd, Nat.reduceMul, e1, if_false, z1, e2]
      exact this
  rw [ev_X7_withoutLast]
  simp only [e_X7_withoutLast_0, e_X7_withoutLast_1_i, e_X7_withoutLast_1_r, e_X7_withoutLast_1_n, e_X7_withoutLast_2, e_X7_withoutLast_3_i, e_X7_withoutLast_3_r, e_X7_withoutLast_3_n, e_X7_withoutLast_7, e_X7_withoutLast_8, e_X7_withoutLast_11, e_X7_withoutLast_12, e_X7_withoutLast_15, e_X7_withoutLast_16_i, e_X7_withoutLast_16_r, e_X7_withoutLast_16_n, e_X7_withoutLast_17_i, e_X7_withoutLast_17_r, e_X7_withoutLast_17_n, e_X7_withoutLast_20, e_X7_withoutLast_23, e_X7_withoutLast_24, eq_self, nI10, not_false_eq_true, not_true_eq_false, is2_i, is2_r, is2_n, nI_add, pk_mul, Nat.reduceAdd, Nat.reduceMul]
  have := lp N 0 (by omega)
  rw [Nat.pow_zero, Nat.div_one] at this
  exact this
def aJudge (p : PT) (x : HS) (k : Int32) (v : Int64) : Int32 := match swN k 5 with
  | some (N + 1) => if v < 0 then -2 else if lT v < 1000 ^ (N + 1) then jdg p (lT v) (N + 1) (N + 1) 0 x else -2
  | _ => -2
theorem lp_X7_judge {R N : Nat} (hR : R < 2 ^ 63) (hN : N ≤ 4) : ∀ (j i : Nat) (m : Nat → Nat → Int32) (y : HS), i + j = N → RT p m → RH p y m 21 → y.2.2.2.2.2 + j ≤ 1000 → ∃ m', Fr 21 m m' ∧ Rn o (d + 20) zX7_judge 46 [.ref 0, .int (nI N), .long (lN R), .null, .int (nI i)] [] (ai_w m lg) (some (.int (jdg p R N j i y)), ai_w m' lg) := by
  have z1 : ¬ (1000 : Int64) = 0 := by decide
  intro j
  induction j with
  | zero =>
    intro i m y hj hp hh hng
    have : i = N := by omega
    subst this
    refine ⟨m, Fr.rfl', ?_⟩
    rw [e_X7_judge_46]
    simp only [e_X7_judge_0, e_X7_judge_1, e_X7_judge_2, e_X7_judge_5, e_X7_judge_6, e_X7_judge_7, e_X7_judge_10, e_X7_judge_11, e_X7_judge_12, e_X7_judge_13, e_X7_judge_16, e_X7_judge_18, e_X7_judge_19, e_X7_judge_20, e_X7_judge_24, e_X7_judge_25, e_X7_judge_26, e_X7_judge_29, e_X7_judge_31, e_X7_judge_32, e_X7_judge_33, e_X7_judge_36, e_X7_judge_37, e_X7_judge_43, e_X7_judge_44_i, e_X7_judge_44_r, e_X7_judge_44_n, e_X7_judge_48, e_X7_judge_49, e_X7_judge_52, e_X7_judge_53, e_X7_judge_56, e_X7_judge_57, e_X7_judge_58, e_X7_judge_59, e_X7_judge_60, e_X7_judge_62, e_X7_judge_66, e_X7_judge_69, e_X7_judge_70, e_X7_judge_74, e_X7_judge_77, e_X7_judge_79, e_X7_judge_80_i, e_X7_judge_80_r, e_X7_judge_80_n, e_X7_judge_83, e_X7_judge_86, e_X7_judge_88, eq_self, nI10, not_false_eq_true, not_true_eq_false, is2_i, is2_r, is2_n, nI_add, pk_mul, Nat.reduceAdd, Nat.reduceMul, Int32.le_refl, if_true, jdg]
  | succ j ih =>
    intro i m y hj hp hh hng
    have e1 : ¬ nI N ≤ nI i := nI_ge (by omega) (by omega)
    have s1 : nI N - nI 1 = nI (N - 1) := pk_sub (by omega)
    have s2 : nI (N - 1) - nI i = nI (N - 1 - i) := pk_sub (by omega)
    have wl := s_X7_withoutLast (o := o) (d := d + 19) (w := ai_w m lg) (R := R) (N := N - 1 - i) hR (by omega)
    have hle : R / 1000 ^ (N - 1 - i) ≤ R := Nat.div_le_self _ _
    have e2 : (lN (R / 1000 ^ (N - 1 - i)) - lN (R / 1000 ^ (N - 1 - i)) / 1000 * 1000).toInt32 = nI (R / 1000 ^ (N - 1 - i) % 1000) := by
      rw [show (1000 : Int64) = lN 1000 from rfl, pk_lRem (by omega) (by decide) (by decide), lN_i]
    obtain ⟨m1, f1, f2, f3⟩ := s_X2_does (o := o) (d := d + 14) (lg := lg) ai_H21 hp hh (by omega) (q := R / 1000 ^ (N - 1 - i) % 1000) (Nat.mod_lt _ (by decide))
    have hng1 := pDoes_ng p y (R / 1000 ^ (N - 1 - i) % 1000)
    cases q : (pDoes p y (R / 1000 ^ (N - 1 - i) % 1000)).1
    · rw [q] at f3
      refine ⟨m1, f2, ?_⟩
      rw [e_X7_judge_46]
      simp only [e_X7_judge_0, e_X7_judge_1, e_X7_judge_2, e_X7_judge_5, e_X7_judge_6, e_X7_judge_7, e_X7_judge_10, e_X7_judge_11, e_X7_judge_12, e_X7_judge_13, e_X7_judge_16, e_X7_judge_18, e_X7_judge_19, e_X7_judge_20, e_X7_judge_24, e_X7_judge_25, e_X7_judge_26, e_X7_judge_29, e_X7_judge_31, e_X7_judge_32, e_X7_judge_33, e_X7_judge_36, e_X7_judge_37, e_X7_judge_43, e_X7_judge_44_i, e_X7_judge_44_r, e_X7_judge_44_n, e_X7_judge_48, e_X7_judge_49, e_X7_judge_52, e_X7_judge_53, e_X7_judge_56, e_X7_judge_57, e_X7_judge_58, e_X7_judge_59, e_X7_judge_60, e_X7_judge_62, e_X7_judge_66, e_X7_judge_69, e_X7_judge_70, e_X7_judge_74, e_X7_judge_77, e_X7_judge_79, e_X7_judge_80_i, e_X7_judge_80_r, e_X7_judge_80_n, e_X7_judge_83, e_X7_judge_86, e_X7_judge_88, eq_self, nI10, not_false_eq_true, not_true_eq_false, is2_i, is2_r, is2_n, nI_add, pk_mul, Nat.reduceAdd, Nat.reduceMul, e1, if_false, s1, s2, e_X7_judge_63 (hE := wl), z1, e2, e_X7_judge_71 (hb := ai_H21) (hE := f3), bI_z, jdg, q, Bool.false_eq_true]
    · rw [q] at f3
      obtain ⟨m', g1, g2⟩ := ih (i + 1) m1 _ (by omega) (hp.fr ai_H21 f2) f1 (by omega)
      refine ⟨m', f2.trans g1, ?_⟩
      rw [e_X7_judge_46]
      simp only [e_X7_judge_0, e_X7_judge_1, e_X7_judge_2, e_X7_judge_5, e_X7_judge_6, e_X7_judge_7, e_X7_judge_10, e_X7_judge_11, e_X7_judge_12, e_X7_judge_13, e_X7_judge_16, e_X7_judge_18, e_X7_judge_19, e_X7_judge_20, e_X7_judge_24, e_X7_judge_25, e_X7_judge_26, e_X7_judge_29, e_X7_judge_31, e_X7_judge_32, e_X7_judge_33, e_X7_judge_36, e_X7_judge_37, e_X7_judge_43, e_X7_judge_44_i, e_X7_judge_44_r, e_X7_judge_44_n, e_X7_judge_48, e_X7_judge_49, e_X7_judge_52, e_X7_judge_53, e_X7_judge_56, e_X7_judge_57, e_X7_judge_58, e_X7_judge_59, e_X7_judge_60, e_X7_judge_62, e_X7_judge_66, e_X7_judge_69, e_X7_judge_70, e_X7_judge_74, e_X7_judge_77, e_X7_judge_79, e_X7_judge_80_i, e_X7_judge_80_r, e_X7_judge_80_n, e_X7_judge_83, e_X7_judge_86, e_X7_judge_88, eq_self, nI10, not_false_eq_true, not_true_eq_false, is2_i, is2_r, is2_n, nI_add, pk_mul, Nat.reduceAdd, Nat.reduceMul, e1, if_false, s1, s2, e_X7_judge_63 (hE := wl), z1, e2, e_X7_judge_71 (hb := ai_H21) (hE := f3), bI_z, jdg, q, if_true, Bool.true_eq_false]
      exact g2
theorem s_X7_judge {v : Int64} (h : RC tx p x n A kp K so sd m lg) (hng : x.2.2.2.2.2 + 40 ≤ 1000) : ∃ m', RC tx p x n A kp K so sd m' lg ∧ FrC m m' ∧ Ev o (d + 20) zX7_judge [.ref 0, .int k, .long v] (ai_w m lg) (some (.int (aJudge p x k v))) (ai_w m' lg) := by
  have hp := h.2.1
  have hh := h.2.2.1
  rcases sw_cases k 5 (by decide) with ⟨N, hN, rfl, hs, _⟩ | ⟨hs, _, hn⟩
  · by_cases N0 : N = 0
    · subst N0
      have ea : aJudge p x (nI 0) v = -2 := by unfold aJudge; rw [hs]
      have e1 : nI 0 < nI 1 := by decide
      rw [ea]
      refine ⟨m, h, fun _ _ => rfl, ?_⟩
      rw [ev_X7_judge]
      simp only [e_X7_judge_0, e_X7_judge_1, e_X7_judge_2, e_X7_judge_5, e_X7_judge_6, e_X7_judge_7, e_X7_judge_10, e_X7_judge_11, e_X7_judge_12, e_X7_judge_13, e_X7_judge_16, e_X7_judge_18, e_X7_judge_19, e_X7_judge_20, e_X7_judge_24, e_X7_judge_25, e_X7_judge_26, e_X7_judge_29, e_X7_judge_31, e_X7_judge_32, e_X7_judge_33, e_X7_judge_36, e_X7_judge_37, e_X7_judge_43, e_X7_judge_44_i, e_X7_judge_44_r, e_X7_judge_44_n, e_X7_judge_48, e_X7_judge_49, e_X7_judge_52, e_X7_judge_53, e_X7_judge_56, e_X7_judge_57, e_X7_judge_58, e_X7_judge_59, e_X7_judge_60, e_X7_judge_62, e_X7_judge_66, e_X7_judge_69, e_X7_judge_70, e_X7_judge_74, e_X7_judge_77, e_X7_judge_79, e_X7_judge_80_i, e_X7_judge_80_r, e_X7_judge_80_n, e_X7_judge_83, e_X7_judge_86, e_X7_judge_88, eq_self, nI10, not_false_eq_true, not_true_eq_false, is2_i, is2_r, is2_n, nI_add, pk_mul, Nat.reduceAdd, Nat.reduceMul, e1, if_true]
    · obtain ⟨N', rfl⟩ : ∃ N', N = N' + 1 := ⟨N - 1, by omega⟩
      have e1 : ¬ nI (N' + 1) < nI 1 := nI_nlt (by omega) (by omega)
      have e2 : ¬ nI 4 < nI (N' + 1) := nI_nlt (by omega) (by omega)
      have ea : aJudge p x (nI (N' + 1)) v = if v < 0 then -2 else if lT v < 1000 ^ (N' + 1) then jdg p (lT v) (N' + 1) (N' + 1) 0 x else -2 := by unfold aJudge; rw [hs]
      have ec : (nI 0 ≤ lg_cmp v 0) = ((0 : Int64) ≤ v) := propext (lg_cmp_ge v 0)
      rw [ea]
      by_cases hv : v < 0
      · rw [if_pos hv]
        have : ¬ (0 : Int64) ≤ v := Int64.not_le.mpr hv
        refine ⟨m, h, fun _ _ => rfl, ?_⟩
        rw [ev_X7_judge]
        simp only [e_X7_judge_0, e_X7_judge_1, e_X7_judge_2, e_X7_judge_5, e_X7_judge_6, e_X7_judge_7, e_X7_judge_10, e_X7_judge_11, e_X7_judge_12, e_X7_judge_13, e_X7_judge_16, e_X7_judge_18, e_X7_judge_19, e_X7_judge_20, e_X7_judge_24, e_X7_judge_25, e_X7_judge_26, e_X7_judge_29, e_X7_judge_31, e_X7_judge_32, e_X7_judge_33, e_X7_judge_36, e_X7_judge_37, e_X7_judge_43, e_X7_judge_44_i, e_X7_judge_44_r, e_X7_judge_44_n, e_X7_judge_48, e_X7_judge_49, e_X7_judge_52, e_X7_judge_53, e_X7_judge_56, e_X7_judge_57, e_X7_judge_58, e_X7_judge_59, e_X7_judge_60, e_X7_judge_62, e_X7_judge_66, e_X7_judge_69, e_X7_judge_70, e_X7_judge_74, e_X7_judge_77, e_X7_judge_79, e_X7_judge_80_i, e_X7_judge_80_r, e_X7_judge_80_n, e_X7_judge_83, e_X7_judge_86, e_X7_judge_88, eq_self, nI10, not_false_eq_true, not_true_eq_false, is2_i, is2_r, is2_n, nI_add, pk_mul, Nat.reduceAdd, Nat.reduceMul, e1, e2, if_false, ec, this]
      · rw [if_neg hv]
        have h0 : (0 : Int64) ≤ v := Int64.not_lt.mp hv
        obtain ⟨R, hR, rfl⟩ := pk_lOf hv
        rw [lT_lN (show R < 2 ^ 64 by omega)]
        have wl := s_X7_withoutLast (o := o) (d := d + 19) (w := ai_w m lg) (R := R) (N := N' + 1) hR (by omega)
        have hle : R / 1000 ^ (N' + 1) ≤ R := Nat.div_le_self _ _
        have ez : (lg_cmp (lN (R / 1000 ^ (N' + 1))) 0 = nI 0) = (R / 1000 ^ (N' + 1) = 0) := propext ((lg_cmp_eq _ _).trans (pk_lEQ (b := 0) (by omega) (by decide)))
        have pos : 0 < 1000 ^ (N' + 1) := Nat.pow_pos (by decide)
        have ed : R / 1000 ^ (N' + 1) = 0 ↔ R < 1000 ^ (N' + 1) := Nat.div_eq_zero_iff_lt pos
        by_cases hq : R < 1000 ^ (N' + 1)
        · rw [if_pos hq]
          obtain ⟨m1, f1, f2, f3⟩ := s_X2_becomes (o := o) (d := d + 18) (lg := lg) ai_H21 ai_H15 (by decide) hp hh
          obtain ⟨m', g1, g2⟩ := lp_X7_judge (o := o) (d := d) (lg := lg) hR (N := N' + 1) (by omega) (N' + 1) 0 m1 x (by omega) (hp.fr ai_H21 f2) f1 (by omega)
          have fr := scr_Fr (f2.trans g1)
          refine ⟨m', h.q fr, frC_of fr, ?_⟩
          rw [ev_X7_judge]
          simp only [e_X7_judge_0, e_X7_judge_1, e_X7_judge_2, e_X7_judge_5, e_X7_judge_6, e_X7_judge_7, e_X7_judge_10, e_X7_judge_11, e_X7_judge_12, e_X7_judge_13, e_X7_judge_16, e_X7_judge_18, e_X7_judge_19, e_X7_judge_20, e_X7_judge_24, e_X7_judge_25, e_X7_judge_26, e_X7_judge_29, e_X7_judge_31, e_X7_judge_32, e_X7_judge_33, e_X7_judge_36, e_X7_judge_37, e_X7_judge_43, e_X7_judge_44_i, e_X7_judge_44_r, e_X7_judge_44_n, e_X7_judge_48, e_X7_judge_49, e_X7_judge_52, e_X7_judge_53, e_X7_judge_56, e_X7_judge_57, e_X7_judge_58, e_X7_judge_59, e_X7_judge_60, e_X7_judge_62, e_X7_judge_66, e_X7_judge_69, e_X7_judge_70, e_X7_judge_74, e_X7_judge_77, e_X7_judge_79, e_X7_judge_80_i, e_X7_judge_80_r, e_X7_judge_80_n, e_X7_judge_83, e_X7_judge_86, e_X7_judge_88, eq_self, nI10, not_false_eq_true, not_true_eq_false, is2_i, is2_r, is2_n, nI_add, pk_mul, Nat.reduceAdd, Nat.reduceMul, e1, e2, if_false, ec, h0, if_true, e_X7_judge_21 (hE := wl), ez, ed.mpr hq, e_X7_judge_40 (hb := ai_H21) (hE := f3)]
          exact g2
        · rw [if_neg hq]
          have hq' : ¬ R / 1000 ^ (N' + 1) = 0 := fun z => hq (ed.mp z)
          refine ⟨m, h, fun _ _ => rfl, ?_⟩
          rw [ev_X7_judge]
          simp only [e_X7_judge_0, e_X7_judge_1, e_X7_judge_2, e_X7_judge_5, e_X7_judge_6, e_X7_judge_7, e_X7_judge_10, e_X7_judge_11, e_X7_judge_12, e_X7_judge_13, e_X7_judge_16, e_X7_judge_18, e_X7_judge_19, e_X7_judge_20, e_X7_judge_24, e_X7_judge_25, e_X7_judge_26, e_X7_judge_29, e_X7_judge_31, e_X7_judge_32, e_X7_judge_33, e_X7_judge_36, e_X7_judge_37, e_X7_judge_43, e_X7_judge_44_i, e_X7_judge_44_r, e_X7_judge_44_n, e_X7_judge_48, e_X7_judge_49, e_X7_judge_52, e_X7_judge_53, e_X7_judge_56, e_X7_judge_57, e_X7_judge_58, e_X7_judge_59, e_X7_judge_60, e_X7_judge_62, e_X7_judge_66, e_X7_judge_69, e_X7_judge_70, e_X7_judge_74, e_X7_judge_77, e_X7_judge_79, e_X7_judge_80_i, e_X7_judge_80_r, e_X7_judge_80_n, e_X7_judge_83, e_X7_judge_86, e_X7_judge_88, eq_self, nI10, not_false_eq_true, not_true_eq_false, is2_i, is2_r, is2_n, nI_add, pk_mul, Nat.reduceAdd, Nat.reduceMul, e1, e2, if_false, ec, h0, if_true, e_X7_judge_21 (hE := wl), ez, hq']
  · have ea : aJudge p x k v = -2 := by unfold aJudge; rw [hs]
    rw [ea]
    refine ⟨m, h, fun _ _ => rfl, ?_⟩
    rw [ev_X7_judge]
    rcases hn with hn | ⟨j, hj, hj2, rfl⟩
    · have a1 : k < nI 1 := Int32.lt_trans hn (by decide)
      simp only [e_X7_judge_0, e_X7_judge_1, e_X7_judge_2, e_X7_judge_5, e_X7_judge_6, e_X7_judge_7, e_X7_judge_10, e_X7_judge_11, e_X7_judge_12, e_X7_judge_13, e_X7_judge_16, e_X7_judge_18, e_X7_judge_19, e_X7_judge_20, e_X7_judge_24, e_X7_judge_25, e_X7_judge_26, e_X7_judge_29, e_X7_judge_31, e_X7_judge_32, e_X7_judge_33, e_X7_judge_36, e_X7_judge_37, e_X7_judge_43, e_X7_judge_44_i, e_X7_judge_44_r, e_X7_judge_44_n, e_X7_judge_48, e_X7_judge_49, e_X7_judge_52, e_X7_judge_53, e_X7_judge_56, e_X7_judge_57, e_X7_judge_58, e_X7_judge_59, e_X7_judge_60, e_X7_judge_62, e_X7_judge_66, e_X7_judge_69, e_X7_judge_70, e_X7_judge_74, e_X7_judge_77, e_X7_judge_79, e_X7_judge_80_i, e_X7_judge_80_r, e_X7_judge_80_n, e_X7_judge_83, e_X7_judge_86, e_X7_judge_88, eq_self, nI10, not_false_eq_true, not_true_eq_false, is2_i, is2_r, is2_n, nI_add, pk_mul, Nat.reduceAdd, Nat.reduceMul, a1, if_true]
    · have a1 : ¬ nI j < nI 1 := nI_nlt (by omega) hj2
      have a2 : nI 4 < nI j := nI_lt (by omega) hj2
      simp only [e_X7_judge_0, e_X7_judge_1, e_X7_judge_2, e_X7_judge_5, e_X7_judge_6, e_X7_judge_7, e_X7_judge_10, e_X7_judge_11, e_X7_judge_12, e_X7_judge_13, e_X7_judge_16, e_X7_judge_18, e_X7_judge_19, e_X7_judge_20, e_X7_judge_24, e_X7_judge_25, e_X7_judge_26, e_X7_judge_29, e_X7_judge_31, e_X7_judge_32, e_X7_judge_33, e_X7_judge_36, e_X7_judge_37, e_X7_judge_43, e_X7_judge_44_i, e_X7_judge_44_r, e_X7_judge_44_n, e_X7_judge_48, e_X7_judge_49, e_X7_judge_52, e_X7_judge_53, e_X7_judge_56, e_X7_judge_57, e_X7_judge_58, e_X7_judge_59, e_X7_judge_60, e_X7_judge_62, e_X7_judge_66, e_X7_judge_69, e_X7_judge_70, e_X7_judge_74, e_X7_judge_77, e_X7_judge_79, e_X7_judge_80_i, e_X7_judge_80_r, e_X7_judge_80_n, e_X7_judge_83, e_X7_judge_86, e_X7_judge_88, eq_self, nI10, not_false_eq_true, not_true_eq_false, is2_i, is2_r, is2_n, nI_add, pk_mul, Nat.reduceAdd, Nat.reduceMul, a1, a2, if_false, if_true]
theorem lp_X7_years {M : Nat} (hM : M ≤ 30) : ∀ (j i a : Nat) (m : Nat → Nat → Int32) (lg : Nat → Nat → Int64) (y : HS), i + j = M → RT p m → RH p y m 21 → y.2.2.2.2.2 + j ≤ 1000 → ∃ m' lg', Fr 21 m m' ∧ (∀ c, c ≠ 0 → lg' c = lg c) ∧ lg' 0 11 = (yrs p j y (lg 0 11) a).2 ∧ Rn o (d + 20) zX7_years 29 [.ref 0, .int (nI M), .int (nI a), .int (nI i)] [] (ai_w m lg) (some (.int (nI (yrs p j y (lg 0 11) a).1)), ai_w m' lg') := by
  have z1 : ¬ (32 : Int64) = 0 := by decide
  intro j
  induction j with
  | zero =>
    intro i a m lg y hj hp hh hng
    have : i = M := by omega
    subst this
    refine ⟨m, lg, Fr.rfl', fun _ _ => rfl, rfl, ?_⟩
    rw [e_X7_years_29]
    simp only [e_X7_years_0, e_X7_years_1, e_X7_years_2, e_X7_years_5, e_X7_years_6, e_X7_years_8, e_X7_years_11, e_X7_years_13, e_X7_years_14, e_X7_years_15, e_X7_years_18, e_X7_years_19, e_X7_years_25, e_X7_years_26_i, e_X7_years_26_r, e_X7_years_26_n, e_X7_years_27, e_X7_years_28_i, e_X7_years_28_r, e_X7_years_28_n, e_X7_years_30, e_X7_years_31, e_X7_years_34, e_X7_years_35, e_X7_years_36, e_X7_years_39, e_X7_years_42, e_X7_years_43, e_X7_years_46, e_X7_years_47, e_X7_years_50, e_X7_years_51, e_X7_years_54, e_X7_years_55, e_X7_years_58, e_X7_years_60, e_X7_years_61, e_X7_years_64, e_X7_years_65, e_X7_years_69, e_X7_years_70, e_X7_years_71, e_X7_years_74, e_X7_years_79, e_X7_years_80_i, e_X7_years_80_r, e_X7_years_80_n, e_X7_years_81_i, e_X7_years_81_r, e_X7_years_81_n, e_X7_years_84, e_X7_years_87, e_X7_years_88, eq_self, nI10, not_false_eq_true, not_true_eq_false, is2_i, is2_r, is2_n, nI_add, pk_mul, Nat.reduceAdd, Nat.reduceMul, Int32.le_refl, if_true, yrs]
  | succ j ih =>
    intro i a m lg y hj hp hh hng
    have e1 : ¬ nI M ≤ nI i := nI_ge (by omega) (by omega)
    have eu : ai_upL lg 0 11 (sdN (lg 0 11)) 0 11 = sdN (lg 0 11) := by simp [ai_upL, vp_updL]
    obtain ⟨m1, f1, f2, f3⟩ := s_X2_drift (o := o) (d := d + 14) (lg := ai_upL lg 0 11 (sdN (lg 0 11))) ai_H21 hp hh (by omega) (yrQ_lt (sdN (lg 0 11)))
    have hp1 := hp.fr ai_H21 f2
    have sc := s_X2_countAt (o := o) (d := d + 18) (lg := ai_upL lg 0 11 (sdN (lg 0 11))) hp1 f1 ai_H21 (c := 9) (by omega)
    have hng1 := pDrift_ng p y (yrQ (sdN (lg 0 11)))
    obtain ⟨m', lg', g1, g2, g3, g4⟩ := ih (i + 1) (a + cn (atP (pDrift p y (yrQ (sdN (lg 0 11)))) 9) p.2.2.2.2.1) m1 (ai_upL lg 0 11 (sdN (lg 0 11))) _ (by omega) hp1 f1 (by omega)
    rw [eu] at g3 g4
    refine ⟨m', lg', f2.trans g1, fun c hc => by rw [g2 c hc]; simp [ai_upL, hc], g3, ?_⟩
    rw [e_X7_years_29]
    have es : lg 0 11 * 6364136223846793005 + 1442695040888963407 = sdN (lg 0 11) := rfl
    simp only [e_X7_years_0, e_X7_years_1, e_X7_years_2, e_X7_years_5, e_X7_years_6, e_X7_years_8, e_X7_years_11, e_X7_years_13, e_X7_years_14, e_X7_years_15, e_X7_years_18, e_X7_years_19, e_X7_years_25, e_X7_years_26_i, e_X7_years_26_r, e_X7_years_26_n, e_X7_years_27, e_X7_years_28_i, e_X7_years_28_r, e_X7_years_28_n, e_X7_years_30, e_X7_years_31, e_X7_years_34, e_X7_years_35, e_X7_years_36, e_X7_years_39, e_X7_years_42, e_X7_years_43, e_X7_years_46, e_X7_years_47, e_X7_years_50, e_X7_years_51, e_X7_years_54, e_X7_years_55, e_X7_years_58, e_X7_years_60, e_X7_years_61, e_X7_years_64, e_X7_years_65, e_X7_years_69, e_X7_years_70, e_X7_years_71, e_X7_years_74, e_X7_years_79, e_X7_years_80_i, e_X7_years_80_r, e_X7_years_80_n, e_X7_years_81_i, e_X7_years_81_r, e_X7_years_81_n, e_X7_years_84, e_X7_years_87, e_X7_years_88, eq_self, nI10, not_false_eq_true, not_true_eq_false, is2_i, is2_r, is2_n, nI_add, pk_mul, Nat.reduceAdd, Nat.reduceMul, e1, if_false, es, eu, sh33, z1, rem32, e_X7_years_66 (hb := ai_H21) (hE := f3), e_X7_years_76 (hb := ai_H21) (hE := sc)]
    exact g4
def aYears (p : PT) (x : HS) (sd : Int64) (k : Int32) : Int32 := match swN k 31 with
  | some (M + 1) => nI (yrs p (M + 1) x sd 0).1
  | _ => -2
def uYears (p : PT) (x : HS) (sd : Int64) (k : Int32) : Int64 := match swN k 31 with
  | some (M + 1) => (yrs p (M + 1) x sd 0).2
  | _ => sd
theorem s_X7_years (h : RC tx p x n A kp K so sd m lg) (hng : x.2.2.2.2.2 + 40 ≤ 1000) : ∃ m' lg', RC tx p x n A kp K so (uYears p x sd k) m' lg' ∧ FrC m m' ∧ (∀ c, c ≠ 0 → lg' c = lg c) ∧ Ev o (d + 20) zX7_years [.ref 0, .int k] (ai_w m lg) (some (.int (aYears p x sd k))) (ai_w m' lg') := by
  have hp := h.2.1
  have hh := h.2.2.1
  rcases sw_cases k 31 (by decide) with ⟨N, hN, rfl, hs, _⟩ | ⟨hs, _, hn⟩
  · by_cases N0 : N = 0
    · subst N0
      have ea : aYears p x sd (nI 0) = -2 := by unfold aYears; rw [hs]
      have eu : uYears p x sd (nI 0) = sd := by unfold uYears; rw [hs]
      have e1 : nI 0 < nI 1 := by decide
      rw [ea, eu]
      refine ⟨m, lg, h, fun _ _ => rfl, fun _ _ => rfl, ?_⟩
      rw [ev_X7_years]
      simp only [e_X7_years_0, e_X7_years_1, e_X7_years_2, e_X7_years_5, e_X7_years_6, e_X7_years_8, e_X7_years_11, e_X7_years_13, e_X7_years_14, e_X7_years_15, e_X7_years_18, e_X7_years_19, e_X7_years_25, e_X7_years_26_i, e_X7_years_26_r, e_X7_years_26_n, e_X7_years_27, e_X7_years_28_i, e_X7_years_28_r, e_X7_years_28_n, e_X7_years_30, e_X7_years_31, e_X7_years_34, e_X7_years_35, e_X7_years_36, e_X7_years_39, e_X7_years_42, e_X7_years_43, e_X7_years_46, e_X7_years_47, e_X7_years_50, e_X7_years_51, e_X7_years_54, e_X7_years_55, e_X7_years_58, e_X7_years_60, e_X7_years_61, e_X7_years_64, e_X7_years_65, e_X7_years_69, e_X7_years_70, e_X7_years_71, e_X7_years_74, e_X7_years_79, e_X7_years_80_i, e_X7_years_80_r, e_X7_years_80_n, e_X7_years_81_i, e_X7_years_81_r, e_X7_years_81_n, e_X7_years_84, e_X7_years_87, e_X7_years_88, eq_self, nI10, not_false_eq_true, not_true_eq_false, is2_i, is2_r, is2_n, nI_add, pk_mul, Nat.reduceAdd, Nat.reduceMul, e1, if_true]
    · obtain ⟨N', rfl⟩ : ∃ N', N = N' + 1 := ⟨N - 1, by omega⟩
      have e1 : ¬ nI (N' + 1) < nI 1 := nI_nlt (by omega) (by omega)
      have e2 : nI (N' + 1) ≤ nI 30 := nI_le (by omega) (by omega)
      have ea : aYears p x sd (nI (N' + 1)) = nI (yrs p (N' + 1) x sd 0).1 := by unfold aYears; rw [hs]
      have eu : uYears p x sd (nI (N' + 1)) = (yrs p (N' + 1) x sd 0).2 := by unfold uYears; rw [hs]
      obtain ⟨m1, f1, f2, f3⟩ := s_X2_becomes (o := o) (d := d + 18) (lg := lg) ai_H21 ai_H15 (by decide) hp hh
      obtain ⟨m', lg', g1, g2, g3, g4⟩ := lp_X7_years (o := o) (d := d) (p := p) (M := N' + 1) (by omega) (N' + 1) 0 0 m1 lg x (by omega) (hp.fr ai_H21 f2) f1 (by omega)
      have fr := scr_Fr (f2.trans g1)
      have h8 : lg 0 11 = sd := h.2.2.2.2.2.2.2
      rw [h8] at g3 g4
      rw [ea, eu]
      refine ⟨m', lg', ?_, frC_of fr, g2, ?_⟩
      · obtain ⟨c1, c2, c3, c4, c5, c6, c7, c8⟩ := h.q fr
        exact ⟨c1, c2, c3, c4, c5, c6, c7, g3⟩
      · rw [ev_X7_years]
        simp only [e_X7_years_0, e_X7_years_1, e_X7_years_2, e_X7_years_5, e_X7_years_6, e_X7_years_8, e_X7_years_11, e_X7_years_13, e_X7_years_14, e_X7_years_15, e_X7_years_18, e_X7_years_19, e_X7_years_25, e_X7_years_26_i, e_X7_years_26_r, e_X7_years_26_n, e_X7_years_27, e_X7_years_28_i, e_X7_years_28_r, e_X7_years_28_n, e_X7_years_30, e_X7_years_31, e_X7_years_34, e_X7_years_35, e_X7_years_36, e_X7_years_39, e_X7_years_42, e_X7_years_43, e_X7_years_46, e_X7_years_47, e_X7_years_50, e_X7_years_51, e_X7_years_54, e_X7_years_55, e_X7_years_58, e_X7_years_60, e_X7_years_61, e_X7_years_64, e_X7_years_65, e_X7_years_69, e_X7_years_70, e_X7_years_71, e_X7_years_74, e_X7_years_79, e_X7_years_80_i, e_X7_years_80_r, e_X7_years_80_n, e_X7_years_81_i, e_X7_years_81_r, e_X7_years_81_n, e_X7_years_84, e_X7_years_87, e_X7_years_88, eq_self, nI10, not_false_eq_true, not_true_eq_false, is2_i, is2_r, is2_n, nI_add, pk_mul, Nat.reduceAdd, Nat.reduceMul, e1, e2, if_false, if_true, e_X7_years_22 (hb := ai_H21) (hE := f3)]
        exact g4
  · have ea : aYears p x sd k = -2 := by unfold aYears; rw [hs]
    have eu : uYears p x sd k = sd := by unfold uYears; rw [hs]
    rw [ea, eu]
    refine ⟨m, lg, h, fun _ _ => rfl, fun _ _ => rfl, ?_⟩
    rw [ev_X7_years]
    rcases hn with hn | ⟨j, hj, hj2, rfl⟩
    · have a1 : k < nI 1 := Int32.lt_trans hn (by decide)
      simp only [e_X7_years_0, e_X7_years_1, e_X7_years_2, e_X7_years_5, e_X7_years_6, e_X7_years_8, e_X7_years_11, e_X7_years_13, e_X7_years_14, e_X7_years_15, e_X7_years_18, e_X7_years_19, e_X7_years_25, e_X7_years_26_i, e_X7_years_26_r, e_X7_years_26_n, e_X7_years_27, e_X7_years_28_i, e_X7_years_28_r, e_X7_years_28_n, e_X7_years_30, e_X7_years_31, e_X7_years_34, e_X7_years_35, e_X7_years_36, e_X7_years_39, e_X7_years_42, e_X7_years_43, e_X7_years_46, e_X7_years_47, e_X7_years_50, e_X7_years_51, e_X7_years_54, e_X7_years_55, e_X7_years_58, e_X7_years_60, e_X7_years_61, e_X7_years_64, e_X7_years_65, e_X7_years_69, e_X7_years_70, e_X7_years_71, e_X7_years_74, e_X7_years_79, e_X7_years_80_i, e_X7_years_80_r, e_X7_years_80_n, e_X7_years_81_i, e_X7_years_81_r, e_X7_years_81_n, e_X7_years_84, e_X7_years_87, e_X7_years_88, eq_self, nI10, not_false_eq_true, not_true_eq_false, is2_i, is2_r, is2_n, nI_add, pk_mul, Nat.reduceAdd, Nat.reduceMul, a1, if_true]
    · have a1 : ¬ nI j < nI 1 := nI_nlt (by omega) hj2
      have a2 : ¬ nI j ≤ nI 30 := nI_ge (by omega) hj2
      simp only [e_X7_years_0, e_X7_years_1, e_X7_years_2, e_X7_years_5, e_X7_years_6, e_X7_years_8, e_X7_years_11, e_X7_years_13, e_X7_years_14, e_X7_years_15, e_X7_years_18, e_X7_years_19, e_X7_years_25, e_X7_years_26_i, e_X7_years_26_r, e_X7_years_26_n, e_X7_years_27, e_X7_years_28_i, e_X7_years_28_r, e_X7_years_28_n, e_X7_years_30, e_X7_years_31, e_X7_years_34, e_X7_years_35, e_X7_years_36, e_X7_years_39, e_X7_years_42, e_X7_years_43, e_X7_years_46, e_X7_years_47, e_X7_years_50, e_X7_years_51, e_X7_years_54, e_X7_years_55, e_X7_years_58, e_X7_years_60, e_X7_years_61, e_X7_years_64, e_X7_years_65, e_X7_years_69, e_X7_years_70, e_X7_years_71, e_X7_years_74, e_X7_years_79, e_X7_years_80_i, e_X7_years_80_r, e_X7_years_80_n, e_X7_years_81_i, e_X7_years_81_r, e_X7_years_81_n, e_X7_years_84, e_X7_years_87, e_X7_years_88, eq_self, nI10, not_false_eq_true, not_true_eq_false, is2_i, is2_r, is2_n, nI_add, pk_mul, Nat.reduceAdd, Nat.reduceMul, a1, a2, if_false]
end P47
