/-! The reference: plan, share -/
/-- a plan's scratch alone has changed -/
def FrP (m m' : Nat → Nat → Int32) : Prop := (∀ i, i ≠ 133 → i ≠ 142 → m' i = m i) ∧ ∀ k, k ≠ 30 → m' 133 k = m 133 k
theorem FrP.n {m m' : Nat → Nat → Int32} (h : FrP m m') : FrN m m' := ⟨fun i hi => h.1 i (by omega) (by omega), fun k hk => h.2 k (by omega)⟩
theorem FrP.trans {m m1 m2 : Nat → Nat → Int32} (h1 : FrP m m1) (h2 : FrP m1 m2) : FrP m m2 := ⟨fun i x1 x2 => by rw [h2.1 i x1 x2, h1.1 i x1 x2], fun k hk => by rw [h2.2 k hk, h1.2 k hk]⟩
theorem FrP.rfl' {m : Nat → Nat → Int32} : FrP m m := ⟨fun _ _ _ => rfl, fun _ _ => rfl⟩
theorem FrP.ofS {m m' : Nat → Nat → Int32} (h : FrS (fun i => i = 142) m m') : FrP m m' := ⟨fun i _ x2 => h i x2, fun k _ => by rw [h 133 (by decide)]⟩
theorem FrP.up {m : Nat → Nat → Int32} {v : Int32} : FrP m (ai_up m 133 30 v) := ⟨fun i x1 _ => up_ne x1, fun k hk => by rw [up_eq, if_neg hk]⟩
section P63
variable {o : ai_S} {d : Nat} {w : ai_W} {m m' : Nat → Nat → Int32} {lg lg' : Nat → Nat → Int64} {tx : TX} {p : PT} {x : HS} {n : Nat} {A : Nat → HS} {kp : Nat → Bool} {K : Nat → HS} {so : SO} {sd : Int64} {r : Option Value × ai_W} {k k2 k3 : Int32} {C : Nat}
theorem p5 : ∀ l, l ≤ 5 → 0 < 5 ^ l ∧ 5 ^ l ≤ 3125 := by decide
theorem lp_X8_berthsBy {N off : Nat} (hN : N < 3125) (hC2 : C < 32) : ∀ (j dd l way : Nat) (m : Nat → Nat → Int32) (y : HS) (a5 : Value), dd + j = p.2.2.2.2.1 → offs y j dd ≤ l → l ≤ 5 → RM tx p x n A kp K so sd m lg → m 133 28 = nI C → RG p y (m 142) → (∀ e, dd ≤ e → y.1 e = x.1 e) → m 133 30 = nI way → ∃ m', FrP m m' ∧ (∀ v z, bbW p C N j dd l way y = some (v, z) → RG p z (m' 142) ∧ m' 133 30 = nI v) ∧ Rn o (d + 3) zX8_berthsBy 10 [.ref 133, .int (nI N), .int (nI off), .int (nI l), .int (nI dd), a5] [] (ai_w m lg) (some (.int (bI (bbW p C N j dd l way y).isSome)), ai_w m' lg) := by
  have z5 : ¬ nI 5 = 0 := by decide
  intro j
  induction j with
  | zero =>
    intro dd l way m y a5 hj ho hl h hC hy hxy hw
    have : dd = p.2.2.2.2.1 := by omega
    subst this
    refine ⟨m, FrP.rfl', fun v z hv => ?_, ?_⟩
    · rw [bbW] at hv
      cases hv
      exact ⟨hy, hw⟩
    · rw [e_X8_berthsBy_10]
      simp only [e_X8_berthsBy_0, e_X8_berthsBy_1_i, e_X8_berthsBy_1_r, e_X8_berthsBy_1_n, e_X8_berthsBy_2, e_X8_berthsBy_3, e_X8_berthsBy_4, e_X8_berthsBy_7, e_X8_berthsBy_8_i, e_X8_berthsBy_8_r, e_X8_berthsBy_8_n, e_X8_berthsBy_12, e_X8_berthsBy_13, e_X8_berthsBy_16, e_X8_berthsBy_19, e_X8_berthsBy_20, e_X8_berthsBy_23, e_X8_berthsBy_25, e_X8_berthsBy_26, e_X8_berthsBy_28, e_X8_berthsBy_31_i, e_X8_berthsBy_31_r, e_X8_berthsBy_31_n, e_X8_berthsBy_34, e_X8_berthsBy_35, e_X8_berthsBy_36, e_X8_berthsBy_40, e_X8_berthsBy_41, e_X8_berthsBy_42, e_X8_berthsBy_43, e_X8_berthsBy_44, e_X8_berthsBy_45_i, e_X8_berthsBy_45_r, e_X8_berthsBy_45_n, e_X8_berthsBy_47, e_X8_berthsBy_48, e_X8_berthsBy_50, e_X8_berthsBy_51, e_X8_berthsBy_54, e_X8_berthsBy_55, e_X8_berthsBy_57, e_X8_berthsBy_58, e_X8_berthsBy_59, e_X8_berthsBy_60, e_X8_berthsBy_63, e_X8_berthsBy_65, e_X8_berthsBy_68, e_X8_berthsBy_69, e_X8_berthsBy_74, e_X8_berthsBy_77, e_X8_berthsBy_78, e_X8_berthsBy_79, e_X8_berthsBy_82, e_X8_berthsBy_84, e_X8_berthsBy_89, e_X8_berthsBy_92, e_X8_berthsBy_93, e_X8_berthsBy_94, e_X8_berthsBy_95, e_X8_berthsBy_98, e_X8_berthsBy_100, e_X8_berthsBy_102, e_X8_berthsBy_103_i, e_X8_berthsBy_103_r, e_X8_berthsBy_103_n, e_X8_berthsBy_106, e_X8_berthsBy_109, e_X8_berthsBy_110, eq_self, nI10, not_false_eq_true, not_true_eq_false, is2_i, is2_r, is2_n, nI_add, pk_mul, Nat.reduceAdd, Nat.reduceMul, h.2.1.2.2.2.1, Int32.le_refl, if_true, nar_1, bbW, Option.isSome, bI_t]
  | succ j ih =>
    intro dd l way m y a5 hj ho hl h hC hy hxy hw
    have hp := h.2.1
    have hh := h.2.2.1
    have hD := hp.1.2.2.1
    have hB := hp.1.2.1
    have hdd : dd < p.2.2.2.2.1 := by omega
    have d24 : dd < 24 := by omega
    have e1 : ¬ nI p.2.2.2.2.1 ≤ nI dd := nI_ge hdd (by omega)
    have h9 := hg_p hp.1 hh hdd
    have e8 := nI_9 (a := x.1 dd) (c := 8) (by omega) (by omega)
    rw [offs] at ho
    by_cases h8 : y.1 dd = 8
    · rw [if_pos h8] at ho
      have x8 : x.1 dd = 8 := by rw [← hxy dd (Nat.le_refl _)]; exact h8
      obtain ⟨l', rfl⟩ : ∃ l', l = l' + 1 := ⟨l - 1, by omega⟩
      have ml : nI (l' + 1) + (-1) = nI l' := pk_m1 l'
      obtain ⟨P0, P1⟩ := p5 l' (by omega)
      have nP : ¬ nI (5 ^ l') = 0 := fun z => by have := (nI_eq (b := 0) (by omega) (by omega)).mp z; omega
      have dP : nI N / nI (5 ^ l') = nI (N / 5 ^ l') := pk_div (by omega) P0 (by omega)
      have q1 : N / 5 ^ l' ≤ N := Nat.div_le_self _ _
      have rP : nI (N / 5 ^ l') - nI (N / 5 ^ l') / nI 5 * nI 5 = nI (N / 5 ^ l' % 5) := pk_rem (by omega) (by omega) (by omega)
      obtain ⟨g, hg⟩ : ∃ g, g = N / 5 ^ l' % 5 := ⟨_, rfl⟩
      have g5 : g < 5 := by omega
      rw [← hg] at rP
      -- up to the way
      have hway : ∀ v : Int32, v = nI g - nI 1 → nI (10 * way) + v + nI 1 = nI (10 * way + g) := by
        intro v hv
        rw [hv, ← nI_add (10 * way) g]
        generalize nI (10 * way) = aa
        generalize nI g = bb
        rw [Int32.add_assoc, Int32.sub_add_cancel]
      obtain ⟨m1, hm1⟩ : ∃ m1, m1 = ai_up m 133 30 (nI (10 * way + g)) := ⟨_, rfl⟩
      have f1 : FrP m m1 := by rw [hm1]; exact FrP.up
      have h1 := h.q f1.n
      have w1 : m1 133 30 = nI (10 * way + g) := by rw [hm1, up_eq, if_pos rfl]
      have C1 : m1 133 28 = nI C := by rw [f1.2 28 (by decide)]; exact hC
      have y1 : RG p y (m1 142) := by rw [hm1, up_ne (by decide)]; exact hy
      have pre : ∀ r, Rn o (d + 3) zX8_berthsBy 10 [.ref 133, .int (nI N), .int (nI off), .int (nI (l' + 1)), .int (nI dd), a5] [] (ai_w m lg) r = Rn o (d + 3) zX8_berthsBy 63 [.ref 133, .int (nI N), .int (nI off), .int (nI l'), .int (nI dd), .int (nI g - nI 1)] [] (ai_w m1 lg) r := by
        intro r
        rw [e_X8_berthsBy_10]
        simp only [e_X8_berthsBy_0, e_X8_berthsBy_1_i, e_X8_berthsBy_1_r, e_X8_berthsBy_1_n, e_X8_berthsBy_2, e_X8_berthsBy_3, e_X8_berthsBy_4, e_X8_berthsBy_7, e_X8_berthsBy_8_i, e_X8_berthsBy_8_r, e_X8_berthsBy_8_n, e_X8_berthsBy_12, e_X8_berthsBy_13, e_X8_berthsBy_16, e_X8_berthsBy_19, e_X8_berthsBy_20, e_X8_berthsBy_23, e_X8_berthsBy_25, e_X8_berthsBy_26, e_X8_berthsBy_28, e_X8_berthsBy_31_i, e_X8_berthsBy_31_r, e_X8_berthsBy_31_n, e_X8_berthsBy_34, e_X8_berthsBy_35, e_X8_berthsBy_36, e_X8_berthsBy_40, e_X8_berthsBy_41, e_X8_berthsBy_42, e_X8_berthsBy_43, e_X8_berthsBy_44, e_X8_berthsBy_45_i, e_X8_berthsBy_45_r, e_X8_berthsBy_45_n, e_X8_berthsBy_47, e_X8_berthsBy_48, e_X8_berthsBy_50, e_X8_berthsBy_51, e_X8_berthsBy_54, e_X8_berthsBy_55, e_X8_berthsBy_57, e_X8_berthsBy_58, e_X8_berthsBy_59, e_X8_berthsBy_60, e_X8_berthsBy_65, e_X8_berthsBy_68, e_X8_berthsBy_69, e_X8_berthsBy_74, e_X8_berthsBy_77, e_X8_berthsBy_78, e_X8_berthsBy_79, e_X8_berthsBy_82, e_X8_berthsBy_84, e_X8_berthsBy_89, e_X8_berthsBy_92, e_X8_berthsBy_93, e_X8_berthsBy_94, e_X8_berthsBy_95, e_X8_berthsBy_98, e_X8_berthsBy_100, e_X8_berthsBy_102, e_X8_berthsBy_103_i, e_X8_berthsBy_103_r, e_X8_berthsBy_103_n, e_X8_berthsBy_106, e_X8_berthsBy_109, e_X8_berthsBy_110, eq_self, nI10, not_false_eq_true, not_true_eq_false, is2_i, is2_r, is2_n, nI_add, pk_mul, Nat.reduceAdd, Nat.reduceMul, hp.2.2.2.1, e1, if_false, m0_141, ml_141, d24, hh.2.1 dd hdd, x8, ml, e_X8_berthsBy_37 (hE := s_X8_power (show l' < 2 ^ 31 by omega)), nP, dP, z5, rP, hw, hway _ rfl, hm1]
      rw [bbW, if_pos h8, Nat.add_sub_cancel, ← hg]
      by_cases g0 : g = 0
      · rw [if_pos g0]
        have ng : nI g - nI 1 < nI 0 := by rw [g0]; decide
        rw [g0, Nat.add_zero] at w1
        obtain ⟨m', b1, b2, b3⟩ := ih (dd + 1) l' (10 * way) m1 y (.int (nI g - nI 1)) (by omega) (by omega) (by omega) h1 C1 y1 (fun e he => hxy e (by omega)) w1
        refine ⟨m', f1.trans b1, b2, ?_⟩
        rw [pre]
        simp only [e_X8_berthsBy_0, e_X8_berthsBy_1_i, e_X8_berthsBy_1_r, e_X8_berthsBy_1_n, e_X8_berthsBy_2, e_X8_berthsBy_3, e_X8_berthsBy_4, e_X8_berthsBy_7, e_X8_berthsBy_8_i, e_X8_berthsBy_8_r, e_X8_berthsBy_8_n, e_X8_berthsBy_12, e_X8_berthsBy_13, e_X8_berthsBy_16, e_X8_berthsBy_19, e_X8_berthsBy_20, e_X8_berthsBy_23, e_X8_berthsBy_25, e_X8_berthsBy_26, e_X8_berthsBy_28, e_X8_berthsBy_31_i, e_X8_berthsBy_31_r, e_X8_berthsBy_31_n, e_X8_berthsBy_34, e_X8_berthsBy_35, e_X8_berthsBy_36, e_X8_berthsBy_40, e_X8_berthsBy_41, e_X8_berthsBy_42, e_X8_berthsBy_43, e_X8_berthsBy_44, e_X8_berthsBy_45_i, e_X8_berthsBy_45_r, e_X8_berthsBy_45_n, e_X8_berthsBy_47, e_X8_berthsBy_48, e_X8_berthsBy_50, e_X8_berthsBy_51, e_X8_berthsBy_54, e_X8_berthsBy_55, e_X8_berthsBy_57, e_X8_berthsBy_58, e_X8_berthsBy_59, e_X8_berthsBy_60, e_X8_berthsBy_63, e_X8_berthsBy_65, e_X8_berthsBy_68, e_X8_berthsBy_69, e_X8_berthsBy_74, e_X8_berthsBy_77, e_X8_berthsBy_78, e_X8_berthsBy_79, e_X8_berthsBy_82, e_X8_berthsBy_84, e_X8_berthsBy_89, e_X8_berthsBy_92, e_X8_berthsBy_93, e_X8_berthsBy_94, e_X8_berthsBy_95, e_X8_berthsBy_98, e_X8_berthsBy_100, e_X8_berthsBy_102, e_X8_berthsBy_103_i, e_X8_berthsBy_103_r, e_X8_berthsBy_103_n, e_X8_berthsBy_106, e_X8_berthsBy_109, e_X8_berthsBy_110, eq_self, nI10, not_false_eq_true, not_true_eq_false, is2_i, is2_r, is2_n, nI_add, pk_mul, Nat.reduceAdd, Nat.reduceMul, ng, if_true]
        exact b3
      · rw [if_neg g0]
        have sg : nI g - nI 1 = nI (g - 1) := pk_sub (by omega)
        have ng : ¬ nI (g - 1) < nI 0 := nI_pos (by omega)
        have ix := nI_ix (j := g - 1) (n := p.2.2.1) (by omega) (by omega)
        rw [sg] at pre
        by_cases gB : g - 1 < p.2.2.1
        · have sc := s_X8_canBe (o := o) (d := d + 1) (lg := lg) h1.2.1 y1 (Or.inr rfl) C1 hC2 hdd gB
          by_cases gc : mCan p y C dd (g - 1) = true
          · rw [if_pos ⟨gB, gc⟩]
            rw [gc] at sc
            obtain ⟨m2, hm2⟩ : ∃ m2, m2 = ai_up m1 142 dd (nI (g - 1)) := ⟨_, rfl⟩
            have f2 : FrP m1 m2 := by rw [hm2]; exact FrP.ofS frA
            have y2 : RG p (va_up y.1 dd (g - 1), y.2) (m2 142) := by rw [hm2]; exact y1.pl hp.1 (by omega) (Or.inl gB)
            obtain ⟨m', b1, b2, b3⟩ := ih (dd + 1) l' (10 * way + g) m2 (va_up y.1 dd (g - 1), y.2) (.int (nI (g - 1))) (by omega) (by
              rw [offs_congr (y := (va_up y.1 dd (g - 1), y.2)) (z := y) j (dd + 1) (fun e he => by
                have : ¬ e = dd := by omega
                simp [va_up, this])]
              omega) (by omega) (h1.q f2.n) (by rw [f2.2 28 (by decide)]; exact C1) y2 (fun e he => by
                have : ¬ e = dd := by omega
                simp only [va_up]
                rw [if_neg this]
                exact hxy e (by omega)) (by rw [hm2, up_ne (by decide)]; exact w1)
            refine ⟨m', f1.trans (f2.trans b1), b2, ?_⟩
            rw [pre]
            simp only [e_X8_berthsBy_0, e_X8_berthsBy_1_i, e_X8_berthsBy_1_r, e_X8_berthsBy_1_n, e_X8_berthsBy_2, e_X8_berthsBy_3, e_X8_berthsBy_4, e_X8_berthsBy_7, e_X8_berthsBy_8_i, e_X8_berthsBy_8_r, e_X8_berthsBy_8_n, e_X8_berthsBy_12, e_X8_berthsBy_13, e_X8_berthsBy_16, e_X8_berthsBy_19, e_X8_berthsBy_20, e_X8_berthsBy_23, e_X8_berthsBy_25, e_X8_berthsBy_26, e_X8_berthsBy_28, e_X8_berthsBy_31_i, e_X8_berthsBy_31_r, e_X8_berthsBy_31_n, e_X8_berthsBy_34, e_X8_berthsBy_35, e_X8_berthsBy_36, e_X8_berthsBy_40, e_X8_berthsBy_41, e_X8_berthsBy_42, e_X8_berthsBy_43, e_X8_berthsBy_44, e_X8_berthsBy_45_i, e_X8_berthsBy_45_r, e_X8_berthsBy_45_n, e_X8_berthsBy_47, e_X8_berthsBy_48, e_X8_berthsBy_50, e_X8_berthsBy_51, e_X8_berthsBy_54, e_X8_berthsBy_55, e_X8_berthsBy_57, e_X8_berthsBy_58, e_X8_berthsBy_59, e_X8_berthsBy_60, e_X8_berthsBy_63, e_X8_berthsBy_65, e_X8_berthsBy_68, e_X8_berthsBy_69, e_X8_berthsBy_74, e_X8_berthsBy_77, e_X8_berthsBy_78, e_X8_berthsBy_79, e_X8_berthsBy_82, e_X8_berthsBy_84, e_X8_berthsBy_89, e_X8_berthsBy_92, e_X8_berthsBy_93, e_X8_berthsBy_94, e_X8_berthsBy_95, e_X8_berthsBy_98, e_X8_berthsBy_100, e_X8_berthsBy_102, e_X8_berthsBy_103_i, e_X8_berthsBy_103_r, e_X8_berthsBy_103_n, e_X8_berthsBy_106, e_X8_berthsBy_109, e_X8_berthsBy_110, eq_self, nI10, not_false_eq_true, not_true_eq_false, is2_i, is2_r, is2_n, nI_add, pk_mul, Nat.reduceAdd, Nat.reduceMul, ng, if_false, if_true, e_X8_berthsBy_71 (hE := s_X8_noBerth h1.2.1), ix, gB, decide_true, Bool.not_true, bI_z, e_X8_berthsBy_86 (hE := sc), Bool.true_eq_false, m0_142, ml_142, d24, ← hm2]
            exact b3
          · rw [if_neg (fun z => gc z.2)]
            rw [show mCan p y C dd (g - 1) = false by cases hq : mCan p y C dd (g - 1) <;> simp_all] at sc
            refine ⟨m1, f1, (fun v z hv => by cases hv), ?_⟩
            rw [pre]
            simp only [e_X8_berthsBy_0, e_X8_berthsBy_1_i, e_X8_berthsBy_1_r, e_X8_berthsBy_1_n, e_X8_berthsBy_2, e_X8_berthsBy_3, e_X8_berthsBy_4, e_X8_berthsBy_7, e_X8_berthsBy_8_i, e_X8_berthsBy_8_r, e_X8_berthsBy_8_n, e_X8_berthsBy_12, e_X8_berthsBy_13, e_X8_berthsBy_16, e_X8_berthsBy_19, e_X8_berthsBy_20, e_X8_berthsBy_23, e_X8_berthsBy_25, e_X8_berthsBy_26, e_X8_berthsBy_28, e_X8_berthsBy_31_i, e_X8_berthsBy_31_r, e_X8_berthsBy_31_n, e_X8_berthsBy_34, e_X8_berthsBy_35, e_X8_berthsBy_36, e_X8_berthsBy_40, e_X8_berthsBy_41, e_X8_berthsBy_42, e_X8_berthsBy_43, e_X8_berthsBy_44, e_X8_berthsBy_45_i, e_X8_berthsBy_45_r, e_X8_berthsBy_45_n, e_X8_berthsBy_47, e_X8_berthsBy_48, e_X8_berthsBy_50, e_X8_berthsBy_51, e_X8_berthsBy_54, e_X8_berthsBy_55, e_X8_berthsBy_57, e_X8_berthsBy_58, e_X8_berthsBy_59, e_X8_berthsBy_60, e_X8_berthsBy_63, e_X8_berthsBy_65, e_X8_berthsBy_68, e_X8_berthsBy_69, e_X8_berthsBy_74, e_X8_berthsBy_77, e_X8_berthsBy_78, e_X8_berthsBy_79, e_X8_berthsBy_82, e_X8_berthsBy_84, e_X8_berthsBy_89, e_X8_berthsBy_92, e_X8_berthsBy_93, e_X8_berthsBy_94, e_X8_berthsBy_95, e_X8_berthsBy_98, e_X8_berthsBy_100, e_X8_berthsBy_102, e_X8_berthsBy_103_i, e_X8_berthsBy_103_r, e_X8_berthsBy_103_n, e_X8_berthsBy_106, e_X8_berthsBy_109, e_X8_berthsBy_110, eq_self, nI10, not_false_eq_true, not_true_eq_false, is2_i, is2_r, is2_n, nI_add, pk_mul, Nat.reduceAdd, Nat.reduceMul, ng, if_false, e_X8_berthsBy_71 (hE := s_X8_noBerth h1.2.1), ix, gB, decide_true, Bool.not_true, bI_z, e_X8_berthsBy_86 (hE := sc), nar_0, Option.isSome, bI_f]
        · rw [if_neg (fun z => gB z.1)]
          refine ⟨m1, f1, (fun v z hv => by cases hv), ?_⟩
          rw [pre]
          simp only [e_X8_berthsBy_0, e_X8_berthsBy_1_i, e_X8_berthsBy_1_r, e_X8_berthsBy_1_n, e_X8_berthsBy_2, e_X8_berthsBy_3, e_X8_berthsBy_4, e_X8_berthsBy_7, e_X8_berthsBy_8_i, e_X8_berthsBy_8_r, e_X8_berthsBy_8_n, e_X8_berthsBy_12, e_X8_berthsBy_13, e_X8_berthsBy_16, e_X8_berthsBy_19, e_X8_berthsBy_20, e_X8_berthsBy_23, e_X8_berthsBy_25, e_X8_berthsBy_26, e_X8_berthsBy_28, e_X8_berthsBy_31_i, e_X8_berthsBy_31_r, e_X8_berthsBy_31_n, e_X8_berthsBy_34, e_X8_berthsBy_35, e_X8_berthsBy_36, e_X8_berthsBy_40, e_X8_berthsBy_41, e_X8_berthsBy_42, e_X8_berthsBy_43, e_X8_berthsBy_44, e_X8_berthsBy_45_i, e_X8_berthsBy_45_r, e_X8_berthsBy_45_n, e_X8_berthsBy_47, e_X8_berthsBy_48, e_X8_berthsBy_50, e_X8_berthsBy_51, e_X8_berthsBy_54, e_X8_berthsBy_55, e_X8_berthsBy_57, e_X8_berthsBy_58, e_X8_berthsBy_59, e_X8_berthsBy_60, e_X8_berthsBy_63, e_X8_berthsBy_65, e_X8_berthsBy_68, e_X8_berthsBy_69, e_X8_berthsBy_74, e_X8_berthsBy_77, e_X8_berthsBy_78, e_X8_berthsBy_79, e_X8_berthsBy_82, e_X8_berthsBy_84, e_X8_berthsBy_89, e_X8_berthsBy_92, e_X8_berthsBy_93, e_X8_berthsBy_94, e_X8_berthsBy_95, e_X8_berthsBy_98, e_X8_berthsBy_100, e_X8_berthsBy_102, e_X8_berthsBy_103_i, e_X8_berthsBy_103_r, e_X8_berthsBy_103_n, e_X8_berthsBy_106, e_X8_berthsBy_109, e_X8_berthsBy_110, eq_self, nI10, not_false_eq_true, not_true_eq_false, is2_i, is2_r, is2_n, nI_add, pk_mul, Nat.reduceAdd, Nat.reduceMul, ng, if_false, if_true, e_X8_berthsBy_71 (hE := s_X8_noBerth h1.2.1), ix, gB, decide_false, Bool.not_false, bI_z, Bool.true_eq_false, nar_0, Option.isSome, bI_f]
    · rw [if_neg h8] at ho
      have x8 : ¬ x.1 dd = 8 := by rw [← hxy dd (Nat.le_refl _)]; exact h8
      obtain ⟨m', b1, b2, b3⟩ := ih (dd + 1) l way m y a5 (by omega) (by omega) hl h hC hy (fun e he => hxy e (by omega)) hw
      rw [bbW, if_neg h8]
      refine ⟨m', b1, b2, ?_⟩
      rw [e_X8_berthsBy_10]
      simp only [e_X8_berthsBy_0, e_X8_berthsBy_1_i, e_X8_berthsBy_1_r, e_X8_berthsBy_1_n, e_X8_berthsBy_2, e_X8_berthsBy_3, e_X8_berthsBy_4, e_X8_berthsBy_7, e_X8_berthsBy_8_i, e_X8_berthsBy_8_r, e_X8_berthsBy_8_n, e_X8_berthsBy_12, e_X8_berthsBy_13, e_X8_berthsBy_16, e_X8_berthsBy_19, e_X8_berthsBy_20, e_X8_berthsBy_23, e_X8_berthsBy_25, e_X8_berthsBy_26, e_X8_berthsBy_28, e_X8_berthsBy_31_i, e_X8_berthsBy_31_r, e_X8_berthsBy_31_n, e_X8_berthsBy_34, e_X8_berthsBy_35, e_X8_berthsBy_36, e_X8_berthsBy_40, e_X8_berthsBy_41, e_X8_berthsBy_42, e_X8_berthsBy_43, e_X8_berthsBy_44, e_X8_berthsBy_45_i, e_X8_berthsBy_45_r, e_X8_berthsBy_45_n, e_X8_berthsBy_47, e_X8_berthsBy_48, e_X8_berthsBy_50, e_X8_berthsBy_51, e_X8_berthsBy_54, e_X8_berthsBy_55, e_X8_berthsBy_57, e_X8_berthsBy_58, e_X8_berthsBy_59, e_X8_berthsBy_60, e_X8_berthsBy_63, e_X8_berthsBy_65, e_X8_berthsBy_68, e_X8_berthsBy_69, e_X8_berthsBy_74, e_X8_berthsBy_77, e_X8_berthsBy_78, e_X8_berthsBy_79, e_X8_berthsBy_82, e_X8_berthsBy_84, e_X8_berthsBy_89, e_X8_berthsBy_92, e_X8_berthsBy_93, e_X8_berthsBy_94, e_X8_berthsBy_95, e_X8_berthsBy_98, e_X8_berthsBy_100, e_X8_berthsBy_102, e_X8_berthsBy_103_i, e_X8_berthsBy_103_r, e_X8_berthsBy_103_n, e_X8_berthsBy_106, e_X8_berthsBy_109, e_X8_berthsBy_110, eq_self, nI10, not_false_eq_true, not_true_eq_false, is2_i, is2_r, is2_n, nI_add, pk_mul, Nat.reduceAdd, Nat.reduceMul, hp.2.2.2.1, e1, if_false, m0_141, ml_141, d24, hh.2.1 dd hdd, e8, x8, if_true]
      exact b3
theorem s_X8_berthsBy {N off : Nat} (hN : N < 3125) (hC2 : C < 32) (ho : off = cn (atP x 8) p.2.2.2.2.1) (h : RM tx p x n A kp K so sd m lg) (hC : m 133 28 = nI C) (hy : RG p x (m 142)) : ∃ m', FrP m m' ∧ (∀ v z, bbW p C N p.2.2.2.2.1 0 off 0 x = some (v, z) → RG p z (m' 142) ∧ m' 133 30 = nI v) ∧ Ev o (d + 3) zX8_berthsBy [.ref 133, .int (nI N), .int (nI off)] (ai_w m lg) (some (.int (bI (bbW p C N p.2.2.2.2.1 0 off 0 x).isSome))) (ai_w m' lg) := by
  have hD := h.2.1.1.2.2.1
  have oc := offs_cn x p.2.2.2.2.1 0
  rw [Nat.zero_add] at oc
  have oz : cn (atP x 8) 0 = 0 := rfl
  have cl := cn_le (atP x 8) p.2.2.2.2.1
  obtain ⟨m1, hm1⟩ : ∃ m1, m1 = ai_up m 133 30 (nI 0) := ⟨_, rfl⟩
  have f1 : FrP m m1 := by rw [hm1]; exact FrP.up
  obtain ⟨m', b1, b2, b3⟩ := lp_X8_berthsBy (o := o) (d := d) (off := off) hN hC2 p.2.2.2.2.1 0 off 0 m1 x .null (by omega) (by omega) (by omega) (h.q f1.n) (by rw [f1.2 28 (by decide)]; exact hC) (by rw [hm1, up_ne (by decide)]; exact hy) (fun _ _ => rfl) (by rw [hm1, up_eq, if_pos rfl])
  refine ⟨m', f1.trans b1, b2, ?_⟩
  rw [ev_X8_berthsBy]
  simp only [e_X8_berthsBy_0, e_X8_berthsBy_1_i, e_X8_berthsBy_1_r, e_X8_berthsBy_1_n, e_X8_berthsBy_2, e_X8_berthsBy_3, e_X8_berthsBy_4, e_X8_berthsBy_7, e_X8_berthsBy_8_i, e_X8_berthsBy_8_r, e_X8_berthsBy_8_n, e_X8_berthsBy_12, e_X8_berthsBy_13, e_X8_berthsBy_16, e_X8_berthsBy_19, e_X8_berthsBy_20, e_X8_berthsBy_23, e_X8_berthsBy_25, e_X8_berthsBy_26, e_X8_berthsBy_28, e_X8_berthsBy_31_i, e_X8_berthsBy_31_r, e_X8_berthsBy_31_n, e_X8_berthsBy_34, e_X8_berthsBy_35, e_X8_berthsBy_36, e_X8_berthsBy_40, e_X8_berthsBy_41, e_X8_berthsBy_42, e_X8_berthsBy_43, e_X8_berthsBy_44, e_X8_berthsBy_45_i, e_X8_berthsBy_45_r, e_X8_berthsBy_45_n, e_X8_berthsBy_47, e_X8_berthsBy_48, e_X8_berthsBy_50, e_X8_berthsBy_51, e_X8_berthsBy_54, e_X8_berthsBy_55, e_X8_berthsBy_57, e_X8_berthsBy_58, e_X8_berthsBy_59, e_X8_berthsBy_60, e_X8_berthsBy_63, e_X8_berthsBy_65, e_X8_berthsBy_68, e_X8_berthsBy_69, e_X8_berthsBy_74, e_X8_berthsBy_77, e_X8_berthsBy_78, e_X8_berthsBy_79, e_X8_berthsBy_82, e_X8_berthsBy_84, e_X8_berthsBy_89, e_X8_berthsBy_92, e_X8_berthsBy_93, e_X8_berthsBy_94, e_X8_berthsBy_95, e_X8_berthsBy_98, e_X8_berthsBy_100, e_X8_berthsBy_102, e_X8_berthsBy_103_i, e_X8_berthsBy_103_r, e_X8_berthsBy_103_n, e_X8_berthsBy_106, e_X8_berthsBy_109, e_X8_berthsBy_110, eq_self, nI10, not_false_eq_true, not_true_eq_false, is2_i, is2_r, is2_n, nI_add, pk_mul, Nat.reduceAdd, Nat.reduceMul, ← hm1]
  exact b3
theorem lp_X8_findPlan {off : Nat} (hC2 : C < 32) (ho : off = cn (atP x 8) p.2.2.2.2.1) : ∀ (j a : Nat) (s : Int × Nat) (m : Nat → Nat → Int32) (a5 : Value), a + j = 5 ^ off → RM tx p x n A kp K so sd m lg → m 133 28 = nI C → m 133 27 = nI 0 → plOk s → ∃ m', FrP m m' ∧ m' 133 30 = nI (fpR (fun N s => bbS p C (bbW p C N p.2.2.2.2.1 0 off 0 x) s) a j s).2 ∧ Rn o (d + 4) zX8_findPlan 22 [.ref 133, .int (nI off), .int (iI s.1), .int (nI s.2), .int (nI a), a5] [] (ai_w m lg) (some (.int (iI (fpR (fun N s => bbS p C (bbW p C N p.2.2.2.2.1 0 off 0 x) s) a j s).1)), ai_w m' lg) := by
  intro j
  induction j with
  | zero =>
    intro a s m a5 hj h hC hE hs
    have : a = 5 ^ off := by omega
    subst this
    have hD := h.2.1.1.2.2.1
    have cl := cn_le (atP x 8) p.2.2.2.2.1
    refine ⟨_, FrP.up (v := nI s.2), by rw [up_eq, if_pos rfl]; rfl, ?_⟩
    rw [e_X8_findPlan_22]
    simp only [e_X8_findPlan_0, e_X8_findPlan_1, e_X8_findPlan_2, e_X8_findPlan_5, e_X8_findPlan_13_i, e_X8_findPlan_13_r, e_X8_findPlan_14, e_X8_findPlan_16_i, e_X8_findPlan_16_r, e_X8_findPlan_16_n, e_X8_findPlan_17, e_X8_findPlan_18_i, e_X8_findPlan_18_r, e_X8_findPlan_18_n, e_X8_findPlan_19, e_X8_findPlan_20_i, e_X8_findPlan_20_r, e_X8_findPlan_20_n, e_X8_findPlan_24, e_X8_findPlan_25, e_X8_findPlan_29, e_X8_findPlan_32, e_X8_findPlan_36, e_X8_findPlan_37, e_X8_findPlan_39, e_X8_findPlan_43, e_X8_findPlan_46, e_X8_findPlan_47, e_X8_findPlan_48, e_X8_findPlan_57_i, e_X8_findPlan_57_r, e_X8_findPlan_57_n, e_X8_findPlan_59, e_X8_findPlan_61, e_X8_findPlan_62, e_X8_findPlan_65, e_X8_findPlan_66, e_X8_findPlan_69, e_X8_findPlan_72, e_X8_findPlan_73_i, e_X8_findPlan_73_r, e_X8_findPlan_73_n, e_X8_findPlan_74, e_X8_findPlan_76, e_X8_findPlan_77, e_X8_findPlan_80, e_X8_findPlan_82, e_X8_findPlan_85, e_X8_findPlan_86_i, e_X8_findPlan_86_r, e_X8_findPlan_86_n, e_X8_findPlan_87_i, e_X8_findPlan_87_r, e_X8_findPlan_87_n, e_X8_findPlan_90, e_X8_findPlan_93, e_X8_findPlan_94, e_X8_findPlan_95, e_X8_findPlan_98, e_X8_findPlan_99, eq_self, nI10, not_false_eq_true, not_true_eq_false, is2_i, is2_r, is2_n, nI_add, pk_mul, Nat.reduceAdd, Nat.reduceMul, e_X8_findPlan_26 (hE := s_X8_power (show off < 2 ^ 31 by omega)), Int32.le_refl, if_true, fpR]
  | succ j ih =>
    intro a s m a5 hj h hC hE hs
    have hp := h.2.1
    have hD := hp.1.2.2.1
    have cl := cn_le (atP x 8) p.2.2.2.2.1
    obtain ⟨P0, P1⟩ := p5 off (by omega)
    have e1 : ¬ nI (5 ^ off) ≤ nI a := nI_ge (by omega) (by omega)
    obtain ⟨m1, b1, b2, b3⟩ := s_X8_begin (o := o) (d := d + 3) (lg := lg) hp.1 h.2.2.1
    have f1 := FrP.ofS b2
    have h1 := h.q f1.n
    obtain ⟨m2, c1, c2, c3⟩ := s_X8_berthsBy (o := o) (d := d) (N := a) (off := off) (by omega) hC2 ho h1 (by rw [f1.2 28 (by decide)]; exact hC) b1
    have f2 := f1.trans c1
    have h2 := h.q f2.n
    have C2 : m2 133 28 = nI C := by rw [f2.2 28 (by decide)]; exact hC
    have E2 : m2 133 27 = nI 0 := by rw [f2.2 27 (by decide)]; exact hE
    rw [fpR]
    cases hb : bbW p C a p.2.2.2.2.1 0 off 0 x with
    | none =>
      rw [hb] at c3
      obtain ⟨m', g1, g2, g3⟩ := ih (a + 1) s m2 a5 (by omega) h2 C2 E2 hs
      refine ⟨m', f2.trans g1, g2, ?_⟩
      rw [e_X8_findPlan_22]
      simp only [e_X8_findPlan_0, e_X8_findPlan_1, e_X8_findPlan_2, e_X8_findPlan_5, e_X8_findPlan_13_i, e_X8_findPlan_13_r, e_X8_findPlan_14, e_X8_findPlan_16_i, e_X8_findPlan_16_r, e_X8_findPlan_16_n, e_X8_findPlan_17, e_X8_findPlan_18_i, e_X8_findPlan_18_r, e_X8_findPlan_18_n, e_X8_findPlan_19, e_X8_findPlan_20_i, e_X8_findPlan_20_r, e_X8_findPlan_20_n, e_X8_findPlan_24, e_X8_findPlan_25, e_X8_findPlan_29, e_X8_findPlan_32, e_X8_findPlan_36, e_X8_findPlan_37, e_X8_findPlan_39, e_X8_findPlan_43, e_X8_findPlan_46, e_X8_findPlan_47, e_X8_findPlan_48, e_X8_findPlan_57_i, e_X8_findPlan_57_r, e_X8_findPlan_57_n, e_X8_findPlan_59, e_X8_findPlan_61, e_X8_findPlan_62, e_X8_findPlan_65, e_X8_findPlan_66, e_X8_findPlan_69, e_X8_findPlan_72, e_X8_findPlan_73_i, e_X8_findPlan_73_r, e_X8_findPlan_73_n, e_X8_findPlan_74, e_X8_findPlan_76, e_X8_findPlan_77, e_X8_findPlan_80, e_X8_findPlan_82, e_X8_findPlan_85, e_X8_findPlan_86_i, e_X8_findPlan_86_r, e_X8_findPlan_86_n, e_X8_findPlan_87_i, e_X8_findPlan_87_r, e_X8_findPlan_87_n, e_X8_findPlan_90, e_X8_findPlan_93, e_X8_findPlan_94, e_X8_findPlan_95, e_X8_findPlan_98, e_X8_findPlan_99, eq_self, nI10, not_false_eq_true, not_true_eq_false, is2_i, is2_r, is2_n, nI_add, pk_mul, Nat.reduceAdd, Nat.reduceMul, e_X8_findPlan_26 (hE := s_X8_power (show off < 2 ^ 31 by omega)), e1, if_false, e_X8_findPlan_33 (hE := b3), e_X8_findPlan_40 (hE := c3), Option.isSome, bI_z, if_true]
      exact g3
    | some vz =>
      obtain ⟨v, z⟩ := vz
      rw [hb] at c3
      obtain ⟨z1, z2⟩ := c2 v z hb
      obtain ⟨m3, s1, s2, s3⟩ := s_X8_goSleep (o := o) (d := d) (lg := lg) (Or.inr rfl) hC2 (by decide) h2.2.1 C2 E2 z1
      have f3 := f2.trans (FrP.ofS s2)
      have h3 := h.q f3.n
      have C3 : m3 133 28 = nI C := by rw [f3.2 28 (by decide)]; exact hC
      have E3 : m3 133 27 = nI 0 := by rw [f3.2 27 (by decide)]; exact hE
      have w3 : m3 133 30 = nI v := by rw [s2 133 (by decide)]; exact z2
      have hM : mk (gsD p z C 0) p.2.2.2.2.1 < 32 := Nat.lt_of_lt_of_le (mk_lt _ _) (Nat.pow_le_pow_right (by decide) hD)
      have cc := cn_le (gsD p z C 0) p.2.2.2.2.1
      have ev := plV_cn p C z
      have en : nI (cn (gsD p z C 0) p.2.2.2.2.1) = iI (plV p C z) := by rw [iI_n, ev]
      have el : (iI (plV p C z) ≤ iI s.1) = (plV p C z ≤ s.1) := ii_le (by omega) (by have := hs; unfold plOk at this; omega)
      have eb : bbS p C (some (v, z)) s = if s.1 < plV p C z then (plV p C z, v) else s := rfl
      rw [eb]
      by_cases q : plV p C z ≤ s.1
      · rw [if_neg (by omega)]
        obtain ⟨m', g1, g2, g3⟩ := ih (a + 1) s m3 (.int (iI (plV p C z))) (by omega) h3 C3 E3 hs
        refine ⟨m', f3.trans g1, g2, ?_⟩
        rw [e_X8_findPlan_22]
        simp only [e_X8_findPlan_0, e_X8_findPlan_1, e_X8_findPlan_2, e_X8_findPlan_5, e_X8_findPlan_13_i, e_X8_findPlan_13_r, e_X8_findPlan_14, e_X8_findPlan_16_i, e_X8_findPlan_16_r, e_X8_findPlan_16_n, e_X8_findPlan_17, e_X8_findPlan_18_i, e_X8_findPlan_18_r, e_X8_findPlan_18_n, e_X8_findPlan_19, e_X8_findPlan_20_i, e_X8_findPlan_20_r, e_X8_findPlan_20_n, e_X8_findPlan_24, e_X8_findPlan_25, e_X8_findPlan_29, e_X8_findPlan_32, e_X8_findPlan_36, e_X8_findPlan_37, e_X8_findPlan_39, e_X8_findPlan_43, e_X8_findPlan_46, e_X8_findPlan_47, e_X8_findPlan_48, e_X8_findPlan_57_i, e_X8_findPlan_57_r, e_X8_findPlan_57_n, e_X8_findPlan_59, e_X8_findPlan_61, e_X8_findPlan_62, e_X8_findPlan_65, e_X8_findPlan_66, e_X8_findPlan_69, e_X8_findPlan_72, e_X8_findPlan_73_i, e_X8_findPlan_73_r, e_X8_findPlan_73_n, e_X8_findPlan_74, e_X8_findPlan_76, e_X8_findPlan_77, e_X8_findPlan_80, e_X8_findPlan_82, e_X8_findPlan_85, e_X8_findPlan_86_i, e_X8_findPlan_86_r, e_X8_findPlan_86_n, e_X8_findPlan_87_i, e_X8_findPlan_87_r, e_X8_findPlan_87_n, e_X8_findPlan_90, e_X8_findPlan_93, e_X8_findPlan_94, e_X8_findPlan_95, e_X8_findPlan_98, e_X8_findPlan_99, eq_self, nI10, not_false_eq_true, not_true_eq_false, is2_i, is2_r, is2_n, nI_add, pk_mul, Nat.reduceAdd, Nat.reduceMul, e_X8_findPlan_26 (hE := s_X8_power (show off < 2 ^ 31 by omega)), e1, if_false, e_X8_findPlan_33 (hE := b3), e_X8_findPlan_40 (hE := c3), Option.isSome, bI_z, Bool.true_eq_false, e_X8_findPlan_51 (hE := s3), e_X8_findPlan_54 (hE := s_X8_many hM), pcn_mk _ hD, en, el, q, if_true]
        exact g3
      · rw [if_pos (by omega)]
        obtain ⟨m', g1, g2, g3⟩ := ih (a + 1) (plV p C z, v) m3 (.int (iI (plV p C z))) (by omega) h3 C3 E3 (by unfold plOk; simp only; omega)
        refine ⟨m', f3.trans g1, g2, ?_⟩
        rw [e_X8_findPlan_22]
        simp only [e_X8_findPlan_0, e_X8_findPlan_1, e_X8_findPlan_2, e_X8_findPlan_5, e_X8_findPlan_13_i, e_X8_findPlan_13_r, e_X8_findPlan_14, e_X8_findPlan_16_i, e_X8_findPlan_16_r, e_X8_findPlan_16_n, e_X8_findPlan_17, e_X8_findPlan_18_i, e_X8_findPlan_18_r, e_X8_findPlan_18_n, e_X8_findPlan_19, e_X8_findPlan_20_i, e_X8_findPlan_20_r, e_X8_findPlan_20_n, e_X8_findPlan_24, e_X8_findPlan_25, e_X8_findPlan_29, e_X8_findPlan_32, e_X8_findPlan_36, e_X8_findPlan_37, e_X8_findPlan_39, e_X8_findPlan_43, e_X8_findPlan_46, e_X8_findPlan_47, e_X8_findPlan_48, e_X8_findPlan_57_i, e_X8_findPlan_57_r, e_X8_findPlan_57_n, e_X8_findPlan_59, e_X8_findPlan_61, e_X8_findPlan_62, e_X8_findPlan_65, e_X8_findPlan_66, e_X8_findPlan_69, e_X8_findPlan_72, e_X8_findPlan_73_i, e_X8_findPlan_73_r, e_X8_findPlan_73_n, e_X8_findPlan_74, e_X8_findPlan_76, e_X8_findPlan_77, e_X8_findPlan_80, e_X8_findPlan_82, e_X8_findPlan_85, e_X8_findPlan_86_i, e_X8_findPlan_86_r, e_X8_findPlan_86_n, e_X8_findPlan_87_i, e_X8_findPlan_87_r, e_X8_findPlan_87_n, e_X8_findPlan_90, e_X8_findPlan_93, e_X8_findPlan_94, e_X8_findPlan_95, e_X8_findPlan_98, e_X8_findPlan_99, eq_self, nI10, not_false_eq_true, not_true_eq_false, is2_i, is2_r, is2_n, nI_add, pk_mul, Nat.reduceAdd, Nat.reduceMul, e_X8_findPlan_26 (hE := s_X8_power (show off < 2 ^ 31 by omega)), e1, if_false, e_X8_findPlan_33 (hE := b3), e_X8_findPlan_40 (hE := c3), Option.isSome, bI_z, Bool.true_eq_false, e_X8_findPlan_51 (hE := s3), e_X8_findPlan_54 (hE := s_X8_many hM), pcn_mk _ hD, en, el, q, w3]
        exact g3
theorem s_X8_findPlan (hC2 : C < 32) (h : RM tx p x n A kp K so sd m lg) (hC : m 133 28 = nI C) (hE : m 133 27 = nI 0) : ∃ m', FrP m m' ∧ m' 133 30 = nI (pPlan p C x).2 ∧ Ev o (d + 4) zX8_findPlan [.ref 133] (ai_w m lg) (some (.int (iI (pPlan p C x).1))) (ai_w m' lg) := by
  have hp := h.2.1
  have hD := hp.1.2.2.1
  have hM : mk (atP x 8) p.2.2.2.2.1 < 32 := Nat.lt_of_lt_of_le (mk_lt _ _) (Nat.pow_le_pow_right (by decide) hD)
  have sda := s_X8_dreamsAt (o := o) (d := d + 3) (lg := lg) hp h.2.2.1 (Or.inl rfl) (c := 8) (by omega)
  obtain ⟨m', g1, g2, g3⟩ := lp_X8_findPlan (o := o) (d := d) hC2 rfl (5 ^ cn (atP x 8) p.2.2.2.2.1) 0 (-9, 0) m .null (by omega) h hC hE (by unfold plOk; simp only; omega)
  rw [plan_fold hp.1.2.1] at g2 g3
  refine ⟨m', g1, g2, ?_⟩
  rw [ev_X8_findPlan]
  simp only [e_X8_findPlan_0, e_X8_findPlan_1, e_X8_findPlan_2, e_X8_findPlan_5, e_X8_findPlan_13_i, e_X8_findPlan_13_r, e_X8_findPlan_14, e_X8_findPlan_16_i, e_X8_findPlan_16_r, e_X8_findPlan_16_n, e_X8_findPlan_17, e_X8_findPlan_18_i, e_X8_findPlan_18_r, e_X8_findPlan_18_n, e_X8_findPlan_19, e_X8_findPlan_20_i, e_X8_findPlan_20_r, e_X8_findPlan_20_n, e_X8_findPlan_24, e_X8_findPlan_25, e_X8_findPlan_29, e_X8_findPlan_32, e_X8_findPlan_36, e_X8_findPlan_37, e_X8_findPlan_39, e_X8_findPlan_43, e_X8_findPlan_46, e_X8_findPlan_47, e_X8_findPlan_48, e_X8_findPlan_57_i, e_X8_findPlan_57_r, e_X8_findPlan_57_n, e_X8_findPlan_59, e_X8_findPlan_61, e_X8_findPlan_62, e_X8_findPlan_65, e_X8_findPlan_66, e_X8_findPlan_69, e_X8_findPlan_72, e_X8_findPlan_73_i, e_X8_findPlan_73_r, e_X8_findPlan_73_n, e_X8_findPlan_74, e_X8_findPlan_76, e_X8_findPlan_77, e_X8_findPlan_80, e_X8_findPlan_82, e_X8_findPlan_85, e_X8_findPlan_86_i, e_X8_findPlan_86_r, e_X8_findPlan_86_n, e_X8_findPlan_87_i, e_X8_findPlan_87_r, e_X8_findPlan_87_n, e_X8_findPlan_90, e_X8_findPlan_93, e_X8_findPlan_94, e_X8_findPlan_95, e_X8_findPlan_98, e_X8_findPlan_99, eq_self, nI10, not_false_eq_true, not_true_eq_false, is2_i, is2_r, is2_n, nI_add, pk_mul, Nat.reduceAdd, Nat.reduceMul, e_X8_findPlan_7 (hE := sda), e_X8_findPlan_10 (hE := s_X8_many hM), pcn_mk _ hD]
  exact g3
theorem s_X8_plan (h : RM tx p x n A kp K so sd m lg) : ∃ m', RM tx p x n A kp K so sd m' lg ∧ FrK m m' ∧ Ev o (d + 20) zX8_plan [.ref 133, .int k] (ai_w m lg) (some (.int (aPlan p x k))) (ai_w m' lg) := by
  have f := (frT (m := m)).trans (frPL (m := ai_up m 133 0 (nI 0)))
  have h' := h.q f
  have r28 := pl28 (m := ai_up m 133 0 (nI 0))
  have r27 := pl27 (m := ai_up m 133 0 (nI 0))
  obtain ⟨m2, hm2⟩ : ∃ m2, m2 = ai_up (ai_up (ai_up m 133 0 (nI 0)) 133 28 (nI 15)) 133 27 (nI 0) := ⟨_, rfl⟩
  rw [← hm2] at h' f r28 r27
  obtain ⟨m3, b1, b2, b3⟩ := s_X8_findPlan (o := o) (d := d + 15) (by decide) h' r28 r27
  rw [plan_C (all_C _ h'.2.1.1.2.1)] at b2 b3
  have f4 : FrN m3 (ai_up m3 133 29 (iI (pPlan p (2 ^ p.2.2.1 - 1) x).1)) := FrN.up (by decide)
  refine ⟨_, (h'.q b1.n).q f4, f.k.trans (b1.n.k.trans f4.k), ?_⟩
  rw [ev_X8_plan]
  unfold aPlan
  by_cases q : k = nI 0
  · simp only [e_X8_plan_0, e_X8_plan_1, e_X8_plan_2, e_X8_plan_5, e_X8_plan_9, e_X8_plan_10, e_X8_plan_14, e_X8_plan_17, e_X8_plan_18, e_X8_plan_21, e_X8_plan_22, e_X8_plan_25, e_X8_plan_28, e_X8_plan_29, e_X8_plan_32, eq_self, nI10, not_false_eq_true, not_true_eq_false, is2_i, is2_r, is2_n, nI_add, pk_mul, Nat.reduceAdd, Nat.reduceMul, e_X8_plan_6 (hE := s_X8_plainly), ← hm2, e_X8_plan_11 (hE := b3), q, if_true, up_eq]
  · have b2' : ai_up m3 133 29 (iI (pPlan p (2 ^ p.2.2.1 - 1) x).1) 133 30 = nI (pPlan p (2 ^ p.2.2.1 - 1) x).2 := by rw [up_eq, if_neg (by decide)]; exact b2
    simp only [e_X8_plan_0, e_X8_plan_1, e_X8_plan_2, e_X8_plan_5, e_X8_plan_9, e_X8_plan_10, e_X8_plan_14, e_X8_plan_17, e_X8_plan_18, e_X8_plan_21, e_X8_plan_22, e_X8_plan_25, e_X8_plan_28, e_X8_plan_29, e_X8_plan_32, eq_self, nI10, not_false_eq_true, not_true_eq_false, is2_i, is2_r, is2_n, nI_add, pk_mul, Nat.reduceAdd, Nat.reduceMul, e_X8_plan_6 (hE := s_X8_plainly), ← hm2, e_X8_plan_11 (hE := b3), q, if_false, b2']
theorem lp_X8_value {b : Nat} : ∀ (j c : Nat) (m : Nat → Nat → Int32), c + j = 2 ^ p.2.2.1 → RM tx p x n A kp K so sd m lg → m 133 27 = nI 0 → (∀ i, i < c → m 150 i = iI (pPlan p i x).1) → ∃ m', FrN m m' ∧ (∀ i, i < 2 ^ p.2.2.1 → m' 150 i = iI (pPlan p i x).1) ∧ ∀ r, Rn o (d + 20) zX8_share 21 [.ref 133, .int (nI b), .int k2, .int (nI c), .null, .null] [] (ai_w m lg) r = Rn o (d + 20) zX8_share 52 [.ref 133, .int (nI b), .int k2, .int (nI (2 ^ p.2.2.1)), .null, .null] [] (ai_w m' lg) r := by
  intro j
  induction j with
  | zero =>
    intro c m hj h hE hv
    have hB := h.2.1.1.2.1
    have : c = 2 ^ p.2.2.1 := by omega
    subst this
    refine ⟨m, FrN.rfl', hv, fun r => ?_⟩
    rw [e_X8_share_21]
    simp only [e_X8_share_0, e_X8_share_1, e_X8_share_2, e_X8_share_5, e_X8_share_6, e_X8_share_10, e_X8_share_13, e_X8_share_14, e_X8_share_15, e_X8_share_19, e_X8_share_20_i, e_X8_share_20_r, e_X8_share_20_n, e_X8_share_22, e_X8_share_23, e_X8_share_24, e_X8_share_27, e_X8_share_28, e_X8_share_31, e_X8_share_32, e_X8_share_33, e_X8_share_36, e_X8_share_37, e_X8_share_40, e_X8_share_41, e_X8_share_45, e_X8_share_46_i, e_X8_share_46_r, e_X8_share_46_n, e_X8_share_49, e_X8_share_53, e_X8_share_55, e_X8_share_58, e_X8_share_59_i, e_X8_share_59_r, e_X8_share_59_n, e_X8_share_60, e_X8_share_61_i, e_X8_share_61_r, e_X8_share_61_n, e_X8_share_65, e_X8_share_66, e_X8_share_67, e_X8_share_70, e_X8_share_71, e_X8_share_74, e_X8_share_76, e_X8_share_80, e_X8_share_83, e_X8_share_88_i, e_X8_share_88_r, e_X8_share_88_n, e_X8_share_90, e_X8_share_91, e_X8_share_96, e_X8_share_97, e_X8_share_100, e_X8_share_101, e_X8_share_102, e_X8_share_104, e_X8_share_108, e_X8_share_109, e_X8_share_110, e_X8_share_113, e_X8_share_115, e_X8_share_116, e_X8_share_117, e_X8_share_118, e_X8_share_119, e_X8_share_120, e_X8_share_121, e_X8_share_124, e_X8_share_126, e_X8_share_127, e_X8_share_128, e_X8_share_129, e_X8_share_130_i, e_X8_share_130_r, e_X8_share_130_n, e_X8_share_131_i, e_X8_share_131_r, e_X8_share_131_n, e_X8_share_134, e_X8_share_137, e_X8_share_138, e_X8_share_139, e_X8_share_145, e_X8_share_149, eq_self, nI10, not_false_eq_true, not_true_eq_false, is2_i, is2_r, is2_n, nI_add, pk_mul, Nat.reduceAdd, Nat.reduceMul, h.2.1.2.2.1, shl4 _ hB, Int32.le_refl, if_true]
  | succ j ih =>
    intro c m hj h hE hv
    have hp := h.2.1
    have hB := hp.1.2.1
    have h16 := pw4 _ hB
    have e1 : ¬ nI (2 ^ p.2.2.1) ≤ nI c := nI_ge (by omega) (by omega)
    have c16 : c < 16 := by omega
    obtain ⟨m1, hm1⟩ : ∃ m1, m1 = ai_up m 133 28 (nI c) := ⟨_, rfl⟩
    have f1 : FrN m m1 := by rw [hm1]; exact FrN.up (by decide)
    obtain ⟨m2, b1, b2, b3⟩ := s_X8_findPlan (o := o) (d := d + 15) (C := c) (by omega) (h.q f1) (by rw [hm1, up_eq, if_pos rfl]) (by rw [hm1, up_eq, if_neg (by decide)]; exact hE)
    obtain ⟨m3, hm3⟩ : ∃ m3, m3 = ai_up m2 150 c (iI (pPlan p c x).1) := ⟨_, rfl⟩
    have f3 : FrN m2 m3 := by
      rw [hm3]
      exact ⟨fun i hi => up_ne (by omega), fun k hk => by rw [up_ne (by decide)]⟩
    have fa := (f1.trans b1.n).trans f3
    have E3 : m3 133 27 = nI 0 := by rw [hm3, up_ne (by decide), b1.2 27 (by decide), hm1, up_eq, if_neg (by decide)]; exact hE
    obtain ⟨m', g1, g2, g3⟩ := ih (c + 1) m3 (by omega) (h.q fa) E3 (fun i hi => by
      rw [hm3, up_eq]
      by_cases q : i = c
      · rw [if_pos q, q]
      · rw [if_neg q, b1.1 150 (by decide) (by decide), hm1, up_ne (by decide)]
        exact hv i (by omega))
    refine ⟨m', fa.trans g1, g2, fun r => ?_⟩
    rw [e_X8_share_21, ← g3 r]
    simp only [e_X8_share_0, e_X8_share_1, e_X8_share_2, e_X8_share_5, e_X8_share_6, e_X8_share_10, e_X8_share_13, e_X8_share_14, e_X8_share_15, e_X8_share_19, e_X8_share_20_i, e_X8_share_20_r, e_X8_share_20_n, e_X8_share_22, e_X8_share_23, e_X8_share_24, e_X8_share_27, e_X8_share_28, e_X8_share_31, e_X8_share_32, e_X8_share_33, e_X8_share_36, e_X8_share_37, e_X8_share_40, e_X8_share_41, e_X8_share_45, e_X8_share_46_i, e_X8_share_46_r, e_X8_share_46_n, e_X8_share_49, e_X8_share_53, e_X8_share_55, e_X8_share_58, e_X8_share_59_i, e_X8_share_59_r, e_X8_share_59_n, e_X8_share_60, e_X8_share_61_i, e_X8_share_61_r, e_X8_share_61_n, e_X8_share_65, e_X8_share_66, e_X8_share_67, e_X8_share_70, e_X8_share_71, e_X8_share_74, e_X8_share_76, e_X8_share_80, e_X8_share_83, e_X8_share_88_i, e_X8_share_88_r, e_X8_share_88_n, e_X8_share_90, e_X8_share_91, e_X8_share_96, e_X8_share_97, e_X8_share_100, e_X8_share_101, e_X8_share_102, e_X8_share_104, e_X8_share_108, e_X8_share_109, e_X8_share_110, e_X8_share_113, e_X8_share_115, e_X8_share_116, e_X8_share_117, e_X8_share_118, e_X8_share_119, e_X8_share_120, e_X8_share_121, e_X8_share_124, e_X8_share_126, e_X8_share_127, e_X8_share_128, e_X8_share_129, e_X8_share_130_i, e_X8_share_130_r, e_X8_share_130_n, e_X8_share_131_i, e_X8_share_131_r, e_X8_share_131_n, e_X8_share_134, e_X8_share_137, e_X8_share_138, e_X8_share_139, e_X8_share_145, e_X8_share_149, eq_self, nI10, not_false_eq_true, not_true_eq_false, is2_i, is2_r, is2_n, nI_add, pk_mul, Nat.reduceAdd, Nat.reduceMul, hp.2.2.1, shl4 _ hB, e1, if_false, ← hm1, e_X8_share_42 (hE := b3), m0_150, ml_150, c16, ← hm3]
theorem lp_X8_share {b : Nat} (hb : b < p.2.2.1) (hp : RMp p m) (hv : ∀ i, i < 2 ^ p.2.2.1 → m 150 i = iI (pPlan p i x).1) : ∀ (j c : Nat) (a5 : Value), c + j = 2 ^ p.2.2.1 → Rn o (d + 20) zX8_share 63 [.ref 133, .int (nI b), .int k2, .int (iI (sumZ (shT p x b) c)), .int (nI c), a5] [] (ai_w m lg) (some (.int (aFrac (sumZ (shT p x b) (2 ^ p.2.2.1)) (fac p.2.2.1) k2)), ai_w m lg) := by
  have hB := hp.1.2.1
  have h16 := pw4 _ hB
  intro j
  induction j with
  | zero =>
    intro c a5 hj
    have : c = 2 ^ p.2.2.1 := by omega
    subst this
    have bd := sumZ_le (f := shT p x b) (K := 20000) (fun i => shT_le hp.1) (2 ^ p.2.2.1)
    have f1 := fac_le p.2.2.1
    have sf := s_X8_fraction (o := o) (d := d + 18) (w := ai_w m lg) (k := k2) (U := sumZ (shT p x b) (2 ^ p.2.2.1)) (L := fac p.2.2.1) (by
      generalize 2 ^ p.2.2.1 = G at *
      omega) (by
      generalize 2 ^ p.2.2.1 = G at *
      omega) f1.2 (by omega)
    rw [e_X8_share_63]
    simp only [e_X8_share_0, e_X8_share_1, e_X8_share_2, e_X8_share_5, e_X8_share_6, e_X8_share_10, e_X8_share_13, e_X8_share_14, e_X8_share_15, e_X8_share_19, e_X8_share_20_i, e_X8_share_20_r, e_X8_share_20_n, e_X8_share_22, e_X8_share_23, e_X8_share_24, e_X8_share_27, e_X8_share_28, e_X8_share_31, e_X8_share_32, e_X8_share_33, e_X8_share_36, e_X8_share_37, e_X8_share_40, e_X8_share_41, e_X8_share_45, e_X8_share_46_i, e_X8_share_46_r, e_X8_share_46_n, e_X8_share_49, e_X8_share_52, e_X8_share_53, e_X8_share_55, e_X8_share_58, e_X8_share_59_i, e_X8_share_59_r, e_X8_share_59_n, e_X8_share_60, e_X8_share_61_i, e_X8_share_61_r, e_X8_share_61_n, e_X8_share_65, e_X8_share_66, e_X8_share_67, e_X8_share_70, e_X8_share_71, e_X8_share_74, e_X8_share_76, e_X8_share_80, e_X8_share_83, e_X8_share_88_i, e_X8_share_88_r, e_X8_share_88_n, e_X8_share_90, e_X8_share_91, e_X8_share_96, e_X8_share_97, e_X8_share_100, e_X8_share_101, e_X8_share_102, e_X8_share_104, e_X8_share_108, e_X8_share_109, e_X8_share_110, e_X8_share_113, e_X8_share_115, e_X8_share_116, e_X8_share_117, e_X8_share_118, e_X8_share_119, e_X8_share_120, e_X8_share_121, e_X8_share_124, e_X8_share_126, e_X8_share_127, e_X8_share_128, e_X8_share_129, e_X8_share_130_i, e_X8_share_130_r, e_X8_share_130_n, e_X8_share_131_i, e_X8_share_131_r, e_X8_share_131_n, e_X8_share_134, e_X8_share_137, e_X8_share_138, e_X8_share_139, e_X8_share_145, e_X8_share_149, eq_self, nI10, not_false_eq_true, not_true_eq_false, is2_i, is2_r, is2_n, nI_add, pk_mul, Nat.reduceAdd, Nat.reduceMul, hp.2.2.1, shl4 _ hB, Int32.le_refl, if_true, e_X8_share_142 (hE := s_X8_ways hB), e_X8_share_146 (hE := sf)]
  | succ j ih =>
    intro c a5 hj
    have e1 : ¬ nI (2 ^ p.2.2.1) ≤ nI c := nI_ge (by omega) (by omega)
    have c32 : c < 32 := by omega
    by_cases hbit : c / 2 ^ b % 2 = 1
    · have es : sumZ (shT p x b) (c + 1) = sumZ (shT p x b) c := by rw [sumZ, show shT p x b c = 0 by unfold shT; rw [if_pos hbit]]; omega
      have g2 := ih (c + 1) a5 (by omega)
      rw [es] at g2
      rw [e_X8_share_63]
      simp only [e_X8_share_0, e_X8_share_1, e_X8_share_2, e_X8_share_5, e_X8_share_6, e_X8_share_10, e_X8_share_13, e_X8_share_14, e_X8_share_15, e_X8_share_19, e_X8_share_20_i, e_X8_share_20_r, e_X8_share_20_n, e_X8_share_22, e_X8_share_23, e_X8_share_24, e_X8_share_27, e_X8_share_28, e_X8_share_31, e_X8_share_32, e_X8_share_33, e_X8_share_36, e_X8_share_37, e_X8_share_40, e_X8_share_41, e_X8_share_45, e_X8_share_46_i, e_X8_share_46_r, e_X8_share_46_n, e_X8_share_49, e_X8_share_52, e_X8_share_53, e_X8_share_55, e_X8_share_58, e_X8_share_59_i, e_X8_share_59_r, e_X8_share_59_n, e_X8_share_60, e_X8_share_61_i, e_X8_share_61_r, e_X8_share_61_n, e_X8_share_65, e_X8_share_66, e_X8_share_67, e_X8_share_70, e_X8_share_71, e_X8_share_74, e_X8_share_76, e_X8_share_80, e_X8_share_83, e_X8_share_88_i, e_X8_share_88_r, e_X8_share_88_n, e_X8_share_90, e_X8_share_91, e_X8_share_96, e_X8_share_97, e_X8_share_100, e_X8_share_101, e_X8_share_102, e_X8_share_104, e_X8_share_108, e_X8_share_109, e_X8_share_110, e_X8_share_113, e_X8_share_115, e_X8_share_116, e_X8_share_117, e_X8_share_118, e_X8_share_119, e_X8_share_120, e_X8_share_121, e_X8_share_124, e_X8_share_126, e_X8_share_127, e_X8_share_128, e_X8_share_129, e_X8_share_130_i, e_X8_share_130_r, e_X8_share_130_n, e_X8_share_131_i, e_X8_share_131_r, e_X8_share_131_n, e_X8_share_134, e_X8_share_137, e_X8_share_138, e_X8_share_139, e_X8_share_145, e_X8_share_149, eq_self, nI10, not_false_eq_true, not_true_eq_false, is2_i, is2_r, is2_n, nI_add, pk_mul, Nat.reduceAdd, Nat.reduceMul, hp.2.2.1, shl4 _ hB, e1, if_false, e_X8_share_77 (hE := s_X8_has c32 (show b < 5 by omega)), hbit, decide_true, bI_z, Bool.true_eq_false, if_true]
      exact g2
    · have hb0 : c / 2 ^ b % 2 = 0 := by omega
      obtain ⟨q1, q2⟩ := pcn4 _ hB b hb c (by omega) hb0
      have g2 := ih (c + 1) (.int (nI (pcn c))) (by omega)
      have es : iI (sumZ (shT p x b) c) + nI (fac (pcn c) * fac (p.2.2.1 - 1 - pcn c)) * (iI (pPlan p (c + 2 ^ b) x).1 - iI (pPlan p c x).1) = iI (sumZ (shT p x b) (c + 1)) := by
        rw [iI_sub, iI_n, iI_mul, iI_add, sumZ, show shT p x b c = (fac (pcn c) * fac (p.2.2.1 - 1 - pcn c) : Nat) * ((pPlan p (c + 2 ^ b) x).1 - (pPlan p c x).1) by unfold shT; rw [if_neg hbit]]
      have i1 : nI p.2.2.1 - nI 1 = nI (p.2.2.1 - 1) := pk_sub (by omega)
      have i2 : nI (p.2.2.1 - 1) - nI (pcn c) = nI (p.2.2.1 - 1 - pcn c) := pk_sub (by omega)
      have o1 := or_b4 b (by omega) c (by omega) hb0
      have v1 := hv c (by omega)
      have v2 := hv (c + 2 ^ b) q2
      have l1 : c < 16 := by omega
      have l2 : c + 2 ^ b < 16 := by omega
      rw [e_X8_share_63]
      simp only [e_X8_share_0, e_X8_share_1, e_X8_share_2, e_X8_share_5, e_X8_share_6, e_X8_share_10, e_X8_share_13, e_X8_share_14, e_X8_share_15, e_X8_share_19, e_X8_share_20_i, e_X8_share_20_r, e_X8_share_20_n, e_X8_share_22, e_X8_share_23, e_X8_share_24, e_X8_share_27, e_X8_share_28, e_X8_share_31, e_X8_share_32, e_X8_share_33, e_X8_share_36, e_X8_share_37, e_X8_share_40, e_X8_share_41, e_X8_share_45, e_X8_share_46_i, e_X8_share_46_r, e_X8_share_46_n, e_X8_share_49, e_X8_share_52, e_X8_share_53, e_X8_share_55, e_X8_share_58, e_X8_share_59_i, e_X8_share_59_r, e_X8_share_59_n, e_X8_share_60, e_X8_share_61_i, e_X8_share_61_r, e_X8_share_61_n, e_X8_share_65, e_X8_share_66, e_X8_share_67, e_X8_share_70, e_X8_share_71, e_X8_share_74, e_X8_share_76, e_X8_share_80, e_X8_share_83, e_X8_share_88_i, e_X8_share_88_r, e_X8_share_88_n, e_X8_share_90, e_X8_share_91, e_X8_share_96, e_X8_share_97, e_X8_share_100, e_X8_share_101, e_X8_share_102, e_X8_share_104, e_X8_share_108, e_X8_share_109, e_X8_share_110, e_X8_share_113, e_X8_share_115, e_X8_share_116, e_X8_share_117, e_X8_share_118, e_X8_share_119, e_X8_share_120, e_X8_share_121, e_X8_share_124, e_X8_share_126, e_X8_share_127, e_X8_share_128, e_X8_share_129, e_X8_share_130_i, e_X8_share_130_r, e_X8_share_130_n, e_X8_share_131_i, e_X8_share_131_r, e_X8_share_131_n, e_X8_share_134, e_X8_share_137, e_X8_share_138, e_X8_share_139, e_X8_share_145, e_X8_share_149, eq_self, nI10, not_false_eq_true, not_true_eq_false, is2_i, is2_r, is2_n, nI_add, pk_mul, Nat.reduceAdd, Nat.reduceMul, hp.2.2.1, shl4 _ hB, e1, if_false, e_X8_share_77 (hE := s_X8_has c32 (show b < 5 by omega)), hbit, decide_false, bI_z, e_X8_share_85 (hE := s_X8_many c32), e_X8_share_93 (hE := s_X8_ways (show pcn c ≤ 4 by omega)), i1, i2, e_X8_share_105 (hE := s_X8_ways (show p.2.2.1 - 1 - pcn c ≤ 4 by omega)), m0_150, ml_150, l1, l2, o1, v1, v2, es]
      exact g2
theorem s_X8_share (h : RM tx p x n A kp K so sd m lg) : ∃ m', RM tx p x n A kp K so sd m' lg ∧ FrK m m' ∧ Ev o (d + 20) zX8_share [.ref 133, .int k, .int k2] (ai_w m lg) (some (.int (aShare p x k k2))) (ai_w m' lg) := by
  have f := frT (m := m)
  have h' := h.q f
  obtain ⟨m1, hm1⟩ : ∃ m1, m1 = ai_up m 133 0 (nI 0) := ⟨_, rfl⟩
  rw [← hm1] at h' f
  have hp := h'.2.1
  have hB := hp.1.2.1
  rcases sw_cases k p.2.2.1 (by omega) with ⟨b, hb, rfl, hs, hx⟩ | ⟨hs, hx, hn⟩
  · have ea : aShare p x (nI b) k2 = aFrac (sumZ (shT p x b) (2 ^ p.2.2.1)) (fac p.2.2.1) k2 := by unfold aShare; rw [hs]
    have f2 := frPL (m := m1)
    have r27 := pl27 (m := m1)
    obtain ⟨m2, hm2⟩ : ∃ m2, m2 = ai_up (ai_up m1 133 28 (nI 15)) 133 27 (nI 0) := ⟨_, rfl⟩
    rw [← hm2] at f2 r27
    have h2 := h'.q f2
    obtain ⟨m3, b1, b2, b3⟩ := lp_X8_value (o := o) (d := d) (k2 := k2) (b := b) (2 ^ p.2.2.1) 0 m2 (by omega) h2 r27 (fun i hi => absurd hi (Nat.not_lt_zero i))
    have f4 : FrN m3 (ai_up m3 133 28 (nI 15)) := FrN.up (by decide)
    have h4 := (h2.q b1).q f4
    have g2 := lp_X8_share (o := o) (d := d) (lg := lg) (k2 := k2) hb h4.2.1 (x := x) (by rw [up_ne (by decide)]; exact b2) (2 ^ p.2.2.1) 0 .null (by omega)
    rw [ea]
    refine ⟨_, h4, f.k.trans (f2.k.trans (b1.k.trans f4.k)), ?_⟩
    rw [ev_X8_share]
    simp only [e_X8_share_0, e_X8_share_1, e_X8_share_2, e_X8_share_5, e_X8_share_6, e_X8_share_10, e_X8_share_13, e_X8_share_14, e_X8_share_15, e_X8_share_19, e_X8_share_20_i, e_X8_share_20_r, e_X8_share_20_n, e_X8_share_22, e_X8_share_23, e_X8_share_24, e_X8_share_27, e_X8_share_28, e_X8_share_31, e_X8_share_32, e_X8_share_33, e_X8_share_36, e_X8_share_37, e_X8_share_40, e_X8_share_41, e_X8_share_45, e_X8_share_46_i, e_X8_share_46_r, e_X8_share_46_n, e_X8_share_49, e_X8_share_52, e_X8_share_53, e_X8_share_55, e_X8_share_58, e_X8_share_59_i, e_X8_share_59_r, e_X8_share_59_n, e_X8_share_60, e_X8_share_61_i, e_X8_share_61_r, e_X8_share_61_n, e_X8_share_65, e_X8_share_66, e_X8_share_67, e_X8_share_70, e_X8_share_71, e_X8_share_74, e_X8_share_76, e_X8_share_80, e_X8_share_83, e_X8_share_88_i, e_X8_share_88_r, e_X8_share_88_n, e_X8_share_90, e_X8_share_91, e_X8_share_96, e_X8_share_97, e_X8_share_100, e_X8_share_101, e_X8_share_102, e_X8_share_104, e_X8_share_108, e_X8_share_109, e_X8_share_110, e_X8_share_113, e_X8_share_115, e_X8_share_116, e_X8_share_117, e_X8_share_118, e_X8_share_119, e_X8_share_120, e_X8_share_121, e_X8_share_124, e_X8_share_126, e_X8_share_127, e_X8_share_128, e_X8_share_129, e_X8_share_130_i, e_X8_share_130_r, e_X8_share_130_n, e_X8_share_131_i, e_X8_share_131_r, e_X8_share_131_n, e_X8_share_134, e_X8_share_137, e_X8_share_138, e_X8_share_139, e_X8_share_145, e_X8_share_149, eq_self, nI10, not_false_eq_true, not_true_eq_false, is2_i, is2_r, is2_n, nI_add, pk_mul, Nat.reduceAdd, Nat.reduceMul, ← hm1, e_X8_share_7 (hE := s_X8_noBerth hp), hx, Bool.not_true, bI_z, if_true, e_X8_share_16 (hE := s_X8_plainly), ← hm2]
    refine Eq.mpr (b3 _) ?_
    simp only [e_X8_share_0, e_X8_share_1, e_X8_share_2, e_X8_share_5, e_X8_share_6, e_X8_share_10, e_X8_share_13, e_X8_share_14, e_X8_share_15, e_X8_share_19, e_X8_share_20_i, e_X8_share_20_r, e_X8_share_20_n, e_X8_share_22, e_X8_share_23, e_X8_share_24, e_X8_share_27, e_X8_share_28, e_X8_share_31, e_X8_share_32, e_X8_share_33, e_X8_share_36, e_X8_share_37, e_X8_share_40, e_X8_share_41, e_X8_share_45, e_X8_share_46_i, e_X8_share_46_r, e_X8_share_46_n, e_X8_share_49, e_X8_share_52, e_X8_share_53, e_X8_share_55, e_X8_share_58, e_X8_share_59_i, e_X8_share_59_r, e_X8_share_59_n, e_X8_share_60, e_X8_share_61_i, e_X8_share_61_r, e_X8_share_61_n, e_X8_share_65, e_X8_share_66, e_X8_share_67, e_X8_share_70, e_X8_share_71, e_X8_share_74, e_X8_share_76, e_X8_share_80, e_X8_share_83, e_X8_share_88_i, e_X8_share_88_r, e_X8_share_88_n, e_X8_share_90, e_X8_share_91, e_X8_share_96, e_X8_share_97, e_X8_share_100, e_X8_share_101, e_X8_share_102, e_X8_share_104, e_X8_share_108, e_X8_share_109, e_X8_share_110, e_X8_share_113, e_X8_share_115, e_X8_share_116, e_X8_share_117, e_X8_share_118, e_X8_share_119, e_X8_share_120, e_X8_share_121, e_X8_share_124, e_X8_share_126, e_X8_share_127, e_X8_share_128, e_X8_share_129, e_X8_share_130_i, e_X8_share_130_r, e_X8_share_130_n, e_X8_share_131_i, e_X8_share_131_r, e_X8_share_131_n, e_X8_share_134, e_X8_share_137, e_X8_share_138, e_X8_share_139, e_X8_share_145, e_X8_share_149, eq_self, nI10, not_false_eq_true, not_true_eq_false, is2_i, is2_r, is2_n, nI_add, pk_mul, Nat.reduceAdd, Nat.reduceMul]
    exact g2
  · have ea : aShare p x k k2 = -1 := by unfold aShare; rw [hs]
    rw [ea]
    refine ⟨m1, h', f.k, ?_⟩
    rw [ev_X8_share]
    simp only [e_X8_share_0, e_X8_share_1, e_X8_share_2, e_X8_share_5, e_X8_share_6, e_X8_share_10, e_X8_share_13, e_X8_share_14, e_X8_share_15, e_X8_share_19, e_X8_share_20_i, e_X8_share_20_r, e_X8_share_20_n, e_X8_share_22, e_X8_share_23, e_X8_share_24, e_X8_share_27, e_X8_share_28, e_X8_share_31, e_X8_share_32, e_X8_share_33, e_X8_share_36, e_X8_share_37, e_X8_share_40, e_X8_share_41, e_X8_share_45, e_X8_share_46_i, e_X8_share_46_r, e_X8_share_46_n, e_X8_share_49, e_X8_share_52, e_X8_share_53, e_X8_share_55, e_X8_share_58, e_X8_share_59_i, e_X8_share_59_r, e_X8_share_59_n, e_X8_share_60, e_X8_share_61_i, e_X8_share_61_r, e_X8_share_61_n, e_X8_share_65, e_X8_share_66, e_X8_share_67, e_X8_share_70, e_X8_share_71, e_X8_share_74, e_X8_share_76, e_X8_share_80, e_X8_share_83, e_X8_share_88_i, e_X8_share_88_r, e_X8_share_88_n, e_X8_share_90, e_X8_share_91, e_X8_share_96, e_X8_share_97, e_X8_share_100, e_X8_share_101, e_X8_share_102, e_X8_share_104, e_X8_share_108, e_X8_share_109, e_X8_share_110, e_X8_share_113, e_X8_share_115, e_X8_share_116, e_X8_share_117, e_X8_share_118, e_X8_share_119, e_X8_share_120, e_X8_share_121, e_X8_share_124, e_X8_share_126, e_X8_share_127, e_X8_share_128, e_X8_share_129, e_X8_share_130_i, e_X8_share_130_r, e_X8_share_130_n, e_X8_share_131_i, e_X8_share_131_r, e_X8_share_131_n, e_X8_share_134, e_X8_share_137, e_X8_share_138, e_X8_share_139, e_X8_share_145, e_X8_share_149, eq_self, nI10, not_false_eq_true, not_true_eq_false, is2_i, is2_r, is2_n, nI_add, pk_mul, Nat.reduceAdd, Nat.reduceMul, ← hm1, e_X8_share_7 (hE := s_X8_noBerth hp), hx, Bool.not_false, bI_z, Bool.true_eq_false, if_false]
end P63
