/-! The reference: fractions; tides that fail -/
theorem shl4 : ∀ B, B ≤ 4 → nI 1 <<< (nI B &&& 31) = nI (2 ^ B) := by decide +kernel
theorem fac_s : ∀ c, c ≤ 4 → 2 ≤ c → fac (c - 1) * c = fac c := by decide
/-- how many bits below n -/
def bcN (F : Nat) : Nat → Nat := sumN (fun i => F / 2 ^ i % 2)
theorem bcN_le (F : Nat) : ∀ n, bcN F n ≤ n := by
  intro n
  induction n with
  | zero => exact Nat.le_refl 0
  | succ n ih =>
    unfold bcN at ih ⊢
    rw [sumN]
    have : F / 2 ^ n % 2 < 2 := Nat.mod_lt _ (by decide)
    omega
theorem bc_pcn : ∀ B, B ≤ 4 → ∀ F, F < 2 ^ B → bcN F B = pcn F := by decide +kernel
theorem wt_pow (X F : Nat) : ∀ n, wtP X F n = X ^ bcN F n * (10 - X) ^ (n - bcN F n) := by
  intro n
  induction n with
  | zero => rfl
  | succ n ih =>
    have hl := bcN_le F n
    rw [wtP, ih, show bcN F (n + 1) = bcN F n + F / 2 ^ n % 2 from rfl]
    rcases (show F / 2 ^ n % 2 = 0 ∨ F / 2 ^ n % 2 = 1 by omega) with h | h
    · rw [h, if_neg (by decide), Nat.add_zero, show n + 1 - bcN F n = n - bcN F n + 1 by omega, Nat.pow_succ, Nat.mul_assoc]
    · rw [h, if_pos rfl, show n + 1 - (bcN F n + 1) = n - bcN F n by omega, Nat.pow_succ, Nat.mul_assoc, Nat.mul_assoc, Nat.mul_comm X]
theorem fail_gs {p : PT} {x : HS} (hp : ptOk p) (F : Nat) : cn (gsD p x 15 F) p.2.2.2.2.1 = sumN (pFail p x F) p.2.2.1 := by
  rw [gs_cn]
  refine sumN_congr (fun c hc => ?_)
  rw [if_pos (all15 c (by have := hp.2.1; omega))]
  rfl
section P58
variable {o : ai_S} {d : Nat} {w : ai_W} {m m' : Nat → Nat → Int32} {lg lg' : Nat → Nat → Int64} {tx : TX} {p : PT} {x : HS} {n : Nat} {A : Nat → HS} {kp : Nat → Bool} {K : Nat → HS} {so : SO} {sd : Int64} {r : Option Value × ai_W} {k k2 k3 : Int32}
theorem s_X8_ways {n : Nat} (hn : n ≤ 4) : Ev o d zX8_ways [.int (nI n)] w (some (.int (nI (fac n)))) w := by
  have lp : ∀ j c, c + j = n + 1 → 2 ≤ c → Rn o d zX8_ways 4 [.int (nI n), .int (nI (fac (c - 1))), .int (nI c)] [] w (some (.int (nI (fac n))), w) := by
    intro j
    induction j with
    | zero =>
      intro c hj hc
      have : c = n + 1 := by omega
      subst this
      have e1 : nI n < nI (n + 1) := nI_lt (by omega) (by omega)
      rw [e_X8_ways_4]
      simp only [e_X8_ways_0, e_X8_ways_1_i, e_X8_ways_1_r, e_X8_ways_2, e_X8_ways_3_i, e_X8_ways_3_r, e_X8_ways_3_n, e_X8_ways_5, e_X8_ways_6, e_X8_ways_9, e_X8_ways_10, e_X8_ways_11, e_X8_ways_12_i, e_X8_ways_12_r, e_X8_ways_13_i, e_X8_ways_13_r, e_X8_ways_13_n, e_X8_ways_16, e_X8_ways_19, e_X8_ways_20, eq_self, nI10, not_false_eq_true, not_true_eq_false, is2_i, is2_r, is2_n, nI_add, pk_mul, Nat.reduceAdd, Nat.reduceMul, e1, if_true, Nat.add_sub_cancel]
    | succ j ih =>
      intro c hj hc
      have e1 : ¬ nI n < nI c := nI_nlt (by omega) (by omega)
      have := ih (c + 1) (by omega) (by omega)
      rw [Nat.add_sub_cancel] at this
      rw [e_X8_ways_4]
      simp only [e_X8_ways_0, e_X8_ways_1_i, e_X8_ways_1_r, e_X8_ways_2, e_X8_ways_3_i, e_X8_ways_3_r, e_X8_ways_3_n, e_X8_ways_5, e_X8_ways_6, e_X8_ways_9, e_X8_ways_10, e_X8_ways_11, e_X8_ways_12_i, e_X8_ways_12_r, e_X8_ways_13_i, e_X8_ways_13_r, e_X8_ways_13_n, e_X8_ways_16, e_X8_ways_19, e_X8_ways_20, eq_self, nI10, not_false_eq_true, not_true_eq_false, is2_i, is2_r, is2_n, nI_add, pk_mul, Nat.reduceAdd, Nat.reduceMul, e1, if_false, fac_s c (by omega) hc]
      exact this
  rw [ev_X8_ways]
  simp only [e_X8_ways_0, e_X8_ways_1_i, e_X8_ways_1_r, e_X8_ways_2, e_X8_ways_3_i, e_X8_ways_3_r, e_X8_ways_3_n, e_X8_ways_5, e_X8_ways_6, e_X8_ways_9, e_X8_ways_10, e_X8_ways_11, e_X8_ways_12_i, e_X8_ways_12_r, e_X8_ways_13_i, e_X8_ways_13_r, e_X8_ways_13_n, e_X8_ways_16, e_X8_ways_19, e_X8_ways_20, eq_self, nI10, not_false_eq_true, not_true_eq_false, is2_i, is2_r, is2_n, nI_add, pk_mul, Nat.reduceAdd, Nat.reduceMul]
  by_cases h0 : n = 0
  · subst h0
    have e1 : nI 0 < nI 2 := by decide
    rw [e_X8_ways_4]
    simp only [e_X8_ways_0, e_X8_ways_1_i, e_X8_ways_1_r, e_X8_ways_2, e_X8_ways_3_i, e_X8_ways_3_r, e_X8_ways_3_n, e_X8_ways_5, e_X8_ways_6, e_X8_ways_9, e_X8_ways_10, e_X8_ways_11, e_X8_ways_12_i, e_X8_ways_12_r, e_X8_ways_13_i, e_X8_ways_13_r, e_X8_ways_13_n, e_X8_ways_16, e_X8_ways_19, e_X8_ways_20, eq_self, nI10, not_false_eq_true, not_true_eq_false, is2_i, is2_r, is2_n, nI_add, pk_mul, Nat.reduceAdd, Nat.reduceMul, e1, if_true]
    rfl
  · exact lp (n - 1) 2 (by omega) (by omega)
theorem s_X8_divisor {U : Int} {L : Nat} (h1 : -2147483648 < U) (h2 : U < 2147483648) (hL2 : L < 2 ^ 20) : Ev o d zX8_divisor [.int (iI U), .int (nI L)] w (some (.int (nI (Nat.gcd U.natAbs L)))) w := by
  have lp : ∀ N Q, Q ≤ N → ∀ P (a4 : Value), P < 2 ^ 31 → Q < 2 ^ 31 → Rn o d zX8_divisor 13 [.int (iI U), .int (nI L), .int (nI P), .int (nI Q), a4] [] w (some (.int (nI (Nat.gcd P Q))), w) := by
    intro N
    induction N with
    | zero =>
      intro Q hQ P a4 hP hQ2
      have : Q = 0 := by omega
      subst this
      rw [e_X8_divisor_13]
      simp only [e_X8_divisor_0, e_X8_divisor_1, e_X8_divisor_4, e_X8_divisor_5, e_X8_divisor_6, e_X8_divisor_9, e_X8_divisor_10_i, e_X8_divisor_10_r, e_X8_divisor_10_n, e_X8_divisor_11, e_X8_divisor_12_i, e_X8_divisor_12_r, e_X8_divisor_12_n, e_X8_divisor_14, e_X8_divisor_17, e_X8_divisor_18, e_X8_divisor_19, e_X8_divisor_20_i, e_X8_divisor_20_r, e_X8_divisor_20_n, e_X8_divisor_22, e_X8_divisor_23_i, e_X8_divisor_23_r, e_X8_divisor_23_n, e_X8_divisor_24, e_X8_divisor_26_i, e_X8_divisor_26_r, e_X8_divisor_26_n, e_X8_divisor_27, e_X8_divisor_30, e_X8_divisor_31, eq_self, nI10, not_false_eq_true, not_true_eq_false, is2_i, is2_r, is2_n, nI_add, pk_mul, Nat.reduceAdd, Nat.reduceMul, if_true, Nat.gcd_zero_right]
    | succ N ih =>
      intro Q hQ P a4 hP hQ2
      by_cases h0 : Q = 0
      · subst h0
        rw [e_X8_divisor_13]
        simp only [e_X8_divisor_0, e_X8_divisor_1, e_X8_divisor_4, e_X8_divisor_5, e_X8_divisor_6, e_X8_divisor_9, e_X8_divisor_10_i, e_X8_divisor_10_r, e_X8_divisor_10_n, e_X8_divisor_11, e_X8_divisor_12_i, e_X8_divisor_12_r, e_X8_divisor_12_n, e_X8_divisor_14, e_X8_divisor_17, e_X8_divisor_18, e_X8_divisor_19, e_X8_divisor_20_i, e_X8_divisor_20_r, e_X8_divisor_20_n, e_X8_divisor_22, e_X8_divisor_23_i, e_X8_divisor_23_r, e_X8_divisor_23_n, e_X8_divisor_24, e_X8_divisor_26_i, e_X8_divisor_26_r, e_X8_divisor_26_n, e_X8_divisor_27, e_X8_divisor_30, e_X8_divisor_31, eq_self, nI10, not_false_eq_true, not_true_eq_false, is2_i, is2_r, is2_n, nI_add, pk_mul, Nat.reduceAdd, Nat.reduceMul, if_true, Nat.gcd_zero_right]
      · have n0 : ¬ nI Q = nI 0 := fun z => h0 ((nI_eq hQ2 (by omega)).mp z)
        have n0' : ¬ nI Q = 0 := n0
        have rm := pk_rem (a := P) (d := Q) hP (by omega) hQ2
        have lt : P % Q < Q := Nat.mod_lt _ (by omega)
        have := ih (P % Q) (by omega) Q (.int (nI (P % Q))) hQ2 (by omega)
        have eg : Nat.gcd P Q = Nat.gcd Q (P % Q) := by rw [Nat.gcd_comm P Q, Nat.gcd_rec Q P, Nat.gcd_comm]
        rw [e_X8_divisor_13, eg]
        simp only [e_X8_divisor_0, e_X8_divisor_1, e_X8_divisor_4, e_X8_divisor_5, e_X8_divisor_6, e_X8_divisor_9, e_X8_divisor_10_i, e_X8_divisor_10_r, e_X8_divisor_10_n, e_X8_divisor_11, e_X8_divisor_12_i, e_X8_divisor_12_r, e_X8_divisor_12_n, e_X8_divisor_14, e_X8_divisor_17, e_X8_divisor_18, e_X8_divisor_19, e_X8_divisor_20_i, e_X8_divisor_20_r, e_X8_divisor_20_n, e_X8_divisor_22, e_X8_divisor_23_i, e_X8_divisor_23_r, e_X8_divisor_23_n, e_X8_divisor_24, e_X8_divisor_26_i, e_X8_divisor_26_r, e_X8_divisor_26_n, e_X8_divisor_27, e_X8_divisor_30, e_X8_divisor_31, eq_self, nI10, not_false_eq_true, not_true_eq_false, is2_i, is2_r, is2_n, nI_add, pk_mul, Nat.reduceAdd, Nat.reduceMul, n0, n0', if_false, rm]
        exact this
  have hz : ((nI 0) ≤ iI U) ↔ 0 ≤ U := by
    rw [Int32.le_iff_toInt_le, iI_toInt (by omega) h2]
    exact Iff.rfl
  rw [ev_X8_divisor]
  by_cases h : 0 ≤ U
  · have e1 : nI 0 ≤ iI U := hz.mpr h
    simp only [e_X8_divisor_0, e_X8_divisor_1, e_X8_divisor_4, e_X8_divisor_5, e_X8_divisor_6, e_X8_divisor_9, e_X8_divisor_10_i, e_X8_divisor_10_r, e_X8_divisor_10_n, e_X8_divisor_11, e_X8_divisor_12_i, e_X8_divisor_12_r, e_X8_divisor_12_n, e_X8_divisor_14, e_X8_divisor_17, e_X8_divisor_18, e_X8_divisor_19, e_X8_divisor_20_i, e_X8_divisor_20_r, e_X8_divisor_20_n, e_X8_divisor_22, e_X8_divisor_23_i, e_X8_divisor_23_r, e_X8_divisor_23_n, e_X8_divisor_24, e_X8_divisor_26_i, e_X8_divisor_26_r, e_X8_divisor_26_n, e_X8_divisor_27, e_X8_divisor_30, e_X8_divisor_31, eq_self, nI10, not_false_eq_true, not_true_eq_false, is2_i, is2_r, is2_n, nI_add, pk_mul, Nat.reduceAdd, Nat.reduceMul, e1, if_true]
    have := lp L L (Nat.le_refl L) U.natAbs .null (by omega) (by omega)
    rw [iI_n U.natAbs, Int.natAbs_of_nonneg h] at this
    exact this
  · have e1 : ¬ nI 0 ≤ iI U := fun z => h (hz.mp z)
    simp only [e_X8_divisor_0, e_X8_divisor_1, e_X8_divisor_4, e_X8_divisor_5, e_X8_divisor_6, e_X8_divisor_9, e_X8_divisor_10_i, e_X8_divisor_10_r, e_X8_divisor_10_n, e_X8_divisor_11, e_X8_divisor_12_i, e_X8_divisor_12_r, e_X8_divisor_12_n, e_X8_divisor_14, e_X8_divisor_17, e_X8_divisor_18, e_X8_divisor_19, e_X8_divisor_20_i, e_X8_divisor_20_r, e_X8_divisor_20_n, e_X8_divisor_22, e_X8_divisor_23_i, e_X8_divisor_23_r, e_X8_divisor_23_n, e_X8_divisor_24, e_X8_divisor_26_i, e_X8_divisor_26_r, e_X8_divisor_26_n, e_X8_divisor_27, e_X8_divisor_30, e_X8_divisor_31, eq_self, nI10, not_false_eq_true, not_true_eq_false, is2_i, is2_r, is2_n, nI_add, pk_mul, Nat.reduceAdd, Nat.reduceMul, e1, if_false, iI_neg]
    have := lp L L (Nat.le_refl L) U.natAbs .null (by omega) (by omega)
    rw [iI_n U.natAbs, show ((U.natAbs : Nat) : Int) = -U by omega] at this
    exact this
theorem s_X8_fraction {U : Int} {L : Nat} (h1 : -2147483648 < U) (h2 : U < 2147483648) (hL : 0 < L) (hL2 : L < 2 ^ 20) : Ev o (d + 1) zX8_fraction [.int (iI U), .int (nI L), .int k] w (some (.int (aFrac U L k))) w := by
  have hg : 0 < Nat.gcd U.natAbs L := Nat.gcd_pos_of_pos_right _ hL
  have hg2 : Nat.gcd U.natAbs L ≤ L := Nat.gcd_le_right _ hL
  have n0' : ¬ nI (Nat.gcd U.natAbs L) = 0 := fun z => by have := (nI_eq (b := 0) (by omega) (by omega)).mp z; omega
  have hq := pk_div (a := L) (d := Nat.gcd U.natAbs L) (by omega) hg (by omega)
  rw [ev_X8_fraction]
  unfold aFrac
  by_cases q : k = nI 0
  · simp only [e_X8_fraction_0, e_X8_fraction_1, e_X8_fraction_5_i, e_X8_fraction_5_r, e_X8_fraction_5_n, e_X8_fraction_6, e_X8_fraction_7, e_X8_fraction_10, e_X8_fraction_11, e_X8_fraction_12, e_X8_fraction_13, e_X8_fraction_16, e_X8_fraction_17, e_X8_fraction_18, e_X8_fraction_19, eq_self, nI10, not_false_eq_true, not_true_eq_false, is2_i, is2_r, is2_n, nI_add, pk_mul, Nat.reduceAdd, Nat.reduceMul, e_X8_fraction_2 (hE := s_X8_divisor h1 h2 hL2), n0', if_true, q, hq]
  · simp only [e_X8_fraction_0, e_X8_fraction_1, e_X8_fraction_5_i, e_X8_fraction_5_r, e_X8_fraction_5_n, e_X8_fraction_6, e_X8_fraction_7, e_X8_fraction_10, e_X8_fraction_11, e_X8_fraction_12, e_X8_fraction_13, e_X8_fraction_16, e_X8_fraction_17, e_X8_fraction_18, e_X8_fraction_19, eq_self, nI10, not_false_eq_true, not_true_eq_false, is2_i, is2_r, is2_n, nI_add, pk_mul, Nat.reduceAdd, Nat.reduceMul, e_X8_fraction_2 (hE := s_X8_divisor h1 h2 hL2), n0', q, if_false]
theorem lp_X8_ebb {M X : Nat} (hM : M < 6) (hX : X < 11) : ∀ (j c : Nat) (m : Nat → Nat → Int32) (a6 : Value), c + j = 2 ^ p.2.2.1 → RM tx p x n A kp K so sd m lg → m 133 28 = nI 15 → ∃ m', FrN m m' ∧ Rn o (d + 20) zX8_ebb 42 [.ref 133, .int (nI M), .int (nI X), .int k3, .int (nI (sumN (ebT p x M X) c)), .int (nI c), a6] [] (ai_w m lg) (some (.int (aFrac (sumN (ebT p x M X) (2 ^ p.2.2.1) : Nat) (10 ^ p.2.2.1) k3)), ai_w m' lg) := by
  intro j
  induction j with
  | zero =>
    intro c m a6 hj h hC
    have hp := h.2.1
    have hB := hp.1.2.1
    have h16 := pw4 _ hB
    have h10 := pw10 _ hB
    have : c = 2 ^ p.2.2.1 := by omega
    subst this
    have f : FrN m (ai_up m 133 27 (nI 0)) := FrN.up (by decide)
    have hp' := (h.q f).2.1
    refine ⟨_, f, ?_⟩
    have bd := sumN_le (f := ebT p x M X) (K := 10000) (fun i => ebT_le hp.1 (by omega)) (2 ^ p.2.2.1)
    rw [e_X8_ebb_42]
    have sf := s_X8_fraction (o := o) (d := d + 18) (w := ai_w (ai_up m 133 27 (nI 0)) lg) (k := k3) (U := (sumN (ebT p x M X) (2 ^ p.2.2.1) : Nat)) (L := 10 ^ p.2.2.1) (by omega) (by omega) h10.1 (by omega)
    rw [← iI_n] at sf
    simp only [e_X8_ebb_0, e_X8_ebb_1, e_X8_ebb_2, e_X8_ebb_5, e_X8_ebb_9, e_X8_ebb_10, e_X8_ebb_11, e_X8_ebb_12, e_X8_ebb_18, e_X8_ebb_21, e_X8_ebb_22, e_X8_ebb_23, e_X8_ebb_24, e_X8_ebb_30, e_X8_ebb_33, e_X8_ebb_35, e_X8_ebb_36, e_X8_ebb_37_i, e_X8_ebb_37_r, e_X8_ebb_37_n, e_X8_ebb_39, e_X8_ebb_40_i, e_X8_ebb_40_r, e_X8_ebb_40_n, e_X8_ebb_44, e_X8_ebb_45, e_X8_ebb_46, e_X8_ebb_49, e_X8_ebb_50, e_X8_ebb_53, e_X8_ebb_57, e_X8_ebb_58, e_X8_ebb_60, e_X8_ebb_63, e_X8_ebb_68_i, e_X8_ebb_68_r, e_X8_ebb_68_n, e_X8_ebb_70, e_X8_ebb_72, e_X8_ebb_73, e_X8_ebb_74, e_X8_ebb_83, e_X8_ebb_84, e_X8_ebb_87, e_X8_ebb_88, e_X8_ebb_93, e_X8_ebb_95, e_X8_ebb_96, e_X8_ebb_97, e_X8_ebb_98, e_X8_ebb_101, e_X8_ebb_103, e_X8_ebb_107, e_X8_ebb_108, e_X8_ebb_111, e_X8_ebb_112, e_X8_ebb_113_i, e_X8_ebb_113_r, e_X8_ebb_113_n, e_X8_ebb_115_i, e_X8_ebb_115_r, e_X8_ebb_115_n, e_X8_ebb_118, e_X8_ebb_121, e_X8_ebb_122, e_X8_ebb_123, e_X8_ebb_126, e_X8_ebb_128, e_X8_ebb_130, e_X8_ebb_131, e_X8_ebb_137, e_X8_ebb_141, eq_self, nI10, not_false_eq_true, not_true_eq_false, is2_i, is2_r, is2_n, nI_add, pk_mul, Nat.reduceAdd, Nat.reduceMul, hp.2.2.1, shl4 _ hB, Int32.le_refl, if_true, hp'.2.2.1, e_X8_ebb_134 (hE := s_X8_power (show p.2.2.1 < 2 ^ 31 by omega)), e_X8_ebb_138 (hE := sf)]
  | succ j ih =>
    intro c m a6 hj h hC
    have hp := h.2.1
    have hB := hp.1.2.1
    have hD := hp.1.2.2.1
    have h16 := pw4 _ hB
    have e1 : ¬ nI (2 ^ p.2.2.1) ≤ nI c := nI_ge (by omega) (by omega)
    have c32 : c < 32 := by omega
    obtain ⟨m1, b1, b2, b3⟩ := s_X8_begin (o := o) (d := d + 19) (lg := lg) hp.1 h.2.2.1
    obtain ⟨m2, hm2⟩ : ∃ m2, m2 = ai_up m1 133 27 (nI c) := ⟨_, rfl⟩
    have fr2 : FrN m m2 := by rw [hm2]; exact (FrN.ofS b2).trans (FrN.up (by decide))
    have h2 := h.q fr2
    have r28 : m2 133 28 = nI 15 := by rw [hm2, up_eq, if_neg (by decide), b2 133 (by decide)]; exact hC
    have r27 : m2 133 27 = nI c := by rw [hm2, up_eq, if_pos rfl]
    have g42 : RG p x (m2 142) := by rw [hm2, up_ne (by decide)]; exact b1
    obtain ⟨m3, s1, s2, s3⟩ := s_X8_goSleep (o := o) (d := d + 16) (lg := lg) (Or.inr rfl) (by decide) c32 h2.2.1 r28 r27 g42
    have fr3 := fr2.trans (FrN.ofS s2)
    have h3 := h.q fr3
    obtain ⟨m', g1, g2⟩ := ih (c + 1) m3 (.int (nI (pcn c))) (by omega) h3 (by rw [s2 133 (by decide)]; exact r28)
    have hM9 : mk (gsD p x 15 c) p.2.2.2.2.1 < 32 := Nat.lt_of_lt_of_le (mk_lt _ _) (Nat.pow_le_pow_right (by decide) hD)
    have cl := cn_le (gsD p x 15 c) p.2.2.2.2.1
    have ec : (nI (cn (gsD p x 15 c) p.2.2.2.2.1) < nI M) = (cn (gsD p x 15 c) p.2.2.2.2.1 < M) := propext (nI_ltI (by omega) (by omega))
    have bp := bc_pcn _ hB c (by omega)
    have bl := bcN_le c p.2.2.1
    have i1 : nI 10 - nI X = nI (10 - X) := pk_sub (by omega)
    have i2 : nI p.2.2.1 - nI (pcn c) = nI (p.2.2.1 - pcn c) := pk_sub (by omega)
    have hp3 := h3.2.1
    refine ⟨m', fr3.trans g1, ?_⟩
    rw [sumN] at g2
    rw [e_X8_ebb_42]
    by_cases q : cn (gsD p x 15 c) p.2.2.2.2.1 < M
    · rw [show ebT p x M X c = 0 by unfold ebT; rw [← fail_gs hp.1, if_neg (by omega)]] at g2
      simp only [e_X8_ebb_0, e_X8_ebb_1, e_X8_ebb_2, e_X8_ebb_5, e_X8_ebb_9, e_X8_ebb_10, e_X8_ebb_11, e_X8_ebb_12, e_X8_ebb_18, e_X8_ebb_21, e_X8_ebb_22, e_X8_ebb_23, e_X8_ebb_24, e_X8_ebb_30, e_X8_ebb_33, e_X8_ebb_35, e_X8_ebb_36, e_X8_ebb_37_i, e_X8_ebb_37_r, e_X8_ebb_37_n, e_X8_ebb_39, e_X8_ebb_40_i, e_X8_ebb_40_r, e_X8_ebb_40_n, e_X8_ebb_44, e_X8_ebb_45, e_X8_ebb_46, e_X8_ebb_49, e_X8_ebb_50, e_X8_ebb_53, e_X8_ebb_57, e_X8_ebb_58, e_X8_ebb_60, e_X8_ebb_63, e_X8_ebb_68_i, e_X8_ebb_68_r, e_X8_ebb_68_n, e_X8_ebb_70, e_X8_ebb_72, e_X8_ebb_73, e_X8_ebb_74, e_X8_ebb_83, e_X8_ebb_84, e_X8_ebb_87, e_X8_ebb_88, e_X8_ebb_93, e_X8_ebb_95, e_X8_ebb_96, e_X8_ebb_97, e_X8_ebb_98, e_X8_ebb_101, e_X8_ebb_103, e_X8_ebb_107, e_X8_ebb_108, e_X8_ebb_111, e_X8_ebb_112, e_X8_ebb_113_i, e_X8_ebb_113_r, e_X8_ebb_113_n, e_X8_ebb_115_i, e_X8_ebb_115_r, e_X8_ebb_115_n, e_X8_ebb_118, e_X8_ebb_121, e_X8_ebb_122, e_X8_ebb_123, e_X8_ebb_126, e_X8_ebb_128, e_X8_ebb_130, e_X8_ebb_131, e_X8_ebb_137, e_X8_ebb_141, eq_self, nI10, not_false_eq_true, not_true_eq_false, is2_i, is2_r, is2_n, nI_add, pk_mul, Nat.reduceAdd, Nat.reduceMul, hp.2.2.1, shl4 _ hB, e1, if_false, e_X8_ebb_54 (hE := b3), ← hm2, e_X8_ebb_65 (hE := s_X8_many c32), e_X8_ebb_77 (hE := s3), e_X8_ebb_80 (hE := s_X8_many hM9), pcn_mk _ hD, ec, q, if_true]
      exact g2
    · rw [show ebT p x M X c = X ^ pcn c * (10 - X) ^ (p.2.2.1 - pcn c) by unfold ebT; rw [← fail_gs hp.1, if_pos (by omega), wt_pow, bp]] at g2
      simp only [e_X8_ebb_0, e_X8_ebb_1, e_X8_ebb_2, e_X8_ebb_5, e_X8_ebb_9, e_X8_ebb_10, e_X8_ebb_11, e_X8_ebb_12, e_X8_ebb_18, e_X8_ebb_21, e_X8_ebb_22, e_X8_ebb_23, e_X8_ebb_24, e_X8_ebb_30, e_X8_ebb_33, e_X8_ebb_35, e_X8_ebb_36, e_X8_ebb_37_i, e_X8_ebb_37_r, e_X8_ebb_37_n, e_X8_ebb_39, e_X8_ebb_40_i, e_X8_ebb_40_r, e_X8_ebb_40_n, e_X8_ebb_44, e_X8_ebb_45, e_X8_ebb_46, e_X8_ebb_49, e_X8_ebb_50, e_X8_ebb_53, e_X8_ebb_57, e_X8_ebb_58, e_X8_ebb_60, e_X8_ebb_63, e_X8_ebb_68_i, e_X8_ebb_68_r, e_X8_ebb_68_n, e_X8_ebb_70, e_X8_ebb_72, e_X8_ebb_73, e_X8_ebb_74, e_X8_ebb_83, e_X8_ebb_84, e_X8_ebb_87, e_X8_ebb_88, e_X8_ebb_93, e_X8_ebb_95, e_X8_ebb_96, e_X8_ebb_97, e_X8_ebb_98, e_X8_ebb_101, e_X8_ebb_103, e_X8_ebb_107, e_X8_ebb_108, e_X8_ebb_111, e_X8_ebb_112, e_X8_ebb_113_i, e_X8_ebb_113_r, e_X8_ebb_113_n, e_X8_ebb_115_i, e_X8_ebb_115_r, e_X8_ebb_115_n, e_X8_ebb_118, e_X8_ebb_121, e_X8_ebb_122, e_X8_ebb_123, e_X8_ebb_126, e_X8_ebb_128, e_X8_ebb_130, e_X8_ebb_131, e_X8_ebb_137, e_X8_ebb_141, eq_self, nI10, not_false_eq_true, not_true_eq_false, is2_i, is2_r, is2_n, nI_add, pk_mul, Nat.reduceAdd, Nat.reduceMul, hp.2.2.1, shl4 _ hB, e1, if_false, e_X8_ebb_54 (hE := b3), ← hm2, e_X8_ebb_65 (hE := s_X8_many c32), e_X8_ebb_77 (hE := s3), e_X8_ebb_80 (hE := s_X8_many hM9), pcn_mk _ hD, ec, q, e_X8_ebb_90 (hE := s_X8_power (show pcn c < 2 ^ 31 by omega)), i1, hp3.2.2.1, i2, e_X8_ebb_104 (hE := s_X8_power (show p.2.2.1 - pcn c < 2 ^ 31 by omega))]
      exact g2
theorem s_X8_ebb (h : RM tx p x n A kp K so sd m lg) : ∃ m', RM tx p x n A kp K so sd m' lg ∧ FrK m m' ∧ Ev o (d + 20) zX8_ebb [.ref 133, .int k, .int k2, .int k3] (ai_w m lg) (some (.int (aEbb p x k k2 k3))) (ai_w m' lg) := by
  have f := (frT (m := m)).trans (frPL (m := ai_up m 133 0 (nI 0)))
  have h' := h.q f
  have r28 := pl28 (m := ai_up m 133 0 (nI 0))
  obtain ⟨m2, hm2⟩ : ∃ m2, m2 = ai_up (ai_up (ai_up m 133 0 (nI 0)) 133 28 (nI 15)) 133 27 (nI 0) := ⟨_, rfl⟩
  rw [← hm2] at h' f r28
  have i1 := in_z (k := k) (n := 5) (v := 5) rfl (by decide)
  have i2 := in_z (k := k2) (n := 10) (v := 10) rfl (by decide)
  rcases sw_cases k 6 (by decide) with ⟨M, hM, rfl, hs, hx⟩ | ⟨hs, hx, hn⟩
  · rcases sw_cases k2 11 (by decide) with ⟨X, hX, rfl, hs2, hx2⟩ | ⟨hs2, hx2, hn2⟩
    · have ea : aEbb p x (nI M) (nI X) k3 = aFrac (sumN (ebT p x M X) (2 ^ p.2.2.1) : Nat) (10 ^ p.2.2.1) k3 := by unfold aEbb; rw [hs, hs2]
      obtain ⟨m', g1, g2⟩ := lp_X8_ebb (o := o) (d := d) (k3 := k3) hM hX (2 ^ p.2.2.1) 0 m2 .null (by omega) h' r28
      rw [ea]
      refine ⟨m', h'.q g1, f.k.trans g1.k, ?_⟩
      rw [ev_X8_ebb]
      simp only [e_X8_ebb_0, e_X8_ebb_1, e_X8_ebb_2, e_X8_ebb_5, e_X8_ebb_9, e_X8_ebb_10, e_X8_ebb_11, e_X8_ebb_12, e_X8_ebb_18, e_X8_ebb_21, e_X8_ebb_22, e_X8_ebb_23, e_X8_ebb_24, e_X8_ebb_30, e_X8_ebb_33, e_X8_ebb_35, e_X8_ebb_36, e_X8_ebb_37_i, e_X8_ebb_37_r, e_X8_ebb_37_n, e_X8_ebb_39, e_X8_ebb_40_i, e_X8_ebb_40_r, e_X8_ebb_40_n, e_X8_ebb_44, e_X8_ebb_45, e_X8_ebb_46, e_X8_ebb_49, e_X8_ebb_50, e_X8_ebb_53, e_X8_ebb_57, e_X8_ebb_58, e_X8_ebb_60, e_X8_ebb_63, e_X8_ebb_68_i, e_X8_ebb_68_r, e_X8_ebb_68_n, e_X8_ebb_70, e_X8_ebb_72, e_X8_ebb_73, e_X8_ebb_74, e_X8_ebb_83, e_X8_ebb_84, e_X8_ebb_87, e_X8_ebb_88, e_X8_ebb_93, e_X8_ebb_95, e_X8_ebb_96, e_X8_ebb_97, e_X8_ebb_98, e_X8_ebb_101, e_X8_ebb_103, e_X8_ebb_107, e_X8_ebb_108, e_X8_ebb_111, e_X8_ebb_112, e_X8_ebb_113_i, e_X8_ebb_113_r, e_X8_ebb_113_n, e_X8_ebb_115_i, e_X8_ebb_115_r, e_X8_ebb_115_n, e_X8_ebb_118, e_X8_ebb_121, e_X8_ebb_122, e_X8_ebb_123, e_X8_ebb_126, e_X8_ebb_128, e_X8_ebb_130, e_X8_ebb_131, e_X8_ebb_137, e_X8_ebb_141, eq_self, nI10, not_false_eq_true, not_true_eq_false, is2_i, is2_r, is2_n, nI_add, pk_mul, Nat.reduceAdd, Nat.reduceMul, e_X8_ebb_6 (hE := s_X8_plainly), ← hm2, e_X8_ebb_15 (hE := s_X8_in), i1, hx, bI_z, Bool.true_eq_false, if_false, e_X8_ebb_27 (hE := s_X8_in), i2, hx2, if_true]
      exact g2
    · have ea : aEbb p x (nI M) k2 k3 = -2 := by unfold aEbb; rw [hs, hs2]
      rw [ea]
      refine ⟨m2, h', f.k, ?_⟩
      rw [ev_X8_ebb]
      simp only [e_X8_ebb_0, e_X8_ebb_1, e_X8_ebb_2, e_X8_ebb_5, e_X8_ebb_9, e_X8_ebb_10, e_X8_ebb_11, e_X8_ebb_12, e_X8_ebb_18, e_X8_ebb_21, e_X8_ebb_22, e_X8_ebb_23, e_X8_ebb_24, e_X8_ebb_30, e_X8_ebb_33, e_X8_ebb_35, e_X8_ebb_36, e_X8_ebb_37_i, e_X8_ebb_37_r, e_X8_ebb_37_n, e_X8_ebb_39, e_X8_ebb_40_i, e_X8_ebb_40_r, e_X8_ebb_40_n, e_X8_ebb_44, e_X8_ebb_45, e_X8_ebb_46, e_X8_ebb_49, e_X8_ebb_50, e_X8_ebb_53, e_X8_ebb_57, e_X8_ebb_58, e_X8_ebb_60, e_X8_ebb_63, e_X8_ebb_68_i, e_X8_ebb_68_r, e_X8_ebb_68_n, e_X8_ebb_70, e_X8_ebb_72, e_X8_ebb_73, e_X8_ebb_74, e_X8_ebb_83, e_X8_ebb_84, e_X8_ebb_87, e_X8_ebb_88, e_X8_ebb_93, e_X8_ebb_95, e_X8_ebb_96, e_X8_ebb_97, e_X8_ebb_98, e_X8_ebb_101, e_X8_ebb_103, e_X8_ebb_107, e_X8_ebb_108, e_X8_ebb_111, e_X8_ebb_112, e_X8_ebb_113_i, e_X8_ebb_113_r, e_X8_ebb_113_n, e_X8_ebb_115_i, e_X8_ebb_115_r, e_X8_ebb_115_n, e_X8_ebb_118, e_X8_ebb_121, e_X8_ebb_122, e_X8_ebb_123, e_X8_ebb_126, e_X8_ebb_128, e_X8_ebb_130, e_X8_ebb_131, e_X8_ebb_137, e_X8_ebb_141, eq_self, nI10, not_false_eq_true, not_true_eq_false, is2_i, is2_r, is2_n, nI_add, pk_mul, Nat.reduceAdd, Nat.reduceMul, e_X8_ebb_6 (hE := s_X8_plainly), ← hm2, e_X8_ebb_15 (hE := s_X8_in), i1, hx, bI_z, Bool.true_eq_false, if_false, e_X8_ebb_27 (hE := s_X8_in), i2, hx2]
  · have ea : aEbb p x k k2 k3 = -2 := by unfold aEbb; rw [hs]
    rw [ea]
    refine ⟨m2, h', f.k, ?_⟩
    rw [ev_X8_ebb]
    simp only [e_X8_ebb_0, e_X8_ebb_1, e_X8_ebb_2, e_X8_ebb_5, e_X8_ebb_9, e_X8_ebb_10, e_X8_ebb_11, e_X8_ebb_12, e_X8_ebb_18, e_X8_ebb_21, e_X8_ebb_22, e_X8_ebb_23, e_X8_ebb_24, e_X8_ebb_30, e_X8_ebb_33, e_X8_ebb_35, e_X8_ebb_36, e_X8_ebb_37_i, e_X8_ebb_37_r, e_X8_ebb_37_n, e_X8_ebb_39, e_X8_ebb_40_i, e_X8_ebb_40_r, e_X8_ebb_40_n, e_X8_ebb_44, e_X8_ebb_45, e_X8_ebb_46, e_X8_ebb_49, e_X8_ebb_50, e_X8_ebb_53, e_X8_ebb_57, e_X8_ebb_58, e_X8_ebb_60, e_X8_ebb_63, e_X8_ebb_68_i, e_X8_ebb_68_r, e_X8_ebb_68_n, e_X8_ebb_70, e_X8_ebb_72, e_X8_ebb_73, e_X8_ebb_74, e_X8_ebb_83, e_X8_ebb_84, e_X8_ebb_87, e_X8_ebb_88, e_X8_ebb_93, e_X8_ebb_95, e_X8_ebb_96, e_X8_ebb_97, e_X8_ebb_98, e_X8_ebb_101, e_X8_ebb_103, e_X8_ebb_107, e_X8_ebb_108, e_X8_ebb_111, e_X8_ebb_112, e_X8_ebb_113_i, e_X8_ebb_113_r, e_X8_ebb_113_n, e_X8_ebb_115_i, e_X8_ebb_115_r, e_X8_ebb_115_n, e_X8_ebb_118, e_X8_ebb_121, e_X8_ebb_122, e_X8_ebb_123, e_X8_ebb_126, e_X8_ebb_128, e_X8_ebb_130, e_X8_ebb_131, e_X8_ebb_137, e_X8_ebb_141, eq_self, nI10, not_false_eq_true, not_true_eq_false, is2_i, is2_r, is2_n, nI_add, pk_mul, Nat.reduceAdd, Nat.reduceMul, e_X8_ebb_6 (hE := s_X8_plainly), ← hm2, e_X8_ebb_15 (hE := s_X8_in), i1, hx, bI_z, if_true]
end P58
