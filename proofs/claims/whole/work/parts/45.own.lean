/-! SleepHarbour's own methods: plans, shares, doings judged -/
theorem iI_n (n : Nat) : nI n = iI (n : Int) := rfl
theorem iI_add (a b : Int) : iI a + iI b = iI (a + b) := (Int32.ofInt_add a b).symm
theorem iI_mul (a b : Int) : iI a * iI b = iI (a * b) := (Int32.ofInt_mul a b).symm
theorem iI_neg (a : Int) : - iI a = iI (- a) := (Int32.ofInt_neg a).symm
theorem iI_sub (a b : Int) : iI a - iI b = iI (a - b) := by rw [Int32.sub_eq_add_neg, iI_neg, iI_add, Int.sub_eq_add_neg]
theorem iI_toInt {a : Int} (h1 : -2147483648 ≤ a) (h2 : a < 2147483648) : (iI a).toInt = a := Int32.toInt_ofInt_of_le h1 h2
def sumZ (f : Nat → Int) : Nat → Int
  | 0 => 0
  | n + 1 => sumZ f n + f n
def fac : Nat → Nat
  | 0 => 1
  | 1 => 1
  | 2 => 2
  | 3 => 6
  | _ => 24
def oOk (o : ai_S) : Prop := o.1 1 = 5 ∧ ∀ j, j < 5 → o.2 1 j = nI (fac j)
theorem or_b4 : ∀ b, b < 4 → ∀ c, c < 16 → c / 2 ^ b % 2 = 0 → nI c ||| (nI 1 <<< (nI b &&& 31)) = nI (c + 2 ^ b) := by decide +kernel
theorem pcn4 : ∀ B, B ≤ 4 → ∀ b, b < B → ∀ c, c < 2 ^ B → c / 2 ^ b % 2 = 0 → pcn c + 1 ≤ B ∧ c + 2 ^ b < 2 ^ B := by decide +kernel
theorem all4 : ∀ B, B ≤ 4 → (nI 1 <<< (nI B &&& 31)) - nI 1 = nI (2 ^ B - 1) := by decide +kernel
theorem pw4 : ∀ B, B ≤ 4 → 1 ≤ 2 ^ B ∧ 2 ^ B ≤ 16 := by decide +kernel
def shT (p : PT) (x : HS) (b c : Nat) : Int := if c / 2 ^ b % 2 = 1 then 0 else (fac (pcn c) * fac (p.2.2.1 - 1 - pcn c) : Nat) * ((pPlan p (c + 2 ^ b) x).1 - (pPlan p c x).1)
/-- a fraction's upper or lower part -/
def aFrac (U : Int) (L : Nat) (k : Int32) : Int32 := if k = nI 0 then nI (L / Nat.gcd U.natAbs L) else iI U / nI (Nat.gcd U.natAbs L)
theorem fac_le : ∀ n, fac n ≤ 24 ∧ 1 ≤ fac n := by
  intro n
  rcases n with _ | _ | _ | _ | n <;> simp [fac]
theorem pPlan_ok {p : PT} {x : HS} {C : Nat} (hp : ptOk p) : plOk (pPlan p C x) := pCho_ok hp _ _ _ _ _ _ ⟨by decide, by decide⟩
theorem shT_le {p : PT} {x : HS} {b c : Nat} (hp : ptOk p) : -20000 ≤ shT p x b c ∧ shT p x b c ≤ 20000 := by
  unfold shT
  split
  · omega
  · have h1 := pPlan_ok (x := x) (C := c + 2 ^ b) hp
    have h2 := pPlan_ok (x := x) (C := c) hp
    unfold plOk at h1 h2
    have f1 := fac_le (pcn c)
    have f2 := fac_le (p.2.2.1 - 1 - pcn c)
    have hN : fac (pcn c) * fac (p.2.2.1 - 1 - pcn c) ≤ 24 * 24 := Nat.mul_le_mul f1.1 f2.1
    generalize fac (pcn c) * fac (p.2.2.1 - 1 - pcn c) = N at *
    have hd : -29 ≤ (pPlan p (c + 2 ^ b) x).1 - (pPlan p c x).1 ∧ (pPlan p (c + 2 ^ b) x).1 - (pPlan p c x).1 ≤ 29 := by omega
    generalize (pPlan p (c + 2 ^ b) x).1 - (pPlan p c x).1 = D at *
    have hN' : (N : Int) ≤ 576 := by omega
    have a1 : (N : Int) * D ≤ (N : Int) * 29 := Int.mul_le_mul_of_nonneg_left hd.2 (by omega)
    have a2 : (N : Int) * (-29) ≤ (N : Int) * D := Int.mul_le_mul_of_nonneg_left hd.1 (by omega)
    omega
theorem sumZ_le {f : Nat → Int} {K : Int} (hf : ∀ i, -K ≤ f i ∧ f i ≤ K) : ∀ n : Nat, -(K * n) ≤ sumZ f n ∧ sumZ f n ≤ K * n := by
  intro n
  induction n with
  | zero => simp [sumZ]
  | succ n ih =>
    have := hf n
    unfold sumZ
    rw [show ((n + 1 : Nat) : Int) = (n : Int) + 1 from rfl, Int.mul_add, Int.mul_one]
    omega
section P45
variable {o : ai_S} {d : Nat} {w : ai_W} {m m' : Nat → Nat → Int32} {lg lg' : Nat → Nat → Int64} {tx : TX} {p : PT} {x : HS} {n : Nat} {A : Nat → HS} {kp : Nat → Bool} {K : Nat → HS} {so : SO} {sd : Int64} {r : Option Value × ai_W} {k k2 k3 : Int32}
theorem s_X7_allBerths (hp : RT p m) : Ev o d zX7_allBerths [.ref 0] (ai_w m lg) (some (.int (nI (2 ^ p.2.2.1 - 1)))) (ai_w m lg) := by
  rw [ev_X7_allBerths]
  simp only [e_X7_allBerths_0, e_X7_allBerths_1, e_X7_allBerths_2, e_X7_allBerths_5, e_X7_allBerths_8, e_X7_allBerths_9, e_X7_allBerths_10, e_X7_allBerths_11, eq_self, nI10, not_false_eq_true, not_true_eq_false, is2_i, is2_r, is2_n, nI_add, pk_mul, Nat.reduceAdd, Nat.reduceMul, ai_T3, hp.2.2.1, all4 _ hp.1.2.1]
theorem scr_plF (h : FrS plF m m') : FrS scr m m' := fun i hi => h i (by unfold scr at hi; unfold plF; omega)
def aPlan (p : PT) (x : HS) (k : Int32) : Int32 := if k = nI 0 then iI (pPlan p (2 ^ p.2.2.1 - 1) x).1 else nI (pPlan p (2 ^ p.2.2.1 - 1) x).2
theorem s_X7_plan (h : RC tx p x n A kp K so sd m lg) : ∃ m', RC tx p x n A kp K so sd m' lg ∧ FrC m m' ∧ Ev o (d + 20) zX7_plan [.ref 0, .int k] (ai_w m lg) (some (.int (aPlan p x k))) (ai_w m' lg) := by
  have hp := h.2.1
  have hh := h.2.2.1
  have h16 := pw4 _ hp.1.2.1
  obtain ⟨m1, f1, f2, f3⟩ := s_X3_search (o := o) (d := d + 7) (lg := lg) (C := 2 ^ p.2.2.1 - 1) hp hh (by omega)
  refine ⟨m1, h.q (scr_plF f2), frC_of (scr_plF f2), ?_⟩
  rw [ev_X7_plan]
  unfold aPlan
  by_cases q : k = nI 0
  · simp only [e_X7_plan_0, e_X7_plan_1, e_X7_plan_4, e_X7_plan_5, e_X7_plan_8, e_X7_plan_15, e_X7_plan_16, e_X7_plan_17, e_X7_plan_20, e_X7_plan_21, e_X7_plan_24, e_X7_plan_27, e_X7_plan_30, e_X7_plan_31, e_X7_plan_34, e_X7_plan_37, eq_self, nI10, not_false_eq_true, not_true_eq_false, is2_i, is2_r, is2_n, nI_add, pk_mul, Nat.reduceAdd, Nat.reduceMul, e_X7_plan_9 (hE := s_X7_allBerths hp), e_X7_plan_12 (hE := f3), q, if_true, f1.2.1]
  · simp only [e_X7_plan_0, e_X7_plan_1, e_X7_plan_4, e_X7_plan_5, e_X7_plan_8, e_X7_plan_15, e_X7_plan_16, e_X7_plan_17, e_X7_plan_20, e_X7_plan_21, e_X7_plan_24, e_X7_plan_27, e_X7_plan_30, e_X7_plan_31, e_X7_plan_34, e_X7_plan_37, eq_self, nI10, not_false_eq_true, not_true_eq_false, is2_i, is2_r, is2_n, nI_add, pk_mul, Nat.reduceAdd, Nat.reduceMul, e_X7_plan_9 (hE := s_X7_allBerths hp), e_X7_plan_12 (hE := f3), q, if_false, f1.2.2]
theorem lp_X7_commonDivisor {a0 b0 : Value} : ∀ (j i large small : Nat) (a5 : Value), small < 2 ^ j → i + 2 * j ≤ 64 → large < 2 ^ 31 → j ≤ 30 → ai_is2 (some a5) = false → Rn o d zX7_commonDivisor 7 [.int k, .int k2, .int (nI large), .int (nI small), .int (nI i), a5] [] w (some (.int (nI (Nat.gcd large small))), w) := by
  intro j
  induction j with
  | zero =>
    intro i large small a5 hs hi hl hj h5
    have : small = 0 := by omega
    subst this
    rw [e_X7_commonDivisor_7]
    simp only [e_X7_commonDivisor_0, e_X7_commonDivisor_1_i, e_X7_commonDivisor_1_r, e_X7_commonDivisor_1_n, e_X7_commonDivisor_2, e_X7_commonDivisor_3_i, e_X7_commonDivisor_3_r, e_X7_commonDivisor_3_n, e_X7_commonDivisor_4, e_X7_commonDivisor_5_i, e_X7_commonDivisor_5_r, e_X7_commonDivisor_5_n, e_X7_commonDivisor_9, e_X7_commonDivisor_11, e_X7_commonDivisor_14, e_X7_commonDivisor_15, e_X7_commonDivisor_18, e_X7_commonDivisor_19, e_X7_commonDivisor_20, e_X7_commonDivisor_21_i, e_X7_commonDivisor_21_r, e_X7_commonDivisor_21_n, e_X7_commonDivisor_23, e_X7_commonDivisor_24_i, e_X7_commonDivisor_24_r, e_X7_commonDivisor_24_n, e_X7_commonDivisor_25, e_X7_commonDivisor_27_i, e_X7_commonDivisor_27_r, e_X7_commonDivisor_27_n, e_X7_commonDivisor_28_i, e_X7_commonDivisor_28_r, e_X7_commonDivisor_28_n, e_X7_commonDivisor_31, e_X7_commonDivisor_34, e_X7_commonDivisor_35, eq_self, nI10, not_false_eq_true, not_true_eq_false, is2_i, is2_r, is2_n, nI_add, pk_mul, Nat.reduceAdd, Nat.reduceMul, Nat.gcd_zero_right, if_true]
    split <;> trivial
  | succ j ih =>
    intro i large small a5 hs hi hl hj h5
    have i64 : ¬ nI 64 ≤ nI i := nI_ge (by omega) (by omega)
    have i65 : ¬ nI 64 ≤ nI (i + 1) := nI_ge (by omega) (by omega)
    have p30 : 2 ^ (j + 1) ≤ 2 ^ 30 := Nat.pow_le_pow_right (by decide) hj
    by_cases h0 : small = 0
    · subst h0
      rw [e_X7_commonDivisor_7]
      simp only [e_X7_commonDivisor_0, e_X7_commonDivisor_1_i, e_X7_commonDivisor_1_r, e_X7_commonDivisor_1_n, e_X7_commonDivisor_2, e_X7_commonDivisor_3_i, e_X7_commonDivisor_3_r, e_X7_commonDivisor_3_n, e_X7_commonDivisor_4, e_X7_commonDivisor_5_i, e_X7_commonDivisor_5_r, e_X7_commonDivisor_5_n, e_X7_commonDivisor_9, e_X7_commonDivisor_11, e_X7_commonDivisor_14, e_X7_commonDivisor_15, e_X7_commonDivisor_18, e_X7_commonDivisor_19, e_X7_commonDivisor_20, e_X7_commonDivisor_21_i, e_X7_commonDivisor_21_r, e_X7_commonDivisor_21_n, e_X7_commonDivisor_23, e_X7_commonDivisor_24_i, e_X7_commonDivisor_24_r, e_X7_commonDivisor_24_n, e_X7_commonDivisor_25, e_X7_commonDivisor_27_i, e_X7_commonDivisor_27_r, e_X7_commonDivisor_27_n, e_X7_commonDivisor_28_i, e_X7_commonDivisor_28_r, e_X7_commonDivisor_28_n, e_X7_commonDivisor_31, e_X7_commonDivisor_34, e_X7_commonDivisor_35, eq_self, nI10, not_false_eq_true, not_true_eq_false, is2_i, is2_r, is2_n, nI_add, pk_mul, Nat.reduceAdd, Nat.reduceMul, Nat.gcd_zero_right, if_true]
      split <;> trivial
    · have n0 : ¬ nI small = nI 0 := fun z => h0 ((nI_eq (by omega) (by omega)).mp z)
      have n0' : ¬ nI small = 0 := n0
      have r1 := pk_rem (a := large) (d := small) hl (by omega) (by omega)
      have hr := Nat.mod_lt large (show small > 0 by omega)
      have step : ∀ r, Rn o d zX7_commonDivisor 7 [.int k, .int k2, .int (nI large), .int (nI small), .int (nI i), a5] [] w r = Rn o d zX7_commonDivisor 7 [.int k, .int k2, .int (nI small), .int (nI (large % small)), .int (nI (i + 1)), .int (nI (large % small))] [] w r := by
        intro r
        rw [e_X7_commonDivisor_7]
        simp only [e_X7_commonDivisor_0, e_X7_commonDivisor_1_i, e_X7_commonDivisor_1_r, e_X7_commonDivisor_1_n, e_X7_commonDivisor_2, e_X7_commonDivisor_3_i, e_X7_commonDivisor_3_r, e_X7_commonDivisor_3_n, e_X7_commonDivisor_4, e_X7_commonDivisor_5_i, e_X7_commonDivisor_5_r, e_X7_commonDivisor_5_n, e_X7_commonDivisor_9, e_X7_commonDivisor_11, e_X7_commonDivisor_14, e_X7_commonDivisor_15, e_X7_commonDivisor_18, e_X7_commonDivisor_19, e_X7_commonDivisor_20, e_X7_commonDivisor_21_i, e_X7_commonDivisor_21_r, e_X7_commonDivisor_21_n, e_X7_commonDivisor_23, e_X7_commonDivisor_24_i, e_X7_commonDivisor_24_r, e_X7_commonDivisor_24_n, e_X7_commonDivisor_25, e_X7_commonDivisor_27_i, e_X7_commonDivisor_27_r, e_X7_commonDivisor_27_n, e_X7_commonDivisor_28_i, e_X7_commonDivisor_28_r, e_X7_commonDivisor_28_n, e_X7_commonDivisor_31, e_X7_commonDivisor_34, e_X7_commonDivisor_35, eq_self, nI10, not_false_eq_true, not_true_eq_false, is2_i, is2_r, is2_n, nI_add, pk_mul, Nat.reduceAdd, Nat.reduceMul, i64, n0, n0', if_false, r1]
      have eg : Nat.gcd large small = Nat.gcd small (large % small) := by rw [Nat.gcd_comm, Nat.gcd_rec, Nat.gcd_comm]
      rw [step, eg]
      by_cases h1 : large % small = 0
      · rw [h1, e_X7_commonDivisor_7]
        simp only [e_X7_commonDivisor_0, e_X7_commonDivisor_1_i, e_X7_commonDivisor_1_r, e_X7_commonDivisor_1_n, e_X7_commonDivisor_2, e_X7_commonDivisor_3_i, e_X7_commonDivisor_3_r, e_X7_commonDivisor_3_n, e_X7_commonDivisor_4, e_X7_commonDivisor_5_i, e_X7_commonDivisor_5_r, e_X7_commonDivisor_5_n, e_X7_commonDivisor_9, e_X7_commonDivisor_11, e_X7_commonDivisor_14, e_X7_commonDivisor_15, e_X7_commonDivisor_18, e_X7_commonDivisor_19, e_X7_commonDivisor_20, e_X7_commonDivisor_21_i, e_X7_commonDivisor_21_r, e_X7_commonDivisor_21_n, e_X7_commonDivisor_23, e_X7_commonDivisor_24_i, e_X7_commonDivisor_24_r, e_X7_commonDivisor_24_n, e_X7_commonDivisor_25, e_X7_commonDivisor_27_i, e_X7_commonDivisor_27_r, e_X7_commonDivisor_27_n, e_X7_commonDivisor_28_i, e_X7_commonDivisor_28_r, e_X7_commonDivisor_28_n, e_X7_commonDivisor_31, e_X7_commonDivisor_34, e_X7_commonDivisor_35, eq_self, nI10, not_false_eq_true, not_true_eq_false, is2_i, is2_r, is2_n, nI_add, pk_mul, Nat.reduceAdd, Nat.reduceMul, Nat.gcd_zero_right, if_true]
        split <;> trivial
      · have n1 : ¬ nI (large % small) = nI 0 := fun z => h1 ((nI_eq (by omega) (by omega)).mp z)
        have n1' : ¬ nI (large % small) = 0 := n1
        have r2 := pk_rem (a := small) (d := large % small) (by omega) (by omega) (by omega)
        have hr2 := Nat.mod_lt small (show large % small > 0 by omega)
        have eg2 : Nat.gcd small (large % small) = Nat.gcd (large % small) (small % (large % small)) := by rw [Nat.gcd_comm, Nat.gcd_rec, Nat.gcd_comm]
        have half : small % (large % small) < 2 ^ j := by
          have hdm := Nat.div_add_mod small (large % small)
          have hq : 1 ≤ small / (large % small) := (Nat.one_le_div_iff (by omega)).mpr (by omega)
          have hm : (large % small) * 1 ≤ (large % small) * (small / (large % small)) := Nat.mul_le_mul_left _ hq
          rw [Nat.pow_succ] at hs
          omega
        have step2 : ∀ r, Rn o d zX7_commonDivisor 7 [.int k, .int k2, .int (nI small), .int (nI (large % small)), .int (nI (i + 1)), .int (nI (large % small))] [] w r = Rn o d zX7_commonDivisor 7 [.int k, .int k2, .int (nI (large % small)), .int (nI (small % (large % small))), .int (nI (i + 1 + 1)), .int (nI (small % (large % small)))] [] w r := by
          intro r
          rw [e_X7_commonDivisor_7]
          simp only [e_X7_commonDivisor_0, e_X7_commonDivisor_1_i, e_X7_commonDivisor_1_r, e_X7_commonDivisor_1_n, e_X7_commonDivisor_2, e_X7_commonDivisor_3_i, e_X7_commonDivisor_3_r, e_X7_commonDivisor_3_n, e_X7_commonDivisor_4, e_X7_commonDivisor_5_i, e_X7_commonDivisor_5_r, e_X7_commonDivisor_5_n, e_X7_commonDivisor_9, e_X7_commonDivisor_11, e_X7_commonDivisor_14, e_X7_commonDivisor_15, e_X7_commonDivisor_18, e_X7_commonDivisor_19, e_X7_commonDivisor_20, e_X7_commonDivisor_21_i, e_X7_commonDivisor_21_r, e_X7_commonDivisor_21_n, e_X7_commonDivisor_23, e_X7_commonDivisor_24_i, e_X7_commonDivisor_24_r, e_X7_commonDivisor_24_n, e_X7_commonDivisor_25, e_X7_commonDivisor_27_i, e_X7_commonDivisor_27_r, e_X7_commonDivisor_27_n, e_X7_commonDivisor_28_i, e_X7_commonDivisor_28_r, e_X7_commonDivisor_28_n, e_X7_commonDivisor_31, e_X7_commonDivisor_34, e_X7_commonDivisor_35, eq_self, nI10, not_false_eq_true, not_true_eq_false, is2_i, is2_r, is2_n, nI_add, pk_mul, Nat.reduceAdd, Nat.reduceMul, i65, n1, n1', if_false, r2]
        rw [step2, eg2]
        exact ih (i + 1 + 1) _ _ _ half (by omega) (by omega) (by omega) rfl
theorem s_X7_commonDivisor {a b : Nat} (ha : a < 2 ^ 31) (hb : b < 2 ^ 20) : Ev o d zX7_commonDivisor [.int (nI a), .int (nI b)] w (some (.int (nI (Nat.gcd a b)))) w := by
  rw [ev_X7_commonDivisor]
  simp only [e_X7_commonDivisor_0, e_X7_commonDivisor_1_i, e_X7_commonDivisor_1_r, e_X7_commonDivisor_1_n, e_X7_commonDivisor_2, e_X7_commonDivisor_3_i, e_X7_commonDivisor_3_r, e_X7_commonDivisor_3_n, e_X7_commonDivisor_4, e_X7_commonDivisor_5_i, e_X7_commonDivisor_5_r, e_X7_commonDivisor_5_n, e_X7_commonDivisor_9, e_X7_commonDivisor_11, e_X7_commonDivisor_14, e_X7_commonDivisor_15, e_X7_commonDivisor_18, e_X7_commonDivisor_19, e_X7_commonDivisor_20, e_X7_commonDivisor_21_i, e_X7_commonDivisor_21_r, e_X7_commonDivisor_21_n, e_X7_commonDivisor_23, e_X7_commonDivisor_24_i, e_X7_commonDivisor_24_r, e_X7_commonDivisor_24_n, e_X7_commonDivisor_25, e_X7_commonDivisor_27_i, e_X7_commonDivisor_27_r, e_X7_commonDivisor_27_n, e_X7_commonDivisor_28_i, e_X7_commonDivisor_28_r, e_X7_commonDivisor_28_n, e_X7_commonDivisor_31, e_X7_commonDivisor_34, e_X7_commonDivisor_35, eq_self, nI10, not_false_eq_true, not_true_eq_false, is2_i, is2_r, is2_n, nI_add, pk_mul, Nat.reduceAdd, Nat.reduceMul]
  exact lp_X7_commonDivisor (a0 := .null) (b0 := .null) 20 0 a b _ hb (by decide) ha (by decide) rfl
theorem abs_I {U : Int} (h1 : -2147483648 < U) (h2 : U < 2147483648) : (if 0 ≤ iI U then iI U else 0 - iI U) = nI U.natAbs := by
  have hz : ((0 : Int32) ≤ iI U) ↔ 0 ≤ U := by
    rw [Int32.le_iff_toInt_le, iI_toInt (by omega) h2]
    exact Iff.rfl
  by_cases h : 0 ≤ U
  · rw [if_pos (hz.mpr h), iI_n, Int.natAbs_of_nonneg h]
  · rw [if_neg (fun z => h (hz.mp z)), show (0 : Int32) = iI 0 from rfl, iI_sub, iI_n]
    congr 1
    omega
theorem s_X7_part {U : Int} {L : Nat} (h1 : -2147483648 < U) (h2 : U < 2147483648) (hL : 0 < L) (hL2 : L < 2 ^ 20) : Ev o (d + 1) zX7_part [.int (iI U), .int (nI L), .int k] w (some (.int (aFrac U L k))) w := by
  have hg : 0 < Nat.gcd U.natAbs L := Nat.gcd_pos_of_pos_right _ hL
  have hg2 : Nat.gcd U.natAbs L ≤ L := Nat.gcd_le_right _ hL
  have n0 : ¬ nI (Nat.gcd U.natAbs L) = nI 0 := fun z => by have := (nI_eq (by omega) (by omega)).mp z; omega
  have n0' : ¬ nI (Nat.gcd U.natAbs L) = 0 := n0
  have hq := pk_div (a := L) (d := Nat.gcd U.natAbs L) (by omega) hg (by omega)
  rw [ev_X7_part]
  unfold aFrac
  by_cases q : k = nI 0
  · simp only [e_X7_part_0, e_X7_part_1, e_X7_part_4, e_X7_part_8_i, e_X7_part_8_r, e_X7_part_8_n, e_X7_part_9, e_X7_part_10, e_X7_part_13, e_X7_part_14, e_X7_part_15, e_X7_part_16, e_X7_part_19, e_X7_part_20, e_X7_part_21, e_X7_part_22, e_X7_part_25, e_X7_part_26, e_X7_part_27, e_X7_part_28, eq_self, nI10, not_false_eq_true, not_true_eq_false, is2_i, is2_r, is2_n, nI_add, pk_mul, Nat.reduceAdd, Nat.reduceMul, abs_I h1 h2, e_X7_part_5 (hE := s_X7_commonDivisor (show U.natAbs < 2 ^ 31 by omega) hL2), n0, n0', if_true, q, hq]
  · simp only [e_X7_part_0, e_X7_part_1, e_X7_part_4, e_X7_part_8_i, e_X7_part_8_r, e_X7_part_8_n, e_X7_part_9, e_X7_part_10, e_X7_part_13, e_X7_part_14, e_X7_part_15, e_X7_part_16, e_X7_part_19, e_X7_part_20, e_X7_part_21, e_X7_part_22, e_X7_part_25, e_X7_part_26, e_X7_part_27, e_X7_part_28, eq_self, nI10, not_false_eq_true, not_true_eq_false, is2_i, is2_r, is2_n, nI_add, pk_mul, Nat.reduceAdd, Nat.reduceMul, abs_I h1 h2, e_X7_part_5 (hE := s_X7_commonDivisor (show U.natAbs < 2 ^ 31 by omega) hL2), n0, n0', if_true, q, if_false]
theorem lp_X7_share (ho : oOk o) {b : Nat} : ∀ (j c : Nat) (m : Nat → Nat → Int32) (a5 a6 : Value), c + j = 2 ^ p.2.2.1 → RT p m → RH p x m 15 → b < p.2.2.1 → ai_is2 (some a5) = false → ∃ m' a5' a6', FrS plF m m' ∧ ∀ r, Rn o (d + 20) zX7_share 18 [.ref 0, .int (nI b), .int k2, .int (iI (sumZ (shT p x b) c)), .int (nI c), a5, a6] [] (ai_w m lg) r = Rn o (d + 20) zX7_share 111 [.ref 0, .int (nI b), .int k2, .int (iI (sumZ (shT p x b) (2 ^ p.2.2.1))), .int (nI (2 ^ p.2.2.1)), a5', a6'] [] (ai_w m' lg) r := by
  intro j
  induction j with
  | zero =>
    intro c m a5 a6 hk hp hh hb h5
    have : c = 2 ^ p.2.2.1 := by omega
    subst this
    have h16 := pw4 _ hp.1.2.1
    have e1 : nI (2 ^ p.2.2.1 - 1) < nI (2 ^ p.2.2.1) := nI_lt (by omega) (by omega)
    refine ⟨m, a5, a6, fun _ _ => rfl, fun r => ?_⟩
    rw [e_X7_share_18]
    simp only [e_X7_share_0, e_X7_share_1, e_X7_share_4, e_X7_share_8, e_X7_share_11, e_X7_share_12, e_X7_share_13, e_X7_share_14_i, e_X7_share_14_r, e_X7_share_14_n, e_X7_share_15, e_X7_share_16_i, e_X7_share_16_r, e_X7_share_16_n, e_X7_share_20, e_X7_share_24, e_X7_share_27, e_X7_share_29, e_X7_share_30, e_X7_share_31, e_X7_share_32, e_X7_share_33, e_X7_share_36, e_X7_share_41_i, e_X7_share_41_r, e_X7_share_41_n, e_X7_share_43, e_X7_share_46, e_X7_share_48, e_X7_share_48_o, e_X7_share_49, e_X7_share_52, e_X7_share_53, e_X7_share_56, e_X7_share_59, e_X7_share_60, e_X7_share_61, e_X7_share_63, e_X7_share_64, e_X7_share_64_o, e_X7_share_65, e_X7_share_66_i, e_X7_share_66_r, e_X7_share_66_n, e_X7_share_68, e_X7_share_69, e_X7_share_71, e_X7_share_72, e_X7_share_75, e_X7_share_76, e_X7_share_79, e_X7_share_81, e_X7_share_82, e_X7_share_83, e_X7_share_84, e_X7_share_88, e_X7_share_89, e_X7_share_92, e_X7_share_93, e_X7_share_96, e_X7_share_101, e_X7_share_102, e_X7_share_103, e_X7_share_104_i, e_X7_share_104_r, e_X7_share_104_n, e_X7_share_105_i, e_X7_share_105_r, e_X7_share_105_n, e_X7_share_108, e_X7_share_112, e_X7_share_115, e_X7_share_116, e_X7_share_119, e_X7_share_122, e_X7_share_122_o, e_X7_share_123, e_X7_share_127, eq_self, nI10, not_false_eq_true, not_true_eq_false, is2_i, is2_r, is2_n, nI_add, pk_mul, Nat.reduceAdd, Nat.reduceMul, e_X7_share_21 (hE := s_X7_allBerths hp), e1, if_true]
  | succ j ih =>
    intro c m a5 a6 hk hp hh hb h5
    have h16 := pw4 _ hp.1.2.1
    have hB := hp.1.2.1
    have e1 : ¬ nI (2 ^ p.2.2.1 - 1) < nI c := nI_nlt (by omega) (by omega)
    have b5 : b < 5 := by omega
    have c32 : c < 32 := by omega
    have zz : (nI 1 = nI 0) = False := by simp [nI10]
    by_cases hbit : c / 2 ^ b % 2 = 1
    · obtain ⟨m', a5', a6', g1, g2⟩ := ih (c + 1) m a5 a6 (by omega) hp hh hb h5
      refine ⟨m', a5', a6', g1, fun r => ?_⟩
      have es : sumZ (shT p x b) (c + 1) = sumZ (shT p x b) c := by rw [sumZ, show shT p x b c = 0 by unfold shT; rw [if_pos hbit]]; omega
      rw [es] at g2
      rw [e_X7_share_18, ← g2 r]
      simp only [e_X7_share_0, e_X7_share_1, e_X7_share_4, e_X7_share_8, e_X7_share_11, e_X7_share_12, e_X7_share_13, e_X7_share_14_i, e_X7_share_14_r, e_X7_share_14_n, e_X7_share_15, e_X7_share_16_i, e_X7_share_16_r, e_X7_share_16_n, e_X7_share_20, e_X7_share_24, e_X7_share_27, e_X7_share_29, e_X7_share_30, e_X7_share_31, e_X7_share_32, e_X7_share_33, e_X7_share_36, e_X7_share_41_i, e_X7_share_41_r, e_X7_share_41_n, e_X7_share_43, e_X7_share_46, e_X7_share_48, e_X7_share_48_o, e_X7_share_49, e_X7_share_52, e_X7_share_53, e_X7_share_56, e_X7_share_59, e_X7_share_60, e_X7_share_61, e_X7_share_63, e_X7_share_64, e_X7_share_64_o, e_X7_share_65, e_X7_share_66_i, e_X7_share_66_r, e_X7_share_66_n, e_X7_share_68, e_X7_share_69, e_X7_share_71, e_X7_share_72, e_X7_share_75, e_X7_share_76, e_X7_share_79, e_X7_share_81, e_X7_share_82, e_X7_share_83, e_X7_share_84, e_X7_share_88, e_X7_share_89, e_X7_share_92, e_X7_share_93, e_X7_share_96, e_X7_share_101, e_X7_share_102, e_X7_share_103, e_X7_share_104_i, e_X7_share_104_r, e_X7_share_104_n, e_X7_share_105_i, e_X7_share_105_r, e_X7_share_105_n, e_X7_share_108, e_X7_share_112, e_X7_share_115, e_X7_share_116, e_X7_share_119, e_X7_share_122, e_X7_share_122_o, e_X7_share_123, e_X7_share_127, eq_self, nI10, not_false_eq_true, not_true_eq_false, is2_i, is2_r, is2_n, nI_add, pk_mul, Nat.reduceAdd, Nat.reduceMul, e_X7_share_21 (hE := s_X7_allBerths hp), e1, if_false, sh_bit c c32 b b5, hbit, if_true]
    · have hb0 : c / 2 ^ b % 2 = 0 := by omega
      obtain ⟨q1, q2⟩ := pcn4 _ hB b hb c (by omega) hb0
      obtain ⟨m1, f1, f2, f3⟩ := s_X3_search (o := o) (d := d + 7) (lg := lg) (C := c + 2 ^ b) hp hh (by omega)
      have hp1 := hp.frS f2 plF8
      have hh1 : RH p x m1 15 := hh.frS (fun i x1 x2 => f2 i (by unfold plF; omega))
      obtain ⟨m2, s1, s2, s3⟩ := s_X3_search (o := o) (d := d + 7) (lg := lg) (C := c) hp1 hh1 (by omega)
      have hp2 := hp1.frS s2 plF8
      have hh2 : RH p x m2 15 := hh1.frS (fun i x1 x2 => s2 i (by unfold plF; omega))
      obtain ⟨m', a5', a6', g1, g2⟩ := ih (c + 1) m2 (.int (nI (pcn c))) (.int (nI (fac (pcn c) * fac (p.2.2.1 - 1 - pcn c)))) (by omega) hp2 hh2 hb rfl
      refine ⟨m', a5', a6', f2.trans (s2.trans g1), fun r => ?_⟩
      have es : iI (sumZ (shT p x b) c) + nI (fac (pcn c) * fac (p.2.2.1 - 1 - pcn c)) * (iI (pPlan p (c + 2 ^ b) x).1 - iI (pPlan p c x).1) = iI (sumZ (shT p x b) (c + 1)) := by
        rw [iI_sub, iI_n, iI_mul, iI_add, sumZ, show shT p x b c = (fac (pcn c) * fac (p.2.2.1 - 1 - pcn c) : Nat) * ((pPlan p (c + 2 ^ b) x).1 - (pPlan p c x).1) by unfold shT; rw [if_neg hbit]]
      have i1 : nI p.2.2.1 - nI 1 = nI (p.2.2.1 - 1) := pk_sub (by omega)
      have i2 : nI (p.2.2.1 - 1) - nI (pcn c) = nI (p.2.2.1 - 1 - pcn c) := pk_sub (by omega)
      have l5 := ho.1
      have v1 := ho.2 (pcn c) (by omega)
      have v2 := ho.2 (p.2.2.1 - 1 - pcn c) (by omega)
      have o1 := or_b4 b (by omega) c (by omega) hb0
      rw [e_X7_share_18, ← g2 r]
      simp only [e_X7_share_0, e_X7_share_1, e_X7_share_4, e_X7_share_8, e_X7_share_11, e_X7_share_12, e_X7_share_13, e_X7_share_14_i, e_X7_share_14_r, e_X7_share_14_n, e_X7_share_15, e_X7_share_16_i, e_X7_share_16_r, e_X7_share_16_n, e_X7_share_20, e_X7_share_24, e_X7_share_27, e_X7_share_29, e_X7_share_30, e_X7_share_31, e_X7_share_32, e_X7_share_33, e_X7_share_36, e_X7_share_41_i, e_X7_share_41_r, e_X7_share_41_n, e_X7_share_43, e_X7_share_46, e_X7_share_48, e_X7_share_48_o, e_X7_share_49, e_X7_share_52, e_X7_share_53, e_X7_share_56, e_X7_share_59, e_X7_share_60, e_X7_share_61, e_X7_share_63, e_X7_share_64, e_X7_share_64_o, e_X7_share_65, e_X7_share_66_i, e_X7_share_66_r, e_X7_share_66_n, e_X7_share_68, e_X7_share_69, e_X7_share_71, e_X7_share_72, e_X7_share_75, e_X7_share_76, e_X7_share_79, e_X7_share_81, e_X7_share_82, e_X7_share_83, e_X7_share_84, e_X7_share_88, e_X7_share_89, e_X7_share_92, e_X7_share_93, e_X7_share_96, e_X7_share_101, e_X7_share_102, e_X7_share_103, e_X7_share_104_i, e_X7_share_104_r, e_X7_share_104_n, e_X7_share_105_i, e_X7_share_105_r, e_X7_share_105_n, e_X7_share_108, e_X7_share_112, e_X7_share_115, e_X7_share_116, e_X7_share_119, e_X7_share_122, e_X7_share_122_o, e_X7_share_123, e_X7_share_127, eq_self, nI10, not_false_eq_true, not_true_eq_false, is2_i, is2_r, is2_n, nI_add, pk_mul, Nat.reduceAdd, Nat.reduceMul, ai_T3, e_X7_share_21 (hE := s_X7_allBerths hp), e1, if_false, sh_bit c c32 b b5, hb0, if_true, e_X7_share_38 (hE := s_bitCount c32), e_X7_share_48_o (k := 1) (j := pcn c) (by decide) (by rw [l5]; omega) (by rw [l5]; decide), e_X7_share_64_o (k := 1) (j := p.2.2.1 - 1 - pcn c) (by decide) (by rw [l5]; omega) (by rw [l5]; decide), v1, v2, hp.2.2.1, i1, i2, o1, e_X7_share_85 (hE := f3), e_X7_share_98 (hE := s3), es]
def aShare (p : PT) (x : HS) (k k2 : Int32) : Int32 := match swN k p.2.2.1 with
  | none => -1
  | some b => aFrac (sumZ (shT p x b) (2 ^ p.2.2.1)) (fac p.2.2.1) k2
theorem s_X7_share (ho : oOk o) (h : RC tx p x n A kp K so sd m lg) : ∃ m', RC tx p x n A kp K so sd m' lg ∧ FrC m m' ∧ Ev o (d + 20) zX7_share [.ref 0, .int k, .int k2] (ai_w m lg) (some (.int (aShare p x k k2))) (ai_w m' lg) := by
  have hp := h.2.1
  have hh := h.2.2.1
  have hB := hp.1.2.1
  have h16 := pw4 _ hB
  rcases sw_cases k p.2.2.1 (by omega) with ⟨b, hb, rfl, hs, hx⟩ | ⟨hs, hx, hn⟩
  · have ea : aShare p x (nI b) k2 = aFrac (sumZ (shT p x b) (2 ^ p.2.2.1)) (fac p.2.2.1) k2 := by unfold aShare; rw [hs]
    obtain ⟨m', a5', a6', g1, g2⟩ := lp_X7_share (o := o) (d := d) (lg := lg) (p := p) (x := x) (k2 := k2) ho (2 ^ p.2.2.1) 0 m .null .null (by omega) hp hh hb rfl
    have hp' := hp.frS g1 plF8
    have bd := sumZ_le (f := shT p x b) (K := 20000) (fun i => shT_le hp.1) (2 ^ p.2.2.1)
    generalize hG : 2 ^ p.2.2.1 = G at *
    rw [ea]
    refine ⟨m', h.q (scr_plF g1), frC_of (scr_plF g1), ?_⟩
    have l5 := ho.1
    have v1 := ho.2 p.2.2.1 (by omega)
    have f1 := fac_le p.2.2.1
    rw [ev_X7_share]
    simp only [e_X7_share_0, e_X7_share_1, e_X7_share_4, e_X7_share_8, e_X7_share_11, e_X7_share_12, e_X7_share_13, e_X7_share_14_i, e_X7_share_14_r, e_X7_share_14_n, e_X7_share_15, e_X7_share_16_i, e_X7_share_16_r, e_X7_share_16_n, e_X7_share_20, e_X7_share_24, e_X7_share_27, e_X7_share_29, e_X7_share_30, e_X7_share_31, e_X7_share_32, e_X7_share_33, e_X7_share_36, e_X7_share_41_i, e_X7_share_41_r, e_X7_share_41_n, e_X7_share_43, e_X7_share_46, e_X7_share_48, e_X7_share_48_o, e_X7_share_49, e_X7_share_52, e_X7_share_53, e_X7_share_56, e_X7_share_59, e_X7_share_60, e_X7_share_61, e_X7_share_63, e_X7_share_64, e_X7_share_64_o, e_X7_share_65, e_X7_share_66_i, e_X7_share_66_r, e_X7_share_66_n, e_X7_share_68, e_X7_share_69, e_X7_share_71, e_X7_share_72, e_X7_share_75, e_X7_share_76, e_X7_share_79, e_X7_share_81, e_X7_share_82, e_X7_share_83, e_X7_share_84, e_X7_share_88, e_X7_share_89, e_X7_share_92, e_X7_share_93, e_X7_share_96, e_X7_share_101, e_X7_share_102, e_X7_share_103, e_X7_share_104_i, e_X7_share_104_r, e_X7_share_104_n, e_X7_share_105_i, e_X7_share_105_r, e_X7_share_105_n, e_X7_share_108, e_X7_share_111, e_X7_share_112, e_X7_share_115, e_X7_share_116, e_X7_share_119, e_X7_share_122, e_X7_share_122_o, e_X7_share_123, e_X7_share_127, eq_self, nI10, not_false_eq_true, not_true_eq_false, is2_i, is2_r, is2_n, nI_add, pk_mul, Nat.reduceAdd, Nat.reduceMul, e_X7_share_5 (hb := ai_T3) (hE := s_hasB hp), hx, bI_z, if_true, Bool.true_eq_false]
    refine Eq.mpr (g2 _) ?_
    simp only [e_X7_share_0, e_X7_share_1, e_X7_share_4, e_X7_share_8, e_X7_share_11, e_X7_share_12, e_X7_share_13, e_X7_share_14_i, e_X7_share_14_r, e_X7_share_14_n, e_X7_share_15, e_X7_share_16_i, e_X7_share_16_r, e_X7_share_16_n, e_X7_share_20, e_X7_share_24, e_X7_share_27, e_X7_share_29, e_X7_share_30, e_X7_share_31, e_X7_share_32, e_X7_share_33, e_X7_share_36, e_X7_share_41_i, e_X7_share_41_r, e_X7_share_41_n, e_X7_share_43, e_X7_share_46, e_X7_share_48, e_X7_share_48_o, e_X7_share_49, e_X7_share_52, e_X7_share_53, e_X7_share_56, e_X7_share_59, e_X7_share_60, e_X7_share_61, e_X7_share_63, e_X7_share_64, e_X7_share_64_o, e_X7_share_65, e_X7_share_66_i, e_X7_share_66_r, e_X7_share_66_n, e_X7_share_68, e_X7_share_69, e_X7_share_71, e_X7_share_72, e_X7_share_75, e_X7_share_76, e_X7_share_79, e_X7_share_81, e_X7_share_82, e_X7_share_83, e_X7_share_84, e_X7_share_88, e_X7_share_89, e_X7_share_92, e_X7_share_93, e_X7_share_96, e_X7_share_101, e_X7_share_102, e_X7_share_103, e_X7_share_104_i, e_X7_share_104_r, e_X7_share_104_n, e_X7_share_105_i, e_X7_share_105_r, e_X7_share_105_n, e_X7_share_108, e_X7_share_111, e_X7_share_112, e_X7_share_115, e_X7_share_116, e_X7_share_119, e_X7_share_122, e_X7_share_122_o, e_X7_share_123, e_X7_share_127, eq_self, nI10, not_false_eq_true, not_true_eq_false, is2_i, is2_r, is2_n, nI_add, pk_mul, Nat.reduceAdd, Nat.reduceMul, ai_T3, hp'.2.2.1, e_X7_share_122_o (k := 1) (j := p.2.2.1) (by decide) (by rw [l5]; omega) (by rw [l5]; decide), v1, e_X7_share_124 (hE := s_X7_part (U := sumZ (shT p x b) G) (by omega) (by omega) f1.2 (by omega))]
  · have ea : aShare p x k k2 = -1 := by unfold aShare; rw [hs]
    rw [ea]
    refine ⟨m, h, fun _ _ => rfl, ?_⟩
    rw [ev_X7_share]
    simp only [e_X7_share_0, e_X7_share_1, e_X7_share_4, e_X7_share_8, e_X7_share_11, e_X7_share_12, e_X7_share_13, e_X7_share_14_i, e_X7_share_14_r, e_X7_share_14_n, e_X7_share_15, e_X7_share_16_i, e_X7_share_16_r, e_X7_share_16_n, e_X7_share_20, e_X7_share_24, e_X7_share_27, e_X7_share_29, e_X7_share_30, e_X7_share_31, e_X7_share_32, e_X7_share_33, e_X7_share_36, e_X7_share_41_i, e_X7_share_41_r, e_X7_share_41_n, e_X7_share_43, e_X7_share_46, e_X7_share_48, e_X7_share_48_o, e_X7_share_49, e_X7_share_52, e_X7_share_53, e_X7_share_56, e_X7_share_59, e_X7_share_60, e_X7_share_61, e_X7_share_63, e_X7_share_64, e_X7_share_64_o, e_X7_share_65, e_X7_share_66_i, e_X7_share_66_r, e_X7_share_66_n, e_X7_share_68, e_X7_share_69, e_X7_share_71, e_X7_share_72, e_X7_share_75, e_X7_share_76, e_X7_share_79, e_X7_share_81, e_X7_share_82, e_X7_share_83, e_X7_share_84, e_X7_share_88, e_X7_share_89, e_X7_share_92, e_X7_share_93, e_X7_share_96, e_X7_share_101, e_X7_share_102, e_X7_share_103, e_X7_share_104_i, e_X7_share_104_r, e_X7_share_104_n, e_X7_share_105_i, e_X7_share_105_r, e_X7_share_105_n, e_X7_share_108, e_X7_share_111, e_X7_share_112, e_X7_share_115, e_X7_share_116, e_X7_share_119, e_X7_share_122, e_X7_share_122_o, e_X7_share_123, e_X7_share_127, eq_self, nI10, not_false_eq_true, not_true_eq_false, is2_i, is2_r, is2_n, nI_add, pk_mul, Nat.reduceAdd, Nat.reduceMul, e_X7_share_5 (hb := ai_T3) (hE := s_hasB hp), hx, bI_z, if_false]
end P45
