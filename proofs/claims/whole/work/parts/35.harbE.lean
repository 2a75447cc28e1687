/-! Harbour: sums over it; made anew, copied; doings -/
theorem mk_tb (f : Nat → Bool) (n i : Nat) : (mk f n).testBit i = (decide (i < n) && f i) := by
  rw [Nat.testBit_eq_decide_div_mod_eq]
  by_cases h : i < n
  · rw [mk_bit f n i h]
    cases hf : f i <;> simp [h]
  · have h1 := mk_lt f n
    have h2 : 2 ^ n ≤ 2 ^ i := Nat.pow_le_pow_right (by decide) (by omega)
    rw [Nat.div_eq_of_lt (by omega)]
    simp [h]
theorem mk_or (f g : Nat → Bool) (n : Nat) : mk f n ||| mk g n = mk (fun i => f i || g i) n := by
  apply Nat.eq_of_testBit_eq
  intro i
  rw [Nat.testBit_or, mk_tb, mk_tb, mk_tb]
  cases decide (i < n) <;> simp
theorem mk_congr {f g : Nat → Bool} : ∀ {n : Nat}, (∀ i, i < n → f i = g i) → mk f n = mk g n := by
  intro n
  induction n with
  | zero => intro _; rfl
  | succ n ih => intro h; unfold mk; rw [ih (fun i hi => h i (by omega)), h n (by omega)]
theorem cn_congr {f g : Nat → Bool} : ∀ {n : Nat}, (∀ i, i < n → f i = g i) → cn f n = cn g n := by
  intro n
  induction n with
  | zero => intro _; rfl
  | succ n ih => intro h; unfold cn; rw [ih (fun i hi => h i (by omega)), h n (by omega)]
def sumW (f : Nat → Int32) : Nat → Int32
  | 0 => nI 0
  | n + 1 => sumW f n + f n
def sumN (f : Nat → Nat) : Nat → Nat
  | 0 => 0
  | n + 1 => sumN f n + f n
/-- who is dreamt now, if the tide fails in these berths -/
def pFail (p : PT) (x : HS) (F c : Nat) : Nat := cn (dSl p x c (if F / 2 ^ c % 2 = 1 then 0 else pTide p x.2.2.2.2.2)) p.2.2.2.2.1
section P35
variable {o : ai_S} {d : Nat} {w : ai_W} {m : Nat → Nat → Int32} {lg : Nat → Nat → Int64} {p : PT} {x : HS} {b : Nat} {r : Option Value × ai_W}
theorem lp_X2_dreamsBerthed (hp : RT p m) (hh : RH p x m b) (hb : ai_H b) : ∀ k c, c + k = p.2.2.1 → Rn o (d + 1) zX2_dreamsBerthed 4 [.ref b, .int (nI (mk (fun i => decide (x.1 i < c)) p.2.2.2.2.1)), .int (nI c)] [] (ai_w m lg) r = Rn o (d + 1) zX2_dreamsBerthed 29 [.ref b, .int (nI (mk (fun i => decide (x.1 i < p.2.2.1)) p.2.2.2.2.1)), .int (nI p.2.2.1)] [] (ai_w m lg) r := by
  have hB := hp.1.2.1
  intro k
  induction k with
  | zero =>
    intro c hk
    have : c = p.2.2.1 := by omega
    subst this
    rw [e_X2_dreamsBerthed_4]
    simp only [e_X2_dreamsBerthed_0, e_X2_dreamsBerthed_1_i, e_X2_dreamsBerthed_1_r, e_X2_dreamsBerthed_2, e_X2_dreamsBerthed_3_i, e_X2_dreamsBerthed_3_r, e_X2_dreamsBerthed_3_n, e_X2_dreamsBerthed_5, e_X2_dreamsBerthed_6, e_X2_dreamsBerthed_9, e_X2_dreamsBerthed_12, e_X2_dreamsBerthed_15, e_X2_dreamsBerthed_16, e_X2_dreamsBerthed_17, e_X2_dreamsBerthed_21, e_X2_dreamsBerthed_22_i, e_X2_dreamsBerthed_22_r, e_X2_dreamsBerthed_23_i, e_X2_dreamsBerthed_23_r, e_X2_dreamsBerthed_23_n, e_X2_dreamsBerthed_26, e_X2_dreamsBerthed_30, eq_self, nI10, not_false_eq_true, not_true_eq_false, is2_i, is2_r, is2_n, nI_add, pk_mul, Nat.reduceAdd, Nat.reduceMul, hb, ai_T3, hA1 hb, hA2 hb, hA3 hb, hA4 hb, hA5 hb, hL1 hb, hL2 hb, hL3 hb, hL4 hb, hL5 hb, k0_4, k0_5, k0_6, k0_7, k0_8, kl_4, kl_5, kl_6, kl_7, kl_8, hp.2.2.1, Int32.le_refl, if_true]
  | succ k ih =>
    intro c hk
    have hlt : c < p.2.2.1 := by omega
    have hn : ¬ nI p.2.2.1 ≤ nI c := nI_ge hlt (by omega)
    rw [e_X2_dreamsBerthed_4]
    simp only [e_X2_dreamsBerthed_0, e_X2_dreamsBerthed_1_i, e_X2_dreamsBerthed_1_r, e_X2_dreamsBerthed_2, e_X2_dreamsBerthed_3_i, e_X2_dreamsBerthed_3_r, e_X2_dreamsBerthed_3_n, e_X2_dreamsBerthed_5, e_X2_dreamsBerthed_6, e_X2_dreamsBerthed_9, e_X2_dreamsBerthed_12, e_X2_dreamsBerthed_15, e_X2_dreamsBerthed_16, e_X2_dreamsBerthed_17, e_X2_dreamsBerthed_21, e_X2_dreamsBerthed_22_i, e_X2_dreamsBerthed_22_r, e_X2_dreamsBerthed_23_i, e_X2_dreamsBerthed_23_r, e_X2_dreamsBerthed_23_n, e_X2_dreamsBerthed_26, e_X2_dreamsBerthed_30, eq_self, nI10, not_false_eq_true, not_true_eq_false, is2_i, is2_r, is2_n, nI_add, pk_mul, Nat.reduceAdd, Nat.reduceMul, hb, ai_T3, hA1 hb, hA2 hb, hA3 hb, hA4 hb, hA5 hb, hL1 hb, hL2 hb, hL3 hb, hL4 hb, hL5 hb, k0_4, k0_5, k0_6, k0_7, k0_8, kl_4, kl_5, kl_6, kl_7, kl_8, hp.2.2.1, hn, if_false, e_X2_dreamsBerthed_18 (hb := hb) (hE := s_X2_dreamsAt hp hh hb (show c ≤ 9 by omega)), fa_or, mk_or]
    rw [← ih (c + 1) (by omega)]
    rw [mk_congr (f := fun i => decide (x.1 i < c) || atP x c i) (g := fun i => decide (x.1 i < c + 1)) (fun i _ => by
      unfold atP
      by_cases h1 : x.1 i < c
      · simp [h1, Nat.lt_succ_of_lt h1]
      · by_cases h2 : x.1 i = c
        · simp [h2]
        · have : ¬ x.1 i < c + 1 := by omega
          simp [h1, h2, this])]
theorem s_X2_dreamsBerthed (hp : RT p m) (hh : RH p x m b) (hb : ai_H b) : Ev o (d + 1) zX2_dreamsBerthed [.ref b] (ai_w m lg) (some (.int (nI (mk (fun i => decide (x.1 i < p.2.2.1)) p.2.2.2.2.1)))) (ai_w m lg) := by
  rw [ev_X2_dreamsBerthed]
  simp only [e_X2_dreamsBerthed_0, e_X2_dreamsBerthed_1_i, e_X2_dreamsBerthed_1_r, e_X2_dreamsBerthed_2, e_X2_dreamsBerthed_3_i, e_X2_dreamsBerthed_3_r, e_X2_dreamsBerthed_3_n, e_X2_dreamsBerthed_5, e_X2_dreamsBerthed_6, e_X2_dreamsBerthed_9, e_X2_dreamsBerthed_12, e_X2_dreamsBerthed_15, e_X2_dreamsBerthed_16, e_X2_dreamsBerthed_17, e_X2_dreamsBerthed_21, e_X2_dreamsBerthed_22_i, e_X2_dreamsBerthed_22_r, e_X2_dreamsBerthed_23_i, e_X2_dreamsBerthed_23_r, e_X2_dreamsBerthed_23_n, e_X2_dreamsBerthed_26, e_X2_dreamsBerthed_29, e_X2_dreamsBerthed_30, eq_self, nI10, not_false_eq_true, not_true_eq_false, is2_i, is2_r, is2_n, nI_add, pk_mul, Nat.reduceAdd, Nat.reduceMul]
  have := lp_X2_dreamsBerthed (o := o) (d := d) (lg := lg) (r := (some (.int (nI (mk (fun i => decide (x.1 i < p.2.2.1)) p.2.2.2.2.1))), ai_w m lg)) hp hh hb p.2.2.1 0 (by omega)
  rw [show mk (fun i => decide (x.1 i < 0)) p.2.2.2.2.1 = 0 by
    rw [mk_congr (g := fun _ => false) (fun i _ => by simp)]
    clear this
    induction p.2.2.2.2.1 with
    | zero => rfl
    | succ n ih => unfold mk; rw [ih]; rfl] at this
  rw [this]
  simp only [e_X2_dreamsBerthed_0, e_X2_dreamsBerthed_1_i, e_X2_dreamsBerthed_1_r, e_X2_dreamsBerthed_2, e_X2_dreamsBerthed_3_i, e_X2_dreamsBerthed_3_r, e_X2_dreamsBerthed_3_n, e_X2_dreamsBerthed_5, e_X2_dreamsBerthed_6, e_X2_dreamsBerthed_9, e_X2_dreamsBerthed_12, e_X2_dreamsBerthed_15, e_X2_dreamsBerthed_16, e_X2_dreamsBerthed_17, e_X2_dreamsBerthed_21, e_X2_dreamsBerthed_22_i, e_X2_dreamsBerthed_22_r, e_X2_dreamsBerthed_23_i, e_X2_dreamsBerthed_23_r, e_X2_dreamsBerthed_23_n, e_X2_dreamsBerthed_26, e_X2_dreamsBerthed_29, e_X2_dreamsBerthed_30]
theorem lp_X2_wokeInAll (hp : RT p m) (hh : RH p x m b) (hb : ai_H b) : ∀ k c, c + k = p.2.2.1 → Rn o d zX2_wokeInAll 4 [.ref b, .int (sumW x.2.2.2.2.1 c), .int (nI c)] [] (ai_w m lg) r = Rn o d zX2_wokeInAll 30 [.ref b, .int (sumW x.2.2.2.2.1 p.2.2.1), .int (nI p.2.2.1)] [] (ai_w m lg) r := by
  have hB := hp.1.2.1
  intro k
  induction k with
  | zero =>
    intro c hk
    have : c = p.2.2.1 := by omega
    subst this
    rw [e_X2_wokeInAll_4]
    simp only [e_X2_wokeInAll_0, e_X2_wokeInAll_1_i, e_X2_wokeInAll_1_r, e_X2_wokeInAll_2, e_X2_wokeInAll_3_i, e_X2_wokeInAll_3_r, e_X2_wokeInAll_3_n, e_X2_wokeInAll_5, e_X2_wokeInAll_6, e_X2_wokeInAll_9, e_X2_wokeInAll_12, e_X2_wokeInAll_15, e_X2_wokeInAll_16, e_X2_wokeInAll_17, e_X2_wokeInAll_20, e_X2_wokeInAll_21, e_X2_wokeInAll_22, e_X2_wokeInAll_23_i, e_X2_wokeInAll_23_r, e_X2_wokeInAll_24_i, e_X2_wokeInAll_24_r, e_X2_wokeInAll_24_n, e_X2_wokeInAll_27, e_X2_wokeInAll_31, eq_self, nI10, not_false_eq_true, not_true_eq_false, is2_i, is2_r, is2_n, nI_add, pk_mul, Nat.reduceAdd, Nat.reduceMul, hb, ai_T3, hA1 hb, hA2 hb, hA3 hb, hA4 hb, hA5 hb, hL1 hb, hL2 hb, hL3 hb, hL4 hb, hL5 hb, k0_4, k0_5, k0_6, k0_7, k0_8, kl_4, kl_5, kl_6, kl_7, kl_8, hp.2.2.1, Int32.le_refl, if_true]
  | succ k ih =>
    intro c hk
    have hlt : c < p.2.2.1 := by omega
    have h4 : c < 4 := by omega
    have hn : ¬ nI p.2.2.1 ≤ nI c := nI_ge hlt (by omega)
    rw [e_X2_wokeInAll_4]
    simp only [e_X2_wokeInAll_0, e_X2_wokeInAll_1_i, e_X2_wokeInAll_1_r, e_X2_wokeInAll_2, e_X2_wokeInAll_3_i, e_X2_wokeInAll_3_r, e_X2_wokeInAll_3_n, e_X2_wokeInAll_5, e_X2_wokeInAll_6, e_X2_wokeInAll_9, e_X2_wokeInAll_12, e_X2_wokeInAll_15, e_X2_wokeInAll_16, e_X2_wokeInAll_17, e_X2_wokeInAll_20, e_X2_wokeInAll_21, e_X2_wokeInAll_22, e_X2_wokeInAll_23_i, e_X2_wokeInAll_23_r, e_X2_wokeInAll_24_i, e_X2_wokeInAll_24_r, e_X2_wokeInAll_24_n, e_X2_wokeInAll_27, e_X2_wokeInAll_31, eq_self, nI10, not_false_eq_true, not_true_eq_false, is2_i, is2_r, is2_n, nI_add, pk_mul, Nat.reduceAdd, Nat.reduceMul, hb, ai_T3, hA1 hb, hA2 hb, hA3 hb, hA4 hb, hA5 hb, hL1 hb, hL2 hb, hL3 hb, hL4 hb, hL5 hb, k0_4, k0_5, k0_6, k0_7, k0_8, kl_4, kl_5, kl_6, kl_7, kl_8, hp.2.2.1, hn, if_false, h4, hh.2.2.2.2.2.1 c hlt]
    rw [← ih (c + 1) (by omega)]
    rfl
theorem s_X2_wokeInAll (hp : RT p m) (hh : RH p x m b) (hb : ai_H b) : Ev o d zX2_wokeInAll [.ref b] (ai_w m lg) (some (.int (sumW x.2.2.2.2.1 p.2.2.1))) (ai_w m lg) := by
  rw [ev_X2_wokeInAll]
  simp only [e_X2_wokeInAll_0, e_X2_wokeInAll_1_i, e_X2_wokeInAll_1_r, e_X2_wokeInAll_2, e_X2_wokeInAll_3_i, e_X2_wokeInAll_3_r, e_X2_wokeInAll_3_n, e_X2_wokeInAll_5, e_X2_wokeInAll_6, e_X2_wokeInAll_9, e_X2_wokeInAll_12, e_X2_wokeInAll_15, e_X2_wokeInAll_16, e_X2_wokeInAll_17, e_X2_wokeInAll_20, e_X2_wokeInAll_21, e_X2_wokeInAll_22, e_X2_wokeInAll_23_i, e_X2_wokeInAll_23_r, e_X2_wokeInAll_24_i, e_X2_wokeInAll_24_r, e_X2_wokeInAll_24_n, e_X2_wokeInAll_27, e_X2_wokeInAll_30, e_X2_wokeInAll_31, eq_self, nI10, not_false_eq_true, not_true_eq_false, is2_i, is2_r, is2_n, nI_add, pk_mul, Nat.reduceAdd, Nat.reduceMul]
  have := lp_X2_wokeInAll (o := o) (d := d) (lg := lg) (r := (some (.int (sumW x.2.2.2.2.1 p.2.2.1)), ai_w m lg)) hp hh hb p.2.2.1 0 (by omega)
  rw [show sumW x.2.2.2.2.1 0 = nI 0 from rfl] at this
  rw [this]
  simp only [e_X2_wokeInAll_0, e_X2_wokeInAll_1_i, e_X2_wokeInAll_1_r, e_X2_wokeInAll_2, e_X2_wokeInAll_3_i, e_X2_wokeInAll_3_r, e_X2_wokeInAll_3_n, e_X2_wokeInAll_5, e_X2_wokeInAll_6, e_X2_wokeInAll_9, e_X2_wokeInAll_12, e_X2_wokeInAll_15, e_X2_wokeInAll_16, e_X2_wokeInAll_17, e_X2_wokeInAll_20, e_X2_wokeInAll_21, e_X2_wokeInAll_22, e_X2_wokeInAll_23_i, e_X2_wokeInAll_23_r, e_X2_wokeInAll_24_i, e_X2_wokeInAll_24_r, e_X2_wokeInAll_24_n, e_X2_wokeInAll_27, e_X2_wokeInAll_30, e_X2_wokeInAll_31]
theorem lp_X2_dreamtIfFailed (hp : RT p m) (hh : RH p x m b) (hb : ai_H b) {F : Nat} (hF : F < 32) : ∀ k c (a4 : Value), c + k = p.2.2.1 → ∃ a4', ∀ r, Rn o (d + 3) zX2_dreamtIfFailed 4 [.ref b, .int (nI F), .int (nI (sumN (pFail p x F) c)), .int (nI c), a4] [] (ai_w m lg) r = Rn o (d + 3) zX2_dreamtIfFailed 53 [.ref b, .int (nI F), .int (nI (sumN (pFail p x F) p.2.2.1)), .int (nI p.2.2.1), a4'] [] (ai_w m lg) r := by
  have hB := hp.1.2.1
  have hD := hp.1.2.2.1
  intro k
  induction k with
  | zero =>
    intro c a4 hk
    have : c = p.2.2.1 := by omega
    subst this
    refine ⟨a4, fun r => ?_⟩
    rw [e_X2_dreamtIfFailed_4]
    simp only [e_X2_dreamtIfFailed_0, e_X2_dreamtIfFailed_1_i, e_X2_dreamtIfFailed_1_r, e_X2_dreamtIfFailed_1_n, e_X2_dreamtIfFailed_2, e_X2_dreamtIfFailed_3_i, e_X2_dreamtIfFailed_3_r, e_X2_dreamtIfFailed_3_n, e_X2_dreamtIfFailed_5, e_X2_dreamtIfFailed_6, e_X2_dreamtIfFailed_9, e_X2_dreamtIfFailed_12, e_X2_dreamtIfFailed_15, e_X2_dreamtIfFailed_16, e_X2_dreamtIfFailed_17, e_X2_dreamtIfFailed_18, e_X2_dreamtIfFailed_19, e_X2_dreamtIfFailed_20, e_X2_dreamtIfFailed_21, e_X2_dreamtIfFailed_24, e_X2_dreamtIfFailed_25, e_X2_dreamtIfFailed_28, e_X2_dreamtIfFailed_32_i, e_X2_dreamtIfFailed_32_r, e_X2_dreamtIfFailed_32_n, e_X2_dreamtIfFailed_34, e_X2_dreamtIfFailed_35, e_X2_dreamtIfFailed_36, e_X2_dreamtIfFailed_37, e_X2_dreamtIfFailed_45, e_X2_dreamtIfFailed_46_i, e_X2_dreamtIfFailed_46_r, e_X2_dreamtIfFailed_46_n, e_X2_dreamtIfFailed_47_i, e_X2_dreamtIfFailed_47_r, e_X2_dreamtIfFailed_47_n, e_X2_dreamtIfFailed_50, e_X2_dreamtIfFailed_54, eq_self, nI10, not_false_eq_true, not_true_eq_false, is2_i, is2_r, is2_n, nI_add, pk_mul, Nat.reduceAdd, Nat.reduceMul, hb, ai_T3, hA1 hb, hA2 hb, hA3 hb, hA4 hb, hA5 hb, hL1 hb, hL2 hb, hL3 hb, hL4 hb, hL5 hb, k0_4, k0_5, k0_6, k0_7, k0_8, kl_4, kl_5, kl_6, kl_7, kl_8, hp.2.2.1, Int32.le_refl, if_true]
  | succ k ih =>
    intro c a4 hk
    have hlt : c < p.2.2.1 := by omega
    have h5 : c < 5 := by omega
    have hn : ¬ nI p.2.2.1 ≤ nI c := nI_ge hlt (by omega)
    have hM : ∀ t, mk (dSl p x c t) p.2.2.2.2.1 < 32 := fun t => Nat.lt_of_lt_of_le (mk_lt _ _) (Nat.pow_le_pow_right (by decide) hD)
    have htd := pTide_le hp.1 x.2.2.2.2.2
    by_cases h : F / 2 ^ c % 2 = 1
    · obtain ⟨a4', g⟩ := ih (c + 1) (.int (nI 0)) (by omega)
      refine ⟨a4', fun r => ?_⟩
      rw [e_X2_dreamtIfFailed_4, ← g r]
      simp only [e_X2_dreamtIfFailed_0, e_X2_dreamtIfFailed_1_i, e_X2_dreamtIfFailed_1_r, e_X2_dreamtIfFailed_1_n, e_X2_dreamtIfFailed_2, e_X2_dreamtIfFailed_3_i, e_X2_dreamtIfFailed_3_r, e_X2_dreamtIfFailed_3_n, e_X2_dreamtIfFailed_5, e_X2_dreamtIfFailed_6, e_X2_dreamtIfFailed_9, e_X2_dreamtIfFailed_12, e_X2_dreamtIfFailed_15, e_X2_dreamtIfFailed_16, e_X2_dreamtIfFailed_17, e_X2_dreamtIfFailed_18, e_X2_dreamtIfFailed_19, e_X2_dreamtIfFailed_20, e_X2_dreamtIfFailed_21, e_X2_dreamtIfFailed_24, e_X2_dreamtIfFailed_25, e_X2_dreamtIfFailed_28, e_X2_dreamtIfFailed_32_i, e_X2_dreamtIfFailed_32_r, e_X2_dreamtIfFailed_32_n, e_X2_dreamtIfFailed_34, e_X2_dreamtIfFailed_35, e_X2_dreamtIfFailed_36, e_X2_dreamtIfFailed_37, e_X2_dreamtIfFailed_45, e_X2_dreamtIfFailed_46_i, e_X2_dreamtIfFailed_46_r, e_X2_dreamtIfFailed_46_n, e_X2_dreamtIfFailed_47_i, e_X2_dreamtIfFailed_47_r, e_X2_dreamtIfFailed_47_n, e_X2_dreamtIfFailed_50, e_X2_dreamtIfFailed_54, eq_self, nI10, not_false_eq_true, not_true_eq_false, is2_i, is2_r, is2_n, nI_add, pk_mul, Nat.reduceAdd, Nat.reduceMul, hb, ai_T3, hA1 hb, hA2 hb, hA3 hb, hA4 hb, hA5 hb, hL1 hb, hL2 hb, hL3 hb, hL4 hb, hL5 hb, k0_4, k0_5, k0_6, k0_7, k0_8, kl_4, kl_5, kl_6, kl_7, kl_8, hp.2.2.1, hn, if_false, sh_bit F hF c h5, h, e_X2_dreamtIfFailed_39 (hb := hb) (hE := s_X2_dreamtIn hp hh hb hlt (show 0 ≤ 9 by omega)), e_X2_dreamtIfFailed_42 (hE := s_bitCount (hM 0)), pcn_mk _ hD]
      rw [show sumN (pFail p x F) (c + 1) = sumN (pFail p x F) c + pFail p x F c from rfl]
      unfold pFail
      rw [if_pos h]
    · obtain ⟨a4', g⟩ := ih (c + 1) (.int (nI (pTide p x.2.2.2.2.2))) (by omega)
      refine ⟨a4', fun r => ?_⟩
      rw [e_X2_dreamtIfFailed_4, ← g r]
      have h0 : F / 2 ^ c % 2 = 0 := by omega
      have hz : ¬ nI 0 = nI 1 := by decide
      simp only [e_X2_dreamtIfFailed_0, e_X2_dreamtIfFailed_1_i, e_X2_dreamtIfFailed_1_r, e_X2_dreamtIfFailed_1_n, e_X2_dreamtIfFailed_2, e_X2_dreamtIfFailed_3_i, e_X2_dreamtIfFailed_3_r, e_X2_dreamtIfFailed_3_n, e_X2_dreamtIfFailed_5, e_X2_dreamtIfFailed_6, e_X2_dreamtIfFailed_9, e_X2_dreamtIfFailed_12, e_X2_dreamtIfFailed_15, e_X2_dreamtIfFailed_16, e_X2_dreamtIfFailed_17, e_X2_dreamtIfFailed_18, e_X2_dreamtIfFailed_19, e_X2_dreamtIfFailed_20, e_X2_dreamtIfFailed_21, e_X2_dreamtIfFailed_24, e_X2_dreamtIfFailed_25, e_X2_dreamtIfFailed_28, e_X2_dreamtIfFailed_32_i, e_X2_dreamtIfFailed_32_r, e_X2_dreamtIfFailed_32_n, e_X2_dreamtIfFailed_34, e_X2_dreamtIfFailed_35, e_X2_dreamtIfFailed_36, e_X2_dreamtIfFailed_37, e_X2_dreamtIfFailed_45, e_X2_dreamtIfFailed_46_i, e_X2_dreamtIfFailed_46_r, e_X2_dreamtIfFailed_46_n, e_X2_dreamtIfFailed_47_i, e_X2_dreamtIfFailed_47_r, e_X2_dreamtIfFailed_47_n, e_X2_dreamtIfFailed_50, e_X2_dreamtIfFailed_54, eq_self, nI10, not_false_eq_true, not_true_eq_false, is2_i, is2_r, is2_n, nI_add, pk_mul, Nat.reduceAdd, Nat.reduceMul, hb, ai_T3, hA1 hb, hA2 hb, hA3 hb, hA4 hb, hA5 hb, hL1 hb, hL2 hb, hL3 hb, hL4 hb, hL5 hb, k0_4, k0_5, k0_6, k0_7, k0_8, kl_4, kl_5, kl_6, kl_7, kl_8, hp.2.2.1, hn, if_false, sh_bit F hF c h5, h0, hz, if_true, e_X2_dreamtIfFailed_29 (hb := hb) (hE := s_X2_tide hp hh hb), e_X2_dreamtIfFailed_39 (hb := hb) (hE := s_X2_dreamtIn hp hh hb hlt htd), e_X2_dreamtIfFailed_42 (hE := s_bitCount (hM _)), pcn_mk _ hD]
      rw [show sumN (pFail p x F) (c + 1) = sumN (pFail p x F) c + pFail p x F c from rfl]
      unfold pFail
      rw [if_neg h]
theorem s_X2_dreamtIfFailed (hp : RT p m) (hh : RH p x m b) (hb : ai_H b) {F : Nat} (hF : F < 32) : Ev o (d + 3) zX2_dreamtIfFailed [.ref b, .int (nI F)] (ai_w m lg) (some (.int (nI (sumN (pFail p x F) p.2.2.1)))) (ai_w m lg) := by
  rw [ev_X2_dreamtIfFailed]
  simp only [e_X2_dreamtIfFailed_0, e_X2_dreamtIfFailed_1_i, e_X2_dreamtIfFailed_1_r, e_X2_dreamtIfFailed_1_n, e_X2_dreamtIfFailed_2, e_X2_dreamtIfFailed_3_i, e_X2_dreamtIfFailed_3_r, e_X2_dreamtIfFailed_3_n, e_X2_dreamtIfFailed_5, e_X2_dreamtIfFailed_6, e_X2_dreamtIfFailed_9, e_X2_dreamtIfFailed_12, e_X2_dreamtIfFailed_15, e_X2_dreamtIfFailed_16, e_X2_dreamtIfFailed_17, e_X2_dreamtIfFailed_18, e_X2_dreamtIfFailed_19, e_X2_dreamtIfFailed_20, e_X2_dreamtIfFailed_21, e_X2_dreamtIfFailed_24, e_X2_dreamtIfFailed_25, e_X2_dreamtIfFailed_28, e_X2_dreamtIfFailed_32_i, e_X2_dreamtIfFailed_32_r, e_X2_dreamtIfFailed_32_n, e_X2_dreamtIfFailed_34, e_X2_dreamtIfFailed_35, e_X2_dreamtIfFailed_36, e_X2_dreamtIfFailed_37, e_X2_dreamtIfFailed_45, e_X2_dreamtIfFailed_46_i, e_X2_dreamtIfFailed_46_r, e_X2_dreamtIfFailed_46_n, e_X2_dreamtIfFailed_47_i, e_X2_dreamtIfFailed_47_r, e_X2_dreamtIfFailed_47_n, e_X2_dreamtIfFailed_50, e_X2_dreamtIfFailed_53, e_X2_dreamtIfFailed_54, eq_self, nI10, not_false_eq_true, not_true_eq_false, is2_i, is2_r, is2_n, nI_add, pk_mul, Nat.reduceAdd, Nat.reduceMul]
  obtain ⟨a4', g⟩ := lp_X2_dreamtIfFailed (o := o) (d := d) (lg := lg) hp hh hb hF p.2.2.1 0 .null (by omega)
  rw [show sumN (pFail p x F) 0 = 0 from rfl] at g
  rw [g]
  simp only [e_X2_dreamtIfFailed_0, e_X2_dreamtIfFailed_1_i, e_X2_dreamtIfFailed_1_r, e_X2_dreamtIfFailed_1_n, e_X2_dreamtIfFailed_2, e_X2_dreamtIfFailed_3_i, e_X2_dreamtIfFailed_3_r, e_X2_dreamtIfFailed_3_n, e_X2_dreamtIfFailed_5, e_X2_dreamtIfFailed_6, e_X2_dreamtIfFailed_9, e_X2_dreamtIfFailed_12, e_X2_dreamtIfFailed_15, e_X2_dreamtIfFailed_16, e_X2_dreamtIfFailed_17, e_X2_dreamtIfFailed_18, e_X2_dreamtIfFailed_19, e_X2_dreamtIfFailed_20, e_X2_dreamtIfFailed_21, e_X2_dreamtIfFailed_24, e_X2_dreamtIfFailed_25, e_X2_dreamtIfFailed_28, e_X2_dreamtIfFailed_32_i, e_X2_dreamtIfFailed_32_r, e_X2_dreamtIfFailed_32_n, e_X2_dreamtIfFailed_34, e_X2_dreamtIfFailed_35, e_X2_dreamtIfFailed_36, e_X2_dreamtIfFailed_37, e_X2_dreamtIfFailed_45, e_X2_dreamtIfFailed_46_i, e_X2_dreamtIfFailed_46_r, e_X2_dreamtIfFailed_46_n, e_X2_dreamtIfFailed_47_i, e_X2_dreamtIfFailed_47_r, e_X2_dreamtIfFailed_47_n, e_X2_dreamtIfFailed_50, e_X2_dreamtIfFailed_53, e_X2_dreamtIfFailed_54]
-- copied
theorem s_X2_becomes {c : Nat} (hb : ai_H b) (hc : ai_H c) (hn : b ≠ c) (hp : RT p m) (hh : RH p x m c) : ∃ m', RH p x m' b ∧ Fr b m m' ∧ Ev o (d + 1) zX2_becomes [.ref b, .ref c] (ai_w m lg) none (ai_w m' lg) := by
  have hD := hp.1.2.2.1
  have hB := hp.1.2.1
  have ha := ai_H_apart hb hc hn
  have n0 : c ≠ b + 1 := by omega
  let m1 := va_up m (b + 1) (va_cpy (m (c + 1)) (m (b + 1)) 0 0 5)
  let m2 := va_up m1 (b + 2) (va_cpy (m1 (c + 2)) (m1 (b + 2)) 0 0 5)
  let m3 := va_up m2 (b + 3) (va_cpy (m2 (c + 3)) (m2 (b + 3)) 0 0 5)
  let m4 := va_up m3 (b + 4) (va_cpy (m3 (c + 4)) (m3 (b + 4)) 0 0 4)
  let m5 := va_up m4 (b + 5) (va_cpy (m4 (c + 5)) (m4 (b + 5)) 0 0 4)
  let m6 := ai_up m5 b 6 (m5 c 6)
  have f1 : ∀ i, i ≠ b + 1 → m1 i = m i := fun i hi => by simp [m1, va_up, hi]
  have f2 : ∀ i, i ≠ b + 2 → m2 i = m1 i := fun i hi => by simp [m2, va_up, hi]
  have f3 : ∀ i, i ≠ b + 3 → m3 i = m2 i := fun i hi => by simp [m3, va_up, hi]
  have f4 : ∀ i, i ≠ b + 4 → m4 i = m3 i := fun i hi => by simp [m4, va_up, hi]
  have f5 : ∀ i, i ≠ b + 5 → m5 i = m4 i := fun i hi => by simp [m5, va_up, hi]
  have f6 : ∀ i, i ≠ b → m6 i = m5 i := fun i hi => by simp [m6, ai_up, hi]
  have cp : ∀ (f g : Nat → Int32) (n j : Nat), j < n → va_cpy f g 0 0 n j = f j := fun f g n j hj => by simp [va_cpy, hj]
  obtain ⟨h0, h1, h2, h3, h4, h5, h6⟩ := hh
  refine ⟨m6, ⟨h0, ?_, ?_, ?_, ?_, ?_, ?_⟩, ?_, ?_⟩
  · intro t ht
    rw [f6 _ (by omega), f5 _ (by omega), f4 _ (by omega), f3 _ (by omega), f2 _ (by omega)]
    show va_up m (b + 1) _ (b + 1) t = _
    simp only [va_up, if_true]
    rw [cp _ _ 5 t (by omega)]
    exact h1 t ht
  · intro t ht
    rw [f6 _ (by omega), f5 _ (by omega), f4 _ (by omega), f3 _ (by omega)]
    show va_up m1 (b + 2) _ (b + 2) t = _
    simp only [va_up, if_true]
    rw [cp _ _ 5 t (by omega), f1 _ (by omega)]
    exact h2 t ht
  · intro t ht
    rw [f6 _ (by omega), f5 _ (by omega), f4 _ (by omega)]
    show va_up m2 (b + 3) _ (b + 3) t = _
    simp only [va_up, if_true]
    rw [cp _ _ 5 t (by omega), f2 _ (by omega), f1 _ (by omega)]
    exact h3 t ht
  · intro t ht
    rw [f6 _ (by omega), f5 _ (by omega)]
    show va_up m3 (b + 4) _ (b + 4) t = _
    simp only [va_up, if_true]
    rw [cp _ _ 4 t (by omega), f3 _ (by omega), f2 _ (by omega), f1 _ (by omega)]
    exact h4 t ht
  · intro t ht
    rw [f6 _ (by omega)]
    show va_up m4 (b + 5) _ (b + 5) t = _
    simp only [va_up, if_true]
    rw [cp _ _ 4 t (by omega), f4 _ (by omega), f3 _ (by omega), f2 _ (by omega), f1 _ (by omega)]
    exact h5 t ht
  · show ai_up m5 b 6 _ b 6 = _
    rw [up_eq, if_pos rfl, f5 _ (by omega), f4 _ (by omega), f3 _ (by omega), f2 _ (by omega), f1 _ (by omega)]
    exact h6
  · intro i hi
    rw [f6 _ (by omega), f5 _ (by omega), f4 _ (by omega), f3 _ (by omega), f2 _ (by omega), f1 _ (by omega)]
  · rw [ev_X2_becomes]
    have l5 : (5 ≤ 5) = True := by simp
    have l4 : (4 ≤ 4) = True := by simp
    simp only [e_X2_becomes_0, e_X2_becomes_1, e_X2_becomes_4, e_X2_becomes_5, e_X2_becomes_6, e_X2_becomes_9, e_X2_becomes_10, e_X2_becomes_11, e_X2_becomes_14, e_X2_becomes_15, e_X2_becomes_18, e_X2_becomes_19, e_X2_becomes_20, e_X2_becomes_23, e_X2_becomes_24, e_X2_becomes_25, e_X2_becomes_28, e_X2_becomes_29, e_X2_becomes_32, e_X2_becomes_33, e_X2_becomes_34, e_X2_becomes_37, e_X2_becomes_38, e_X2_becomes_39, e_X2_becomes_42, e_X2_becomes_43, e_X2_becomes_46, e_X2_becomes_47, e_X2_becomes_48, e_X2_becomes_51, e_X2_becomes_52, e_X2_becomes_53, e_X2_becomes_56, e_X2_becomes_57, e_X2_becomes_60, e_X2_becomes_61, e_X2_becomes_62, e_X2_becomes_65, e_X2_becomes_66, e_X2_becomes_67, e_X2_becomes_70, e_X2_becomes_71, e_X2_becomes_72, e_X2_becomes_75, e_X2_becomes_78, eq_self, nI10, not_false_eq_true, not_true_eq_false, is2_i, is2_r, is2_n, nI_add, pk_mul, Nat.reduceAdd, Nat.reduceMul, hb, ai_T3, hA1 hb, hA2 hb, hA3 hb, hA4 hb, hA5 hb, hL1 hb, hL2 hb, hL3 hb, hL4 hb, hL5 hb, k0_4, k0_5, k0_6, k0_7, k0_8, kl_4, kl_5, kl_6, kl_7, kl_8, hc, hA1 hc, hA2 hc, hA3 hc, hA4 hc, hA5 hc, hL1 hc, hL2 hc, hL3 hc, hL4 hc, hL5 hc, l5, l4]
    rfl
end P35
