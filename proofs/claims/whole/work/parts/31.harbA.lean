/-! Harbour: what is asked of it -/
theorem k0_4 : ai_a0 4 = true := tA1 ai_T3
theorem k0_5 : ai_a0 5 = true := tA2 ai_T3
theorem k0_6 : ai_a0 6 = true := tA3 ai_T3
theorem k0_7 : ai_a0 7 = true := tA4 ai_T3
theorem k0_8 : ai_a0 8 = true := tA5 ai_T3
theorem kl_4 : ai_len 4 = 4 := tL1 ai_T3
theorem kl_5 : ai_len 5 = 4 := tL2 ai_T3
theorem kl_6 : ai_len 6 = 4 := tL3 ai_T3
theorem kl_7 : ai_len 7 = 5 := tL4 ai_T3
theorem kl_8 : ai_len 8 = 5 := tL5 ai_T3
/-- how many places below n have f -/
def cn (f : Nat → Bool) : Nat → Nat
  | 0 => 0
  | n + 1 => cn f n + (if f n = true then 1 else 0)
theorem cn_le (f : Nat → Bool) (n : Nat) : cn f n ≤ n := by
  induction n with
  | zero => exact Nat.le_refl 0
  | succ n ih => unfold cn; split <;> omega
def pcn (M : Nat) : Nat := M % 2 + M / 2 % 2 + M / 4 % 2 + M / 8 % 2 + M / 16 % 2
theorem pcn_mk (f : Nat → Bool) {n : Nat} (hn : n ≤ 5) : pcn (mk f n) = cn f n := by
  match n, hn with
  | 0, _ => simp [mk, cn, pcn]
  | 1, _ => simp only [mk, cn]; cases f 0 <;> rfl
  | 2, _ => simp only [mk, cn]; cases f 0 <;> cases f 1 <;> rfl
  | 3, _ => simp only [mk, cn]; cases f 0 <;> cases f 1 <;> cases f 2 <;> rfl
  | 4, _ => simp only [mk, cn]; cases f 0 <;> cases f 1 <;> cases f 2 <;> cases f 3 <;> rfl
  | 5, _ => simp only [mk, cn]; cases f 0 <;> cases f 1 <;> cases f 2 <;> cases f 3 <;> cases f 4 <;> rfl
section P31
variable {o : ai_S} {d : Nat} {w : ai_W} {m : Nat → Nat → Int32} {lg : Nat → Nat → Int64} {p : PT} {x : HS} {b : Nat} {r : Option Value × ai_W}
theorem s_bitCount {M : Nat} (hM : M < 32) : Ev o d zJ6_bitCount_0f7a4 [.int (nI M)] w (some (.int (nI (pcn M)))) w := by
  rw [ev_J6_bitCount_0f7a4]
  simp only [e_J6_bitCount_0f7a4_0, e_J6_bitCount_0f7a4_1, e_J6_bitCount_0f7a4_2, e_J6_bitCount_0f7a4_3, e_J6_bitCount_0f7a4_4, e_J6_bitCount_0f7a4_7, e_J6_bitCount_0f7a4_8, e_J6_bitCount_0f7a4_9, e_J6_bitCount_0f7a4_10, e_J6_bitCount_0f7a4_11, e_J6_bitCount_0f7a4_14, e_J6_bitCount_0f7a4_15, e_J6_bitCount_0f7a4_16, e_J6_bitCount_0f7a4_17, e_J6_bitCount_0f7a4_18, e_J6_bitCount_0f7a4_21, e_J6_bitCount_0f7a4_22, e_J6_bitCount_0f7a4_23, e_J6_bitCount_0f7a4_24, e_J6_bitCount_0f7a4_25, e_J6_bitCount_0f7a4_26, e_J6_bitCount_0f7a4_27, e_J6_bitCount_0f7a4_28, e_J6_bitCount_0f7a4_29, e_J6_bitCount_0f7a4_32, e_J6_bitCount_0f7a4_33, e_J6_bitCount_0f7a4_34, e_J6_bitCount_0f7a4_35, e_J6_bitCount_0f7a4_36, e_J6_bitCount_0f7a4_38, e_J6_bitCount_0f7a4_39, e_J6_bitCount_0f7a4_40, e_J6_bitCount_0f7a4_41, e_J6_bitCount_0f7a4_42, e_J6_bitCount_0f7a4_43, e_J6_bitCount_0f7a4_45, e_J6_bitCount_0f7a4_46, e_J6_bitCount_0f7a4_47, e_J6_bitCount_0f7a4_48, e_J6_bitCount_0f7a4_49, e_J6_bitCount_0f7a4_51, e_J6_bitCount_0f7a4_52]
  congr 3
  revert M
  decide +kernel
theorem s_X2_tide (hp : RT p m) (hh : RH p x m b) (hb : ai_H b) : Ev o (d + 2) zX2_tide [.ref b] (ai_w m lg) (some (.int (nI (pTide p x.2.2.2.2.2)))) (ai_w m lg) := by
  have hn : x.2.2.2.2.2 < 2 ^ 31 := by have := hh.1.2.2.2; omega
  rw [ev_X2_tide]
  simp only [e_X2_tide_0, e_X2_tide_1, e_X2_tide_4, e_X2_tide_5, e_X2_tide_11, eq_self, nI10, not_false_eq_true, not_true_eq_false, is2_i, is2_r, is2_n, nI_add, pk_mul, Nat.reduceAdd, Nat.reduceMul, hb, ai_T3, hA1 hb, hA2 hb, hA3 hb, hA4 hb, hA5 hb, hL1 hb, hL2 hb, hL3 hb, hL4 hb, hL5 hb, k0_4, k0_5, k0_6, k0_7, k0_8, kl_4, kl_5, kl_6, kl_7, kl_8, hh.2.2.2.2.2.2, e_X2_tide_8 (hb := ai_T3) (hE := s_X6_tideOn hp hn)]
def pWater (p : PT) (x : HS) (c : Nat) : Nat := x.2.2.2.1 c + pTide p x.2.2.2.2.2
theorem s_X2_water (hp : RT p m) (hh : RH p x m b) (hb : ai_H b) {c : Nat} (hc : c < p.2.2.1) : Ev o (d + 3) zX2_water [.ref b, .int (nI c)] (ai_w m lg) (some (.int (nI (pWater p x c)))) (ai_w m lg) := by
  have h4 : c < 4 := by have := hp.1.2.1; omega
  rw [ev_X2_water]
  simp only [e_X2_water_0, e_X2_water_1, e_X2_water_4, e_X2_water_5, e_X2_water_6, e_X2_water_10, e_X2_water_11, eq_self, nI10, not_false_eq_true, not_true_eq_false, is2_i, is2_r, is2_n, nI_add, pk_mul, Nat.reduceAdd, Nat.reduceMul, hb, ai_T3, hA1 hb, hA2 hb, hA3 hb, hA4 hb, hA5 hb, hL1 hb, hL2 hb, hL3 hb, hL4 hb, hL5 hb, k0_4, k0_5, k0_6, k0_7, k0_8, kl_4, kl_5, kl_6, kl_7, kl_8, h4, hh.2.2.2.2.1 c hc, e_X2_water_7 (hb := hb) (hE := s_X2_tide hp hh hb), pWater]
theorem nI_9 {a c : Nat} (ha : a < 2 ^ 31) (hc : c < 2 ^ 31) : (nI a = nI c) = (a = c) := propext (nI_eq ha hc)
theorem hs_p {dd : Nat} (hp : RT p m) (hh : RH p x m b) (h : dd < p.2.2.2.2.1) : x.1 dd ≤ 9 := by
  have := hh.1.1 dd h
  have := hp.1.2.1
  omega
theorem s_X2_liesOff (hp : RT p m) (hh : RH p x m b) (hb : ai_H b) {dd : Nat} (hd : dd < p.2.2.2.2.1) : Ev o d zX2_liesOff [.ref b, .int (nI dd)] (ai_w m lg) (some (.int (bI (decide (x.1 dd = 8))))) (ai_w m lg) := by
  have h5 : dd < 5 := by have := hp.1.2.2.1; omega
  have h9 := hs_p hp hh hd
  rw [ev_X2_liesOff]
  simp only [e_X2_liesOff_0, e_X2_liesOff_1, e_X2_liesOff_4, e_X2_liesOff_5, e_X2_liesOff_6, e_X2_liesOff_8, e_X2_liesOff_11, e_X2_liesOff_12, e_X2_liesOff_15, e_X2_liesOff_16, eq_self, nI10, not_false_eq_true, not_true_eq_false, is2_i, is2_r, is2_n, nI_add, pk_mul, Nat.reduceAdd, Nat.reduceMul, hb, ai_T3, hA1 hb, hA2 hb, hA3 hb, hA4 hb, hA5 hb, hL1 hb, hL2 hb, hL3 hb, hL4 hb, hL5 hb, k0_4, k0_5, k0_6, k0_7, k0_8, kl_4, kl_5, kl_6, kl_7, kl_8, h5, hh.2.1 dd hd, nI_9 (a := x.1 dd) (c := 8) (by omega) (by omega), nar_0, nar_1]
  by_cases h : x.1 dd = 8 <;> simp [h, bI]
theorem s_X2_isBerthed (hp : RT p m) (hh : RH p x m b) (hb : ai_H b) {dd : Nat} (hd : dd < p.2.2.2.2.1) : Ev o d zX2_isBerthed [.ref b, .int (nI dd)] (ai_w m lg) (some (.int (bI (decide (x.1 dd < 4))))) (ai_w m lg) := by
  have h5 : dd < 5 := by have := hp.1.2.2.1; omega
  have h9 := hs_p hp hh hd
  have e : (nI 4 ≤ nI (x.1 dd)) = (4 ≤ x.1 dd) := propext (nI_leI (by omega) (by omega))
  rw [ev_X2_isBerthed]
  simp only [e_X2_isBerthed_0, e_X2_isBerthed_1, e_X2_isBerthed_4, e_X2_isBerthed_5, e_X2_isBerthed_6, e_X2_isBerthed_7, e_X2_isBerthed_10, e_X2_isBerthed_11, e_X2_isBerthed_14, e_X2_isBerthed_15, eq_self, nI10, not_false_eq_true, not_true_eq_false, is2_i, is2_r, is2_n, nI_add, pk_mul, Nat.reduceAdd, Nat.reduceMul, hb, ai_T3, hA1 hb, hA2 hb, hA3 hb, hA4 hb, hA5 hb, hL1 hb, hL2 hb, hL3 hb, hL4 hb, hL5 hb, k0_4, k0_5, k0_6, k0_7, k0_8, kl_4, kl_5, kl_6, kl_7, kl_8, h5, hh.2.1 dd hd, e, nar_0, nar_1]
  by_cases h : 4 ≤ x.1 dd
  · simp [h, Nat.not_lt.mpr h, bI]
  · simp [h, Nat.not_le.mp h, bI]
def atP (x : HS) (c : Nat) : Nat → Bool := fun dd => decide (x.1 dd = c)
theorem lp_X2_dreamsAt (hp : RT p m) (hh : RH p x m b) (hb : ai_H b) {c : Nat} (hc : c ≤ 9) : ∀ k dd, dd + k = p.2.2.2.2.1 → Rn o d zX2_dreamsAt 4 [.ref b, .int (nI c), .int (nI (mk (atP x c) dd)), .int (nI dd)] [] (ai_w m lg) r = Rn o d zX2_dreamsAt 37 [.ref b, .int (nI c), .int (nI (mk (atP x c) p.2.2.2.2.1)), .int (nI p.2.2.2.2.1)] [] (ai_w m lg) r := by
  have hD := hp.1.2.2.1
  intro k
  induction k with
  | zero =>
    intro dd hk
    have : dd = p.2.2.2.2.1 := by omega
    subst this
    rw [e_X2_dreamsAt_4]
    simp only [e_X2_dreamsAt_0, e_X2_dreamsAt_1_i, e_X2_dreamsAt_1_r, e_X2_dreamsAt_1_n, e_X2_dreamsAt_2, e_X2_dreamsAt_3_i, e_X2_dreamsAt_3_r, e_X2_dreamsAt_3_n, e_X2_dreamsAt_5, e_X2_dreamsAt_6, e_X2_dreamsAt_9, e_X2_dreamsAt_12, e_X2_dreamsAt_15, e_X2_dreamsAt_16, e_X2_dreamsAt_19, e_X2_dreamsAt_20, e_X2_dreamsAt_21, e_X2_dreamsAt_22, e_X2_dreamsAt_25, e_X2_dreamsAt_26, e_X2_dreamsAt_27, e_X2_dreamsAt_28, e_X2_dreamsAt_29, e_X2_dreamsAt_30_i, e_X2_dreamsAt_30_r, e_X2_dreamsAt_30_n, e_X2_dreamsAt_31_i, e_X2_dreamsAt_31_r, e_X2_dreamsAt_31_n, e_X2_dreamsAt_34, e_X2_dreamsAt_38, eq_self, nI10, not_false_eq_true, not_true_eq_false, is2_i, is2_r, is2_n, nI_add, pk_mul, Nat.reduceAdd, Nat.reduceMul, hb, ai_T3, hA1 hb, hA2 hb, hA3 hb, hA4 hb, hA5 hb, hL1 hb, hL2 hb, hL3 hb, hL4 hb, hL5 hb, k0_4, k0_5, k0_6, k0_7, k0_8, kl_4, kl_5, kl_6, kl_7, kl_8, hp.2.2.2.1, Int32.le_refl, if_true]
  | succ k ih =>
    intro dd hk
    have hlt : dd < p.2.2.2.2.1 := by omega
    have h5 : dd < 5 := by omega
    have h9 := hs_p hp hh hlt
    have hn : ¬ nI p.2.2.2.2.1 ≤ nI dd := nI_ge hlt (by omega)
    rw [e_X2_dreamsAt_4]
    simp only [e_X2_dreamsAt_0, e_X2_dreamsAt_1_i, e_X2_dreamsAt_1_r, e_X2_dreamsAt_1_n, e_X2_dreamsAt_2, e_X2_dreamsAt_3_i, e_X2_dreamsAt_3_r, e_X2_dreamsAt_3_n, e_X2_dreamsAt_5, e_X2_dreamsAt_6, e_X2_dreamsAt_9, e_X2_dreamsAt_12, e_X2_dreamsAt_15, e_X2_dreamsAt_16, e_X2_dreamsAt_19, e_X2_dreamsAt_20, e_X2_dreamsAt_21, e_X2_dreamsAt_22, e_X2_dreamsAt_25, e_X2_dreamsAt_26, e_X2_dreamsAt_27, e_X2_dreamsAt_28, e_X2_dreamsAt_29, e_X2_dreamsAt_30_i, e_X2_dreamsAt_30_r, e_X2_dreamsAt_30_n, e_X2_dreamsAt_31_i, e_X2_dreamsAt_31_r, e_X2_dreamsAt_31_n, e_X2_dreamsAt_34, e_X2_dreamsAt_38, eq_self, nI10, not_false_eq_true, not_true_eq_false, is2_i, is2_r, is2_n, nI_add, pk_mul, Nat.reduceAdd, Nat.reduceMul, hb, ai_T3, hA1 hb, hA2 hb, hA3 hb, hA4 hb, hA5 hb, hL1 hb, hL2 hb, hL3 hb, hL4 hb, hL5 hb, k0_4, k0_5, k0_6, k0_7, k0_8, kl_4, kl_5, kl_6, kl_7, kl_8, hp.2.2.2.1, hn, if_false, h5, hh.2.1 dd hlt, nI_9 (a := x.1 dd) (c := c) (by omega) (by omega), or_bit (mk_lt (atP x c) dd) (show dd < 31 by omega)]
    by_cases h : x.1 dd = c
    · rw [if_neg (fun z => z h), ← ih (dd + 1) (by omega)]
      simp [mk, atP, h]
    · rw [if_pos h, ← ih (dd + 1) (by omega)]
      simp [mk, atP, h]
theorem s_X2_dreamsAt (hp : RT p m) (hh : RH p x m b) (hb : ai_H b) {c : Nat} (hc : c ≤ 9) : Ev o d zX2_dreamsAt [.ref b, .int (nI c)] (ai_w m lg) (some (.int (nI (mk (atP x c) p.2.2.2.2.1)))) (ai_w m lg) := by
  rw [ev_X2_dreamsAt]
  simp only [e_X2_dreamsAt_0, e_X2_dreamsAt_1_i, e_X2_dreamsAt_1_r, e_X2_dreamsAt_1_n, e_X2_dreamsAt_2, e_X2_dreamsAt_3_i, e_X2_dreamsAt_3_r, e_X2_dreamsAt_3_n, e_X2_dreamsAt_5, e_X2_dreamsAt_6, e_X2_dreamsAt_9, e_X2_dreamsAt_12, e_X2_dreamsAt_15, e_X2_dreamsAt_16, e_X2_dreamsAt_19, e_X2_dreamsAt_20, e_X2_dreamsAt_21, e_X2_dreamsAt_22, e_X2_dreamsAt_25, e_X2_dreamsAt_26, e_X2_dreamsAt_27, e_X2_dreamsAt_28, e_X2_dreamsAt_29, e_X2_dreamsAt_30_i, e_X2_dreamsAt_30_r, e_X2_dreamsAt_30_n, e_X2_dreamsAt_31_i, e_X2_dreamsAt_31_r, e_X2_dreamsAt_31_n, e_X2_dreamsAt_34, e_X2_dreamsAt_37, e_X2_dreamsAt_38, eq_self, nI10, not_false_eq_true, not_true_eq_false, is2_i, is2_r, is2_n, nI_add, pk_mul, Nat.reduceAdd, Nat.reduceMul]
  rw [show nI 0 = nI (mk (atP x c) 0) from rfl, show Rn o d zX2_dreamsAt 4 [.ref b, .int (nI c), .int (nI (mk (atP x c) 0)), .int (nI (mk (atP x c) 0))] [] (ai_w m lg) _ = _ from lp_X2_dreamsAt hp hh hb hc p.2.2.2.2.1 0 (by omega)]
  simp only [e_X2_dreamsAt_0, e_X2_dreamsAt_1_i, e_X2_dreamsAt_1_r, e_X2_dreamsAt_1_n, e_X2_dreamsAt_2, e_X2_dreamsAt_3_i, e_X2_dreamsAt_3_r, e_X2_dreamsAt_3_n, e_X2_dreamsAt_5, e_X2_dreamsAt_6, e_X2_dreamsAt_9, e_X2_dreamsAt_12, e_X2_dreamsAt_15, e_X2_dreamsAt_16, e_X2_dreamsAt_19, e_X2_dreamsAt_20, e_X2_dreamsAt_21, e_X2_dreamsAt_22, e_X2_dreamsAt_25, e_X2_dreamsAt_26, e_X2_dreamsAt_27, e_X2_dreamsAt_28, e_X2_dreamsAt_29, e_X2_dreamsAt_30_i, e_X2_dreamsAt_30_r, e_X2_dreamsAt_30_n, e_X2_dreamsAt_31_i, e_X2_dreamsAt_31_r, e_X2_dreamsAt_31_n, e_X2_dreamsAt_34, e_X2_dreamsAt_37, e_X2_dreamsAt_38]
theorem s_X2_countAt (hp : RT p m) (hh : RH p x m b) (hb : ai_H b) {c : Nat} (hc : c ≤ 9) : Ev o (d + 1) zX2_countAt [.ref b, .int (nI c)] (ai_w m lg) (some (.int (nI (cn (atP x c) p.2.2.2.2.1)))) (ai_w m lg) := by
  have hD := hp.1.2.2.1
  have hM : mk (atP x c) p.2.2.2.2.1 < 32 := Nat.lt_of_lt_of_le (mk_lt _ _) (Nat.pow_le_pow_right (by decide) hD)
  rw [ev_X2_countAt]
  simp only [e_X2_countAt_0, e_X2_countAt_1, e_X2_countAt_8, eq_self, nI10, not_false_eq_true, not_true_eq_false, is2_i, is2_r, is2_n, nI_add, pk_mul, Nat.reduceAdd, Nat.reduceMul, e_X2_countAt_2 (hb := hb) (hE := s_X2_dreamsAt hp hh hb hc), e_X2_countAt_5 (hE := s_bitCount hM), pcn_mk _ hD]
def pSuit (p : PT) (x : HS) (dd c : Nat) : Bool := decide (p.2.2.2.1 c ≠ 1 ∨ (x.2.2.1 dd ≤ 3 ∧ p.2.2.2.2.2 dd ≠ 1))
theorem s_X2_suits (hp : RT p m) (hh : RH p x m b) (hb : ai_H b) {dd c : Nat} (hd : dd < p.2.2.2.2.1) (hc : c < p.2.2.1) : Ev o d zX2_suits [.ref b, .int (nI dd), .int (nI c)] (ai_w m lg) (some (.int (bI (pSuit p x dd c)))) (ai_w m lg) := by
  have hD := hp.1.2.2.1
  have hB := hp.1.2.1
  have h5 : dd < 5 := by omega
  have h4 : c < 4 := by omega
  have k1 := hp.1.2.2.2.2.1 c hc
  have k2 := hp.1.2.2.2.2.2 dd hd
  have k3 := (hh.1.2.1 dd hd).2
  have e3 : (nI 3 < nI (x.2.2.1 dd)) = (3 < x.2.2.1 dd) := propext (nI_ltI (by omega) (by omega))
  rw [ev_X2_suits]
  simp only [e_X2_suits_0, e_X2_suits_1, e_X2_suits_4, e_X2_suits_7, e_X2_suits_8, e_X2_suits_9, e_X2_suits_10, e_X2_suits_13, e_X2_suits_14, e_X2_suits_15, e_X2_suits_16, e_X2_suits_19, e_X2_suits_20, e_X2_suits_21, e_X2_suits_22, e_X2_suits_25, e_X2_suits_26, e_X2_suits_29, e_X2_suits_32, e_X2_suits_33, e_X2_suits_34, e_X2_suits_35, e_X2_suits_38, e_X2_suits_39, e_X2_suits_42, e_X2_suits_43, eq_self, nI10, not_false_eq_true, not_true_eq_false, is2_i, is2_r, is2_n, nI_add, pk_mul, Nat.reduceAdd, Nat.reduceMul, hb, ai_T3, hA1 hb, hA2 hb, hA3 hb, hA4 hb, hA5 hb, hL1 hb, hL2 hb, hL3 hb, hL4 hb, hL5 hb, k0_4, k0_5, k0_6, k0_7, k0_8, kl_4, kl_5, kl_6, kl_7, kl_8, h5, h4, hp.2.2.2.2.2.1 c hc, hp.2.2.2.2.2.2 dd hd, hh.2.2.2.1 dd hd, nI_9 (a := p.2.2.2.1 c) (c := 1) (by omega) (by omega), nI_9 (a := p.2.2.2.2.2 dd) (c := 1) (by omega) (by omega), e3, nar_0, nar_1]
  unfold pSuit
  by_cases a1 : p.2.2.2.1 c = 1
  · by_cases a2 : 3 < x.2.2.1 dd
    · simp [a1, a2, Nat.not_le.mpr a2, bI]
    · by_cases a3 : p.2.2.2.2.2 dd = 1
      · simp [a1, a2, a3, bI]
      · simp [a1, a2, a3, Nat.not_lt.mp a2, bI]
  · simp [a1, bI]
def pCap (p : PT) (c : Nat) : Nat := if p.2.2.2.1 c = 2 then 2 else 1
theorem rm_step : ∀ a, a ≤ 2 → ∀ k, k ≤ 5 → nI a - nI k + (-1) = nI a - nI (k + 1) := by decide +kernel
theorem lp_X2_roomIn (hp : RT p m) (hh : RH p x m b) (hb : ai_H b) {c a : Nat} (hc : c ≤ 9) (ha : a ≤ 2) : ∀ k dd, dd + k = p.2.2.2.2.1 → Rn o d zX2_roomIn 21 [.ref b, .int (nI c), .int (nI a - nI (cn (atP x c) dd)), .int (nI dd)] [] (ai_w m lg) r = Rn o d zX2_roomIn 51 [.ref b, .int (nI c), .int (nI a - nI (cn (atP x c) p.2.2.2.2.1)), .int (nI p.2.2.2.2.1)] [] (ai_w m lg) r := by
  have hD := hp.1.2.2.1
  intro k
  induction k with
  | zero =>
    intro dd hk
    have : dd = p.2.2.2.2.1 := by omega
    subst this
    rw [e_X2_roomIn_21]
    simp only [e_X2_roomIn_0, e_X2_roomIn_1, e_X2_roomIn_4, e_X2_roomIn_7, e_X2_roomIn_8, e_X2_roomIn_9, e_X2_roomIn_10, e_X2_roomIn_13, e_X2_roomIn_14, e_X2_roomIn_17, e_X2_roomIn_18_i, e_X2_roomIn_18_r, e_X2_roomIn_18_n, e_X2_roomIn_19, e_X2_roomIn_20_i, e_X2_roomIn_20_r, e_X2_roomIn_20_n, e_X2_roomIn_22, e_X2_roomIn_23, e_X2_roomIn_26, e_X2_roomIn_29, e_X2_roomIn_32, e_X2_roomIn_33, e_X2_roomIn_36, e_X2_roomIn_37, e_X2_roomIn_38, e_X2_roomIn_39, e_X2_roomIn_42_i, e_X2_roomIn_42_r, e_X2_roomIn_42_n, e_X2_roomIn_45_i, e_X2_roomIn_45_r, e_X2_roomIn_45_n, e_X2_roomIn_48, e_X2_roomIn_52, eq_self, nI10, not_false_eq_true, not_true_eq_false, is2_i, is2_r, is2_n, nI_add, pk_mul, Nat.reduceAdd, Nat.reduceMul, hb, ai_T3, hA1 hb, hA2 hb, hA3 hb, hA4 hb, hA5 hb, hL1 hb, hL2 hb, hL3 hb, hL4 hb, hL5 hb, k0_4, k0_5, k0_6, k0_7, k0_8, kl_4, kl_5, kl_6, kl_7, kl_8, hp.2.2.2.1, Int32.le_refl, if_true]
  | succ k ih =>
    intro dd hk
    have hlt : dd < p.2.2.2.2.1 := by omega
    have h5 : dd < 5 := by omega
    have h9 := hs_p hp hh hlt
    have hn : ¬ nI p.2.2.2.2.1 ≤ nI dd := nI_ge hlt (by omega)
    have hcl := cn_le (atP x c) dd
    rw [e_X2_roomIn_21]
    simp only [e_X2_roomIn_0, e_X2_roomIn_1, e_X2_roomIn_4, e_X2_roomIn_7, e_X2_roomIn_8, e_X2_roomIn_9, e_X2_roomIn_10, e_X2_roomIn_13, e_X2_roomIn_14, e_X2_roomIn_17, e_X2_roomIn_18_i, e_X2_roomIn_18_r, e_X2_roomIn_18_n, e_X2_roomIn_19, e_X2_roomIn_20_i, e_X2_roomIn_20_r, e_X2_roomIn_20_n, e_X2_roomIn_22, e_X2_roomIn_23, e_X2_roomIn_26, e_X2_roomIn_29, e_X2_roomIn_32, e_X2_roomIn_33, e_X2_roomIn_36, e_X2_roomIn_37, e_X2_roomIn_38, e_X2_roomIn_39, e_X2_roomIn_42_i, e_X2_roomIn_42_r, e_X2_roomIn_42_n, e_X2_roomIn_45_i, e_X2_roomIn_45_r, e_X2_roomIn_45_n, e_X2_roomIn_48, e_X2_roomIn_52, eq_self, nI10, not_false_eq_true, not_true_eq_false, is2_i, is2_r, is2_n, nI_add, pk_mul, Nat.reduceAdd, Nat.reduceMul, hb, ai_T3, hA1 hb, hA2 hb, hA3 hb, hA4 hb, hA5 hb, hL1 hb, hL2 hb, hL3 hb, hL4 hb, hL5 hb, k0_4, k0_5, k0_6, k0_7, k0_8, kl_4, kl_5, kl_6, kl_7, kl_8, hp.2.2.2.1, hn, if_false, h5, hh.2.1 dd hlt, nI_9 (a := x.1 dd) (c := c) (by omega) (by omega), rm_step a ha _ (show cn (atP x c) dd ≤ 5 by omega)]
    by_cases h : x.1 dd = c
    · rw [if_neg (fun z => z h), ← ih (dd + 1) (by omega)]
      simp [cn, atP, h]
    · rw [if_pos h, ← ih (dd + 1) (by omega)]
      simp [cn, atP, h]
theorem s_X2_roomIn (hp : RT p m) (hh : RH p x m b) (hb : ai_H b) {c : Nat} (hc : c < p.2.2.1) : Ev o d zX2_roomIn [.ref b, .int (nI c)] (ai_w m lg) (some (.int (nI (pCap p c) - nI (cn (atP x c) p.2.2.2.2.1)))) (ai_w m lg) := by
  have hB := hp.1.2.1
  have h4 : c < 4 := by omega
  have k1 := hp.1.2.2.2.2.1 c hc
  rw [ev_X2_roomIn]
  simp only [e_X2_roomIn_0, e_X2_roomIn_1, e_X2_roomIn_4, e_X2_roomIn_7, e_X2_roomIn_8, e_X2_roomIn_9, e_X2_roomIn_10, e_X2_roomIn_13, e_X2_roomIn_14, e_X2_roomIn_17, e_X2_roomIn_18_i, e_X2_roomIn_18_r, e_X2_roomIn_18_n, e_X2_roomIn_19, e_X2_roomIn_20_i, e_X2_roomIn_20_r, e_X2_roomIn_20_n, e_X2_roomIn_22, e_X2_roomIn_23, e_X2_roomIn_26, e_X2_roomIn_29, e_X2_roomIn_32, e_X2_roomIn_33, e_X2_roomIn_36, e_X2_roomIn_37, e_X2_roomIn_38, e_X2_roomIn_39, e_X2_roomIn_42_i, e_X2_roomIn_42_r, e_X2_roomIn_42_n, e_X2_roomIn_45_i, e_X2_roomIn_45_r, e_X2_roomIn_45_n, e_X2_roomIn_48, e_X2_roomIn_51, e_X2_roomIn_52, eq_self, nI10, not_false_eq_true, not_true_eq_false, is2_i, is2_r, is2_n, nI_add, pk_mul, Nat.reduceAdd, Nat.reduceMul, hb, ai_T3, hA1 hb, hA2 hb, hA3 hb, hA4 hb, hA5 hb, hL1 hb, hL2 hb, hL3 hb, hL4 hb, hL5 hb, k0_4, k0_5, k0_6, k0_7, k0_8, kl_4, kl_5, kl_6, kl_7, kl_8, h4, hp.2.2.2.2.2.1 c hc, nI_9 (a := p.2.2.2.1 c) (c := 2) (by omega) (by omega)]
  have key : ∀ a, a ≤ 2 → Rn o d zX2_roomIn 21 [.ref b, .int (nI c), .int (nI a), .int (nI 0)] [] (ai_w m lg) (some (.int (nI a - nI (cn (atP x c) p.2.2.2.2.1))), ai_w m lg) := by
    intro a ha
    have := lp_X2_roomIn (o := o) (d := d) (lg := lg) (r := (some (.int (nI a - nI (cn (atP x c) p.2.2.2.2.1))), ai_w m lg)) hp hh hb (c := c) (by omega) ha p.2.2.2.2.1 0 (by omega)
    have e : nI a - nI (cn (atP x c) 0) = nI a := by
      have : ∀ a, a ≤ 2 → nI a - nI 0 = nI a := by decide +kernel
      exact this a ha
    rw [e] at this
    rw [this]
    simp only [e_X2_roomIn_0, e_X2_roomIn_1, e_X2_roomIn_4, e_X2_roomIn_7, e_X2_roomIn_8, e_X2_roomIn_9, e_X2_roomIn_10, e_X2_roomIn_13, e_X2_roomIn_14, e_X2_roomIn_17, e_X2_roomIn_18_i, e_X2_roomIn_18_r, e_X2_roomIn_18_n, e_X2_roomIn_19, e_X2_roomIn_20_i, e_X2_roomIn_20_r, e_X2_roomIn_20_n, e_X2_roomIn_22, e_X2_roomIn_23, e_X2_roomIn_26, e_X2_roomIn_29, e_X2_roomIn_32, e_X2_roomIn_33, e_X2_roomIn_36, e_X2_roomIn_37, e_X2_roomIn_38, e_X2_roomIn_39, e_X2_roomIn_42_i, e_X2_roomIn_42_r, e_X2_roomIn_42_n, e_X2_roomIn_45_i, e_X2_roomIn_45_r, e_X2_roomIn_45_n, e_X2_roomIn_48, e_X2_roomIn_51, e_X2_roomIn_52]
  by_cases h : p.2.2.2.1 c = 2
  · rw [if_neg (fun z => z h)]
    simp only [pCap, h, if_true]
    exact key 2 (by decide)
  · rw [if_pos h]
    simp only [pCap, h, if_false]
    exact key 1 (by decide)
end P31
