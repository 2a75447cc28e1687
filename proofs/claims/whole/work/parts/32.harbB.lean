/-! Harbour: where a dream can be; who is dreamt -/
theorem rm_le : ∀ a, a ≤ 2 → ∀ k, k ≤ 5 → ((nI a - nI k ≤ nI 0) ↔ a ≤ k) := by decide +kernel
def pCan (p : PT) (x : HS) (dd c : Nat) : Bool := pSuit p x dd c && decide (cn (atP x c) p.2.2.2.2.1 < pCap p c)
theorem pCap_le (p : PT) (c : Nat) : pCap p c ≤ 2 := by unfold pCap; split <;> omega
def pFit (p : PT) (x : HS) (dd c : Nat) : Bool := pSuit p x dd c && decide (x.2.2.1 dd ≤ pWater p x c)
theorem pTide_le {p : PT} (h : ptOk p) (n : Nat) : pTide p n ≤ 9 := by
  unfold pTide
  split
  · omega
  · exact h.2.2.2.1 _ (Nat.mod_lt _ (by omega))
/-- dreams one by one in a berth under a tide: how deep it still is -/
def dDeep (p : PT) (x : HS) (c t : Nat) : Nat → Nat
  | 0 => x.2.2.2.1 c
  | n + 1 => if x.1 n = c ∧ ¬ x.2.2.1 n ≤ dDeep p x c t n + t ∧ p.2.2.2.2.2 n = 3 then dDeep p x c t n - 1 else dDeep p x c t n
/-- is a dream of that berth dreamt -/
def dSl (p : PT) (x : HS) (c t : Nat) : Nat → Bool := fun n => decide (x.1 n = c ∧ x.2.2.1 n ≤ dDeep p x c t n + t)
theorem dDeep_le {p : PT} {x : HS} {c t : Nat} (h : x.2.2.2.1 c ≤ 9) (n : Nat) : dDeep p x c t n ≤ 9 := by
  induction n with
  | zero => exact h
  | succ n ih => unfold dDeep; split <;> omega
theorem sp_max : ∀ v, v ≤ 9 → (if nI 0 < nI v - nI 1 then nI v - nI 1 else nI 0) = nI (v - 1) := by decide +kernel
section P32
variable {o : ai_S} {d : Nat} {w : ai_W} {m : Nat → Nat → Int32} {lg : Nat → Nat → Int64} {p : PT} {x : HS} {b : Nat} {r : Option Value × ai_W}
theorem s_X2_canBe (hp : RT p m) (hh : RH p x m b) (hb : ai_H b) {dd c : Nat} (hd : dd < p.2.2.2.2.1) (hc : c < p.2.2.1) : Ev o (d + 1) zX2_canBe [.ref b, .int (nI dd), .int (nI c)] (ai_w m lg) (some (.int (bI (pCan p x dd c)))) (ai_w m lg) := by
  have hD := hp.1.2.2.1
  have hcl := cn_le (atP x c) p.2.2.2.2.1
  rw [ev_X2_canBe]
  simp only [e_X2_canBe_0, e_X2_canBe_1, e_X2_canBe_2, e_X2_canBe_6, e_X2_canBe_9, e_X2_canBe_10, e_X2_canBe_14, e_X2_canBe_17, e_X2_canBe_18, e_X2_canBe_21, e_X2_canBe_22, eq_self, nI10, not_false_eq_true, not_true_eq_false, is2_i, is2_r, is2_n, nI_add, pk_mul, Nat.reduceAdd, Nat.reduceMul, e_X2_canBe_3 (hb := hb) (hE := s_X2_suits hp hh hb hd hc), e_X2_canBe_11 (hb := hb) (hE := s_X2_roomIn hp hh hb hc), bI_z, nar_0, nar_1, rm_le _ (pCap_le p c) _ (show cn (atP x c) p.2.2.2.2.1 ≤ 5 by omega)]
  unfold pCan
  cases pSuit p x dd c
  · simp [bI]
  · by_cases h : pCap p c ≤ cn (atP x c) p.2.2.2.2.1
    · simp [h, Nat.not_lt.mpr h, bI]
    · simp [h, Nat.not_le.mp h, bI]
theorem lp_X2_berthsOpenTo (hp : RT p m) (hh : RH p x m b) (hb : ai_H b) {dd : Nat} (hd : dd < p.2.2.2.2.1) : ∀ k c, c + k = p.2.2.1 → Rn o (d + 2) zX2_berthsOpenTo 4 [.ref b, .int (nI dd), .int (nI (mk (pCan p x dd) c)), .int (nI c)] [] (ai_w m lg) r = Rn o (d + 2) zX2_berthsOpenTo 36 [.ref b, .int (nI dd), .int (nI (mk (pCan p x dd) p.2.2.1)), .int (nI p.2.2.1)] [] (ai_w m lg) r := by
  have hB := hp.1.2.1
  intro k
  induction k with
  | zero =>
    intro c hk
    have : c = p.2.2.1 := by omega
    subst this
    rw [e_X2_berthsOpenTo_4]
    simp only [e_X2_berthsOpenTo_0, e_X2_berthsOpenTo_1_i, e_X2_berthsOpenTo_1_r, e_X2_berthsOpenTo_1_n, e_X2_berthsOpenTo_2, e_X2_berthsOpenTo_3_i, e_X2_berthsOpenTo_3_r, e_X2_berthsOpenTo_3_n, e_X2_berthsOpenTo_5, e_X2_berthsOpenTo_6, e_X2_berthsOpenTo_9, e_X2_berthsOpenTo_12, e_X2_berthsOpenTo_15, e_X2_berthsOpenTo_16, e_X2_berthsOpenTo_17, e_X2_berthsOpenTo_21, e_X2_berthsOpenTo_24, e_X2_berthsOpenTo_25, e_X2_berthsOpenTo_26, e_X2_berthsOpenTo_27, e_X2_berthsOpenTo_28, e_X2_berthsOpenTo_29_i, e_X2_berthsOpenTo_29_r, e_X2_berthsOpenTo_29_n, e_X2_berthsOpenTo_30_i, e_X2_berthsOpenTo_30_r, e_X2_berthsOpenTo_30_n, e_X2_berthsOpenTo_33, e_X2_berthsOpenTo_37, eq_self, nI10, not_false_eq_true, not_true_eq_false, is2_i, is2_r, is2_n, nI_add, pk_mul, Nat.reduceAdd, Nat.reduceMul, hb, ai_T3, hA1 hb, hA2 hb, hA3 hb, hA4 hb, hA5 hb, hL1 hb, hL2 hb, hL3 hb, hL4 hb, hL5 hb, k0_4, k0_5, k0_6, k0_7, k0_8, kl_4, kl_5, kl_6, kl_7, kl_8, hp.2.2.1, Int32.le_refl, if_true]
  | succ k ih =>
    intro c hk
    have hlt : c < p.2.2.1 := by omega
    have hn : ¬ nI p.2.2.1 ≤ nI c := nI_ge hlt (by omega)
    rw [e_X2_berthsOpenTo_4]
    simp only [e_X2_berthsOpenTo_0, e_X2_berthsOpenTo_1_i, e_X2_berthsOpenTo_1_r, e_X2_berthsOpenTo_1_n, e_X2_berthsOpenTo_2, e_X2_berthsOpenTo_3_i, e_X2_berthsOpenTo_3_r, e_X2_berthsOpenTo_3_n, e_X2_berthsOpenTo_5, e_X2_berthsOpenTo_6, e_X2_berthsOpenTo_9, e_X2_berthsOpenTo_12, e_X2_berthsOpenTo_15, e_X2_berthsOpenTo_16, e_X2_berthsOpenTo_17, e_X2_berthsOpenTo_21, e_X2_berthsOpenTo_24, e_X2_berthsOpenTo_25, e_X2_berthsOpenTo_26, e_X2_berthsOpenTo_27, e_X2_berthsOpenTo_28, e_X2_berthsOpenTo_29_i, e_X2_berthsOpenTo_29_r, e_X2_berthsOpenTo_29_n, e_X2_berthsOpenTo_30_i, e_X2_berthsOpenTo_30_r, e_X2_berthsOpenTo_30_n, e_X2_berthsOpenTo_33, e_X2_berthsOpenTo_37, eq_self, nI10, not_false_eq_true, not_true_eq_false, is2_i, is2_r, is2_n, nI_add, pk_mul, Nat.reduceAdd, Nat.reduceMul, hb, ai_T3, hA1 hb, hA2 hb, hA3 hb, hA4 hb, hA5 hb, hL1 hb, hL2 hb, hL3 hb, hL4 hb, hL5 hb, k0_4, k0_5, k0_6, k0_7, k0_8, kl_4, kl_5, kl_6, kl_7, kl_8, hp.2.2.1, hn, if_false, e_X2_berthsOpenTo_18 (hb := hb) (hE := s_X2_canBe hp hh hb hd hlt), bI_z, or_bit (mk_lt (pCan p x dd) c) (show c < 31 by omega)]
    rw [← ih (c + 1) (by omega)]
    cases h : pCan p x dd c <;> simp [mk, h]
theorem s_X2_berthsOpenTo (hp : RT p m) (hh : RH p x m b) (hb : ai_H b) {dd : Nat} (hd : dd < p.2.2.2.2.1) : Ev o (d + 2) zX2_berthsOpenTo [.ref b, .int (nI dd)] (ai_w m lg) (some (.int (nI (mk (pCan p x dd) p.2.2.1)))) (ai_w m lg) := by
  rw [ev_X2_berthsOpenTo]
  simp only [e_X2_berthsOpenTo_0, e_X2_berthsOpenTo_1_i, e_X2_berthsOpenTo_1_r, e_X2_berthsOpenTo_1_n, e_X2_berthsOpenTo_2, e_X2_berthsOpenTo_3_i, e_X2_berthsOpenTo_3_r, e_X2_berthsOpenTo_3_n, e_X2_berthsOpenTo_5, e_X2_berthsOpenTo_6, e_X2_berthsOpenTo_9, e_X2_berthsOpenTo_12, e_X2_berthsOpenTo_15, e_X2_berthsOpenTo_16, e_X2_berthsOpenTo_17, e_X2_berthsOpenTo_21, e_X2_berthsOpenTo_24, e_X2_berthsOpenTo_25, e_X2_berthsOpenTo_26, e_X2_berthsOpenTo_27, e_X2_berthsOpenTo_28, e_X2_berthsOpenTo_29_i, e_X2_berthsOpenTo_29_r, e_X2_berthsOpenTo_29_n, e_X2_berthsOpenTo_30_i, e_X2_berthsOpenTo_30_r, e_X2_berthsOpenTo_30_n, e_X2_berthsOpenTo_33, e_X2_berthsOpenTo_36, e_X2_berthsOpenTo_37, eq_self, nI10, not_false_eq_true, not_true_eq_false, is2_i, is2_r, is2_n, nI_add, pk_mul, Nat.reduceAdd, Nat.reduceMul]
  have := lp_X2_berthsOpenTo (o := o) (d := d) (lg := lg) (r := (some (.int (nI (mk (pCan p x dd) p.2.2.1))), ai_w m lg)) hp hh hb hd p.2.2.1 0 (by omega)
  rw [show mk (pCan p x dd) 0 = 0 from rfl] at this
  rw [this]
  simp only [e_X2_berthsOpenTo_0, e_X2_berthsOpenTo_1_i, e_X2_berthsOpenTo_1_r, e_X2_berthsOpenTo_1_n, e_X2_berthsOpenTo_2, e_X2_berthsOpenTo_3_i, e_X2_berthsOpenTo_3_r, e_X2_berthsOpenTo_3_n, e_X2_berthsOpenTo_5, e_X2_berthsOpenTo_6, e_X2_berthsOpenTo_9, e_X2_berthsOpenTo_12, e_X2_berthsOpenTo_15, e_X2_berthsOpenTo_16, e_X2_berthsOpenTo_17, e_X2_berthsOpenTo_21, e_X2_berthsOpenTo_24, e_X2_berthsOpenTo_25, e_X2_berthsOpenTo_26, e_X2_berthsOpenTo_27, e_X2_berthsOpenTo_28, e_X2_berthsOpenTo_29_i, e_X2_berthsOpenTo_29_r, e_X2_berthsOpenTo_29_n, e_X2_berthsOpenTo_30_i, e_X2_berthsOpenTo_30_r, e_X2_berthsOpenTo_30_n, e_X2_berthsOpenTo_33, e_X2_berthsOpenTo_36, e_X2_berthsOpenTo_37]
theorem lp_X2_berthsFitFor (hp : RT p m) (hh : RH p x m b) (hb : ai_H b) {dd : Nat} (hd : dd < p.2.2.2.2.1) : ∀ k c, c + k = p.2.2.1 → Rn o (d + 4) zX2_berthsFitFor 4 [.ref b, .int (nI dd), .int (nI (mk (pFit p x dd) c)), .int (nI c)] [] (ai_w m lg) r = Rn o (d + 4) zX2_berthsFitFor 50 [.ref b, .int (nI dd), .int (nI (mk (pFit p x dd) p.2.2.1)), .int (nI p.2.2.1)] [] (ai_w m lg) r := by
  have hB := hp.1.2.1
  have hD := hp.1.2.2.1
  have h5 : dd < 5 := by omega
  have k3 := (hh.1.2.1 dd hd).2
  intro k
  induction k with
  | zero =>
    intro c hk
    have : c = p.2.2.1 := by omega
    subst this
    rw [e_X2_berthsFitFor_4]
    simp only [e_X2_berthsFitFor_0, e_X2_berthsFitFor_1_i, e_X2_berthsFitFor_1_r, e_X2_berthsFitFor_1_n, e_X2_berthsFitFor_2, e_X2_berthsFitFor_3_i, e_X2_berthsFitFor_3_r, e_X2_berthsFitFor_3_n, e_X2_berthsFitFor_5, e_X2_berthsFitFor_6, e_X2_berthsFitFor_9, e_X2_berthsFitFor_12, e_X2_berthsFitFor_15, e_X2_berthsFitFor_16, e_X2_berthsFitFor_17, e_X2_berthsFitFor_21, e_X2_berthsFitFor_24, e_X2_berthsFitFor_25, e_X2_berthsFitFor_28, e_X2_berthsFitFor_29, e_X2_berthsFitFor_30, e_X2_berthsFitFor_31, e_X2_berthsFitFor_35, e_X2_berthsFitFor_38, e_X2_berthsFitFor_39, e_X2_berthsFitFor_40, e_X2_berthsFitFor_41, e_X2_berthsFitFor_42, e_X2_berthsFitFor_43_i, e_X2_berthsFitFor_43_r, e_X2_berthsFitFor_43_n, e_X2_berthsFitFor_44_i, e_X2_berthsFitFor_44_r, e_X2_berthsFitFor_44_n, e_X2_berthsFitFor_47, e_X2_berthsFitFor_51, eq_self, nI10, not_false_eq_true, not_true_eq_false, is2_i, is2_r, is2_n, nI_add, pk_mul, Nat.reduceAdd, Nat.reduceMul, hb, ai_T3, hA1 hb, hA2 hb, hA3 hb, hA4 hb, hA5 hb, hL1 hb, hL2 hb, hL3 hb, hL4 hb, hL5 hb, k0_4, k0_5, k0_6, k0_7, k0_8, kl_4, kl_5, kl_6, kl_7, kl_8, hp.2.2.1, Int32.le_refl, if_true]
  | succ k ih =>
    intro c hk
    have hlt : c < p.2.2.1 := by omega
    have hn : ¬ nI p.2.2.1 ≤ nI c := nI_ge hlt (by omega)
    have hw : pWater p x c ≤ 18 := by
      have := hh.1.2.2.1 c hlt
      have := pTide_le hp.1 x.2.2.2.2.2
      unfold pWater
      omega
    have e3 : (nI (pWater p x c) < nI (x.2.2.1 dd)) = (pWater p x c < x.2.2.1 dd) := propext (nI_ltI (by omega) (by omega))
    rw [e_X2_berthsFitFor_4]
    simp only [e_X2_berthsFitFor_0, e_X2_berthsFitFor_1_i, e_X2_berthsFitFor_1_r, e_X2_berthsFitFor_1_n, e_X2_berthsFitFor_2, e_X2_berthsFitFor_3_i, e_X2_berthsFitFor_3_r, e_X2_berthsFitFor_3_n, e_X2_berthsFitFor_5, e_X2_berthsFitFor_6, e_X2_berthsFitFor_9, e_X2_berthsFitFor_12, e_X2_berthsFitFor_15, e_X2_berthsFitFor_16, e_X2_berthsFitFor_17, e_X2_berthsFitFor_21, e_X2_berthsFitFor_24, e_X2_berthsFitFor_25, e_X2_berthsFitFor_28, e_X2_berthsFitFor_29, e_X2_berthsFitFor_30, e_X2_berthsFitFor_31, e_X2_berthsFitFor_35, e_X2_berthsFitFor_38, e_X2_berthsFitFor_39, e_X2_berthsFitFor_40, e_X2_berthsFitFor_41, e_X2_berthsFitFor_42, e_X2_berthsFitFor_43_i, e_X2_berthsFitFor_43_r, e_X2_berthsFitFor_43_n, e_X2_berthsFitFor_44_i, e_X2_berthsFitFor_44_r, e_X2_berthsFitFor_44_n, e_X2_berthsFitFor_47, e_X2_berthsFitFor_51, eq_self, nI10, not_false_eq_true, not_true_eq_false, is2_i, is2_r, is2_n, nI_add, pk_mul, Nat.reduceAdd, Nat.reduceMul, hb, ai_T3, hA1 hb, hA2 hb, hA3 hb, hA4 hb, hA5 hb, hL1 hb, hL2 hb, hL3 hb, hL4 hb, hL5 hb, k0_4, k0_5, k0_6, k0_7, k0_8, kl_4, kl_5, kl_6, kl_7, kl_8, hp.2.2.1, hn, if_false, h5, hh.2.2.2.1 dd hd, e_X2_berthsFitFor_18 (hb := hb) (hE := s_X2_suits hp hh hb hd hlt), e_X2_berthsFitFor_32 (hb := hb) (hE := s_X2_water hp hh hb hlt), bI_z, e3, or_bit (mk_lt (pFit p x dd) c) (show c < 31 by omega)]
    rw [← ih (c + 1) (by omega)]
    cases h : pSuit p x dd c
    · simp [mk, pFit, h]
    · by_cases h2 : pWater p x c < x.2.2.1 dd
      · simp [mk, pFit, h, h2, Nat.not_le.mpr h2]
      · simp [mk, pFit, h, h2, Nat.not_lt.mp h2]
theorem s_X2_berthsFitFor (hp : RT p m) (hh : RH p x m b) (hb : ai_H b) {dd : Nat} (hd : dd < p.2.2.2.2.1) : Ev o (d + 4) zX2_berthsFitFor [.ref b, .int (nI dd)] (ai_w m lg) (some (.int (nI (mk (pFit p x dd) p.2.2.1)))) (ai_w m lg) := by
  rw [ev_X2_berthsFitFor]
  simp only [e_X2_berthsFitFor_0, e_X2_berthsFitFor_1_i, e_X2_berthsFitFor_1_r, e_X2_berthsFitFor_1_n, e_X2_berthsFitFor_2, e_X2_berthsFitFor_3_i, e_X2_berthsFitFor_3_r, e_X2_berthsFitFor_3_n, e_X2_berthsFitFor_5, e_X2_berthsFitFor_6, e_X2_berthsFitFor_9, e_X2_berthsFitFor_12, e_X2_berthsFitFor_15, e_X2_berthsFitFor_16, e_X2_berthsFitFor_17, e_X2_berthsFitFor_21, e_X2_berthsFitFor_24, e_X2_berthsFitFor_25, e_X2_berthsFitFor_28, e_X2_berthsFitFor_29, e_X2_berthsFitFor_30, e_X2_berthsFitFor_31, e_X2_berthsFitFor_35, e_X2_berthsFitFor_38, e_X2_berthsFitFor_39, e_X2_berthsFitFor_40, e_X2_berthsFitFor_41, e_X2_berthsFitFor_42, e_X2_berthsFitFor_43_i, e_X2_berthsFitFor_43_r, e_X2_berthsFitFor_43_n, e_X2_berthsFitFor_44_i, e_X2_berthsFitFor_44_r, e_X2_berthsFitFor_44_n, e_X2_berthsFitFor_47, e_X2_berthsFitFor_50, e_X2_berthsFitFor_51, eq_self, nI10, not_false_eq_true, not_true_eq_false, is2_i, is2_r, is2_n, nI_add, pk_mul, Nat.reduceAdd, Nat.reduceMul]
  have := lp_X2_berthsFitFor (o := o) (d := d) (lg := lg) (r := (some (.int (nI (mk (pFit p x dd) p.2.2.1))), ai_w m lg)) hp hh hb hd p.2.2.1 0 (by omega)
  rw [show mk (pFit p x dd) 0 = 0 from rfl] at this
  rw [this]
  simp only [e_X2_berthsFitFor_0, e_X2_berthsFitFor_1_i, e_X2_berthsFitFor_1_r, e_X2_berthsFitFor_1_n, e_X2_berthsFitFor_2, e_X2_berthsFitFor_3_i, e_X2_berthsFitFor_3_r, e_X2_berthsFitFor_3_n, e_X2_berthsFitFor_5, e_X2_berthsFitFor_6, e_X2_berthsFitFor_9, e_X2_berthsFitFor_12, e_X2_berthsFitFor_15, e_X2_berthsFitFor_16, e_X2_berthsFitFor_17, e_X2_berthsFitFor_21, e_X2_berthsFitFor_24, e_X2_berthsFitFor_25, e_X2_berthsFitFor_28, e_X2_berthsFitFor_29, e_X2_berthsFitFor_30, e_X2_berthsFitFor_31, e_X2_berthsFitFor_35, e_X2_berthsFitFor_38, e_X2_berthsFitFor_39, e_X2_berthsFitFor_40, e_X2_berthsFitFor_41, e_X2_berthsFitFor_42, e_X2_berthsFitFor_43_i, e_X2_berthsFitFor_43_r, e_X2_berthsFitFor_43_n, e_X2_berthsFitFor_44_i, e_X2_berthsFitFor_44_r, e_X2_berthsFitFor_44_n, e_X2_berthsFitFor_47, e_X2_berthsFitFor_50, e_X2_berthsFitFor_51]
/-- is an int a number below n -/
def ixB (k : Int32) (n : Nat) : Bool := decide (¬ k < nI 0 ∧ k < nI n)
theorem ix_of {k : Int32} {n : Nat} (h : ixB k n = true) (hn : n < 2 ^ 31) : ∃ j, j < n ∧ k = nI j := by
  have h := of_decide_eq_true h
  obtain ⟨j, h1, rfl⟩ := nI_of (x := k) h.1
  exact ⟨j, (nI_ltI h1 hn).mp h.2, rfl⟩
theorem ix_nI {j n : Nat} (h : j < n) (hn : n < 2 ^ 31) : ixB (nI j) n = true := decide_eq_true ⟨nI_pos (by omega), nI_lt h hn⟩
theorem s_hasB (hp : RT p m) {k : Int32} : Ev o d zX6_hasBerth [.ref 3, .int k] (ai_w m lg) (some (.int (bI (ixB k p.2.2.1)))) (ai_w m lg) := by
  have := s_X6_hasBerth (o := o) (d := d) (m := m) (lg := lg) (k := k) ai_T3
  rw [hp.2.2.1] at this
  exact this
theorem s_hasD (hp : RT p m) {k : Int32} : Ev o d zX6_hasDream [.ref 3, .int k] (ai_w m lg) (some (.int (bI (ixB k p.2.2.2.2.1)))) (ai_w m lg) := by
  have := s_X6_hasDream (o := o) (d := d) (m := m) (lg := lg) (k := k) ai_T3
  rw [hp.2.2.2.1] at this
  exact this
def pMoor (p : PT) (x : HS) (k1 k2 : Int32) : Bool := ixB k1 p.2.2.2.2.1 && (ixB k2 p.2.2.1 && (decide (x.1 k1.toNatClampNeg = 8) && pCan p x k1.toNatClampNeg k2.toNatClampNeg))
theorem s_X2_canMoor (hp : RT p m) (hh : RH p x m b) (hb : ai_H b) {k1 k2 : Int32} : Ev o (d + 2) zX2_canMoor [.ref b, .int k1, .int k2] (ai_w m lg) (some (.int (bI (pMoor p x k1 k2)))) (ai_w m lg) := by
  have hD := hp.1.2.2.1
  have hB := hp.1.2.1
  rw [ev_X2_canMoor]
  simp only [e_X2_canMoor_0, e_X2_canMoor_1, e_X2_canMoor_4, e_X2_canMoor_8, e_X2_canMoor_11, e_X2_canMoor_12, e_X2_canMoor_15, e_X2_canMoor_19, e_X2_canMoor_22, e_X2_canMoor_23, e_X2_canMoor_27, e_X2_canMoor_30, e_X2_canMoor_31, e_X2_canMoor_32, e_X2_canMoor_36, e_X2_canMoor_39, e_X2_canMoor_40, e_X2_canMoor_43, e_X2_canMoor_44, eq_self, nI10, not_false_eq_true, not_true_eq_false, is2_i, is2_r, is2_n, nI_add, pk_mul, Nat.reduceAdd, Nat.reduceMul, hb, ai_T3, hA1 hb, hA2 hb, hA3 hb, hA4 hb, hA5 hb, hL1 hb, hL2 hb, hL3 hb, hL4 hb, hL5 hb, k0_4, k0_5, k0_6, k0_7, k0_8, kl_4, kl_5, kl_6, kl_7, kl_8, e_X2_canMoor_5 (hb := ai_T3) (hE := s_hasD hp), e_X2_canMoor_16 (hb := ai_T3) (hE := s_hasB hp), bI_z, nar_0, nar_1]
  unfold pMoor
  cases h1 : ixB k1 p.2.2.2.2.1
  · simp [bI]
  · cases h2 : ixB k2 p.2.2.1
    · simp [bI]
    · obtain ⟨dd, hd, rfl⟩ := ix_of h1 (by omega)
      obtain ⟨c, hc, rfl⟩ := ix_of h2 (by omega)
      simp only [Bool.true_and, Bool.true_eq_false, if_false, nI_clamp (show dd < 2 ^ 31 by omega), nI_clamp (show c < 2 ^ 31 by omega)]
      simp only [e_X2_canMoor_0, e_X2_canMoor_1, e_X2_canMoor_4, e_X2_canMoor_8, e_X2_canMoor_11, e_X2_canMoor_12, e_X2_canMoor_15, e_X2_canMoor_19, e_X2_canMoor_22, e_X2_canMoor_23, e_X2_canMoor_27, e_X2_canMoor_30, e_X2_canMoor_31, e_X2_canMoor_32, e_X2_canMoor_36, e_X2_canMoor_39, e_X2_canMoor_40, e_X2_canMoor_43, e_X2_canMoor_44, eq_self, nI10, not_false_eq_true, not_true_eq_false, is2_i, is2_r, is2_n, nI_add, pk_mul, Nat.reduceAdd, Nat.reduceMul, hb, ai_T3, hA1 hb, hA2 hb, hA3 hb, hA4 hb, hA5 hb, hL1 hb, hL2 hb, hL3 hb, hL4 hb, hL5 hb, k0_4, k0_5, k0_6, k0_7, k0_8, kl_4, kl_5, kl_6, kl_7, kl_8, e_X2_canMoor_24 (hb := hb) (hE := s_X2_liesOff hp hh hb hd), e_X2_canMoor_33 (hb := hb) (hE := s_X2_canBe hp hh hb hd hc), bI_z, nar_0, nar_1]
      by_cases h3 : x.1 dd = 8
      · cases h4 : pCan p x dd c <;> simp [h3, bI]
      · simp [h3, bI]
def pTow (p : PT) (x : HS) (k : Int32) : Bool := ixB k p.2.2.2.2.1 && decide (x.1 k.toNatClampNeg < 4)
theorem s_X2_canTow (hp : RT p m) (hh : RH p x m b) (hb : ai_H b) {k : Int32} : Ev o (d + 2) zX2_canTow [.ref b, .int k] (ai_w m lg) (some (.int (bI (pTow p x k)))) (ai_w m lg) := by
  have hD := hp.1.2.2.1
  rw [ev_X2_canTow]
  simp only [e_X2_canTow_0, e_X2_canTow_1, e_X2_canTow_4, e_X2_canTow_8, e_X2_canTow_11, e_X2_canTow_12, e_X2_canTow_16, e_X2_canTow_19, e_X2_canTow_20, e_X2_canTow_23, e_X2_canTow_24, eq_self, nI10, not_false_eq_true, not_true_eq_false, is2_i, is2_r, is2_n, nI_add, pk_mul, Nat.reduceAdd, Nat.reduceMul, hb, ai_T3, hA1 hb, hA2 hb, hA3 hb, hA4 hb, hA5 hb, hL1 hb, hL2 hb, hL3 hb, hL4 hb, hL5 hb, k0_4, k0_5, k0_6, k0_7, k0_8, kl_4, kl_5, kl_6, kl_7, kl_8, e_X2_canTow_5 (hb := ai_T3) (hE := s_hasD hp), bI_z, nar_0, nar_1]
  unfold pTow
  cases h1 : ixB k p.2.2.2.2.1
  · simp [bI]
  · obtain ⟨dd, hd, rfl⟩ := ix_of h1 (by omega)
    simp only [Bool.true_and, Bool.true_eq_false, if_false, nI_clamp (show dd < 2 ^ 31 by omega)]
    simp only [e_X2_canTow_0, e_X2_canTow_1, e_X2_canTow_4, e_X2_canTow_8, e_X2_canTow_11, e_X2_canTow_12, e_X2_canTow_16, e_X2_canTow_19, e_X2_canTow_20, e_X2_canTow_23, e_X2_canTow_24, eq_self, nI10, not_false_eq_true, not_true_eq_false, is2_i, is2_r, is2_n, nI_add, pk_mul, Nat.reduceAdd, Nat.reduceMul, hb, ai_T3, hA1 hb, hA2 hb, hA3 hb, hA4 hb, hA5 hb, hL1 hb, hL2 hb, hL3 hb, hL4 hb, hL5 hb, k0_4, k0_5, k0_6, k0_7, k0_8, kl_4, kl_5, kl_6, kl_7, kl_8, e_X2_canTow_13 (hb := hb) (hE := s_X2_isBerthed hp hh hb hd), bI_z, nar_0, nar_1]
    by_cases h3 : x.1 dd < 4 <;> simp [h3, bI]
theorem s_X2_spoilt (hp : RT p m) (hb : ai_H b) {v dd : Nat} (hv : v ≤ 9) (hd : dd < p.2.2.2.2.1) : Ev o (d + 1) zX2_spoilt [.ref b, .int (nI v), .int (nI dd)] (ai_w m lg) (some (.int (nI (if p.2.2.2.2.2 dd = 3 then v - 1 else v)))) (ai_w m lg) := by
  have hD := hp.1.2.2.1
  have h5 : dd < 5 := by omega
  have k2 := hp.1.2.2.2.2.2 dd hd
  rw [ev_X2_spoilt]
  simp only [e_X2_spoilt_0, e_X2_spoilt_1, e_X2_spoilt_4, e_X2_spoilt_7, e_X2_spoilt_8, e_X2_spoilt_9, e_X2_spoilt_10, e_X2_spoilt_13, e_X2_spoilt_14, e_X2_spoilt_15, e_X2_spoilt_16, e_X2_spoilt_17, e_X2_spoilt_20, e_X2_spoilt_23, e_X2_spoilt_24, eq_self, nI10, not_false_eq_true, not_true_eq_false, is2_i, is2_r, is2_n, nI_add, pk_mul, Nat.reduceAdd, Nat.reduceMul, hb, ai_T3, hA1 hb, hA2 hb, hA3 hb, hA4 hb, hA5 hb, hL1 hb, hL2 hb, hL3 hb, hL4 hb, hL5 hb, k0_4, k0_5, k0_6, k0_7, k0_8, kl_4, kl_5, kl_6, kl_7, kl_8, h5, hp.2.2.2.2.2.2 dd hd, nI_9 (a := p.2.2.2.2.2 dd) (c := 3) (by omega) (by omega), sp_max v hv]
  by_cases h : p.2.2.2.2.2 dd = 3 <;> simp [h]
theorem lp_X2_dreamtIn (hp : RT p m) (hh : RH p x m b) (hb : ai_H b) {c t : Nat} (hc : c < p.2.2.1) (ht : t ≤ 9) : ∀ k dd, dd + k = p.2.2.2.2.1 → Rn o (d + 2) zX2_dreamtIn 13 [.ref b, .int (nI c), .int (nI t), .int (nI (mk (dSl p x c t) dd)), .int (nI (dDeep p x c t dd)), .int (nI dd)] [] (ai_w m lg) r = Rn o (d + 2) zX2_dreamtIn 76 [.ref b, .int (nI c), .int (nI t), .int (nI (mk (dSl p x c t) p.2.2.2.2.1)), .int (nI (dDeep p x c t p.2.2.2.2.1)), .int (nI p.2.2.2.2.1)] [] (ai_w m lg) r := by
  have hD := hp.1.2.2.1
  have hB := hp.1.2.1
  intro k
  induction k with
  | zero =>
    intro dd hk
    have : dd = p.2.2.2.2.1 := by omega
    subst this
    rw [e_X2_dreamtIn_13]
    simp only [e_X2_dreamtIn_0, e_X2_dreamtIn_1_i, e_X2_dreamtIn_1_r, e_X2_dreamtIn_1_n, e_X2_dreamtIn_2, e_X2_dreamtIn_3, e_X2_dreamtIn_6, e_X2_dreamtIn_7, e_X2_dreamtIn_8_i, e_X2_dreamtIn_8_r, e_X2_dreamtIn_8_n, e_X2_dreamtIn_10, e_X2_dreamtIn_11_i, e_X2_dreamtIn_11_r, e_X2_dreamtIn_11_n, e_X2_dreamtIn_15, e_X2_dreamtIn_16, e_X2_dreamtIn_19, e_X2_dreamtIn_22, e_X2_dreamtIn_25, e_X2_dreamtIn_26, e_X2_dreamtIn_29, e_X2_dreamtIn_31, e_X2_dreamtIn_32, e_X2_dreamtIn_33, e_X2_dreamtIn_36, e_X2_dreamtIn_37, e_X2_dreamtIn_40, e_X2_dreamtIn_42, e_X2_dreamtIn_43, e_X2_dreamtIn_45, e_X2_dreamtIn_46, e_X2_dreamtIn_47, e_X2_dreamtIn_50, e_X2_dreamtIn_51, e_X2_dreamtIn_52, e_X2_dreamtIn_54, e_X2_dreamtIn_55, e_X2_dreamtIn_56_i, e_X2_dreamtIn_56_r, e_X2_dreamtIn_56_n, e_X2_dreamtIn_57, e_X2_dreamtIn_60, e_X2_dreamtIn_61, e_X2_dreamtIn_63, e_X2_dreamtIn_68_i, e_X2_dreamtIn_68_r, e_X2_dreamtIn_68_n, e_X2_dreamtIn_70_i, e_X2_dreamtIn_70_r, e_X2_dreamtIn_70_n, e_X2_dreamtIn_73, e_X2_dreamtIn_77, eq_self, nI10, not_false_eq_true, not_true_eq_false, is2_i, is2_r, is2_n, nI_add, pk_mul, Nat.reduceAdd, Nat.reduceMul, hb, ai_T3, hA1 hb, hA2 hb, hA3 hb, hA4 hb, hA5 hb, hL1 hb, hL2 hb, hL3 hb, hL4 hb, hL5 hb, k0_4, k0_5, k0_6, k0_7, k0_8, kl_4, kl_5, kl_6, kl_7, kl_8, hp.2.2.2.1, Int32.le_refl, if_true]
  | succ k ih =>
    intro dd hk
    have hlt : dd < p.2.2.2.2.1 := by omega
    have h5 : dd < 5 := by omega
    have h9 := hs_p hp hh hlt
    have hn : ¬ nI p.2.2.2.2.1 ≤ nI dd := nI_ge hlt (by omega)
    have hdl := dDeep_le (p := p) (t := t) (hh.1.2.2.1 c hc) dd
    have k3 := (hh.1.2.1 dd hlt).2
    have e3 : (nI (dDeep p x c t dd + t) < nI (x.2.2.1 dd)) = (dDeep p x c t dd + t < x.2.2.1 dd) := propext (nI_ltI (by omega) (by omega))
    rw [e_X2_dreamtIn_13]
    simp only [e_X2_dreamtIn_0, e_X2_dreamtIn_1_i, e_X2_dreamtIn_1_r, e_X2_dreamtIn_1_n, e_X2_dreamtIn_2, e_X2_dreamtIn_3, e_X2_dreamtIn_6, e_X2_dreamtIn_7, e_X2_dreamtIn_8_i, e_X2_dreamtIn_8_r, e_X2_dreamtIn_8_n, e_X2_dreamtIn_10, e_X2_dreamtIn_11_i, e_X2_dreamtIn_11_r, e_X2_dreamtIn_11_n, e_X2_dreamtIn_15, e_X2_dreamtIn_16, e_X2_dreamtIn_19, e_X2_dreamtIn_22, e_X2_dreamtIn_25, e_X2_dreamtIn_26, e_X2_dreamtIn_29, e_X2_dreamtIn_31, e_X2_dreamtIn_32, e_X2_dreamtIn_33, e_X2_dreamtIn_36, e_X2_dreamtIn_37, e_X2_dreamtIn_40, e_X2_dreamtIn_42, e_X2_dreamtIn_43, e_X2_dreamtIn_45, e_X2_dreamtIn_46, e_X2_dreamtIn_47, e_X2_dreamtIn_50, e_X2_dreamtIn_51, e_X2_dreamtIn_52, e_X2_dreamtIn_54, e_X2_dreamtIn_55, e_X2_dreamtIn_56_i, e_X2_dreamtIn_56_r, e_X2_dreamtIn_56_n, e_X2_dreamtIn_57, e_X2_dreamtIn_60, e_X2_dreamtIn_61, e_X2_dreamtIn_63, e_X2_dreamtIn_68_i, e_X2_dreamtIn_68_r, e_X2_dreamtIn_68_n, e_X2_dreamtIn_70_i, e_X2_dreamtIn_70_r, e_X2_dreamtIn_70_n, e_X2_dreamtIn_73, e_X2_dreamtIn_77, eq_self, nI10, not_false_eq_true, not_true_eq_false, is2_i, is2_r, is2_n, nI_add, pk_mul, Nat.reduceAdd, Nat.reduceMul, hb, ai_T3, hA1 hb, hA2 hb, hA3 hb, hA4 hb, hA5 hb, hL1 hb, hL2 hb, hL3 hb, hL4 hb, hL5 hb, k0_4, k0_5, k0_6, k0_7, k0_8, kl_4, kl_5, kl_6, kl_7, kl_8, hp.2.2.2.1, hn, if_false, h5, hh.2.1 dd hlt, hh.2.2.2.1 dd hlt, nI_9 (a := x.1 dd) (c := c) (by omega) (by omega), e3, e_X2_dreamtIn_65 (hb := hb) (hE := s_X2_spoilt hp hb hdl hlt), or_bit (mk_lt (dSl p x c t) dd) (show dd < 31 by omega)]
    rw [← ih (dd + 1) (by omega)]
    by_cases h : x.1 dd = c
    · by_cases h2 : dDeep p x c t dd + t < x.2.2.1 dd
      · simp [mk, dSl, dDeep, h, h2, Nat.not_le.mpr h2]
      · simp [mk, dSl, dDeep, h, h2, Nat.not_lt.mp h2]
    · simp [mk, dSl, dDeep, h]
theorem s_X2_dreamtIn (hp : RT p m) (hh : RH p x m b) (hb : ai_H b) {c t : Nat} (hc : c < p.2.2.1) (ht : t ≤ 9) : Ev o (d + 2) zX2_dreamtIn [.ref b, .int (nI c), .int (nI t)] (ai_w m lg) (some (.int (nI (mk (dSl p x c t) p.2.2.2.2.1)))) (ai_w m lg) := by
  have hB := hp.1.2.1
  have h4 : c < 4 := by omega
  rw [ev_X2_dreamtIn]
  simp only [e_X2_dreamtIn_0, e_X2_dreamtIn_1_i, e_X2_dreamtIn_1_r, e_X2_dreamtIn_1_n, e_X2_dreamtIn_2, e_X2_dreamtIn_3, e_X2_dreamtIn_6, e_X2_dreamtIn_7, e_X2_dreamtIn_8_i, e_X2_dreamtIn_8_r, e_X2_dreamtIn_8_n, e_X2_dreamtIn_10, e_X2_dreamtIn_11_i, e_X2_dreamtIn_11_r, e_X2_dreamtIn_11_n, e_X2_dreamtIn_15, e_X2_dreamtIn_16, e_X2_dreamtIn_19, e_X2_dreamtIn_22, e_X2_dreamtIn_25, e_X2_dreamtIn_26, e_X2_dreamtIn_29, e_X2_dreamtIn_31, e_X2_dreamtIn_32, e_X2_dreamtIn_33, e_X2_dreamtIn_36, e_X2_dreamtIn_37, e_X2_dreamtIn_40, e_X2_dreamtIn_42, e_X2_dreamtIn_43, e_X2_dreamtIn_45, e_X2_dreamtIn_46, e_X2_dreamtIn_47, e_X2_dreamtIn_50, e_X2_dreamtIn_51, e_X2_dreamtIn_52, e_X2_dreamtIn_54, e_X2_dreamtIn_55, e_X2_dreamtIn_56_i, e_X2_dreamtIn_56_r, e_X2_dreamtIn_56_n, e_X2_dreamtIn_57, e_X2_dreamtIn_60, e_X2_dreamtIn_61, e_X2_dreamtIn_63, e_X2_dreamtIn_68_i, e_X2_dreamtIn_68_r, e_X2_dreamtIn_68_n, e_X2_dreamtIn_70_i, e_X2_dreamtIn_70_r, e_X2_dreamtIn_70_n, e_X2_dreamtIn_73, e_X2_dreamtIn_76, e_X2_dreamtIn_77, eq_self, nI10, not_false_eq_true, not_true_eq_false, is2_i, is2_r, is2_n, nI_add, pk_mul, Nat.reduceAdd, Nat.reduceMul, hb, ai_T3, hA1 hb, hA2 hb, hA3 hb, hA4 hb, hA5 hb, hL1 hb, hL2 hb, hL3 hb, hL4 hb, hL5 hb, k0_4, k0_5, k0_6, k0_7, k0_8, kl_4, kl_5, kl_6, kl_7, kl_8, h4, hh.2.2.2.2.1 c hc]
  have := lp_X2_dreamtIn (o := o) (d := d) (lg := lg) (r := (some (.int (nI (mk (dSl p x c t) p.2.2.2.2.1))), ai_w m lg)) hp hh hb hc ht p.2.2.2.2.1 0 (by omega)
  rw [show mk (dSl p x c t) 0 = 0 from rfl, show dDeep p x c t 0 = x.2.2.2.1 c from rfl] at this
  rw [this]
  simp only [e_X2_dreamtIn_0, e_X2_dreamtIn_1_i, e_X2_dreamtIn_1_r, e_X2_dreamtIn_1_n, e_X2_dreamtIn_2, e_X2_dreamtIn_3, e_X2_dreamtIn_6, e_X2_dreamtIn_7, e_X2_dreamtIn_8_i, e_X2_dreamtIn_8_r, e_X2_dreamtIn_8_n, e_X2_dreamtIn_10, e_X2_dreamtIn_11_i, e_X2_dreamtIn_11_r, e_X2_dreamtIn_11_n, e_X2_dreamtIn_15, e_X2_dreamtIn_16, e_X2_dreamtIn_19, e_X2_dreamtIn_22, e_X2_dreamtIn_25, e_X2_dreamtIn_26, e_X2_dreamtIn_29, e_X2_dreamtIn_31, e_X2_dreamtIn_32, e_X2_dreamtIn_33, e_X2_dreamtIn_36, e_X2_dreamtIn_37, e_X2_dreamtIn_40, e_X2_dreamtIn_42, e_X2_dreamtIn_43, e_X2_dreamtIn_45, e_X2_dreamtIn_46, e_X2_dreamtIn_47, e_X2_dreamtIn_50, e_X2_dreamtIn_51, e_X2_dreamtIn_52, e_X2_dreamtIn_54, e_X2_dreamtIn_55, e_X2_dreamtIn_56_i, e_X2_dreamtIn_56_r, e_X2_dreamtIn_56_n, e_X2_dreamtIn_57, e_X2_dreamtIn_60, e_X2_dreamtIn_61, e_X2_dreamtIn_63, e_X2_dreamtIn_68_i, e_X2_dreamtIn_68_r, e_X2_dreamtIn_68_n, e_X2_dreamtIn_70_i, e_X2_dreamtIn_70_r, e_X2_dreamtIn_70_n, e_X2_dreamtIn_73, e_X2_dreamtIn_76, e_X2_dreamtIn_77]
end P32
