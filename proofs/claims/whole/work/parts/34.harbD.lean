/-! Harbour: a night -/
theorem mn9 : ∀ g, g ≤ 9 → (if nI (g + 1) < nI 9 then nI (g + 1) else nI 9) = nI (min 9 (g + 1)) := by decide +kernel
def loStep (p : PT) (n : Nat) (y : HS) : HS := if y.1 n = 8 then (y.1, va_up y.2.1 n (y.2.1 n + nI 1), (if p.2.2.2.2.2 n = 2 then va_up y.2.2.1 n (min 9 (y.2.2.1 n + 1)) else y.2.2.1), y.2.2.2) else y
/-- the first from s on, of k, that has g -/
def firstB (g : Nat → Bool) : Nat → Nat → Option Nat
  | _, 0 => none
  | s, k + 1 => if g s = true then some s else firstB g (s + 1) k
def mlStep (p : PT) (dd : Nat) (y : HS) : HS := match firstB (pCan p y dd) 0 p.2.2.1 with
  | some c => (va_up y.1 dd c, y.2)
  | none => y
def bnStep (p : PT) (n : Nat) (y : HS) : HS := if p.2.2.2.2.2 n = 1 ∧ y.1 n = 8 ∧ ¬ y.2.1 n < nI 3 then mlStep p n y else y
def drStep (p : PT) (c : Nat) (y : HS) : HS := if p.2.2.2.1 c = 3 then (y.1, y.2.1, y.2.2.1, va_up y.2.2.2.1 c (min 9 (y.2.2.2.1 c + 1)), y.2.2.2.2) else y
def nsStep (p : PT) (t c : Nat) (y : HS) : HS := itN (slStep p c (dSl p y c t)) 0 p.2.2.2.2.1 y
def nsCnt (p : PT) (t : Nat) : Nat → Nat → HS → Nat
  | _, 0, _ => 0
  | c, k + 1, y => cn (dSl p y c t) p.2.2.2.2.1 + nsCnt p t (c + 1) k (nsStep p t c y)
def pDay (p : PT) (x : HS) : HS := itN (drStep p) 0 p.2.2.1 (itN (bnStep p) 0 p.2.2.2.2.1 (itN (loStep p) 0 p.2.2.2.2.1 (itN (nsStep p (pTide p x.2.2.2.2.2)) 0 p.2.2.1 x)))
def pNight (p : PT) (x : HS) : HS := ((pDay p x).1, (pDay p x).2.1, (pDay p x).2.2.1, (pDay p x).2.2.2.1, (pDay p x).2.2.2.2.1, (pDay p x).2.2.2.2.2 + 1)
def pCnt (p : PT) (x : HS) : Nat := nsCnt p (pTide p x.2.2.2.2.2) 0 p.2.2.1 x
theorem itN_ng {f : Nat → HS → HS} (h : ∀ n y, (f n y).2.2.2.2.2 = y.2.2.2.2.2) : ∀ k n y, (itN f n k y).2.2.2.2.2 = y.2.2.2.2.2 := by
  intro k
  induction k with
  | zero => intro n y; rfl
  | succ k ih => intro n y; exact (ih (n + 1) (f n y)).trans (h n y)
theorem sl_ng (p : PT) (c : Nat) (f : Nat → Bool) (n : Nat) (y : HS) : (slStep p c f n y).2.2.2.2.2 = y.2.2.2.2.2 := by unfold slStep; split <;> (try split) <;> rfl
theorem lo_ng (p : PT) (n : Nat) (y : HS) : (loStep p n y).2.2.2.2.2 = y.2.2.2.2.2 := by unfold loStep; split <;> rfl
theorem ml_ng (p : PT) (n : Nat) (y : HS) : (mlStep p n y).2.2.2.2.2 = y.2.2.2.2.2 := by unfold mlStep; split <;> rfl
theorem bn_ng (p : PT) (n : Nat) (y : HS) : (bnStep p n y).2.2.2.2.2 = y.2.2.2.2.2 := by unfold bnStep; split; exact ml_ng p n y; rfl
theorem dr_ng (p : PT) (n : Nat) (y : HS) : (drStep p n y).2.2.2.2.2 = y.2.2.2.2.2 := by unfold drStep; split <;> rfl
theorem ns_ng (p : PT) (t n : Nat) (y : HS) : (nsStep p t n y).2.2.2.2.2 = y.2.2.2.2.2 := itN_ng (sl_ng p n _) _ _ _
theorem pDay_ng (p : PT) (x : HS) : (pDay p x).2.2.2.2.2 = x.2.2.2.2.2 := by
  unfold pDay
  rw [itN_ng (dr_ng p), itN_ng (bn_ng p), itN_ng (lo_ng p), itN_ng (ns_ng p _)]
section P34
variable {o : ai_S} {d : Nat} {w : ai_W} {lg : Nat → Nat → Int64} {p : PT} {b : Nat}
theorem lp_X2_lieOffLonger (hb : ai_H b) : ∀ (k n : Nat) (m : Nat → Nat → Int32) (y : HS), n + k = p.2.2.2.2.1 → RT p m → RH p y m b → ∃ m', RH p (itN (loStep p) n k y) m' b ∧ Fr b m m' ∧ ∀ r, Rn o (d + 1) zX2_lieOffLonger 2 [.ref b, .int (nI n)] [] (ai_w m lg) r = Rn o (d + 1) zX2_lieOffLonger 69 [.ref b, .int (nI p.2.2.2.2.1)] [] (ai_w m' lg) r := by
  have h15 := ai_H_ge hb
  intro k
  induction k with
  | zero =>
    intro n m y hk hp hh
    have : n = p.2.2.2.2.1 := by omega
    subst this
    refine ⟨m, hh, Fr.rfl', fun r => ?_⟩
    rw [e_X2_lieOffLonger_2]
    simp only [e_X2_lieOffLonger_0, e_X2_lieOffLonger_1_i, e_X2_lieOffLonger_1_r, e_X2_lieOffLonger_3, e_X2_lieOffLonger_4, e_X2_lieOffLonger_7, e_X2_lieOffLonger_10, e_X2_lieOffLonger_13, e_X2_lieOffLonger_14, e_X2_lieOffLonger_18, e_X2_lieOffLonger_21, e_X2_lieOffLonger_22, e_X2_lieOffLonger_25, e_X2_lieOffLonger_26, e_X2_lieOffLonger_27, e_X2_lieOffLonger_28, e_X2_lieOffLonger_29, e_X2_lieOffLonger_30, e_X2_lieOffLonger_31, e_X2_lieOffLonger_32, e_X2_lieOffLonger_35, e_X2_lieOffLonger_38, e_X2_lieOffLonger_39, e_X2_lieOffLonger_40, e_X2_lieOffLonger_41, e_X2_lieOffLonger_44, e_X2_lieOffLonger_45, e_X2_lieOffLonger_48, e_X2_lieOffLonger_49, e_X2_lieOffLonger_51, e_X2_lieOffLonger_52, e_X2_lieOffLonger_55, e_X2_lieOffLonger_56, e_X2_lieOffLonger_57, e_X2_lieOffLonger_58, e_X2_lieOffLonger_59, e_X2_lieOffLonger_62, e_X2_lieOffLonger_63_i, e_X2_lieOffLonger_63_r, e_X2_lieOffLonger_66, eq_self, nI10, not_false_eq_true, not_true_eq_false, is2_i, is2_r, is2_n, nI_add, pk_mul, Nat.reduceAdd, Nat.reduceMul, hb, ai_T3, hA1 hb, hA2 hb, hA3 hb, hA4 hb, hA5 hb, hL1 hb, hL2 hb, hL3 hb, hL4 hb, hL5 hb, k0_4, k0_5, k0_6, k0_7, k0_8, kl_4, kl_5, kl_6, kl_7, kl_8, hp.2.2.2.1, Int32.le_refl, if_true]
  | succ k ih =>
    intro n m y hk hp hh
    have hD := hp.1.2.2.1
    have hlt : n < p.2.2.2.2.1 := by omega
    have h5 : n < 5 := by omega
    have hn : ¬ nI p.2.2.2.2.1 ≤ nI n := nI_ge hlt (by omega)
    have k2 := hp.1.2.2.2.2.2 n hlt
    have k3 := hh.1.2.1 n hlt
    rw [show itN (loStep p) n (k + 1) y = itN (loStep p) (n + 1) k (loStep p n y) from rfl]
    by_cases h : y.1 n = 8
    · have hh1 := hh.la (dd := n) (v := y.2.1 n + nI 1)
      have hp1 : RT p (ai_up m (b + 2) n (y.2.1 n + nI 1)) := hp.fr hb (Fr.up (by omega))
      by_cases h2 : p.2.2.2.2.2 n = 2
      · have hh2 := hh1.dr (dd := n) (v := min 9 (y.2.2.1 n + 1)) (by omega)
        obtain ⟨m', g1, g2, g3⟩ := ih (n + 1) _ _ (by omega) (hp1.fr hb (Fr.up (j := 3) (k := n) (v := nI (min 9 (y.2.2.1 n + 1))) (by omega))) hh2
        refine ⟨m', ?_, (Fr.up (j := 2) (by omega)).trans ((Fr.up (j := 3) (by omega)).trans g2), fun r => ?_⟩
        · unfold loStep at g1 ⊢
          rw [if_pos h, if_pos h2]
          exact g1
        · rw [e_X2_lieOffLonger_2, ← g3 r]
          simp only [e_X2_lieOffLonger_0, e_X2_lieOffLonger_1_i, e_X2_lieOffLonger_1_r, e_X2_lieOffLonger_3, e_X2_lieOffLonger_4, e_X2_lieOffLonger_7, e_X2_lieOffLonger_10, e_X2_lieOffLonger_13, e_X2_lieOffLonger_14, e_X2_lieOffLonger_18, e_X2_lieOffLonger_21, e_X2_lieOffLonger_22, e_X2_lieOffLonger_25, e_X2_lieOffLonger_26, e_X2_lieOffLonger_27, e_X2_lieOffLonger_28, e_X2_lieOffLonger_29, e_X2_lieOffLonger_30, e_X2_lieOffLonger_31, e_X2_lieOffLonger_32, e_X2_lieOffLonger_35, e_X2_lieOffLonger_38, e_X2_lieOffLonger_39, e_X2_lieOffLonger_40, e_X2_lieOffLonger_41, e_X2_lieOffLonger_44, e_X2_lieOffLonger_45, e_X2_lieOffLonger_48, e_X2_lieOffLonger_49, e_X2_lieOffLonger_51, e_X2_lieOffLonger_52, e_X2_lieOffLonger_55, e_X2_lieOffLonger_56, e_X2_lieOffLonger_57, e_X2_lieOffLonger_58, e_X2_lieOffLonger_59, e_X2_lieOffLonger_62, e_X2_lieOffLonger_63_i, e_X2_lieOffLonger_63_r, e_X2_lieOffLonger_66, eq_self, nI10, not_false_eq_true, not_true_eq_false, is2_i, is2_r, is2_n, nI_add, pk_mul, Nat.reduceAdd, Nat.reduceMul, hb, ai_T3, hA1 hb, hA2 hb, hA3 hb, hA4 hb, hA5 hb, hL1 hb, hL2 hb, hL3 hb, hL4 hb, hL5 hb, k0_4, k0_5, k0_6, k0_7, k0_8, kl_4, kl_5, kl_6, kl_7, kl_8, hp.2.2.2.1, hn, if_false, h5, e_X2_lieOffLonger_15 (hb := hb) (hE := s_X2_liesOff hp hh hb hlt), bI_z, h, decide_true, Bool.true_eq_false, hh.2.2.1 n hlt, up_ne (show 3 ≠ b + 2 by omega), up_ne (show 8 ≠ b + 2 by omega), hp.2.2.2.2.2.2 n hlt, h2, up_ne (show b + 3 ≠ b + 2 by omega), hh.2.2.2.1 n hlt, mn9 _ k3.2]
      · obtain ⟨m', g1, g2, g3⟩ := ih (n + 1) _ _ (by omega) hp1 hh1
        refine ⟨m', ?_, (Fr.up (j := 2) (by omega)).trans g2, fun r => ?_⟩
        · unfold loStep at g1 ⊢
          rw [if_pos h, if_neg h2]
          exact g1
        · rw [e_X2_lieOffLonger_2, ← g3 r]
          simp only [e_X2_lieOffLonger_0, e_X2_lieOffLonger_1_i, e_X2_lieOffLonger_1_r, e_X2_lieOffLonger_3, e_X2_lieOffLonger_4, e_X2_lieOffLonger_7, e_X2_lieOffLonger_10, e_X2_lieOffLonger_13, e_X2_lieOffLonger_14, e_X2_lieOffLonger_18, e_X2_lieOffLonger_21, e_X2_lieOffLonger_22, e_X2_lieOffLonger_25, e_X2_lieOffLonger_26, e_X2_lieOffLonger_27, e_X2_lieOffLonger_28, e_X2_lieOffLonger_29, e_X2_lieOffLonger_30, e_X2_lieOffLonger_31, e_X2_lieOffLonger_32, e_X2_lieOffLonger_35, e_X2_lieOffLonger_38, e_X2_lieOffLonger_39, e_X2_lieOffLonger_40, e_X2_lieOffLonger_41, e_X2_lieOffLonger_44, e_X2_lieOffLonger_45, e_X2_lieOffLonger_48, e_X2_lieOffLonger_49, e_X2_lieOffLonger_51, e_X2_lieOffLonger_52, e_X2_lieOffLonger_55, e_X2_lieOffLonger_56, e_X2_lieOffLonger_57, e_X2_lieOffLonger_58, e_X2_lieOffLonger_59, e_X2_lieOffLonger_62, e_X2_lieOffLonger_63_i, e_X2_lieOffLonger_63_r, e_X2_lieOffLonger_66, eq_self, nI10, not_false_eq_true, not_true_eq_false, is2_i, is2_r, is2_n, nI_add, pk_mul, Nat.reduceAdd, Nat.reduceMul, hb, ai_T3, hA1 hb, hA2 hb, hA3 hb, hA4 hb, hA5 hb, hL1 hb, hL2 hb, hL3 hb, hL4 hb, hL5 hb, k0_4, k0_5, k0_6, k0_7, k0_8, kl_4, kl_5, kl_6, kl_7, kl_8, hp.2.2.2.1, hn, if_false, h5, e_X2_lieOffLonger_15 (hb := hb) (hE := s_X2_liesOff hp hh hb hlt), bI_z, h, decide_true, Bool.true_eq_false, hh.2.2.1 n hlt, up_ne (show 3 ≠ b + 2 by omega), up_ne (show 8 ≠ b + 2 by omega), hp.2.2.2.2.2.2 n hlt, nI_9 (a := p.2.2.2.2.2 n) (c := 2) (by omega) (by omega), h2, if_true]
    · obtain ⟨m', g1, g2, g3⟩ := ih (n + 1) m y (by omega) hp hh
      refine ⟨m', ?_, g2, fun r => ?_⟩
      · rw [show loStep p n y = y by unfold loStep; rw [if_neg h]]
        exact g1
      · rw [e_X2_lieOffLonger_2, ← g3 r]
        simp only [e_X2_lieOffLonger_0, e_X2_lieOffLonger_1_i, e_X2_lieOffLonger_1_r, e_X2_lieOffLonger_3, e_X2_lieOffLonger_4, e_X2_lieOffLonger_7, e_X2_lieOffLonger_10, e_X2_lieOffLonger_13, e_X2_lieOffLonger_14, e_X2_lieOffLonger_18, e_X2_lieOffLonger_21, e_X2_lieOffLonger_22, e_X2_lieOffLonger_25, e_X2_lieOffLonger_26, e_X2_lieOffLonger_27, e_X2_lieOffLonger_28, e_X2_lieOffLonger_29, e_X2_lieOffLonger_30, e_X2_lieOffLonger_31, e_X2_lieOffLonger_32, e_X2_lieOffLonger_35, e_X2_lieOffLonger_38, e_X2_lieOffLonger_39, e_X2_lieOffLonger_40, e_X2_lieOffLonger_41, e_X2_lieOffLonger_44, e_X2_lieOffLonger_45, e_X2_lieOffLonger_48, e_X2_lieOffLonger_49, e_X2_lieOffLonger_51, e_X2_lieOffLonger_52, e_X2_lieOffLonger_55, e_X2_lieOffLonger_56, e_X2_lieOffLonger_57, e_X2_lieOffLonger_58, e_X2_lieOffLonger_59, e_X2_lieOffLonger_62, e_X2_lieOffLonger_63_i, e_X2_lieOffLonger_63_r, e_X2_lieOffLonger_66, eq_self, nI10, not_false_eq_true, not_true_eq_false, is2_i, is2_r, is2_n, nI_add, pk_mul, Nat.reduceAdd, Nat.reduceMul, hb, ai_T3, hA1 hb, hA2 hb, hA3 hb, hA4 hb, hA5 hb, hL1 hb, hL2 hb, hL3 hb, hL4 hb, hL5 hb, k0_4, k0_5, k0_6, k0_7, k0_8, kl_4, kl_5, kl_6, kl_7, kl_8, hp.2.2.2.1, hn, if_false, h5, e_X2_lieOffLonger_15 (hb := hb) (hE := s_X2_liesOff hp hh hb hlt), bI_z, h, decide_false, if_true]
theorem s_X2_lieOffLonger (hb : ai_H b) {m : Nat → Nat → Int32} {y : HS} (hp : RT p m) (hh : RH p y m b) : ∃ m', RH p (itN (loStep p) 0 p.2.2.2.2.1 y) m' b ∧ Fr b m m' ∧ Ev o (d + 1) zX2_lieOffLonger [.ref b] (ai_w m lg) none (ai_w m' lg) := by
  obtain ⟨m', g1, g2, g3⟩ := lp_X2_lieOffLonger (o := o) (d := d) (lg := lg) hb p.2.2.2.2.1 0 m y (by omega) hp hh
  refine ⟨m', g1, g2, ?_⟩
  rw [ev_X2_lieOffLonger]
  simp only [e_X2_lieOffLonger_0, e_X2_lieOffLonger_1_i, e_X2_lieOffLonger_1_r, e_X2_lieOffLonger_3, e_X2_lieOffLonger_4, e_X2_lieOffLonger_7, e_X2_lieOffLonger_10, e_X2_lieOffLonger_13, e_X2_lieOffLonger_14, e_X2_lieOffLonger_18, e_X2_lieOffLonger_21, e_X2_lieOffLonger_22, e_X2_lieOffLonger_25, e_X2_lieOffLonger_26, e_X2_lieOffLonger_27, e_X2_lieOffLonger_28, e_X2_lieOffLonger_29, e_X2_lieOffLonger_30, e_X2_lieOffLonger_31, e_X2_lieOffLonger_32, e_X2_lieOffLonger_35, e_X2_lieOffLonger_38, e_X2_lieOffLonger_39, e_X2_lieOffLonger_40, e_X2_lieOffLonger_41, e_X2_lieOffLonger_44, e_X2_lieOffLonger_45, e_X2_lieOffLonger_48, e_X2_lieOffLonger_49, e_X2_lieOffLonger_51, e_X2_lieOffLonger_52, e_X2_lieOffLonger_55, e_X2_lieOffLonger_56, e_X2_lieOffLonger_57, e_X2_lieOffLonger_58, e_X2_lieOffLonger_59, e_X2_lieOffLonger_62, e_X2_lieOffLonger_63_i, e_X2_lieOffLonger_63_r, e_X2_lieOffLonger_66, e_X2_lieOffLonger_69, eq_self, nI10, not_false_eq_true, not_true_eq_false, is2_i, is2_r, is2_n, nI_add, pk_mul, Nat.reduceAdd, Nat.reduceMul]
  rw [g3]
  simp only [e_X2_lieOffLonger_0, e_X2_lieOffLonger_1_i, e_X2_lieOffLonger_1_r, e_X2_lieOffLonger_3, e_X2_lieOffLonger_4, e_X2_lieOffLonger_7, e_X2_lieOffLonger_10, e_X2_lieOffLonger_13, e_X2_lieOffLonger_14, e_X2_lieOffLonger_18, e_X2_lieOffLonger_21, e_X2_lieOffLonger_22, e_X2_lieOffLonger_25, e_X2_lieOffLonger_26, e_X2_lieOffLonger_27, e_X2_lieOffLonger_28, e_X2_lieOffLonger_29, e_X2_lieOffLonger_30, e_X2_lieOffLonger_31, e_X2_lieOffLonger_32, e_X2_lieOffLonger_35, e_X2_lieOffLonger_38, e_X2_lieOffLonger_39, e_X2_lieOffLonger_40, e_X2_lieOffLonger_41, e_X2_lieOffLonger_44, e_X2_lieOffLonger_45, e_X2_lieOffLonger_48, e_X2_lieOffLonger_49, e_X2_lieOffLonger_51, e_X2_lieOffLonger_52, e_X2_lieOffLonger_55, e_X2_lieOffLonger_56, e_X2_lieOffLonger_57, e_X2_lieOffLonger_58, e_X2_lieOffLonger_59, e_X2_lieOffLonger_62, e_X2_lieOffLonger_63_i, e_X2_lieOffLonger_63_r, e_X2_lieOffLonger_66, e_X2_lieOffLonger_69]
theorem lp_X2_moorInLeast (hb : ai_H b) {m : Nat → Nat → Int32} {y : HS} {dd : Nat} (hp : RT p m) (hh : RH p y m b) (hd : dd < p.2.2.2.2.1) : ∀ (k c : Nat), c + k = p.2.2.1 → ∃ m', RH p (match firstB (pCan p y dd) c k with | some c => (va_up y.1 dd c, y.2) | none => y) m' b ∧ Fr b m m' ∧ Rn o (d + 2) zX2_moorInLeast 2 [.ref b, .int (nI dd), .int (nI c)] [] (ai_w m lg) (none, ai_w m' lg) := by
  have hD := hp.1.2.2.1
  have hB := hp.1.2.1
  have h5 : dd < 5 := by omega
  intro k
  induction k with
  | zero =>
    intro c hk
    have : c = p.2.2.1 := by omega
    subst this
    refine ⟨m, hh, Fr.rfl', ?_⟩
    rw [e_X2_moorInLeast_2]
    simp only [e_X2_moorInLeast_0, e_X2_moorInLeast_1_i, e_X2_moorInLeast_1_r, e_X2_moorInLeast_1_n, e_X2_moorInLeast_3, e_X2_moorInLeast_4, e_X2_moorInLeast_7, e_X2_moorInLeast_10, e_X2_moorInLeast_13, e_X2_moorInLeast_14, e_X2_moorInLeast_15, e_X2_moorInLeast_19, e_X2_moorInLeast_22, e_X2_moorInLeast_23, e_X2_moorInLeast_26, e_X2_moorInLeast_27, e_X2_moorInLeast_28, e_X2_moorInLeast_29, e_X2_moorInLeast_30_i, e_X2_moorInLeast_30_r, e_X2_moorInLeast_30_n, e_X2_moorInLeast_33, e_X2_moorInLeast_36, eq_self, nI10, not_false_eq_true, not_true_eq_false, is2_i, is2_r, is2_n, nI_add, pk_mul, Nat.reduceAdd, Nat.reduceMul, hb, ai_T3, hA1 hb, hA2 hb, hA3 hb, hA4 hb, hA5 hb, hL1 hb, hL2 hb, hL3 hb, hL4 hb, hL5 hb, k0_4, k0_5, k0_6, k0_7, k0_8, kl_4, kl_5, kl_6, kl_7, kl_8, hp.2.2.1, Int32.le_refl, if_true]
  | succ k ih =>
    intro c hk
    have hlt : c < p.2.2.1 := by omega
    have hn : ¬ nI p.2.2.1 ≤ nI c := nI_ge hlt (by omega)
    cases h : pCan p y dd c
    · obtain ⟨m', g1, g2, g3⟩ := ih (c + 1) (by omega)
      refine ⟨m', ?_, g2, ?_⟩
      · unfold firstB
        rw [h]
        exact g1
      · rw [e_X2_moorInLeast_2]
        simp only [e_X2_moorInLeast_0, e_X2_moorInLeast_1_i, e_X2_moorInLeast_1_r, e_X2_moorInLeast_1_n, e_X2_moorInLeast_3, e_X2_moorInLeast_4, e_X2_moorInLeast_7, e_X2_moorInLeast_10, e_X2_moorInLeast_13, e_X2_moorInLeast_14, e_X2_moorInLeast_15, e_X2_moorInLeast_19, e_X2_moorInLeast_22, e_X2_moorInLeast_23, e_X2_moorInLeast_26, e_X2_moorInLeast_27, e_X2_moorInLeast_28, e_X2_moorInLeast_29, e_X2_moorInLeast_30_i, e_X2_moorInLeast_30_r, e_X2_moorInLeast_30_n, e_X2_moorInLeast_33, e_X2_moorInLeast_36, eq_self, nI10, not_false_eq_true, not_true_eq_false, is2_i, is2_r, is2_n, nI_add, pk_mul, Nat.reduceAdd, Nat.reduceMul, hb, ai_T3, hA1 hb, hA2 hb, hA3 hb, hA4 hb, hA5 hb, hL1 hb, hL2 hb, hL3 hb, hL4 hb, hL5 hb, k0_4, k0_5, k0_6, k0_7, k0_8, kl_4, kl_5, kl_6, kl_7, kl_8, hp.2.2.1, hn, if_false, e_X2_moorInLeast_16 (hb := hb) (hE := s_X2_canBe hp hh hb hd hlt), bI_z, h, if_true]
        exact g3
    · refine ⟨ai_up m (b + 1) dd (nI c), ?_, Fr.up (by omega), ?_⟩
      · unfold firstB
        rw [if_pos h]
        exact hh.pl (Or.inl hlt)
      · rw [e_X2_moorInLeast_2]
        simp only [e_X2_moorInLeast_0, e_X2_moorInLeast_1_i, e_X2_moorInLeast_1_r, e_X2_moorInLeast_1_n, e_X2_moorInLeast_3, e_X2_moorInLeast_4, e_X2_moorInLeast_7, e_X2_moorInLeast_10, e_X2_moorInLeast_13, e_X2_moorInLeast_14, e_X2_moorInLeast_15, e_X2_moorInLeast_19, e_X2_moorInLeast_22, e_X2_moorInLeast_23, e_X2_moorInLeast_26, e_X2_moorInLeast_27, e_X2_moorInLeast_28, e_X2_moorInLeast_29, e_X2_moorInLeast_30_i, e_X2_moorInLeast_30_r, e_X2_moorInLeast_30_n, e_X2_moorInLeast_33, e_X2_moorInLeast_36, eq_self, nI10, not_false_eq_true, not_true_eq_false, is2_i, is2_r, is2_n, nI_add, pk_mul, Nat.reduceAdd, Nat.reduceMul, hb, ai_T3, hA1 hb, hA2 hb, hA3 hb, hA4 hb, hA5 hb, hL1 hb, hL2 hb, hL3 hb, hL4 hb, hL5 hb, k0_4, k0_5, k0_6, k0_7, k0_8, kl_4, kl_5, kl_6, kl_7, kl_8, hp.2.2.1, hn, if_false, e_X2_moorInLeast_16 (hb := hb) (hE := s_X2_canBe hp hh hb hd hlt), bI_z, h, Bool.true_eq_false, h5]
theorem s_X2_moorInLeast (hb : ai_H b) {m : Nat → Nat → Int32} {y : HS} {dd : Nat} (hp : RT p m) (hh : RH p y m b) (hd : dd < p.2.2.2.2.1) : ∃ m', RH p (mlStep p dd y) m' b ∧ Fr b m m' ∧ Ev o (d + 2) zX2_moorInLeast [.ref b, .int (nI dd)] (ai_w m lg) none (ai_w m' lg) := by
  obtain ⟨m', g1, g2, g3⟩ := lp_X2_moorInLeast (o := o) (d := d) (lg := lg) hb hp hh hd p.2.2.1 0 (by omega)
  refine ⟨m', g1, g2, ?_⟩
  rw [ev_X2_moorInLeast]
  simp only [e_X2_moorInLeast_0, e_X2_moorInLeast_1_i, e_X2_moorInLeast_1_r, e_X2_moorInLeast_1_n, e_X2_moorInLeast_3, e_X2_moorInLeast_4, e_X2_moorInLeast_7, e_X2_moorInLeast_10, e_X2_moorInLeast_13, e_X2_moorInLeast_14, e_X2_moorInLeast_15, e_X2_moorInLeast_19, e_X2_moorInLeast_22, e_X2_moorInLeast_23, e_X2_moorInLeast_26, e_X2_moorInLeast_27, e_X2_moorInLeast_28, e_X2_moorInLeast_29, e_X2_moorInLeast_30_i, e_X2_moorInLeast_30_r, e_X2_moorInLeast_30_n, e_X2_moorInLeast_33, e_X2_moorInLeast_36, eq_self, nI10, not_false_eq_true, not_true_eq_false, is2_i, is2_r, is2_n, nI_add, pk_mul, Nat.reduceAdd, Nat.reduceMul]
  exact g3
theorem lp_X2_bringNightmares (hb : ai_H b) : ∀ (k n : Nat) (m : Nat → Nat → Int32) (y : HS), n + k = p.2.2.2.2.1 → RT p m → RH p y m b → ∃ m', RH p (itN (bnStep p) n k y) m' b ∧ Fr b m m' ∧ ∀ r, Rn o (d + 3) zX2_bringNightmares 2 [.ref b, .int (nI n)] [] (ai_w m lg) r = Rn o (d + 3) zX2_bringNightmares 55 [.ref b, .int (nI p.2.2.2.2.1)] [] (ai_w m' lg) r := by
  intro k
  induction k with
  | zero =>
    intro n m y hk hp hh
    have : n = p.2.2.2.2.1 := by omega
    subst this
    refine ⟨m, hh, Fr.rfl', fun r => ?_⟩
    rw [e_X2_bringNightmares_2]
    simp only [e_X2_bringNightmares_0, e_X2_bringNightmares_1_i, e_X2_bringNightmares_1_r, e_X2_bringNightmares_3, e_X2_bringNightmares_4, e_X2_bringNightmares_7, e_X2_bringNightmares_10, e_X2_bringNightmares_13, e_X2_bringNightmares_14, e_X2_bringNightmares_17, e_X2_bringNightmares_20, e_X2_bringNightmares_21, e_X2_bringNightmares_22, e_X2_bringNightmares_23, e_X2_bringNightmares_26, e_X2_bringNightmares_27, e_X2_bringNightmares_31, e_X2_bringNightmares_34, e_X2_bringNightmares_35, e_X2_bringNightmares_38, e_X2_bringNightmares_39, e_X2_bringNightmares_40, e_X2_bringNightmares_41, e_X2_bringNightmares_44, e_X2_bringNightmares_45, e_X2_bringNightmares_49_i, e_X2_bringNightmares_49_r, e_X2_bringNightmares_52, eq_self, nI10, not_false_eq_true, not_true_eq_false, is2_i, is2_r, is2_n, nI_add, pk_mul, Nat.reduceAdd, Nat.reduceMul, hb, ai_T3, hA1 hb, hA2 hb, hA3 hb, hA4 hb, hA5 hb, hL1 hb, hL2 hb, hL3 hb, hL4 hb, hL5 hb, k0_4, k0_5, k0_6, k0_7, k0_8, kl_4, kl_5, kl_6, kl_7, kl_8, hp.2.2.2.1, Int32.le_refl, if_true]
  | succ k ih =>
    intro n m y hk hp hh
    have hD := hp.1.2.2.1
    have hlt : n < p.2.2.2.2.1 := by omega
    have h5 : n < 5 := by omega
    have hn : ¬ nI p.2.2.2.2.1 ≤ nI n := nI_ge hlt (by omega)
    have k2 := hp.1.2.2.2.2.2 n hlt
    rw [show itN (bnStep p) n (k + 1) y = itN (bnStep p) (n + 1) k (bnStep p n y) from rfl]
    by_cases h : p.2.2.2.2.2 n = 1 ∧ y.1 n = 8 ∧ ¬ y.2.1 n < nI 3
    · obtain ⟨m1, f1, f2, f3⟩ := s_X2_moorInLeast (o := o) (d := d) (lg := lg) hb hp hh hlt
      obtain ⟨m', g1, g2, g3⟩ := ih (n + 1) m1 _ (by omega) (hp.fr hb f2) f1
      refine ⟨m', ?_, f2.trans g2, fun r => ?_⟩
      · rw [show bnStep p n y = mlStep p n y by unfold bnStep; rw [if_pos h]]
        exact g1
      · rw [e_X2_bringNightmares_2, ← g3 r]
        simp only [e_X2_bringNightmares_0, e_X2_bringNightmares_1_i, e_X2_bringNightmares_1_r, e_X2_bringNightmares_3, e_X2_bringNightmares_4, e_X2_bringNightmares_7, e_X2_bringNightmares_10, e_X2_bringNightmares_13, e_X2_bringNightmares_14, e_X2_bringNightmares_17, e_X2_bringNightmares_20, e_X2_bringNightmares_21, e_X2_bringNightmares_22, e_X2_bringNightmares_23, e_X2_bringNightmares_26, e_X2_bringNightmares_27, e_X2_bringNightmares_31, e_X2_bringNightmares_34, e_X2_bringNightmares_35, e_X2_bringNightmares_38, e_X2_bringNightmares_39, e_X2_bringNightmares_40, e_X2_bringNightmares_41, e_X2_bringNightmares_44, e_X2_bringNightmares_45, e_X2_bringNightmares_49_i, e_X2_bringNightmares_49_r, e_X2_bringNightmares_52, eq_self, nI10, not_false_eq_true, not_true_eq_false, is2_i, is2_r, is2_n, nI_add, pk_mul, Nat.reduceAdd, Nat.reduceMul, hb, ai_T3, hA1 hb, hA2 hb, hA3 hb, hA4 hb, hA5 hb, hL1 hb, hL2 hb, hL3 hb, hL4 hb, hL5 hb, k0_4, k0_5, k0_6, k0_7, k0_8, kl_4, kl_5, kl_6, kl_7, kl_8, hp.2.2.2.1, hn, if_false, h5, hp.2.2.2.2.2.2 n hlt, h.1, e_X2_bringNightmares_28 (hb := hb) (hE := s_X2_liesOff hp hh hb hlt), bI_z, h.2.1, decide_true, Bool.true_eq_false, hh.2.2.1 n hlt, h.2.2, e_X2_bringNightmares_46 (hb := hb) (hE := f3)]
    · obtain ⟨m', g1, g2, g3⟩ := ih (n + 1) m y (by omega) hp hh
      refine ⟨m', ?_, g2, fun r => ?_⟩
      · rw [show bnStep p n y = y by unfold bnStep; rw [if_neg h]]
        exact g1
      · rw [e_X2_bringNightmares_2, ← g3 r]
        simp only [e_X2_bringNightmares_0, e_X2_bringNightmares_1_i, e_X2_bringNightmares_1_r, e_X2_bringNightmares_3, e_X2_bringNightmares_4, e_X2_bringNightmares_7, e_X2_bringNightmares_10, e_X2_bringNightmares_13, e_X2_bringNightmares_14, e_X2_bringNightmares_17, e_X2_bringNightmares_20, e_X2_bringNightmares_21, e_X2_bringNightmares_22, e_X2_bringNightmares_23, e_X2_bringNightmares_26, e_X2_bringNightmares_27, e_X2_bringNightmares_31, e_X2_bringNightmares_34, e_X2_bringNightmares_35, e_X2_bringNightmares_38, e_X2_bringNightmares_39, e_X2_bringNightmares_40, e_X2_bringNightmares_41, e_X2_bringNightmares_44, e_X2_bringNightmares_45, e_X2_bringNightmares_49_i, e_X2_bringNightmares_49_r, e_X2_bringNightmares_52, eq_self, nI10, not_false_eq_true, not_true_eq_false, is2_i, is2_r, is2_n, nI_add, pk_mul, Nat.reduceAdd, Nat.reduceMul, hb, ai_T3, hA1 hb, hA2 hb, hA3 hb, hA4 hb, hA5 hb, hL1 hb, hL2 hb, hL3 hb, hL4 hb, hL5 hb, k0_4, k0_5, k0_6, k0_7, k0_8, kl_4, kl_5, kl_6, kl_7, kl_8, hp.2.2.2.1, hn, if_false, h5, hp.2.2.2.2.2.2 n hlt, nI_9 (a := p.2.2.2.2.2 n) (c := 1) (by omega) (by omega), e_X2_bringNightmares_28 (hb := hb) (hE := s_X2_liesOff hp hh hb hlt), bI_z, hh.2.2.1 n hlt]
        by_cases a1 : p.2.2.2.2.2 n = 1
        · by_cases a2 : y.1 n = 8
          · have a3 : y.2.1 n < nI 3 := Classical.byContradiction fun z => h ⟨a1, a2, z⟩
            simp [a1, a2, a3]
          · simp [a1, a2]
        · simp [a1]
theorem s_X2_bringNightmares (hb : ai_H b) {m : Nat → Nat → Int32} {y : HS} (hp : RT p m) (hh : RH p y m b) : ∃ m', RH p (itN (bnStep p) 0 p.2.2.2.2.1 y) m' b ∧ Fr b m m' ∧ Ev o (d + 3) zX2_bringNightmares [.ref b] (ai_w m lg) none (ai_w m' lg) := by
  obtain ⟨m', g1, g2, g3⟩ := lp_X2_bringNightmares (o := o) (d := d) (lg := lg) hb p.2.2.2.2.1 0 m y (by omega) hp hh
  refine ⟨m', g1, g2, ?_⟩
  rw [ev_X2_bringNightmares]
  simp only [e_X2_bringNightmares_0, e_X2_bringNightmares_1_i, e_X2_bringNightmares_1_r, e_X2_bringNightmares_3, e_X2_bringNightmares_4, e_X2_bringNightmares_7, e_X2_bringNightmares_10, e_X2_bringNightmares_13, e_X2_bringNightmares_14, e_X2_bringNightmares_17, e_X2_bringNightmares_20, e_X2_bringNightmares_21, e_X2_bringNightmares_22, e_X2_bringNightmares_23, e_X2_bringNightmares_26, e_X2_bringNightmares_27, e_X2_bringNightmares_31, e_X2_bringNightmares_34, e_X2_bringNightmares_35, e_X2_bringNightmares_38, e_X2_bringNightmares_39, e_X2_bringNightmares_40, e_X2_bringNightmares_41, e_X2_bringNightmares_44, e_X2_bringNightmares_45, e_X2_bringNightmares_49_i, e_X2_bringNightmares_49_r, e_X2_bringNightmares_52, e_X2_bringNightmares_55, eq_self, nI10, not_false_eq_true, not_true_eq_false, is2_i, is2_r, is2_n, nI_add, pk_mul, Nat.reduceAdd, Nat.reduceMul]
  rw [g3]
  simp only [e_X2_bringNightmares_0, e_X2_bringNightmares_1_i, e_X2_bringNightmares_1_r, e_X2_bringNightmares_3, e_X2_bringNightmares_4, e_X2_bringNightmares_7, e_X2_bringNightmares_10, e_X2_bringNightmares_13, e_X2_bringNightmares_14, e_X2_bringNightmares_17, e_X2_bringNightmares_20, e_X2_bringNightmares_21, e_X2_bringNightmares_22, e_X2_bringNightmares_23, e_X2_bringNightmares_26, e_X2_bringNightmares_27, e_X2_bringNightmares_31, e_X2_bringNightmares_34, e_X2_bringNightmares_35, e_X2_bringNightmares_38, e_X2_bringNightmares_39, e_X2_bringNightmares_40, e_X2_bringNightmares_41, e_X2_bringNightmares_44, e_X2_bringNightmares_45, e_X2_bringNightmares_49_i, e_X2_bringNightmares_49_r, e_X2_bringNightmares_52, e_X2_bringNightmares_55]
theorem lp_X2_dredge (hb : ai_H b) : ∀ (k c : Nat) (m : Nat → Nat → Int32) (y : HS), c + k = p.2.2.1 → RT p m → RH p y m b → ∃ m', RH p (itN (drStep p) c k y) m' b ∧ Fr b m m' ∧ ∀ r, Rn o (d + 1) zX2_dredge 2 [.ref b, .int (nI c)] [] (ai_w m lg) r = Rn o (d + 1) zX2_dredge 51 [.ref b, .int (nI p.2.2.1)] [] (ai_w m' lg) r := by
  intro k
  induction k with
  | zero =>
    intro n m y hk hp hh
    have : n = p.2.2.1 := by omega
    subst this
    refine ⟨m, hh, Fr.rfl', fun r => ?_⟩
    rw [e_X2_dredge_2]
    simp only [e_X2_dredge_0, e_X2_dredge_1_i, e_X2_dredge_1_r, e_X2_dredge_3, e_X2_dredge_4, e_X2_dredge_7, e_X2_dredge_10, e_X2_dredge_13, e_X2_dredge_14, e_X2_dredge_17, e_X2_dredge_20, e_X2_dredge_21, e_X2_dredge_22, e_X2_dredge_23, e_X2_dredge_26, e_X2_dredge_27, e_X2_dredge_30, e_X2_dredge_31, e_X2_dredge_33, e_X2_dredge_34, e_X2_dredge_37, e_X2_dredge_38, e_X2_dredge_39, e_X2_dredge_40, e_X2_dredge_41, e_X2_dredge_44, e_X2_dredge_45_i, e_X2_dredge_45_r, e_X2_dredge_48, eq_self, nI10, not_false_eq_true, not_true_eq_false, is2_i, is2_r, is2_n, nI_add, pk_mul, Nat.reduceAdd, Nat.reduceMul, hb, ai_T3, hA1 hb, hA2 hb, hA3 hb, hA4 hb, hA5 hb, hL1 hb, hL2 hb, hL3 hb, hL4 hb, hL5 hb, k0_4, k0_5, k0_6, k0_7, k0_8, kl_4, kl_5, kl_6, kl_7, kl_8, hp.2.2.1, Int32.le_refl, if_true]
  | succ k ih =>
    intro c m y hk hp hh
    have hB := hp.1.2.1
    have hlt : c < p.2.2.1 := by omega
    have h4 : c < 4 := by omega
    have hn : ¬ nI p.2.2.1 ≤ nI c := nI_ge hlt (by omega)
    have k1 := hp.1.2.2.2.2.1 c hlt
    have k3 := hh.1.2.2.1 c hlt
    rw [show itN (drStep p) c (k + 1) y = itN (drStep p) (c + 1) k (drStep p c y) from rfl]
    by_cases h : p.2.2.2.1 c = 3
    · have hh1 := hh.de (c := c) (v := min 9 (y.2.2.2.1 c + 1)) (by omega)
      obtain ⟨m', g1, g2, g3⟩ := ih (c + 1) _ _ (by omega) (hp.fr hb (Fr.up (j := 4) (k := c) (v := nI (min 9 (y.2.2.2.1 c + 1))) (by omega))) hh1
      refine ⟨m', ?_, (Fr.up (j := 4) (by omega)).trans g2, fun r => ?_⟩
      · rw [show drStep p c y = _ by unfold drStep; rw [if_pos h]]
        exact g1
      · rw [e_X2_dredge_2, ← g3 r]
        simp only [e_X2_dredge_0, e_X2_dredge_1_i, e_X2_dredge_1_r, e_X2_dredge_3, e_X2_dredge_4, e_X2_dredge_7, e_X2_dredge_10, e_X2_dredge_13, e_X2_dredge_14, e_X2_dredge_17, e_X2_dredge_20, e_X2_dredge_21, e_X2_dredge_22, e_X2_dredge_23, e_X2_dredge_26, e_X2_dredge_27, e_X2_dredge_30, e_X2_dredge_31, e_X2_dredge_33, e_X2_dredge_34, e_X2_dredge_37, e_X2_dredge_38, e_X2_dredge_39, e_X2_dredge_40, e_X2_dredge_41, e_X2_dredge_44, e_X2_dredge_45_i, e_X2_dredge_45_r, e_X2_dredge_48, eq_self, nI10, not_false_eq_true, not_true_eq_false, is2_i, is2_r, is2_n, nI_add, pk_mul, Nat.reduceAdd, Nat.reduceMul, hb, ai_T3, hA1 hb, hA2 hb, hA3 hb, hA4 hb, hA5 hb, hL1 hb, hL2 hb, hL3 hb, hL4 hb, hL5 hb, k0_4, k0_5, k0_6, k0_7, k0_8, kl_4, kl_5, kl_6, kl_7, kl_8, hp.2.2.1, hn, if_false, h4, hp.2.2.2.2.2.1 c hlt, h, hh.2.2.2.2.1 c hlt, mn9 _ k3]
    · obtain ⟨m', g1, g2, g3⟩ := ih (c + 1) m y (by omega) hp hh
      refine ⟨m', ?_, g2, fun r => ?_⟩
      · rw [show drStep p c y = y by unfold drStep; rw [if_neg h]]
        exact g1
      · rw [e_X2_dredge_2, ← g3 r]
        simp only [e_X2_dredge_0, e_X2_dredge_1_i, e_X2_dredge_1_r, e_X2_dredge_3, e_X2_dredge_4, e_X2_dredge_7, e_X2_dredge_10, e_X2_dredge_13, e_X2_dredge_14, e_X2_dredge_17, e_X2_dredge_20, e_X2_dredge_21, e_X2_dredge_22, e_X2_dredge_23, e_X2_dredge_26, e_X2_dredge_27, e_X2_dredge_30, e_X2_dredge_31, e_X2_dredge_33, e_X2_dredge_34, e_X2_dredge_37, e_X2_dredge_38, e_X2_dredge_39, e_X2_dredge_40, e_X2_dredge_41, e_X2_dredge_44, e_X2_dredge_45_i, e_X2_dredge_45_r, e_X2_dredge_48, eq_self, nI10, not_false_eq_true, not_true_eq_false, is2_i, is2_r, is2_n, nI_add, pk_mul, Nat.reduceAdd, Nat.reduceMul, hb, ai_T3, hA1 hb, hA2 hb, hA3 hb, hA4 hb, hA5 hb, hL1 hb, hL2 hb, hL3 hb, hL4 hb, hL5 hb, k0_4, k0_5, k0_6, k0_7, k0_8, kl_4, kl_5, kl_6, kl_7, kl_8, hp.2.2.1, hn, if_false, h4, hp.2.2.2.2.2.1 c hlt, nI_9 (a := p.2.2.2.1 c) (c := 3) (by omega) (by omega), h, if_true]
theorem s_X2_dredge (hb : ai_H b) {m : Nat → Nat → Int32} {y : HS} (hp : RT p m) (hh : RH p y m b) : ∃ m', RH p (itN (drStep p) 0 p.2.2.1 y) m' b ∧ Fr b m m' ∧ Ev o (d + 1) zX2_dredge [.ref b] (ai_w m lg) none (ai_w m' lg) := by
  obtain ⟨m', g1, g2, g3⟩ := lp_X2_dredge (o := o) (d := d) (lg := lg) hb p.2.2.1 0 m y (by omega) hp hh
  refine ⟨m', g1, g2, ?_⟩
  rw [ev_X2_dredge]
  simp only [e_X2_dredge_0, e_X2_dredge_1_i, e_X2_dredge_1_r, e_X2_dredge_3, e_X2_dredge_4, e_X2_dredge_7, e_X2_dredge_10, e_X2_dredge_13, e_X2_dredge_14, e_X2_dredge_17, e_X2_dredge_20, e_X2_dredge_21, e_X2_dredge_22, e_X2_dredge_23, e_X2_dredge_26, e_X2_dredge_27, e_X2_dredge_30, e_X2_dredge_31, e_X2_dredge_33, e_X2_dredge_34, e_X2_dredge_37, e_X2_dredge_38, e_X2_dredge_39, e_X2_dredge_40, e_X2_dredge_41, e_X2_dredge_44, e_X2_dredge_45_i, e_X2_dredge_45_r, e_X2_dredge_48, e_X2_dredge_51, eq_self, nI10, not_false_eq_true, not_true_eq_false, is2_i, is2_r, is2_n, nI_add, pk_mul, Nat.reduceAdd, Nat.reduceMul]
  rw [g3]
  simp only [e_X2_dredge_0, e_X2_dredge_1_i, e_X2_dredge_1_r, e_X2_dredge_3, e_X2_dredge_4, e_X2_dredge_7, e_X2_dredge_10, e_X2_dredge_13, e_X2_dredge_14, e_X2_dredge_17, e_X2_dredge_20, e_X2_dredge_21, e_X2_dredge_22, e_X2_dredge_23, e_X2_dredge_26, e_X2_dredge_27, e_X2_dredge_30, e_X2_dredge_31, e_X2_dredge_33, e_X2_dredge_34, e_X2_dredge_37, e_X2_dredge_38, e_X2_dredge_39, e_X2_dredge_40, e_X2_dredge_41, e_X2_dredge_44, e_X2_dredge_45_i, e_X2_dredge_45_r, e_X2_dredge_48, e_X2_dredge_51]
theorem lp_X2_passNight (hb : ai_H b) {t : Nat} (ht : t ≤ 9) {a4 : Value} : ∀ (k c q : Nat) (m : Nat → Nat → Int32) (y : HS) (a4 : Value), c + k = p.2.2.1 → RT p m → RH p y m b → ∃ m' a4', RH p (itN (nsStep p t) c k y) m' b ∧ Fr b m m' ∧ ∀ r, Rn o (d + 3) zX2_passNight 9 [.ref b, .int (nI q), .int (nI t), .int (nI c), a4] [] (ai_w m lg) r = Rn o (d + 3) zX2_passNight 49 [.ref b, .int (nI (q + nsCnt p t c k y)), .int (nI t), .int (nI p.2.2.1), a4'] [] (ai_w m' lg) r := by
  intro k
  induction k with
  | zero =>
    intro n q m y a4 hk hp hh
    have : n = p.2.2.1 := by omega
    subst this
    refine ⟨m, a4, hh, Fr.rfl', fun r => ?_⟩
    rw [e_X2_passNight_9]
    simp only [e_X2_passNight_0, e_X2_passNight_1_i, e_X2_passNight_1_r, e_X2_passNight_2, e_X2_passNight_6_i, e_X2_passNight_6_r, e_X2_passNight_6_n, e_X2_passNight_7, e_X2_passNight_8_i, e_X2_passNight_8_r, e_X2_passNight_8_n, e_X2_passNight_10, e_X2_passNight_11, e_X2_passNight_14, e_X2_passNight_17, e_X2_passNight_20, e_X2_passNight_21, e_X2_passNight_22, e_X2_passNight_26_i, e_X2_passNight_26_r, e_X2_passNight_26_n, e_X2_passNight_28, e_X2_passNight_29, e_X2_passNight_34, e_X2_passNight_35_i, e_X2_passNight_35_r, e_X2_passNight_36, e_X2_passNight_37, e_X2_passNight_38, e_X2_passNight_43_i, e_X2_passNight_43_r, e_X2_passNight_43_n, e_X2_passNight_46, e_X2_passNight_53, e_X2_passNight_57, e_X2_passNight_61, e_X2_passNight_62, e_X2_passNight_63, e_X2_passNight_66, e_X2_passNight_67, e_X2_passNight_68, e_X2_passNight_71, e_X2_passNight_72, eq_self, nI10, not_false_eq_true, not_true_eq_false, is2_i, is2_r, is2_n, nI_add, pk_mul, Nat.reduceAdd, Nat.reduceMul, hb, ai_T3, hA1 hb, hA2 hb, hA3 hb, hA4 hb, hA5 hb, hL1 hb, hL2 hb, hL3 hb, hL4 hb, hL5 hb, k0_4, k0_5, k0_6, k0_7, k0_8, kl_4, kl_5, kl_6, kl_7, kl_8, hp.2.2.1, Int32.le_refl, if_true, nsCnt, Nat.add_zero]
  | succ k ih =>
    intro c q m y a4 hk hp hh
    have hB := hp.1.2.1
    have hD := hp.1.2.2.1
    have hlt : c < p.2.2.1 := by omega
    have hn : ¬ nI p.2.2.1 ≤ nI c := nI_ge hlt (by omega)
    have hM : mk (dSl p y c t) p.2.2.2.2.1 < 32 := Nat.lt_of_lt_of_le (mk_lt _ _) (Nat.pow_le_pow_right (by decide) hD)
    obtain ⟨m1, f1, f2, f3⟩ := s_X2_sleepIn (o := o) (d := d) (lg := lg) hb (f := dSl p y c t) hlt hp hh
    obtain ⟨m', a4', g1, g2, g3⟩ := ih (c + 1) (q + cn (dSl p y c t) p.2.2.2.2.1) m1 _ (.int (nI (mk (dSl p y c t) p.2.2.2.2.1))) (by omega) (hp.fr hb f2) f1
    refine ⟨m', a4', g1, f2.trans g2, fun r => ?_⟩
    rw [show q + nsCnt p t c (k + 1) y = q + cn (dSl p y c t) p.2.2.2.2.1 + nsCnt p t (c + 1) k (nsStep p t c y) from (Nat.add_assoc _ _ _).symm]
    rw [e_X2_passNight_9]
    refine Eq.trans ?_ (g3 r)
    simp only [e_X2_passNight_0, e_X2_passNight_1_i, e_X2_passNight_1_r, e_X2_passNight_2, e_X2_passNight_6_i, e_X2_passNight_6_r, e_X2_passNight_6_n, e_X2_passNight_7, e_X2_passNight_8_i, e_X2_passNight_8_r, e_X2_passNight_8_n, e_X2_passNight_10, e_X2_passNight_11, e_X2_passNight_14, e_X2_passNight_17, e_X2_passNight_20, e_X2_passNight_21, e_X2_passNight_22, e_X2_passNight_26_i, e_X2_passNight_26_r, e_X2_passNight_26_n, e_X2_passNight_28, e_X2_passNight_29, e_X2_passNight_34, e_X2_passNight_35_i, e_X2_passNight_35_r, e_X2_passNight_36, e_X2_passNight_37, e_X2_passNight_38, e_X2_passNight_43_i, e_X2_passNight_43_r, e_X2_passNight_43_n, e_X2_passNight_46, e_X2_passNight_53, e_X2_passNight_57, e_X2_passNight_61, e_X2_passNight_62, e_X2_passNight_63, e_X2_passNight_66, e_X2_passNight_67, e_X2_passNight_68, e_X2_passNight_71, e_X2_passNight_72, eq_self, nI10, not_false_eq_true, not_true_eq_false, is2_i, is2_r, is2_n, nI_add, pk_mul, Nat.reduceAdd, Nat.reduceMul, hb, ai_T3, hA1 hb, hA2 hb, hA3 hb, hA4 hb, hA5 hb, hL1 hb, hL2 hb, hL3 hb, hL4 hb, hL5 hb, k0_4, k0_5, k0_6, k0_7, k0_8, kl_4, kl_5, kl_6, kl_7, kl_8, hp.2.2.1, hn, if_false, e_X2_passNight_23 (hb := hb) (hE := s_X2_dreamtIn hp hh hb hlt ht), e_X2_passNight_31 (hE := s_bitCount hM), pcn_mk _ hD, e_X2_passNight_40 (hb := hb) (hE := f3)]
theorem s_X2_passNight (hb : ai_H b) {m : Nat → Nat → Int32} {y : HS} (hp : RT p m) (hh : RH p y m b) (hng : y.2.2.2.2.2 + 1 ≤ 1000) : ∃ m', RH p (pNight p y) m' b ∧ Fr b m m' ∧ Ev o (d + 4) zX2_passNight [.ref b] (ai_w m lg) (some (.int (nI (pCnt p y)))) (ai_w m' lg) := by
  obtain ⟨m1, v1, a1, a2, a3⟩ := lp_X2_passNight (o := o) (d := d + 1) (lg := lg) (a4 := .null) hb (pTide_le hp.1 y.2.2.2.2.2) p.2.2.1 0 0 m y .null (by omega) hp hh
  obtain ⟨m2, b1, b2, b3⟩ := s_X2_lieOffLonger (o := o) (d := d + 2) (lg := lg) hb (hp.fr hb a2) a1
  obtain ⟨m3, c1, c2, c3⟩ := s_X2_bringNightmares (o := o) (d := d) (lg := lg) hb ((hp.fr hb a2).fr hb b2) b1
  obtain ⟨m4, d1, d2, d3⟩ := s_X2_dredge (o := o) (d := d + 2) (lg := lg) hb (((hp.fr hb a2).fr hb b2).fr hb c2) c1
  have hd1 : RH p (pDay p y) m4 b := d1
  have hng' : (pDay p y).2.2.2.2.2 + 1 ≤ 1000 := by rw [pDay_ng]; exact hng
  refine ⟨ai_up m4 b 6 (nI ((pDay p y).2.2.2.2.2 + 1)), hd1.ng hng', a2.trans (b2.trans (c2.trans (d2.trans (Fr.up (j := 0) (by omega))))), ?_⟩
  rw [ev_X2_passNight]
  simp only [e_X2_passNight_0, e_X2_passNight_1_i, e_X2_passNight_1_r, e_X2_passNight_2, e_X2_passNight_6_i, e_X2_passNight_6_r, e_X2_passNight_6_n, e_X2_passNight_7, e_X2_passNight_8_i, e_X2_passNight_8_r, e_X2_passNight_8_n, e_X2_passNight_10, e_X2_passNight_11, e_X2_passNight_14, e_X2_passNight_17, e_X2_passNight_20, e_X2_passNight_21, e_X2_passNight_22, e_X2_passNight_26_i, e_X2_passNight_26_r, e_X2_passNight_26_n, e_X2_passNight_28, e_X2_passNight_29, e_X2_passNight_34, e_X2_passNight_35_i, e_X2_passNight_35_r, e_X2_passNight_36, e_X2_passNight_37, e_X2_passNight_38, e_X2_passNight_43_i, e_X2_passNight_43_r, e_X2_passNight_43_n, e_X2_passNight_46, e_X2_passNight_49, e_X2_passNight_53, e_X2_passNight_57, e_X2_passNight_61, e_X2_passNight_62, e_X2_passNight_63, e_X2_passNight_66, e_X2_passNight_67, e_X2_passNight_68, e_X2_passNight_71, e_X2_passNight_72, eq_self, nI10, not_false_eq_true, not_true_eq_false, is2_i, is2_r, is2_n, nI_add, pk_mul, Nat.reduceAdd, Nat.reduceMul, hb, ai_T3, hA1 hb, hA2 hb, hA3 hb, hA4 hb, hA5 hb, hL1 hb, hL2 hb, hL3 hb, hL4 hb, hL5 hb, k0_4, k0_5, k0_6, k0_7, k0_8, kl_4, kl_5, kl_6, kl_7, kl_8, e_X2_passNight_3 (hb := hb) (hE := s_X2_tide hp hh hb)]
  rw [a3]
  simp only [e_X2_passNight_0, e_X2_passNight_1_i, e_X2_passNight_1_r, e_X2_passNight_2, e_X2_passNight_6_i, e_X2_passNight_6_r, e_X2_passNight_6_n, e_X2_passNight_7, e_X2_passNight_8_i, e_X2_passNight_8_r, e_X2_passNight_8_n, e_X2_passNight_10, e_X2_passNight_11, e_X2_passNight_14, e_X2_passNight_17, e_X2_passNight_20, e_X2_passNight_21, e_X2_passNight_22, e_X2_passNight_26_i, e_X2_passNight_26_r, e_X2_passNight_26_n, e_X2_passNight_28, e_X2_passNight_29, e_X2_passNight_34, e_X2_passNight_35_i, e_X2_passNight_35_r, e_X2_passNight_36, e_X2_passNight_37, e_X2_passNight_38, e_X2_passNight_43_i, e_X2_passNight_43_r, e_X2_passNight_43_n, e_X2_passNight_46, e_X2_passNight_49, e_X2_passNight_53, e_X2_passNight_57, e_X2_passNight_61, e_X2_passNight_62, e_X2_passNight_63, e_X2_passNight_66, e_X2_passNight_67, e_X2_passNight_68, e_X2_passNight_71, e_X2_passNight_72, eq_self, nI10, not_false_eq_true, not_true_eq_false, is2_i, is2_r, is2_n, nI_add, pk_mul, Nat.reduceAdd, Nat.reduceMul, hb, ai_T3, hA1 hb, hA2 hb, hA3 hb, hA4 hb, hA5 hb, hL1 hb, hL2 hb, hL3 hb, hL4 hb, hL5 hb, k0_4, k0_5, k0_6, k0_7, k0_8, kl_4, kl_5, kl_6, kl_7, kl_8, e_X2_passNight_50 (hb := hb) (hE := b3), e_X2_passNight_54 (hb := hb) (hE := c3), e_X2_passNight_58 (hb := hb) (hE := d3), hd1.2.2.2.2.2.2, Nat.zero_add, pCnt]
theorem s_X2_towOut (hb : ai_H b) {m : Nat → Nat → Int32} {y : HS} {dd : Nat} (hp : RT p m) (hh : RH p y m b) (hd : dd < p.2.2.2.2.1) : ∃ m', RH p (va_up y.1 dd 8, va_up y.2.1 dd (nI 0), y.2.2) m' b ∧ Fr b m m' ∧ Ev o d zX2_towOut [.ref b, .int (nI dd)] (ai_w m lg) none (ai_w m' lg) := by
  have h5 : dd < 5 := by have := hp.1.2.2.1; omega
  refine ⟨ai_up (ai_up m (b + 1) dd (nI 8)) (b + 2) dd (nI 0), (hh.pl (dd := dd) (v := 8) (Or.inr (Or.inl rfl))).la, (Fr.up (j := 1) (by omega)).trans (Fr.up (j := 2) (by omega)), ?_⟩
  rw [ev_X2_towOut]
  simp only [e_X2_towOut_0, e_X2_towOut_1, e_X2_towOut_4, e_X2_towOut_5, e_X2_towOut_7, e_X2_towOut_8, e_X2_towOut_9, e_X2_towOut_12, e_X2_towOut_13, e_X2_towOut_14, e_X2_towOut_15, eq_self, nI10, not_false_eq_true, not_true_eq_false, is2_i, is2_r, is2_n, nI_add, pk_mul, Nat.reduceAdd, Nat.reduceMul, hb, ai_T3, hA1 hb, hA2 hb, hA3 hb, hA4 hb, hA5 hb, hL1 hb, hL2 hb, hL3 hb, hL4 hb, hL5 hb, k0_4, k0_5, k0_6, k0_7, k0_8, kl_4, kl_5, kl_6, kl_7, kl_8, h5]
def pDoMoor (p : PT) (y : HS) (k1 k2 : Int32) : HS := if pMoor p y k1 k2 = true then (va_up y.1 k1.toNatClampNeg k2.toNatClampNeg, y.2) else y
def pDoTow (p : PT) (y : HS) (k : Int32) : HS := if pTow p y k = true then (va_up y.1 k.toNatClampNeg 8, va_up y.2.1 k.toNatClampNeg (nI 0), y.2.2) else y
theorem pMoor_ix {p : PT} {y : HS} {k1 k2 : Int32} (h : pMoor p y k1 k2 = true) : ixB k1 p.2.2.2.2.1 = true ∧ ixB k2 p.2.2.1 = true := by
  unfold pMoor at h
  simp only [Bool.and_eq_true] at h
  exact ⟨h.1, h.2.1⟩
theorem s_X2_moors (hb : ai_H b) {m : Nat → Nat → Int32} {y : HS} {k1 k2 : Int32} (hp : RT p m) (hh : RH p y m b) : ∃ m', RH p (pDoMoor p y k1 k2) m' b ∧ Fr b m m' ∧ Ev o (d + 3) zX2_moors [.ref b, .int k1, .int k2] (ai_w m lg) (some (.int (bI (pMoor p y k1 k2)))) (ai_w m' lg) := by
  have hD := hp.1.2.2.1
  have hB := hp.1.2.1
  cases h : pMoor p y k1 k2
  · refine ⟨m, by rw [show pDoMoor p y k1 k2 = y by unfold pDoMoor; rw [h]; rfl]; exact hh, Fr.rfl', ?_⟩
    rw [ev_X2_moors]
    simp only [e_X2_moors_0, e_X2_moors_1, e_X2_moors_2, e_X2_moors_6, e_X2_moors_9, e_X2_moors_10, e_X2_moors_11, e_X2_moors_12, e_X2_moors_15, e_X2_moors_16, e_X2_moors_17, e_X2_moors_18, e_X2_moors_19, eq_self, nI10, not_false_eq_true, not_true_eq_false, is2_i, is2_r, is2_n, nI_add, pk_mul, Nat.reduceAdd, Nat.reduceMul, hb, ai_T3, hA1 hb, hA2 hb, hA3 hb, hA4 hb, hA5 hb, hL1 hb, hL2 hb, hL3 hb, hL4 hb, hL5 hb, k0_4, k0_5, k0_6, k0_7, k0_8, kl_4, kl_5, kl_6, kl_7, kl_8, e_X2_moors_3 (hb := hb) (hE := s_X2_canMoor hp hh hb), h, bI_z, if_false, nar_0, bI_f]
  · obtain ⟨h1, h2⟩ := pMoor_ix h
    obtain ⟨dd, hd, rfl⟩ := ix_of h1 (by omega)
    obtain ⟨c, hc, rfl⟩ := ix_of h2 (by omega)
    have h5 : dd < 5 := by omega
    refine ⟨ai_up m (b + 1) dd (nI c), ?_, Fr.up (by omega), ?_⟩
    · rw [show pDoMoor p y (nI dd) (nI c) = (va_up y.1 dd c, y.2) by unfold pDoMoor; rw [if_pos h, nI_clamp (by omega), nI_clamp (by omega)]]
      exact hh.pl (Or.inl hc)
    · rw [ev_X2_moors]
      simp only [e_X2_moors_0, e_X2_moors_1, e_X2_moors_2, e_X2_moors_6, e_X2_moors_9, e_X2_moors_10, e_X2_moors_11, e_X2_moors_12, e_X2_moors_15, e_X2_moors_16, e_X2_moors_17, e_X2_moors_18, e_X2_moors_19, eq_self, nI10, not_false_eq_true, not_true_eq_false, is2_i, is2_r, is2_n, nI_add, pk_mul, Nat.reduceAdd, Nat.reduceMul, hb, ai_T3, hA1 hb, hA2 hb, hA3 hb, hA4 hb, hA5 hb, hL1 hb, hL2 hb, hL3 hb, hL4 hb, hL5 hb, k0_4, k0_5, k0_6, k0_7, k0_8, kl_4, kl_5, kl_6, kl_7, kl_8, e_X2_moors_3 (hb := hb) (hE := s_X2_canMoor hp hh hb), h, bI_z, Bool.true_eq_false, if_true, nar_1, bI_t, h5]
theorem s_X2_tows (hb : ai_H b) {m : Nat → Nat → Int32} {y : HS} {k : Int32} (hp : RT p m) (hh : RH p y m b) : ∃ m', RH p (pDoTow p y k) m' b ∧ Fr b m m' ∧ Ev o (d + 3) zX2_tows [.ref b, .int k] (ai_w m lg) (some (.int (bI (pTow p y k)))) (ai_w m' lg) := by
  have hD := hp.1.2.2.1
  cases h : pTow p y k
  · refine ⟨m, by rw [show pDoTow p y k = y by unfold pDoTow; rw [h]; rfl]; exact hh, Fr.rfl', ?_⟩
    rw [ev_X2_tows]
    simp only [e_X2_tows_0, e_X2_tows_1, e_X2_tows_5, e_X2_tows_8, e_X2_tows_9, e_X2_tows_10, e_X2_tows_11, e_X2_tows_15, e_X2_tows_16, eq_self, nI10, not_false_eq_true, not_true_eq_false, is2_i, is2_r, is2_n, nI_add, pk_mul, Nat.reduceAdd, Nat.reduceMul, hb, ai_T3, hA1 hb, hA2 hb, hA3 hb, hA4 hb, hA5 hb, hL1 hb, hL2 hb, hL3 hb, hL4 hb, hL5 hb, k0_4, k0_5, k0_6, k0_7, k0_8, kl_4, kl_5, kl_6, kl_7, kl_8, e_X2_tows_2 (hb := hb) (hE := s_X2_canTow hp hh hb), h, bI_z, if_false, nar_0, bI_f]
  · have h1 : ixB k p.2.2.2.2.1 = true := by
      unfold pTow at h
      simp only [Bool.and_eq_true] at h
      exact h.1
    obtain ⟨dd, hd, rfl⟩ := ix_of h1 (by omega)
    obtain ⟨m', g1, g2, g3⟩ := s_X2_towOut (o := o) (d := d + 2) (lg := lg) hb hp hh hd
    refine ⟨m', ?_, g2, ?_⟩
    · rw [show pDoTow p y (nI dd) = (va_up y.1 dd 8, va_up y.2.1 dd (nI 0), y.2.2) by unfold pDoTow; rw [if_pos h, nI_clamp (by omega)]]
      exact g1
    · rw [ev_X2_tows]
      simp only [e_X2_tows_0, e_X2_tows_1, e_X2_tows_5, e_X2_tows_8, e_X2_tows_9, e_X2_tows_10, e_X2_tows_11, e_X2_tows_15, e_X2_tows_16, eq_self, nI10, not_false_eq_true, not_true_eq_false, is2_i, is2_r, is2_n, nI_add, pk_mul, Nat.reduceAdd, Nat.reduceMul, hb, ai_T3, hA1 hb, hA2 hb, hA3 hb, hA4 hb, hA5 hb, hL1 hb, hL2 hb, hL3 hb, hL4 hb, hL5 hb, k0_4, k0_5, k0_6, k0_7, k0_8, kl_4, kl_5, kl_6, kl_7, kl_8, e_X2_tows_2 (hb := hb) (hE := s_X2_canTow hp hh hb), h, bI_z, Bool.true_eq_false, if_true, nar_1, bI_t, e_X2_tows_12 (hb := hb) (hE := g3)]
end P34
