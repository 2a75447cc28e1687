/-! Planner -/
def iI (z : Int) : Int32 := Int32.ofInt z
theorem ii_le0 : ∀ i : Nat, i < 41 → ∀ j : Nat, j < 41 → (iI ((i : Int) - 20) ≤ iI ((j : Int) - 20) ↔ i ≤ j) := by decide +kernel
theorem ii_lt0 : ∀ i : Nat, i < 41 → ∀ j : Nat, j < 41 → (iI ((i : Int) - 20) < iI ((j : Int) - 20) ↔ i < j) := by decide +kernel
theorem ii_m0 : ∀ i : Nat, i < 41 → iI ((i : Int) - 20) - nI 1 = iI ((i : Int) - 20 - 1) := by decide +kernel
theorem ii_n : ∀ n : Nat, n < 41 → nI n = iI (n : Int) := by decide +kernel
theorem ii_s0 : ∀ i : Nat, i < 10 → ∀ j : Nat, j < 10 → nI i - nI j = iI ((i : Int) - (j : Int)) := by decide +kernel
theorem ii_le {a b : Int} (ha : -20 ≤ a ∧ a ≤ 20) (hb : -20 ≤ b ∧ b ≤ 20) : (iI a ≤ iI b) = (a ≤ b) := by
  obtain ⟨i, rfl⟩ : ∃ i : Nat, a = (i : Int) - 20 := ⟨(a + 20).toNat, by omega⟩
  obtain ⟨j, rfl⟩ : ∃ j : Nat, b = (j : Int) - 20 := ⟨(b + 20).toNat, by omega⟩
  exact propext ((ii_le0 i (by omega) j (by omega)).trans (by omega))
theorem ii_lt {a b : Int} (ha : -20 ≤ a ∧ a ≤ 20) (hb : -20 ≤ b ∧ b ≤ 20) : (iI a < iI b) = (a < b) := by
  obtain ⟨i, rfl⟩ : ∃ i : Nat, a = (i : Int) - 20 := ⟨(a + 20).toNat, by omega⟩
  obtain ⟨j, rfl⟩ : ∃ j : Nat, b = (j : Int) - 20 := ⟨(b + 20).toNat, by omega⟩
  exact propext ((ii_lt0 i (by omega) j (by omega)).trans (by omega))
theorem ii_m {a : Int} (ha : -20 ≤ a ∧ a ≤ 20) : iI a - nI 1 = iI (a - 1) := by
  obtain ⟨i, rfl⟩ : ∃ i : Nat, a = (i : Int) - 20 := ⟨(a + 20).toNat, by omega⟩
  exact ii_m0 i (by omega)
/-- the planner's cells: which berths have come, most so far, the way -/
def RP (C : Nat) (s : Int × Nat) (m : Nat → Nat → Int32) : Prop := m 117 2 = nI C ∧ m 117 3 = iI s.1 ∧ m 117 4 = nI s.2
def plC (p : PT) (C : Nat) (x : HS) (c : Nat) : Nat := if C / 2 ^ c % 2 = 1 then cn (dSl p x c (pTide p x.2.2.2.2.2)) p.2.2.2.2.1 else 0
def pWeigh (p : PT) (C : Nat) (x : HS) (bg : Nat) (s : Int × Nat) : Int × Nat := if s.1 < (sumN (plC p C x) p.2.2.1 : Int) then ((sumN (plC p C x) p.2.2.1 : Int), bg) else s
def pWorth (p : PT) (C : Nat) (x : HS) (dd c : Nat) : Bool := decide (C / 2 ^ c % 2 = 1) && (pCan p x dd c && decide (x.2.2.1 dd ≤ pWater p x c))
/-- berths one by one: f tells what comes of the ways that begin so -/
def plLoop (p : PT) (C : Nat) (x : HS) (dd : Nat) (f : Nat → (Int × Nat) → (Int × Nat)) : Nat → Nat → (Int × Nat) → (Int × Nat)
  | _, 0, s => s
  | c, k + 1, s => plLoop p C x dd f (c + 1) k (if pWorth p C x dd c = true then f c s else s)
def pCho (p : PT) (C : Nat) : Nat → Nat → Nat → Int → HS → (Int × Nat) → (Int × Nat)
  | 0, _, bg, h, x, s => if h ≤ s.1 then s else pWeigh p C x bg s
  | k + 1, dd, bg, h, x, s => if h ≤ s.1 then s else if x.1 dd = 8 then
      plLoop p C x dd (fun c s => pCho p C k (dd + 1) (10 * bg + c + 1) h (va_up x.1 dd c, x.2) s) 0 p.2.2.1 (pCho p C k (dd + 1) (10 * bg) (h - 1) x s)
      else pCho p C k (dd + 1) bg h x s
theorem plC_le (p : PT) (C : Nat) (x : HS) (hD : p.2.2.2.2.1 ≤ 5) : ∀ n, sumN (plC p C x) n ≤ 5 * n := by
  intro n
  induction n with
  | zero => exact Nat.le_refl 0
  | succ n ih =>
    have : plC p C x n ≤ 5 := by
      unfold plC
      split
      · exact Nat.le_trans (cn_le _ _) hD
      · omega
    unfold sumN
    omega
/-- most is somewhere -/
def plOk (s : Int × Nat) : Prop := -9 ≤ s.1 ∧ s.1 ≤ 20
section P39
variable {o : ai_S} {d : Nat} {w : ai_W} {m : Nat → Nat → Int32} {lg : Nat → Nat → Int64} {p : PT} {x : HS} {C : Nat} {r : Option Value × ai_W}
theorem s_X3_isWorthwhile {s : Int × Nat} (hp : RT p m) (hh : RH p x m 21) (hP : RP C s m) (hC : C < 32) {dd c : Nat} (hd : dd < p.2.2.2.2.1) (hc : c < p.2.2.1) : Ev o (d + 4) zX3_isWorthwhile [.ref 117, .int (nI dd), .int (nI c)] (ai_w m lg) (some (.int (bI (pWorth p C x dd c)))) (ai_w m lg) := by
  have hB := hp.1.2.1
  have hD := hp.1.2.2.1
  have h5 : dd < 5 := by omega
  have c5 : c < 5 := by omega
  have k3 := (hh.1.2.1 dd hd).2
  have hw : pWater p x c ≤ 18 := by
    have := hh.1.2.2.1 c hc
    have := pTide_le hp.1 x.2.2.2.2.2
    unfold pWater
    omega
  have e3 : (nI (pWater p x c) < nI (x.2.2.1 dd)) = (pWater p x c < x.2.2.1 dd) := propext (nI_ltI (by omega) (by omega))
  have zz : ¬ nI 0 = nI 1 := by decide
  have A3 := hA3 ai_H21
  have L3 := hL3 ai_H21
  have r3 := hh.2.2.2.1 dd hd
  rw [ev_X3_isWorthwhile]
  simp only [e_X3_isWorthwhile_0, e_X3_isWorthwhile_1, e_X3_isWorthwhile_4, e_X3_isWorthwhile_5, e_X3_isWorthwhile_6, e_X3_isWorthwhile_7, e_X3_isWorthwhile_8, e_X3_isWorthwhile_9, e_X3_isWorthwhile_12, e_X3_isWorthwhile_13, e_X3_isWorthwhile_16, e_X3_isWorthwhile_17, e_X3_isWorthwhile_21, e_X3_isWorthwhile_24, e_X3_isWorthwhile_25, e_X3_isWorthwhile_28, e_X3_isWorthwhile_31, e_X3_isWorthwhile_32, e_X3_isWorthwhile_33, e_X3_isWorthwhile_34, e_X3_isWorthwhile_37, e_X3_isWorthwhile_41, e_X3_isWorthwhile_44, e_X3_isWorthwhile_45, e_X3_isWorthwhile_48, e_X3_isWorthwhile_49, eq_self, nI10, not_false_eq_true, not_true_eq_false, is2_i, is2_r, is2_n, nI_add, pk_mul, Nat.reduceAdd, Nat.reduceMul, ai_H21, A3, L3, hP.1, sh_bit C hC c c5, h5, r3, e_X3_isWorthwhile_18 (hb := ai_H21) (hE := s_X2_canBe hp hh ai_H21 hd hc), e_X3_isWorthwhile_38 (hb := ai_H21) (hE := s_X2_water hp hh ai_H21 hc), bI_z, e3, nar_0, nar_1]
  unfold pWorth
  by_cases h1 : C / 2 ^ c % 2 = 1
  · cases h2 : pCan p x dd c
    · simp [h1, bI]
    · by_cases h3 : pWater p x c < x.2.2.1 dd
      · simp [h1, h3, Nat.not_le.mpr h3, bI]
      · simp [h1, h3, Nat.not_lt.mp h3, bI]
  · have h0 : C / 2 ^ c % 2 = 0 := by omega
    simp [h0, zz, bI]
theorem lp_X3_weigh {s : Int × Nat} {bg : Nat} (hp : RT p m) (hh : RH p x m 21) (hP : RP C s m) (hC : C < 32) : ∀ k c, c + k = p.2.2.1 → Rn o (d + 3) zX3_weigh 4 [.ref 117, .int (nI bg), .int (nI (sumN (plC p C x) c)), .int (nI c)] [] (ai_w m lg) r = Rn o (d + 3) zX3_weigh 54 [.ref 117, .int (nI bg), .int (nI (sumN (plC p C x) p.2.2.1)), .int (nI p.2.2.1)] [] (ai_w m lg) r := by
  have hB := hp.1.2.1
  have hD := hp.1.2.2.1
  have zz : ¬ nI 0 = nI 1 := by decide
  intro k
  induction k with
  | zero =>
    intro c hk
    have : c = p.2.2.1 := by omega
    subst this
    rw [e_X3_weigh_4]
    simp only [e_X3_weigh_0, e_X3_weigh_1_i, e_X3_weigh_1_r, e_X3_weigh_1_n, e_X3_weigh_2, e_X3_weigh_3_i, e_X3_weigh_3_r, e_X3_weigh_3_n, e_X3_weigh_5, e_X3_weigh_6, e_X3_weigh_9, e_X3_weigh_12, e_X3_weigh_15, e_X3_weigh_16, e_X3_weigh_19, e_X3_weigh_20, e_X3_weigh_21, e_X3_weigh_22, e_X3_weigh_23, e_X3_weigh_24, e_X3_weigh_27, e_X3_weigh_28, e_X3_weigh_29, e_X3_weigh_32, e_X3_weigh_33, e_X3_weigh_34, e_X3_weigh_46, e_X3_weigh_47_i, e_X3_weigh_47_r, e_X3_weigh_47_n, e_X3_weigh_48_i, e_X3_weigh_48_r, e_X3_weigh_48_n, e_X3_weigh_51, e_X3_weigh_55, e_X3_weigh_56, e_X3_weigh_59, e_X3_weigh_62, e_X3_weigh_63, e_X3_weigh_64, e_X3_weigh_67, e_X3_weigh_68, e_X3_weigh_69, e_X3_weigh_72, eq_self, nI10, not_false_eq_true, not_true_eq_false, is2_i, is2_r, is2_n, nI_add, pk_mul, Nat.reduceAdd, Nat.reduceMul, ai_T3, hp.2.2.1, Int32.le_refl, if_true]
  | succ k ih =>
    intro c hk
    have hlt : c < p.2.2.1 := by omega
    have c5 : c < 5 := by omega
    have hn : ¬ nI p.2.2.1 ≤ nI c := nI_ge hlt (by omega)
    have hM : mk (dSl p x c (pTide p x.2.2.2.2.2)) p.2.2.2.2.1 < 32 := Nat.lt_of_lt_of_le (mk_lt _ _) (Nat.pow_le_pow_right (by decide) hD)
    rw [e_X3_weigh_4, ← ih (c + 1) (by omega), show sumN (plC p C x) (c + 1) = sumN (plC p C x) c + plC p C x c from rfl]
    by_cases h1 : C / 2 ^ c % 2 = 1
    · simp only [e_X3_weigh_0, e_X3_weigh_1_i, e_X3_weigh_1_r, e_X3_weigh_1_n, e_X3_weigh_2, e_X3_weigh_3_i, e_X3_weigh_3_r, e_X3_weigh_3_n, e_X3_weigh_5, e_X3_weigh_6, e_X3_weigh_9, e_X3_weigh_12, e_X3_weigh_15, e_X3_weigh_16, e_X3_weigh_19, e_X3_weigh_20, e_X3_weigh_21, e_X3_weigh_22, e_X3_weigh_23, e_X3_weigh_24, e_X3_weigh_27, e_X3_weigh_28, e_X3_weigh_29, e_X3_weigh_32, e_X3_weigh_33, e_X3_weigh_34, e_X3_weigh_46, e_X3_weigh_47_i, e_X3_weigh_47_r, e_X3_weigh_47_n, e_X3_weigh_48_i, e_X3_weigh_48_r, e_X3_weigh_48_n, e_X3_weigh_51, e_X3_weigh_55, e_X3_weigh_56, e_X3_weigh_59, e_X3_weigh_62, e_X3_weigh_63, e_X3_weigh_64, e_X3_weigh_67, e_X3_weigh_68, e_X3_weigh_69, e_X3_weigh_72, eq_self, nI10, not_false_eq_true, not_true_eq_false, is2_i, is2_r, is2_n, nI_add, pk_mul, Nat.reduceAdd, Nat.reduceMul, ai_T3, hp.2.2.1, hn, if_false, hP.1, sh_bit C hC c c5, h1, e_X3_weigh_37 (hb := ai_H21) (hE := s_X2_tide hp hh ai_H21), e_X3_weigh_40 (hb := ai_H21) (hE := s_X2_dreamtIn hp hh ai_H21 hlt (pTide_le hp.1 _)), e_X3_weigh_43 (hE := s_bitCount hM), pcn_mk _ hD, plC, if_true]
    · have h0 : C / 2 ^ c % 2 = 0 := by omega
      simp only [e_X3_weigh_0, e_X3_weigh_1_i, e_X3_weigh_1_r, e_X3_weigh_1_n, e_X3_weigh_2, e_X3_weigh_3_i, e_X3_weigh_3_r, e_X3_weigh_3_n, e_X3_weigh_5, e_X3_weigh_6, e_X3_weigh_9, e_X3_weigh_12, e_X3_weigh_15, e_X3_weigh_16, e_X3_weigh_19, e_X3_weigh_20, e_X3_weigh_21, e_X3_weigh_22, e_X3_weigh_23, e_X3_weigh_24, e_X3_weigh_27, e_X3_weigh_28, e_X3_weigh_29, e_X3_weigh_32, e_X3_weigh_33, e_X3_weigh_34, e_X3_weigh_46, e_X3_weigh_47_i, e_X3_weigh_47_r, e_X3_weigh_47_n, e_X3_weigh_48_i, e_X3_weigh_48_r, e_X3_weigh_48_n, e_X3_weigh_51, e_X3_weigh_55, e_X3_weigh_56, e_X3_weigh_59, e_X3_weigh_62, e_X3_weigh_63, e_X3_weigh_64, e_X3_weigh_67, e_X3_weigh_68, e_X3_weigh_69, e_X3_weigh_72, eq_self, nI10, not_false_eq_true, not_true_eq_false, is2_i, is2_r, is2_n, nI_add, pk_mul, Nat.reduceAdd, Nat.reduceMul, ai_T3, hp.2.2.1, hn, if_false, hP.1, sh_bit C hC c c5, h0, zz, if_true, plC, show ((0 : Nat) = 1) = False by simp, Nat.add_zero]
theorem s_X3_weigh {s : Int × Nat} {bg : Nat} (hp : RT p m) (hh : RH p x m 21) (hP : RP C s m) (hC : C < 32) (hs : plOk s) : ∃ m', RP C (pWeigh p C x bg s) m' ∧ FrS (fun i => i = 117) m m' ∧ Ev o (d + 3) zX3_weigh [.ref 117, .int (nI bg)] (ai_w m lg) none (ai_w m' lg) := by
  have hB := hp.1.2.1
  have hle := plC_le p C x hp.1.2.2.1 p.2.2.1
  have e1 := ii_n (sumN (plC p C x) p.2.2.1) (by omega)
  have e2 := ii_le (a := (sumN (plC p C x) p.2.2.1 : Int)) (b := s.1) (by omega) ⟨by have := hs.1; omega, hs.2⟩
  have pre : ∀ r, Rn o (d + 3) zX3_weigh 0 [.ref 117, .int (nI bg), .null, .null] [] (ai_w m lg) r = Rn o (d + 3) zX3_weigh 54 [.ref 117, .int (nI bg), .int (iI (sumN (plC p C x) p.2.2.1 : Int)), .int (nI p.2.2.1)] [] (ai_w m lg) r := fun r => by
    simp only [e_X3_weigh_0, e_X3_weigh_1_i, e_X3_weigh_1_r, e_X3_weigh_1_n, e_X3_weigh_2, e_X3_weigh_3_i, e_X3_weigh_3_r, e_X3_weigh_3_n, e_X3_weigh_5, e_X3_weigh_6, e_X3_weigh_9, e_X3_weigh_12, e_X3_weigh_15, e_X3_weigh_16, e_X3_weigh_19, e_X3_weigh_20, e_X3_weigh_21, e_X3_weigh_22, e_X3_weigh_23, e_X3_weigh_24, e_X3_weigh_27, e_X3_weigh_28, e_X3_weigh_29, e_X3_weigh_32, e_X3_weigh_33, e_X3_weigh_34, e_X3_weigh_46, e_X3_weigh_47_i, e_X3_weigh_47_r, e_X3_weigh_47_n, e_X3_weigh_48_i, e_X3_weigh_48_r, e_X3_weigh_48_n, e_X3_weigh_51, e_X3_weigh_55, e_X3_weigh_56, e_X3_weigh_59, e_X3_weigh_62, e_X3_weigh_63, e_X3_weigh_64, e_X3_weigh_67, e_X3_weigh_68, e_X3_weigh_69, e_X3_weigh_72, eq_self, nI10, not_false_eq_true, not_true_eq_false, is2_i, is2_r, is2_n, nI_add, pk_mul, Nat.reduceAdd, Nat.reduceMul]
    have := lp_X3_weigh (o := o) (d := d) (lg := lg) (r := r) (bg := bg) hp hh hP hC p.2.2.1 0 (by omega)
    rw [show sumN (plC p C x) 0 = 0 from rfl] at this
    rw [this, e1]
  by_cases h : s.1 < (sumN (plC p C x) p.2.2.1 : Int)
  · refine ⟨ai_up (ai_up m 117 3 (iI (sumN (plC p C x) p.2.2.1 : Int))) 117 4 (nI bg), ?_, fun i hi => by rw [up_ne hi, up_ne hi], ?_⟩
    · unfold pWeigh
      rw [if_pos h]
      exact ⟨by rw [up_eq, if_neg (by decide), up_eq, if_neg (by decide)]; exact hP.1, by rw [up_eq, if_neg (by decide), up_eq, if_pos rfl], by rw [up_eq, if_pos rfl]⟩
    · rw [ev_X3_weigh, pre]
      simp only [e_X3_weigh_0, e_X3_weigh_1_i, e_X3_weigh_1_r, e_X3_weigh_1_n, e_X3_weigh_2, e_X3_weigh_3_i, e_X3_weigh_3_r, e_X3_weigh_3_n, e_X3_weigh_5, e_X3_weigh_6, e_X3_weigh_9, e_X3_weigh_12, e_X3_weigh_15, e_X3_weigh_16, e_X3_weigh_19, e_X3_weigh_20, e_X3_weigh_21, e_X3_weigh_22, e_X3_weigh_23, e_X3_weigh_24, e_X3_weigh_27, e_X3_weigh_28, e_X3_weigh_29, e_X3_weigh_32, e_X3_weigh_33, e_X3_weigh_34, e_X3_weigh_46, e_X3_weigh_47_i, e_X3_weigh_47_r, e_X3_weigh_47_n, e_X3_weigh_48_i, e_X3_weigh_48_r, e_X3_weigh_48_n, e_X3_weigh_51, e_X3_weigh_54, e_X3_weigh_55, e_X3_weigh_56, e_X3_weigh_59, e_X3_weigh_62, e_X3_weigh_63, e_X3_weigh_64, e_X3_weigh_67, e_X3_weigh_68, e_X3_weigh_69, e_X3_weigh_72, eq_self, nI10, not_false_eq_true, not_true_eq_false, is2_i, is2_r, is2_n, nI_add, pk_mul, Nat.reduceAdd, Nat.reduceMul, hP.2.1, e2, Int.not_le.mpr h, if_false]
  · refine ⟨m, by unfold pWeigh; rw [if_neg h]; exact hP, fun _ _ => rfl, ?_⟩
    rw [ev_X3_weigh, pre]
    simp only [e_X3_weigh_0, e_X3_weigh_1_i, e_X3_weigh_1_r, e_X3_weigh_1_n, e_X3_weigh_2, e_X3_weigh_3_i, e_X3_weigh_3_r, e_X3_weigh_3_n, e_X3_weigh_5, e_X3_weigh_6, e_X3_weigh_9, e_X3_weigh_12, e_X3_weigh_15, e_X3_weigh_16, e_X3_weigh_19, e_X3_weigh_20, e_X3_weigh_21, e_X3_weigh_22, e_X3_weigh_23, e_X3_weigh_24, e_X3_weigh_27, e_X3_weigh_28, e_X3_weigh_29, e_X3_weigh_32, e_X3_weigh_33, e_X3_weigh_34, e_X3_weigh_46, e_X3_weigh_47_i, e_X3_weigh_47_r, e_X3_weigh_47_n, e_X3_weigh_48_i, e_X3_weigh_48_r, e_X3_weigh_48_n, e_X3_weigh_51, e_X3_weigh_54, e_X3_weigh_55, e_X3_weigh_56, e_X3_weigh_59, e_X3_weigh_62, e_X3_weigh_63, e_X3_weigh_64, e_X3_weigh_67, e_X3_weigh_68, e_X3_weigh_69, e_X3_weigh_72, eq_self, nI10, not_false_eq_true, not_true_eq_false, is2_i, is2_r, is2_n, nI_add, pk_mul, Nat.reduceAdd, Nat.reduceMul, hP.2.1, e2, Int.not_lt.mp h, if_true]
theorem pWeigh_ok {s : Int × Nat} {bg : Nat} (hp : ptOk p) (hs : plOk s) : plOk (pWeigh p C x bg s) := by
  have hle := plC_le p C x hp.2.2.1 p.2.2.1
  have hB := hp.2.1
  unfold pWeigh
  split
  · exact ⟨by show (-9 : Int) ≤ _; omega, by show (_ : Int) ≤ 20; omega⟩
  · exact hs
theorem plLoop_ok {dd : Nat} {f : Nat → (Int × Nat) → (Int × Nat)} (hf : ∀ c s, plOk s → plOk (f c s)) : ∀ k c s, plOk s → plOk (plLoop p C x dd f c k s) := by
  intro k
  induction k with
  | zero => intro c s h; exact h
  | succ k ih =>
    intro c s h
    unfold plLoop
    apply ih
    split
    · exact hf c s h
    · exact h
theorem pCho_ok (hp : ptOk p) : ∀ k dd bg h x s, plOk s → plOk (pCho p C k dd bg h x s) := by
  intro k
  induction k with
  | zero =>
    intro dd bg h x s hs
    unfold pCho
    split
    · exact hs
    · exact pWeigh_ok hp hs
  | succ k ih =>
    intro dd bg h x s hs
    unfold pCho
    split
    · exact hs
    · split
      · exact plLoop_ok (fun c s hs => ih _ _ _ _ _ hs) _ _ _ (ih _ _ _ _ _ hs)
      · exact ih _ _ _ _ _ hs
/-- what a choice leaves unchanged -/
abbrev plF : Nat → Prop := fun i => i = 117 ∨ (21 ≤ i ∧ i ≤ 26)
theorem FrS.trans {S : Nat → Prop} {m m1 m2 : Nat → Nat → Int32} (h1 : FrS S m m1) (h2 : FrS S m1 m2) : FrS S m m2 := fun i hi => (h2 i hi).trans (h1 i hi)
theorem RT.frS {m' : Nat → Nat → Int32} {S : Nat → Prop} (h : RT p m) (hf : FrS S m m') (hS : ∀ i, i ≤ 8 → ¬ S i) : RT p m' := by
  obtain ⟨h0, h1, h2, h3, h4, h5, h6⟩ := h
  exact ⟨h0, by rw [hf 3 (hS 3 (by omega))]; exact h1, by rw [hf 3 (hS 3 (by omega))]; exact h2, by rw [hf 3 (hS 3 (by omega))]; exact h3, fun t ht => by rw [hf 4 (hS 4 (by omega))]; exact h4 t ht, fun t ht => by rw [hf 6 (hS 6 (by omega))]; exact h5 t ht, fun t ht => by rw [hf 8 (hS 8 (by omega))]; exact h6 t ht⟩
theorem plF8 : ∀ i, i ≤ 8 → ¬ plF i := fun i hi h => by rcases h with h | h <;> omega
/-- the contract of choose at k dreams to go -/
def ChoOk (o : ai_S) (lg : Nat → Nat → Int64) (p : PT) (C k : Nat) : Prop := ∀ (d dd bg : Nat) (h : Int) (x : HS) (s : Int × Nat) (m : Nat → Nat → Int32), dd + k = p.2.2.2.2.1 → RT p m → RH p x m 21 → RP C s m → plOk s → -10 ≤ h - k → h ≤ 10 → ∃ m', RH p x m' 21 ∧ RP C (pCho p C k dd bg h x s) m' ∧ FrS plF m m' ∧ Ev o (d + k + 5) zX3_choose [.ref 117, .int (nI dd), .int (nI bg), .int (iI h)] (ai_w m lg) none (ai_w m' lg)
theorem cho_0 (hC : C < 32) : ChoOk o lg p C 0 := by
  intro d dd bg h x s m hk hp hh hP hs h1 h2
  have e1 := ii_lt (a := s.1) (b := h) ⟨by have := hs.1; omega, hs.2⟩ (by omega)
  have hD := hp.1.2.2.1
  have hn : ¬ nI dd < nI p.2.2.2.2.1 := nI_nlt (by omega) (by omega)
  by_cases hl : h ≤ s.1
  · refine ⟨m, hh, by unfold pCho; rw [if_pos hl]; exact hP, fun _ _ => rfl, ?_⟩
    rw [ev_X3_choose]
    simp only [e_X3_choose_0, e_X3_choose_1, e_X3_choose_2, e_X3_choose_5, e_X3_choose_8, e_X3_choose_9, e_X3_choose_10, e_X3_choose_11, e_X3_choose_14, e_X3_choose_17, e_X3_choose_20, e_X3_choose_21, e_X3_choose_25, e_X3_choose_26, e_X3_choose_27, e_X3_choose_30, e_X3_choose_34, e_X3_choose_37, e_X3_choose_38, e_X3_choose_39, e_X3_choose_40, e_X3_choose_41, e_X3_choose_42, e_X3_choose_46, e_X3_choose_47, e_X3_choose_48, e_X3_choose_49, e_X3_choose_50, e_X3_choose_51, e_X3_choose_53, e_X3_choose_54, e_X3_choose_55, e_X3_choose_56, e_X3_choose_57, e_X3_choose_61, e_X3_choose_62_i, e_X3_choose_62_r, e_X3_choose_62_n, e_X3_choose_66, e_X3_choose_67, e_X3_choose_70, e_X3_choose_73, e_X3_choose_76, e_X3_choose_77, e_X3_choose_78, e_X3_choose_83, e_X3_choose_86, e_X3_choose_87, e_X3_choose_90, e_X3_choose_93, e_X3_choose_94, e_X3_choose_96, e_X3_choose_97, e_X3_choose_98, e_X3_choose_99, e_X3_choose_100, e_X3_choose_101, e_X3_choose_103, e_X3_choose_104, e_X3_choose_105, e_X3_choose_107, e_X3_choose_108, e_X3_choose_109, e_X3_choose_110, e_X3_choose_114, e_X3_choose_115, e_X3_choose_118, e_X3_choose_121, e_X3_choose_122, e_X3_choose_124, e_X3_choose_125_i, e_X3_choose_125_r, e_X3_choose_125_n, e_X3_choose_128, e_X3_choose_131, eq_self, nI10, not_false_eq_true, not_true_eq_false, is2_i, is2_r, is2_n, nI_add, pk_mul, Nat.reduceAdd, Nat.reduceMul, hP.2.1, e1, Int.not_lt.mpr hl, if_false]
  · obtain ⟨m', g1, g2, g3⟩ := s_X3_weigh (o := o) (d := d + 1) (lg := lg) (bg := bg) hp hh hP hC hs
    refine ⟨m', hh.frS (fun j a1 a2 => g2 j (by omega)), by unfold pCho; rw [if_neg hl]; exact g1, fun i hi => g2 i (fun z => hi (Or.inl z)), ?_⟩
    rw [ev_X3_choose]
    simp only [e_X3_choose_0, e_X3_choose_1, e_X3_choose_2, e_X3_choose_5, e_X3_choose_8, e_X3_choose_9, e_X3_choose_10, e_X3_choose_11, e_X3_choose_14, e_X3_choose_17, e_X3_choose_20, e_X3_choose_21, e_X3_choose_25, e_X3_choose_26, e_X3_choose_27, e_X3_choose_30, e_X3_choose_34, e_X3_choose_37, e_X3_choose_38, e_X3_choose_39, e_X3_choose_40, e_X3_choose_41, e_X3_choose_42, e_X3_choose_46, e_X3_choose_47, e_X3_choose_48, e_X3_choose_49, e_X3_choose_50, e_X3_choose_51, e_X3_choose_53, e_X3_choose_54, e_X3_choose_55, e_X3_choose_56, e_X3_choose_57, e_X3_choose_61, e_X3_choose_62_i, e_X3_choose_62_r, e_X3_choose_62_n, e_X3_choose_66, e_X3_choose_67, e_X3_choose_70, e_X3_choose_73, e_X3_choose_76, e_X3_choose_77, e_X3_choose_78, e_X3_choose_83, e_X3_choose_86, e_X3_choose_87, e_X3_choose_90, e_X3_choose_93, e_X3_choose_94, e_X3_choose_96, e_X3_choose_97, e_X3_choose_98, e_X3_choose_99, e_X3_choose_100, e_X3_choose_101, e_X3_choose_103, e_X3_choose_104, e_X3_choose_105, e_X3_choose_107, e_X3_choose_108, e_X3_choose_109, e_X3_choose_110, e_X3_choose_114, e_X3_choose_115, e_X3_choose_118, e_X3_choose_121, e_X3_choose_122, e_X3_choose_124, e_X3_choose_125_i, e_X3_choose_125_r, e_X3_choose_125_n, e_X3_choose_128, e_X3_choose_131, eq_self, nI10, not_false_eq_true, not_true_eq_false, is2_i, is2_r, is2_n, nI_add, pk_mul, Nat.reduceAdd, Nat.reduceMul, ai_T3, hP.2.1, e1, Int.not_le.mp hl, if_true, hp.2.2.2.1, hn, if_false, e_X3_choose_22 (hE := g3)]
theorem lp_choose {k : Nat} (hC : C < 32) (ih : ChoOk o lg p C k) {d dd bg : Nat} {h : Int} (hk : dd + (k + 1) = p.2.2.2.2.1) (h1 : -10 ≤ h - (k + 1 : Nat)) (h2 : h ≤ 10) (hx8 : x.1 dd = 8) : ∀ (j c : Nat) (s : Int × Nat) (m : Nat → Nat → Int32), c + j = p.2.2.1 → RT p m → RH p x m 21 → RP C s m → plOk s → ∃ m', RH p x m' 21 ∧ RP C (plLoop p C x dd (fun c s => pCho p C k (dd + 1) (10 * bg + c + 1) h (va_up x.1 dd c, x.2) s) c j s) m' ∧ FrS plF m m' ∧ Rn o (d + k + 6) zX3_choose 64 [.ref 117, .int (nI dd), .int (nI bg), .int (iI h), .int (nI c)] [] (ai_w m lg) (none, ai_w m' lg) := by
  intro j
  induction j with
  | zero =>
    intro c s m hj hp hh hP hs
    have : c = p.2.2.1 := by omega
    subst this
    refine ⟨m, hh, hP, fun _ _ => rfl, ?_⟩
    rw [e_X3_choose_64]
    simp only [e_X3_choose_0, e_X3_choose_1, e_X3_choose_2, e_X3_choose_5, e_X3_choose_8, e_X3_choose_9, e_X3_choose_10, e_X3_choose_11, e_X3_choose_14, e_X3_choose_17, e_X3_choose_20, e_X3_choose_21, e_X3_choose_25, e_X3_choose_26, e_X3_choose_27, e_X3_choose_30, e_X3_choose_34, e_X3_choose_37, e_X3_choose_38, e_X3_choose_39, e_X3_choose_40, e_X3_choose_41, e_X3_choose_42, e_X3_choose_46, e_X3_choose_47, e_X3_choose_48, e_X3_choose_49, e_X3_choose_50, e_X3_choose_51, e_X3_choose_53, e_X3_choose_54, e_X3_choose_55, e_X3_choose_56, e_X3_choose_57, e_X3_choose_61, e_X3_choose_62_i, e_X3_choose_62_r, e_X3_choose_62_n, e_X3_choose_66, e_X3_choose_67, e_X3_choose_70, e_X3_choose_73, e_X3_choose_76, e_X3_choose_77, e_X3_choose_78, e_X3_choose_83, e_X3_choose_86, e_X3_choose_87, e_X3_choose_90, e_X3_choose_93, e_X3_choose_94, e_X3_choose_96, e_X3_choose_97, e_X3_choose_98, e_X3_choose_99, e_X3_choose_100, e_X3_choose_101, e_X3_choose_103, e_X3_choose_104, e_X3_choose_105, e_X3_choose_107, e_X3_choose_108, e_X3_choose_109, e_X3_choose_110, e_X3_choose_114, e_X3_choose_115, e_X3_choose_118, e_X3_choose_121, e_X3_choose_122, e_X3_choose_124, e_X3_choose_125_i, e_X3_choose_125_r, e_X3_choose_125_n, e_X3_choose_128, e_X3_choose_131, eq_self, nI10, not_false_eq_true, not_true_eq_false, is2_i, is2_r, is2_n, nI_add, pk_mul, Nat.reduceAdd, Nat.reduceMul, ai_T3, hp.2.2.1, Int32.le_refl, if_true]
  | succ j ihj =>
    intro c s m hj hp hh hP hs
    have hB := hp.1.2.1
    have hD := hp.1.2.2.1
    have hlt : c < p.2.2.1 := by omega
    have hd : dd < p.2.2.2.2.1 := by omega
    have h5 : dd < 5 := by omega
    have hn : ¬ nI p.2.2.1 ≤ nI c := nI_ge hlt (by omega)
    have sw := s_X3_isWorthwhile (o := o) (d := d + k + 1) (lg := lg) hp hh hP hC hd hlt
    have A1 := hA1 ai_H21
    have L1 := hL1 ai_H21
    cases hw : pWorth p C x dd c
    · obtain ⟨m', g1, g2, g3, g4⟩ := ihj (c + 1) s m (by omega) hp hh hP hs
      refine ⟨m', g1, by unfold plLoop; rw [hw]; exact g2, g3, ?_⟩
      rw [e_X3_choose_64]
      simp only [e_X3_choose_0, e_X3_choose_1, e_X3_choose_2, e_X3_choose_5, e_X3_choose_8, e_X3_choose_9, e_X3_choose_10, e_X3_choose_11, e_X3_choose_14, e_X3_choose_17, e_X3_choose_20, e_X3_choose_21, e_X3_choose_25, e_X3_choose_26, e_X3_choose_27, e_X3_choose_30, e_X3_choose_34, e_X3_choose_37, e_X3_choose_38, e_X3_choose_39, e_X3_choose_40, e_X3_choose_41, e_X3_choose_42, e_X3_choose_46, e_X3_choose_47, e_X3_choose_48, e_X3_choose_49, e_X3_choose_50, e_X3_choose_51, e_X3_choose_53, e_X3_choose_54, e_X3_choose_55, e_X3_choose_56, e_X3_choose_57, e_X3_choose_61, e_X3_choose_62_i, e_X3_choose_62_r, e_X3_choose_62_n, e_X3_choose_66, e_X3_choose_67, e_X3_choose_70, e_X3_choose_73, e_X3_choose_76, e_X3_choose_77, e_X3_choose_78, e_X3_choose_83, e_X3_choose_86, e_X3_choose_87, e_X3_choose_90, e_X3_choose_93, e_X3_choose_94, e_X3_choose_96, e_X3_choose_97, e_X3_choose_98, e_X3_choose_99, e_X3_choose_100, e_X3_choose_101, e_X3_choose_103, e_X3_choose_104, e_X3_choose_105, e_X3_choose_107, e_X3_choose_108, e_X3_choose_109, e_X3_choose_110, e_X3_choose_114, e_X3_choose_115, e_X3_choose_118, e_X3_choose_121, e_X3_choose_122, e_X3_choose_124, e_X3_choose_125_i, e_X3_choose_125_r, e_X3_choose_125_n, e_X3_choose_128, e_X3_choose_131, eq_self, nI10, not_false_eq_true, not_true_eq_false, is2_i, is2_r, is2_n, nI_add, pk_mul, Nat.reduceAdd, Nat.reduceMul, ai_T3, hp.2.2.1, hn, if_false, e_X3_choose_80 (hE := sw), bI_z, hw, if_true]
      exact g4
    · -- berthed, gone on, taken out again
      have hh1 := hh.pl (dd := dd) (v := c) (Or.inl hlt)
      have fr1 : FrS plF m (ai_up m 22 dd (nI c)) := fun i hi => up_ne (fun z => hi (Or.inr (by omega)))
      have hP1 : RP C s (ai_up m 22 dd (nI c)) := ⟨by rw [up_ne (by decide)]; exact hP.1, by rw [up_ne (by decide)]; exact hP.2.1, by rw [up_ne (by decide)]; exact hP.2.2⟩
      obtain ⟨m1, f1, f2, f3, f4⟩ := ih d (dd + 1) (10 * bg + c + 1) h (va_up x.1 dd c, x.2) s (ai_up m 22 dd (nI c)) (by omega) (hp.frS fr1 plF8) hh1 hP1 hs (by omega) h2
      have hh2 : RH p x (ai_up m1 22 dd (nI 8)) 21 := (f1.pl (dd := dd) (v := 8) (Or.inr (Or.inl rfl))).cong (fun t ht => by
        simp only [va_up]
        by_cases t1 : t = dd
        · subst t1; simp [hx8]
        · simp [t1]) rfl
      have fr2 : FrS plF m1 (ai_up m1 22 dd (nI 8)) := fun i hi => up_ne (fun z => hi (Or.inr (by omega)))
      have hP2 : RP C (pCho p C k (dd + 1) (10 * bg + c + 1) h (va_up x.1 dd c, x.2) s) (ai_up m1 22 dd (nI 8)) := ⟨by rw [up_ne (by decide)]; exact f2.1, by rw [up_ne (by decide)]; exact f2.2.1, by rw [up_ne (by decide)]; exact f2.2.2⟩
      obtain ⟨m', g1, g2, g3, g4⟩ := ihj (c + 1) _ _ (by omega) (((hp.frS fr1 plF8).frS f3 plF8).frS fr2 plF8) hh2 hP2 (pCho_ok hp.1 _ _ _ _ _ _ hs)
      refine ⟨m', g1, by unfold plLoop; rw [if_pos hw]; exact g2, fr1.trans (f3.trans (fr2.trans g3)), ?_⟩
      rw [e_X3_choose_64]
      simp only [e_X3_choose_0, e_X3_choose_1, e_X3_choose_2, e_X3_choose_5, e_X3_choose_8, e_X3_choose_9, e_X3_choose_10, e_X3_choose_11, e_X3_choose_14, e_X3_choose_17, e_X3_choose_20, e_X3_choose_21, e_X3_choose_25, e_X3_choose_26, e_X3_choose_27, e_X3_choose_30, e_X3_choose_34, e_X3_choose_37, e_X3_choose_38, e_X3_choose_39, e_X3_choose_40, e_X3_choose_41, e_X3_choose_42, e_X3_choose_46, e_X3_choose_47, e_X3_choose_48, e_X3_choose_49, e_X3_choose_50, e_X3_choose_51, e_X3_choose_53, e_X3_choose_54, e_X3_choose_55, e_X3_choose_56, e_X3_choose_57, e_X3_choose_61, e_X3_choose_62_i, e_X3_choose_62_r, e_X3_choose_62_n, e_X3_choose_66, e_X3_choose_67, e_X3_choose_70, e_X3_choose_73, e_X3_choose_76, e_X3_choose_77, e_X3_choose_78, e_X3_choose_83, e_X3_choose_86, e_X3_choose_87, e_X3_choose_90, e_X3_choose_93, e_X3_choose_94, e_X3_choose_96, e_X3_choose_97, e_X3_choose_98, e_X3_choose_99, e_X3_choose_100, e_X3_choose_101, e_X3_choose_103, e_X3_choose_104, e_X3_choose_105, e_X3_choose_107, e_X3_choose_108, e_X3_choose_109, e_X3_choose_110, e_X3_choose_114, e_X3_choose_115, e_X3_choose_118, e_X3_choose_121, e_X3_choose_122, e_X3_choose_124, e_X3_choose_125_i, e_X3_choose_125_r, e_X3_choose_125_n, e_X3_choose_128, e_X3_choose_131, eq_self, nI10, not_false_eq_true, not_true_eq_false, is2_i, is2_r, is2_n, nI_add, pk_mul, Nat.reduceAdd, Nat.reduceMul, ai_T3, ai_H21, A1, L1, h5, hp.2.2.1, hn, if_false, e_X3_choose_80 (hE := sw), bI_z, hw, Bool.true_eq_false, e_X3_choose_111 (hE := f4)]
      exact g4
theorem cho_s {k : Nat} (hC : C < 32) (ih : ChoOk o lg p C k) : ChoOk o lg p C (k + 1) := by
  intro d dd bg h x s m hk hp hh hP hs h1 h2
  have e1 := ii_lt (a := s.1) (b := h) ⟨by have := hs.1; omega, hs.2⟩ (by omega)
  have hD := hp.1.2.2.1
  have hd : dd < p.2.2.2.2.1 := by omega
  have hn : nI dd < nI p.2.2.2.2.1 := nI_lt hd (by omega)
  have sl := s_X2_liesOff (o := o) (d := d + k + 5) (lg := lg) hp hh ai_H21 hd
  rw [show d + (k + 1) + 5 = d + k + 6 by omega]
  by_cases hl : h ≤ s.1
  · refine ⟨m, hh, by unfold pCho; rw [if_pos hl]; exact hP, fun _ _ => rfl, ?_⟩
    rw [ev_X3_choose]
    simp only [e_X3_choose_0, e_X3_choose_1, e_X3_choose_2, e_X3_choose_5, e_X3_choose_8, e_X3_choose_9, e_X3_choose_10, e_X3_choose_11, e_X3_choose_14, e_X3_choose_17, e_X3_choose_20, e_X3_choose_21, e_X3_choose_25, e_X3_choose_26, e_X3_choose_27, e_X3_choose_30, e_X3_choose_34, e_X3_choose_37, e_X3_choose_38, e_X3_choose_39, e_X3_choose_40, e_X3_choose_41, e_X3_choose_42, e_X3_choose_46, e_X3_choose_47, e_X3_choose_48, e_X3_choose_49, e_X3_choose_50, e_X3_choose_51, e_X3_choose_53, e_X3_choose_54, e_X3_choose_55, e_X3_choose_56, e_X3_choose_57, e_X3_choose_61, e_X3_choose_62_i, e_X3_choose_62_r, e_X3_choose_62_n, e_X3_choose_66, e_X3_choose_67, e_X3_choose_70, e_X3_choose_73, e_X3_choose_76, e_X3_choose_77, e_X3_choose_78, e_X3_choose_83, e_X3_choose_86, e_X3_choose_87, e_X3_choose_90, e_X3_choose_93, e_X3_choose_94, e_X3_choose_96, e_X3_choose_97, e_X3_choose_98, e_X3_choose_99, e_X3_choose_100, e_X3_choose_101, e_X3_choose_103, e_X3_choose_104, e_X3_choose_105, e_X3_choose_107, e_X3_choose_108, e_X3_choose_109, e_X3_choose_110, e_X3_choose_114, e_X3_choose_115, e_X3_choose_118, e_X3_choose_121, e_X3_choose_122, e_X3_choose_124, e_X3_choose_125_i, e_X3_choose_125_r, e_X3_choose_125_n, e_X3_choose_128, e_X3_choose_131, eq_self, nI10, not_false_eq_true, not_true_eq_false, is2_i, is2_r, is2_n, nI_add, pk_mul, Nat.reduceAdd, Nat.reduceMul, hP.2.1, e1, Int.not_lt.mpr hl, if_false]
  · by_cases h8 : x.1 dd = 8
    · obtain ⟨m1, f1, f2, f3, f4⟩ := ih d (dd + 1) (10 * bg) (h - 1) x s m (by omega) hp hh hP hs (by omega) (by omega)
      obtain ⟨m', g1, g2, g3, g4⟩ := lp_choose (o := o) (lg := lg) (d := d) (bg := bg) (x := x) hC ih hk h1 h2 h8 p.2.2.1 0 _ m1 (by omega) (hp.frS f3 plF8) f1 f2 (pCho_ok hp.1 _ _ _ _ _ _ hs)
      refine ⟨m', g1, by unfold pCho; rw [if_neg hl, if_pos h8]; exact g2, f3.trans g3, ?_⟩
      rw [ev_X3_choose]
      simp only [e_X3_choose_0, e_X3_choose_1, e_X3_choose_2, e_X3_choose_5, e_X3_choose_8, e_X3_choose_9, e_X3_choose_10, e_X3_choose_11, e_X3_choose_14, e_X3_choose_17, e_X3_choose_20, e_X3_choose_21, e_X3_choose_25, e_X3_choose_26, e_X3_choose_27, e_X3_choose_30, e_X3_choose_34, e_X3_choose_37, e_X3_choose_38, e_X3_choose_39, e_X3_choose_40, e_X3_choose_41, e_X3_choose_42, e_X3_choose_46, e_X3_choose_47, e_X3_choose_48, e_X3_choose_49, e_X3_choose_50, e_X3_choose_51, e_X3_choose_53, e_X3_choose_54, e_X3_choose_55, e_X3_choose_56, e_X3_choose_57, e_X3_choose_61, e_X3_choose_62_i, e_X3_choose_62_r, e_X3_choose_62_n, e_X3_choose_66, e_X3_choose_67, e_X3_choose_70, e_X3_choose_73, e_X3_choose_76, e_X3_choose_77, e_X3_choose_78, e_X3_choose_83, e_X3_choose_86, e_X3_choose_87, e_X3_choose_90, e_X3_choose_93, e_X3_choose_94, e_X3_choose_96, e_X3_choose_97, e_X3_choose_98, e_X3_choose_99, e_X3_choose_100, e_X3_choose_101, e_X3_choose_103, e_X3_choose_104, e_X3_choose_105, e_X3_choose_107, e_X3_choose_108, e_X3_choose_109, e_X3_choose_110, e_X3_choose_114, e_X3_choose_115, e_X3_choose_118, e_X3_choose_121, e_X3_choose_122, e_X3_choose_124, e_X3_choose_125_i, e_X3_choose_125_r, e_X3_choose_125_n, e_X3_choose_128, e_X3_choose_131, eq_self, nI10, not_false_eq_true, not_true_eq_false, is2_i, is2_r, is2_n, nI_add, pk_mul, Nat.reduceAdd, Nat.reduceMul, ai_T3, ai_H21, hP.2.1, e1, Int.not_le.mp hl, if_true, hp.2.2.2.1, hn, e_X3_choose_31 (hb := ai_H21) (hE := sl), bI_z, h8, decide_true, Bool.true_eq_false, ii_m (show -20 ≤ h ∧ h ≤ 20 by omega), e_X3_choose_58 (hE := f4)]
      exact g4
    · obtain ⟨m', g1, g2, g3, g4⟩ := ih d (dd + 1) bg h x s m (by omega) hp hh hP hs (by omega) h2
      refine ⟨m', g1, by unfold pCho; rw [if_neg hl, if_neg h8]; exact g2, g3, ?_⟩
      rw [ev_X3_choose]
      simp only [e_X3_choose_0, e_X3_choose_1, e_X3_choose_2, e_X3_choose_5, e_X3_choose_8, e_X3_choose_9, e_X3_choose_10, e_X3_choose_11, e_X3_choose_14, e_X3_choose_17, e_X3_choose_20, e_X3_choose_21, e_X3_choose_25, e_X3_choose_26, e_X3_choose_27, e_X3_choose_30, e_X3_choose_34, e_X3_choose_37, e_X3_choose_38, e_X3_choose_39, e_X3_choose_40, e_X3_choose_41, e_X3_choose_42, e_X3_choose_46, e_X3_choose_47, e_X3_choose_48, e_X3_choose_49, e_X3_choose_50, e_X3_choose_51, e_X3_choose_53, e_X3_choose_54, e_X3_choose_55, e_X3_choose_56, e_X3_choose_57, e_X3_choose_61, e_X3_choose_62_i, e_X3_choose_62_r, e_X3_choose_62_n, e_X3_choose_66, e_X3_choose_67, e_X3_choose_70, e_X3_choose_73, e_X3_choose_76, e_X3_choose_77, e_X3_choose_78, e_X3_choose_83, e_X3_choose_86, e_X3_choose_87, e_X3_choose_90, e_X3_choose_93, e_X3_choose_94, e_X3_choose_96, e_X3_choose_97, e_X3_choose_98, e_X3_choose_99, e_X3_choose_100, e_X3_choose_101, e_X3_choose_103, e_X3_choose_104, e_X3_choose_105, e_X3_choose_107, e_X3_choose_108, e_X3_choose_109, e_X3_choose_110, e_X3_choose_114, e_X3_choose_115, e_X3_choose_118, e_X3_choose_121, e_X3_choose_122, e_X3_choose_124, e_X3_choose_125_i, e_X3_choose_125_r, e_X3_choose_125_n, e_X3_choose_128, e_X3_choose_131, eq_self, nI10, not_false_eq_true, not_true_eq_false, is2_i, is2_r, is2_n, nI_add, pk_mul, Nat.reduceAdd, Nat.reduceMul, ai_T3, ai_H21, hP.2.1, e1, Int.not_le.mp hl, if_true, hp.2.2.2.1, hn, e_X3_choose_31 (hb := ai_H21) (hE := sl), bI_z, h8, decide_false, if_false, e_X3_choose_43 (hE := g4)]
theorem cho (hC : C < 32) : ∀ k, ChoOk o lg p C k := by
  intro k
  induction k with
  | zero => exact cho_0 hC
  | succ k ih => exact cho_s hC ih
def pPlan (p : PT) (C : Nat) (x : HS) : Int × Nat := pCho p C p.2.2.2.2.1 0 0 ((p.2.2.2.2.1 : Int) - (cn (atP x 9) p.2.2.2.2.1 : Int)) x (-9, 0)
theorem s_X3_search (hp : RT p m) (hh : RH p x m 15) (hC : C < 32) : ∃ m', RP C (pPlan p C x) m' ∧ FrS plF m m' ∧ Ev o (d + 12) zX3_search [.ref 117, .ref 15, .int (nI C)] (ai_w m lg) (some (.int (iI (pPlan p C x).1))) (ai_w m' lg) := by
  have hD := hp.1.2.2.1
  have hcl := cn_le (atP x 9) p.2.2.2.2.1
  obtain ⟨m1, a1, a2, a3⟩ := s_X2_becomes (o := o) (d := d + 10) (lg := lg) ai_H21 ai_H15 (by decide) hp hh
  obtain ⟨m2, hm2⟩ : ∃ m2, m2 = ai_up (ai_up (ai_up m1 117 2 (nI C)) 117 3 (-9)) 117 4 (nI 0) := ⟨_, rfl⟩
  have f2 : ∀ i, i ≠ 117 → m2 i = m1 i := fun i hi => by rw [hm2, up_ne hi, up_ne hi, up_ne hi]
  have fA : FrS plF m m2 := fun i hi => by rw [f2 i (fun z => hi (Or.inl z)), a2 i (by have : ¬ (21 ≤ i ∧ i ≤ 26) := fun z => hi (Or.inr z); omega)]
  have hp2 := hp.frS fA plF8
  have h15 : RH p x m2 15 := hh.frS (fun j b1 b2 => fA j (by rintro (z | z) <;> omega))
  have h21 : RH p x m2 21 := a1.frS (fun j b1 b2 => f2 j (by omega))
  have hP2 : RP C (-9, 0) m2 := by
    rw [hm2]
    exact ⟨by rw [up_eq, if_neg (by decide), up_eq, if_neg (by decide), up_eq, if_pos rfl], by rw [up_eq, if_neg (by decide), up_eq, if_pos rfl]; rfl, by rw [up_eq, if_pos rfl]⟩
  have sc := s_X2_countAt (o := o) (d := d + 10) (lg := lg) hp2 h15 ai_H15 (c := 9) (by omega)
  have es := ii_s0 p.2.2.2.2.1 (by omega) (cn (atP x 9) p.2.2.2.2.1) (by omega)
  obtain ⟨m', g1, g2, g3, g4⟩ := cho (o := o) (lg := lg) (p := p) hC p.2.2.2.2.1 (d + 6 - p.2.2.2.2.1) 0 0 ((p.2.2.2.2.1 : Int) - (cn (atP x 9) p.2.2.2.2.1 : Int)) x (-9, 0) m2 (by omega) hp2 h21 hP2 ⟨by decide, by decide⟩ (by omega) (by omega)
  rw [show d + 6 - p.2.2.2.2.1 + p.2.2.2.2.1 + 5 = d + 11 by omega] at g4
  refine ⟨m', g2, fA.trans g3, ?_⟩
  have r7 : m2 3 7 = nI p.2.2.2.2.1 := hp2.2.2.2.1
  rw [hm2] at sc g4 r7
  rw [ev_X3_search]
  simp only [e_X3_search_0, e_X3_search_1, e_X3_search_4, e_X3_search_8, e_X3_search_9, e_X3_search_10, e_X3_search_13, e_X3_search_14, e_X3_search_16, e_X3_search_19, e_X3_search_20, e_X3_search_21, e_X3_search_24, e_X3_search_25, e_X3_search_26, e_X3_search_27, e_X3_search_28, e_X3_search_31, e_X3_search_34, e_X3_search_35, e_X3_search_40, e_X3_search_44, e_X3_search_45, e_X3_search_48, eq_self, nI10, not_false_eq_true, not_true_eq_false, is2_i, is2_r, is2_n, nI_add, pk_mul, Nat.reduceAdd, Nat.reduceMul, ai_T3, e_X3_search_5 (hb := ai_H21) (hE := a3), r7, e_X3_search_37 (hb := ai_H15) (hE := sc), es, e_X3_search_41 (hE := g4), g2.2.1]
  rfl
end P39
