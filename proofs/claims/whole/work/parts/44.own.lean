/-! SleepHarbour's own methods: nights to come, doings judged, depths, years -/
def pNs (p : PT) : Nat → HS → HS
  | 0, y => y
  | n + 1, y => pNs p n (pNight p y)
theorem pNight_ng (p : PT) (x : HS) : (pNight p x).2.2.2.2.2 = x.2.2.2.2.2 + 1 := by
  show (pDay p x).2.2.2.2.2 + 1 = _
  rw [pDay_ng]
theorem pDoMoor_ng (p : PT) (x : HS) (k k2 : Int32) : (pDoMoor p x k k2).2.2.2.2.2 = x.2.2.2.2.2 := by unfold pDoMoor; split <;> rfl
theorem pDoTow_ng (p : PT) (x : HS) (k : Int32) : (pDoTow p x k).2.2.2.2.2 = x.2.2.2.2.2 := by unfold pDoTow; split <;> rfl
theorem pDrift_ng (p : PT) (x : HS) (q : Nat) : (pDrift p x q).2.2.2.2.2 ≤ x.2.2.2.2.2 + 1 := by
  unfold pDrift
  split
  · rw [pDoMoor_ng]; omega
  · split
    · rw [pDoTow_ng]; omega
    · rw [pNight_ng]; omega
theorem pDoes_ng (p : PT) (x : HS) (q : Nat) : (pDoes p x q).2.2.2.2.2.2 ≤ x.2.2.2.2.2 + 1 := by
  unfold pDoes
  split
  · exact Nat.le_of_eq (pNight_ng p x)
  · split
    · show (pDoMoor p x _ _).2.2.2.2.2 ≤ _
      rw [pDoMoor_ng]; omega
    · split
      · split
        · show (pDoTow p x _).2.2.2.2.2 ≤ _
          rw [pDoTow_ng]; omega
        · exact Nat.le_succ _
      · split
        · exact Nat.le_succ _
        · split
          · exact Nat.le_succ _
          · split <;> exact Nat.le_succ _
section P44
variable {o : ai_S} {d : Nat} {w : ai_W} {m m' : Nat → Nat → Int32} {lg lg' : Nat → Nat → Int64} {tx : TX} {p : PT} {x : HS} {n : Nat} {A : Nat → HS} {kp : Nat → Bool} {K : Nat → HS} {so : SO} {sd : Int64} {r : Option Value × ai_W} {k k2 k3 : Int32}
theorem scr_Fr (h : Fr 21 m m') : FrS scr m m' := fun i hi => h i (by unfold scr at hi; omega)
theorem s_X7_isNights : Ev o d zX7_isNights [.int k] w (some (.int (bI (ixB k 21)))) w := by
  rw [ev_X7_isNights]
  rcases sw_cases k 21 (by decide) with ⟨j, hj, rfl, _, hx⟩ | ⟨_, hx, hn⟩
  · have e0 : ¬ nI j < nI 0 := nI_pos (by omega)
    have e1 : ¬ nI 20 < nI j := nI_nlt (by omega) (by omega)
    simp only [e_X7_isNights_0, e_X7_isNights_1, e_X7_isNights_4, e_X7_isNights_5, e_X7_isNights_7, e_X7_isNights_10, e_X7_isNights_11, e_X7_isNights_14, e_X7_isNights_15, eq_self, nI10, not_false_eq_true, not_true_eq_false, is2_i, is2_r, is2_n, nI_add, pk_mul, Nat.reduceAdd, Nat.reduceMul, e0, e1, if_false, hx, nar_1, bI_t]
  · rcases hn with hn | ⟨j, hj, hj2, rfl⟩
    · simp only [e_X7_isNights_0, e_X7_isNights_1, e_X7_isNights_4, e_X7_isNights_5, e_X7_isNights_7, e_X7_isNights_10, e_X7_isNights_11, e_X7_isNights_14, e_X7_isNights_15, eq_self, nI10, not_false_eq_true, not_true_eq_false, is2_i, is2_r, is2_n, nI_add, pk_mul, Nat.reduceAdd, Nat.reduceMul, hn, if_true, hx, nar_0, bI_f]
    · have e0 : ¬ nI j < nI 0 := nI_pos (by omega)
      have e1 : nI 20 < nI j := nI_lt (by omega) (by omega)
      simp only [e_X7_isNights_0, e_X7_isNights_1, e_X7_isNights_4, e_X7_isNights_5, e_X7_isNights_7, e_X7_isNights_10, e_X7_isNights_11, e_X7_isNights_14, e_X7_isNights_15, eq_self, nI10, not_false_eq_true, not_true_eq_false, is2_i, is2_r, is2_n, nI_add, pk_mul, Nat.reduceAdd, Nat.reduceMul, e0, e1, if_false, if_true, hx, nar_0, bI_f]
theorem lp_X7_lookAhead {N : Nat} (hN : N < 2 ^ 31) : ∀ (j i : Nat) (m : Nat → Nat → Int32) (y : HS), i + j = N → RT p m → RH p y m 21 → y.2.2.2.2.2 + j ≤ 1000 → ∃ m', RH p (pNs p j y) m' 21 ∧ Fr 21 m m' ∧ ∀ r, Rn o (d + 18) zX7_lookAhead 13 [.ref 0, .int (nI N), .int (nI i)] [] (ai_w m lg) r = Rn o (d + 18) zX7_lookAhead 32 [.ref 0, .int (nI N), .int (nI N)] [] (ai_w m' lg) r := by
  intro j
  induction j with
  | zero =>
    intro i m y hk hp hh hng
    have : i = N := by omega
    subst this
    refine ⟨m, hh, Fr.rfl', fun r => ?_⟩
    rw [e_X7_lookAhead_13]
    simp only [e_X7_lookAhead_0, e_X7_lookAhead_1, e_X7_lookAhead_4, e_X7_lookAhead_5, e_X7_lookAhead_11, e_X7_lookAhead_12_i, e_X7_lookAhead_12_r, e_X7_lookAhead_12_n, e_X7_lookAhead_14, e_X7_lookAhead_15, e_X7_lookAhead_18, e_X7_lookAhead_19, e_X7_lookAhead_25, e_X7_lookAhead_26_i, e_X7_lookAhead_26_r, e_X7_lookAhead_26_n, e_X7_lookAhead_29, eq_self, nI10, not_false_eq_true, not_true_eq_false, is2_i, is2_r, is2_n, nI_add, pk_mul, Nat.reduceAdd, Nat.reduceMul, Int32.le_refl, if_true]
  | succ j ih =>
    intro i m y hk hp hh hng
    have hn : ¬ nI N ≤ nI i := nI_ge (by omega) hN
    obtain ⟨m1, f1, f2, f3⟩ := s_X2_passNight (o := o) (d := d + 13) (lg := lg) ai_H21 hp hh (by omega)
    obtain ⟨m', g1, g2, g3⟩ := ih (i + 1) m1 _ (by omega) (hp.fr ai_H21 f2) f1 (by rw [pNight_ng]; omega)
    refine ⟨m', g1, f2.trans g2, fun r => ?_⟩
    rw [e_X7_lookAhead_13, ← g3 r]
    simp only [e_X7_lookAhead_0, e_X7_lookAhead_1, e_X7_lookAhead_4, e_X7_lookAhead_5, e_X7_lookAhead_11, e_X7_lookAhead_12_i, e_X7_lookAhead_12_r, e_X7_lookAhead_12_n, e_X7_lookAhead_14, e_X7_lookAhead_15, e_X7_lookAhead_18, e_X7_lookAhead_19, e_X7_lookAhead_25, e_X7_lookAhead_26_i, e_X7_lookAhead_26_r, e_X7_lookAhead_26_n, e_X7_lookAhead_29, eq_self, nI10, not_false_eq_true, not_true_eq_false, is2_i, is2_r, is2_n, nI_add, pk_mul, Nat.reduceAdd, Nat.reduceMul, hn, if_false, e_X7_lookAhead_22 (hb := ai_H21) (hE := f3)]
theorem s_X7_lookAhead {N : Nat} (hN : N ≤ 20) (hp : RT p m) (hh : RH p x m 15) (hng : x.2.2.2.2.2 + N ≤ 1000) : ∃ m', RH p (pNs p N x) m' 21 ∧ Fr 21 m m' ∧ Ev o (d + 18) zX7_lookAhead [.ref 0, .int (nI N)] (ai_w m lg) none (ai_w m' lg) := by
  obtain ⟨m1, f1, f2, f3⟩ := s_X2_becomes (o := o) (d := d + 16) (lg := lg) ai_H21 ai_H15 (by decide) hp hh
  obtain ⟨m', g1, g2, g3⟩ := lp_X7_lookAhead (o := o) (d := d) (lg := lg) (N := N) (by omega) N 0 m1 x (by omega) (hp.fr ai_H21 f2) f1 hng
  refine ⟨m', g1, f2.trans g2, ?_⟩
  rw [ev_X7_lookAhead]
  simp only [e_X7_lookAhead_0, e_X7_lookAhead_1, e_X7_lookAhead_4, e_X7_lookAhead_5, e_X7_lookAhead_11, e_X7_lookAhead_12_i, e_X7_lookAhead_12_r, e_X7_lookAhead_12_n, e_X7_lookAhead_14, e_X7_lookAhead_15, e_X7_lookAhead_18, e_X7_lookAhead_19, e_X7_lookAhead_25, e_X7_lookAhead_26_i, e_X7_lookAhead_26_r, e_X7_lookAhead_26_n, e_X7_lookAhead_29, e_X7_lookAhead_32, eq_self, nI10, not_false_eq_true, not_true_eq_false, is2_i, is2_r, is2_n, nI_add, pk_mul, Nat.reduceAdd, Nat.reduceMul, e_X7_lookAhead_8 (hb := ai_H21) (hE := f3)]
  rw [g3]
  simp only [e_X7_lookAhead_0, e_X7_lookAhead_1, e_X7_lookAhead_4, e_X7_lookAhead_5, e_X7_lookAhead_11, e_X7_lookAhead_12_i, e_X7_lookAhead_12_r, e_X7_lookAhead_12_n, e_X7_lookAhead_14, e_X7_lookAhead_15, e_X7_lookAhead_18, e_X7_lookAhead_19, e_X7_lookAhead_25, e_X7_lookAhead_26_i, e_X7_lookAhead_26_r, e_X7_lookAhead_26_n, e_X7_lookAhead_29, e_X7_lookAhead_32]
def aLater (p : PT) (x : HS) (k k2 : Int32) : Int32 := match swN k p.2.2.2.2.1 with
  | none => -1
  | some dd => match swN k2 21 with
    | none => -2
    | some N => nI ((pNs p N x).1 dd)
theorem s_X7_later (h : RC tx p x n A kp K so sd m lg) (hng : x.2.2.2.2.2 + 40 ≤ 1000) : ∃ m', RC tx p x n A kp K so sd m' lg ∧ FrC m m' ∧ Ev o (d + 20) zX7_later [.ref 0, .int k, .int k2] (ai_w m lg) (some (.int (aLater p x k k2))) (ai_w m' lg) := by
  have hp := h.2.1
  have hh := h.2.2.1
  have hD := hp.1.2.2.1
  have hb := ai_H21
  rcases sw_cases k p.2.2.2.2.1 (by omega) with ⟨dd, hd, rfl, hs, hx⟩ | ⟨hs, hx, hn⟩
  · have d5 : dd < 5 := by omega
    rcases sw_cases k2 21 (by decide) with ⟨N, hN, rfl, hs2, hx2⟩ | ⟨hs2, hx2, hn2⟩
    · have ea : aLater p x (nI dd) (nI N) = nI ((pNs p N x).1 dd) := by unfold aLater; rw [hs]; dsimp only; rw [hs2]
      obtain ⟨m1, f1, f2, f3⟩ := s_X7_lookAhead (o := o) (d := d + 1) (lg := lg) (N := N) (by omega) hp hh (by omega)
      rw [ea]
      refine ⟨m1, h.q (scr_Fr f2), frC_of (scr_Fr f2), ?_⟩
      rw [ev_X7_later]
      simp only [e_X7_later_0, e_X7_later_1, e_X7_later_4, e_X7_later_8, e_X7_later_11, e_X7_later_12, e_X7_later_13, e_X7_later_17, e_X7_later_20, e_X7_later_22, e_X7_later_23, e_X7_later_24, e_X7_later_28, e_X7_later_29, e_X7_later_32, e_X7_later_35, e_X7_later_36, e_X7_later_36_o, e_X7_later_37, eq_self, nI10, not_false_eq_true, not_true_eq_false, is2_i, is2_r, is2_n, nI_add, pk_mul, Nat.reduceAdd, Nat.reduceMul, hb, ai_T3, hA1 hb, hA2 hb, hA3 hb, hA4 hb, hA5 hb, hL1 hb, hL2 hb, hL3 hb, hL4 hb, hL5 hb, k0_4, k0_5, k0_6, k0_7, k0_8, kl_4, kl_5, kl_6, kl_7, kl_8, e_X7_later_5 (hb := ai_T3) (hE := s_hasD hp), e_X7_later_14 (hE := s_X7_isNights), hx, hx2, bI_z, if_true, Bool.true_eq_false, e_X7_later_25 (hE := f3), d5, f1.2.1 dd hd]
    · have ea : aLater p x (nI dd) k2 = -2 := by unfold aLater; rw [hs]; dsimp only; rw [hs2]
      rw [ea]
      refine ⟨m, h, fun _ _ => rfl, ?_⟩
      rw [ev_X7_later]
      simp only [e_X7_later_0, e_X7_later_1, e_X7_later_4, e_X7_later_8, e_X7_later_11, e_X7_later_12, e_X7_later_13, e_X7_later_17, e_X7_later_20, e_X7_later_22, e_X7_later_23, e_X7_later_24, e_X7_later_28, e_X7_later_29, e_X7_later_32, e_X7_later_35, e_X7_later_36, e_X7_later_36_o, e_X7_later_37, eq_self, nI10, not_false_eq_true, not_true_eq_false, is2_i, is2_r, is2_n, nI_add, pk_mul, Nat.reduceAdd, Nat.reduceMul, hb, ai_T3, hA1 hb, hA2 hb, hA3 hb, hA4 hb, hA5 hb, hL1 hb, hL2 hb, hL3 hb, hL4 hb, hL5 hb, k0_4, k0_5, k0_6, k0_7, k0_8, kl_4, kl_5, kl_6, kl_7, kl_8, e_X7_later_5 (hb := ai_T3) (hE := s_hasD hp), e_X7_later_14 (hE := s_X7_isNights), hx, hx2, bI_z, if_true, if_false, Bool.true_eq_false]
  · have ea : aLater p x k k2 = -1 := by unfold aLater; rw [hs]
    rw [ea]
    refine ⟨m, h, fun _ _ => rfl, ?_⟩
    rw [ev_X7_later]
    simp only [e_X7_later_0, e_X7_later_1, e_X7_later_4, e_X7_later_8, e_X7_later_11, e_X7_later_12, e_X7_later_13, e_X7_later_17, e_X7_later_20, e_X7_later_22, e_X7_later_23, e_X7_later_24, e_X7_later_28, e_X7_later_29, e_X7_later_32, e_X7_later_35, e_X7_later_36, e_X7_later_36_o, e_X7_later_37, eq_self, nI10, not_false_eq_true, not_true_eq_false, is2_i, is2_r, is2_n, nI_add, pk_mul, Nat.reduceAdd, Nat.reduceMul, hb, ai_T3, hA1 hb, hA2 hb, hA3 hb, hA4 hb, hA5 hb, hL1 hb, hL2 hb, hL3 hb, hL4 hb, hL5 hb, k0_4, k0_5, k0_6, k0_7, k0_8, kl_4, kl_5, kl_6, kl_7, kl_8, e_X7_later_5 (hb := ai_T3) (hE := s_hasD hp), hx, bI_z, if_false]
def aWakes (p : PT) (x : HS) (k k2 : Int32) : Int32 := match swN k p.2.2.1 with
  | none => -1
  | some c => match swN k2 21 with
    | none => -2
    | some N => (pNs p N x).2.2.2.2.1 c
theorem s_X7_wakes (h : RC tx p x n A kp K so sd m lg) (hng : x.2.2.2.2.2 + 40 ≤ 1000) : ∃ m', RC tx p x n A kp K so sd m' lg ∧ FrC m m' ∧ Ev o (d + 20) zX7_wakes [.ref 0, .int k, .int k2] (ai_w m lg) (some (.int (aWakes p x k k2))) (ai_w m' lg) := by
  have hp := h.2.1
  have hh := h.2.2.1
  have hD := hp.1.2.1
  have hb := ai_H21
  rcases sw_cases k p.2.2.1 (by omega) with ⟨dd, hd, rfl, hs, hx⟩ | ⟨hs, hx, hn⟩
  · have d5 : dd < 4 := by omega
    rcases sw_cases k2 21 (by decide) with ⟨N, hN, rfl, hs2, hx2⟩ | ⟨hs2, hx2, hn2⟩
    · have ea : aWakes p x (nI dd) (nI N) = (pNs p N x).2.2.2.2.1 dd := by unfold aWakes; rw [hs]; dsimp only; rw [hs2]
      obtain ⟨m1, f1, f2, f3⟩ := s_X7_lookAhead (o := o) (d := d + 1) (lg := lg) (N := N) (by omega) hp hh (by omega)
      rw [ea]
      refine ⟨m1, h.q (scr_Fr f2), frC_of (scr_Fr f2), ?_⟩
      rw [ev_X7_wakes]
      simp only [e_X7_wakes_0, e_X7_wakes_1, e_X7_wakes_4, e_X7_wakes_8, e_X7_wakes_11, e_X7_wakes_12, e_X7_wakes_13, e_X7_wakes_17, e_X7_wakes_20, e_X7_wakes_22, e_X7_wakes_23, e_X7_wakes_24, e_X7_wakes_28, e_X7_wakes_29, e_X7_wakes_32, e_X7_wakes_35, e_X7_wakes_36, e_X7_wakes_36_o, e_X7_wakes_37, eq_self, nI10, not_false_eq_true, not_true_eq_false, is2_i, is2_r, is2_n, nI_add, pk_mul, Nat.reduceAdd, Nat.reduceMul, hb, ai_T3, hA1 hb, hA2 hb, hA3 hb, hA4 hb, hA5 hb, hL1 hb, hL2 hb, hL3 hb, hL4 hb, hL5 hb, k0_4, k0_5, k0_6, k0_7, k0_8, kl_4, kl_5, kl_6, kl_7, kl_8, e_X7_wakes_5 (hb := ai_T3) (hE := s_hasB hp), e_X7_wakes_14 (hE := s_X7_isNights), hx, hx2, bI_z, if_true, Bool.true_eq_false, e_X7_wakes_25 (hE := f3), d5, f1.2.2.2.2.2.1 dd hd]
    · have ea : aWakes p x (nI dd) k2 = -2 := by unfold aWakes; rw [hs]; dsimp only; rw [hs2]
      rw [ea]
      refine ⟨m, h, fun _ _ => rfl, ?_⟩
      rw [ev_X7_wakes]
      simp only [e_X7_wakes_0, e_X7_wakes_1, e_X7_wakes_4, e_X7_wakes_8, e_X7_wakes_11, e_X7_wakes_12, e_X7_wakes_13, e_X7_wakes_17, e_X7_wakes_20, e_X7_wakes_22, e_X7_wakes_23, e_X7_wakes_24, e_X7_wakes_28, e_X7_wakes_29, e_X7_wakes_32, e_X7_wakes_35, e_X7_wakes_36, e_X7_wakes_36_o, e_X7_wakes_37, eq_self, nI10, not_false_eq_true, not_true_eq_false, is2_i, is2_r, is2_n, nI_add, pk_mul, Nat.reduceAdd, Nat.reduceMul, hb, ai_T3, hA1 hb, hA2 hb, hA3 hb, hA4 hb, hA5 hb, hL1 hb, hL2 hb, hL3 hb, hL4 hb, hL5 hb, k0_4, k0_5, k0_6, k0_7, k0_8, kl_4, kl_5, kl_6, kl_7, kl_8, e_X7_wakes_5 (hb := ai_T3) (hE := s_hasB hp), e_X7_wakes_14 (hE := s_X7_isNights), hx, hx2, bI_z, if_true, if_false, Bool.true_eq_false]
  · have ea : aWakes p x k k2 = -1 := by unfold aWakes; rw [hs]
    rw [ea]
    refine ⟨m, h, fun _ _ => rfl, ?_⟩
    rw [ev_X7_wakes]
    simp only [e_X7_wakes_0, e_X7_wakes_1, e_X7_wakes_4, e_X7_wakes_8, e_X7_wakes_11, e_X7_wakes_12, e_X7_wakes_13, e_X7_wakes_17, e_X7_wakes_20, e_X7_wakes_22, e_X7_wakes_23, e_X7_wakes_24, e_X7_wakes_28, e_X7_wakes_29, e_X7_wakes_32, e_X7_wakes_35, e_X7_wakes_36, e_X7_wakes_36_o, e_X7_wakes_37, eq_self, nI10, not_false_eq_true, not_true_eq_false, is2_i, is2_r, is2_n, nI_add, pk_mul, Nat.reduceAdd, Nat.reduceMul, hb, ai_T3, hA1 hb, hA2 hb, hA3 hb, hA4 hb, hA5 hb, hL1 hb, hL2 hb, hL3 hb, hL4 hb, hL5 hb, k0_4, k0_5, k0_6, k0_7, k0_8, kl_4, kl_5, kl_6, kl_7, kl_8, e_X7_wakes_5 (hb := ai_T3) (hE := s_hasB hp), hx, bI_z, if_false]
def aFits (p : PT) (x : HS) (k k2 : Int32) : Int32 := match swN k p.2.2.2.2.1 with
  | none => -1
  | some dd => match swN k2 21 with
    | none => -2
    | some N => nI (mk (pFit p (pNs p N x) dd) p.2.2.1)
theorem s_X7_fits (h : RC tx p x n A kp K so sd m lg) (hng : x.2.2.2.2.2 + 40 ≤ 1000) : ∃ m', RC tx p x n A kp K so sd m' lg ∧ FrC m m' ∧ Ev o (d + 20) zX7_fits [.ref 0, .int k, .int k2] (ai_w m lg) (some (.int (aFits p x k k2))) (ai_w m' lg) := by
  have hp := h.2.1
  have hh := h.2.2.1
  have hD := hp.1.2.2.1
  have hb := ai_H21
  rcases sw_cases k p.2.2.2.2.1 (by omega) with ⟨dd, hd, rfl, hs, hx⟩ | ⟨hs, hx, hn⟩
  · rcases sw_cases k2 21 (by decide) with ⟨N, hN, rfl, hs2, hx2⟩ | ⟨hs2, hx2, hn2⟩
    · have ea : aFits p x (nI dd) (nI N) = nI (mk (pFit p (pNs p N x) dd) p.2.2.1) := by unfold aFits; rw [hs]; dsimp only; rw [hs2]
      obtain ⟨m1, f1, f2, f3⟩ := s_X7_lookAhead (o := o) (d := d + 1) (lg := lg) (N := N) (by omega) hp hh (by omega)
      rw [ea]
      refine ⟨m1, h.q (scr_Fr f2), frC_of (scr_Fr f2), ?_⟩
      rw [ev_X7_fits]
      simp only [e_X7_fits_0, e_X7_fits_1, e_X7_fits_4, e_X7_fits_8, e_X7_fits_11, e_X7_fits_12, e_X7_fits_13, e_X7_fits_17, e_X7_fits_20, e_X7_fits_22, e_X7_fits_23, e_X7_fits_24, e_X7_fits_28, e_X7_fits_29, e_X7_fits_32, e_X7_fits_36, eq_self, nI10, not_false_eq_true, not_true_eq_false, is2_i, is2_r, is2_n, nI_add, pk_mul, Nat.reduceAdd, Nat.reduceMul, hb, ai_T3, hA1 hb, hA2 hb, hA3 hb, hA4 hb, hA5 hb, hL1 hb, hL2 hb, hL3 hb, hL4 hb, hL5 hb, k0_4, k0_5, k0_6, k0_7, k0_8, kl_4, kl_5, kl_6, kl_7, kl_8, e_X7_fits_5 (hb := ai_T3) (hE := s_hasD hp), e_X7_fits_14 (hE := s_X7_isNights), hx, hx2, bI_z, if_true, Bool.true_eq_false, e_X7_fits_25 (hE := f3), e_X7_fits_33 (hb := ai_H21) (hE := s_X2_berthsFitFor (hp.fr ai_H21 f2) f1 ai_H21 hd)]
    · have ea : aFits p x (nI dd) k2 = -2 := by unfold aFits; rw [hs]; dsimp only; rw [hs2]
      rw [ea]
      refine ⟨m, h, fun _ _ => rfl, ?_⟩
      rw [ev_X7_fits]
      simp only [e_X7_fits_0, e_X7_fits_1, e_X7_fits_4, e_X7_fits_8, e_X7_fits_11, e_X7_fits_12, e_X7_fits_13, e_X7_fits_17, e_X7_fits_20, e_X7_fits_22, e_X7_fits_23, e_X7_fits_24, e_X7_fits_28, e_X7_fits_29, e_X7_fits_32, e_X7_fits_36, eq_self, nI10, not_false_eq_true, not_true_eq_false, is2_i, is2_r, is2_n, nI_add, pk_mul, Nat.reduceAdd, Nat.reduceMul, hb, ai_T3, hA1 hb, hA2 hb, hA3 hb, hA4 hb, hA5 hb, hL1 hb, hL2 hb, hL3 hb, hL4 hb, hL5 hb, k0_4, k0_5, k0_6, k0_7, k0_8, kl_4, kl_5, kl_6, kl_7, kl_8, e_X7_fits_5 (hb := ai_T3) (hE := s_hasD hp), e_X7_fits_14 (hE := s_X7_isNights), hx, hx2, bI_z, if_true, if_false, Bool.true_eq_false]
  · have ea : aFits p x k k2 = -1 := by unfold aFits; rw [hs]
    rw [ea]
    refine ⟨m, h, fun _ _ => rfl, ?_⟩
    rw [ev_X7_fits]
    simp only [e_X7_fits_0, e_X7_fits_1, e_X7_fits_4, e_X7_fits_8, e_X7_fits_11, e_X7_fits_12, e_X7_fits_13, e_X7_fits_17, e_X7_fits_20, e_X7_fits_22, e_X7_fits_23, e_X7_fits_24, e_X7_fits_28, e_X7_fits_29, e_X7_fits_32, e_X7_fits_36, eq_self, nI10, not_false_eq_true, not_true_eq_false, is2_i, is2_r, is2_n, nI_add, pk_mul, Nat.reduceAdd, Nat.reduceMul, hb, ai_T3, hA1 hb, hA2 hb, hA3 hb, hA4 hb, hA5 hb, hL1 hb, hL2 hb, hL3 hb, hL4 hb, hL5 hb, k0_4, k0_5, k0_6, k0_7, k0_8, kl_4, kl_5, kl_6, kl_7, kl_8, e_X7_fits_5 (hb := ai_T3) (hE := s_hasD hp), hx, bI_z, if_false]
def pSoon (p : PT) (dd : Nat) : Nat → Nat → HS → Int32
  | _, 0, _ => -9
  | i, j + 1, y => if mk (pFit p y dd) p.2.2.1 = 0 then pSoon p dd (i + 1) j (pNight p y) else nI i
theorem lp_X7_soonest {dd : Nat} (hd : dd < p.2.2.2.2.1) : ∀ (j i : Nat) (m : Nat → Nat → Int32) (y : HS), i + j = 21 → RT p m → RH p y m 21 → y.2.2.2.2.2 + j ≤ 1000 → ∃ m', Fr 21 m m' ∧ Rn o (d + 20) zX7_soonest 43 [.ref 0, .int (nI dd), .int (nI i)] [] (ai_w m lg) (some (.int (pSoon p dd i j y)), ai_w m' lg) := by
  intro j
  induction j with
  | zero =>
    intro i m y hk hp hh hng
    have : i = 21 := by omega
    subst this
    refine ⟨m, Fr.rfl', ?_⟩
    have e1 : nI 20 < nI 21 := by decide
    rw [e_X7_soonest_43]
    simp only [e_X7_soonest_0, e_X7_soonest_1, e_X7_soonest_4, e_X7_soonest_8, e_X7_soonest_11, e_X7_soonest_12, e_X7_soonest_13, e_X7_soonest_14, e_X7_soonest_17, e_X7_soonest_20, e_X7_soonest_21, e_X7_soonest_21_o, e_X7_soonest_22, e_X7_soonest_24, e_X7_soonest_27, e_X7_soonest_29, e_X7_soonest_30, e_X7_soonest_31, e_X7_soonest_34, e_X7_soonest_35, e_X7_soonest_41, e_X7_soonest_42_i, e_X7_soonest_42_r, e_X7_soonest_42_n, e_X7_soonest_44, e_X7_soonest_46, e_X7_soonest_49, e_X7_soonest_50, e_X7_soonest_53, e_X7_soonest_57, e_X7_soonest_60, e_X7_soonest_61, e_X7_soonest_62, e_X7_soonest_63, e_X7_soonest_69, e_X7_soonest_70_i, e_X7_soonest_70_r, e_X7_soonest_70_n, e_X7_soonest_73, e_X7_soonest_76, e_X7_soonest_78, eq_self, nI10, not_false_eq_true, not_true_eq_false, is2_i, is2_r, is2_n, nI_add, pk_mul, Nat.reduceAdd, Nat.reduceMul, e1, if_true, pSoon]
  | succ j ih =>
    intro i m y hk hp hh hng
    have hB := hp.1.2.1
    have hM : mk (pFit p y dd) p.2.2.1 < 32 := Nat.lt_of_lt_of_le (mk_lt _ _) (Nat.pow_le_pow_right (by decide) (show p.2.2.1 ≤ 5 by omega))
    have e1 : ¬ nI 20 < nI i := nI_nlt (by omega) (by omega)
    have e2 := nI_9 (a := mk (pFit p y dd) p.2.2.1) (c := 0) (by omega) (by omega)
    by_cases h0 : mk (pFit p y dd) p.2.2.1 = 0
    · obtain ⟨m1, f1, f2, f3⟩ := s_X2_passNight (o := o) (d := d + 15) (lg := lg) ai_H21 hp hh (by omega)
      obtain ⟨m', g1, g2⟩ := ih (i + 1) m1 _ (by omega) (hp.fr ai_H21 f2) f1 (by rw [pNight_ng]; omega)
      refine ⟨m', f2.trans g1, ?_⟩
      rw [e_X7_soonest_43]
      simp only [e_X7_soonest_0, e_X7_soonest_1, e_X7_soonest_4, e_X7_soonest_8, e_X7_soonest_11, e_X7_soonest_12, e_X7_soonest_13, e_X7_soonest_14, e_X7_soonest_17, e_X7_soonest_20, e_X7_soonest_21, e_X7_soonest_21_o, e_X7_soonest_22, e_X7_soonest_24, e_X7_soonest_27, e_X7_soonest_29, e_X7_soonest_30, e_X7_soonest_31, e_X7_soonest_34, e_X7_soonest_35, e_X7_soonest_41, e_X7_soonest_42_i, e_X7_soonest_42_r, e_X7_soonest_42_n, e_X7_soonest_44, e_X7_soonest_46, e_X7_soonest_49, e_X7_soonest_50, e_X7_soonest_53, e_X7_soonest_57, e_X7_soonest_60, e_X7_soonest_61, e_X7_soonest_62, e_X7_soonest_63, e_X7_soonest_69, e_X7_soonest_70_i, e_X7_soonest_70_r, e_X7_soonest_70_n, e_X7_soonest_73, e_X7_soonest_76, e_X7_soonest_78, eq_self, nI10, not_false_eq_true, not_true_eq_false, is2_i, is2_r, is2_n, nI_add, pk_mul, Nat.reduceAdd, Nat.reduceMul, e1, if_false, e_X7_soonest_54 (hb := ai_H21) (hE := s_X2_berthsFitFor hp hh ai_H21 hd), e2, h0, if_true, e_X7_soonest_66 (hb := ai_H21) (hE := f3), pSoon]
      exact g2
    · refine ⟨m, Fr.rfl', ?_⟩
      rw [e_X7_soonest_43]
      simp only [e_X7_soonest_0, e_X7_soonest_1, e_X7_soonest_4, e_X7_soonest_8, e_X7_soonest_11, e_X7_soonest_12, e_X7_soonest_13, e_X7_soonest_14, e_X7_soonest_17, e_X7_soonest_20, e_X7_soonest_21, e_X7_soonest_21_o, e_X7_soonest_22, e_X7_soonest_24, e_X7_soonest_27, e_X7_soonest_29, e_X7_soonest_30, e_X7_soonest_31, e_X7_soonest_34, e_X7_soonest_35, e_X7_soonest_41, e_X7_soonest_42_i, e_X7_soonest_42_r, e_X7_soonest_42_n, e_X7_soonest_44, e_X7_soonest_46, e_X7_soonest_49, e_X7_soonest_50, e_X7_soonest_53, e_X7_soonest_57, e_X7_soonest_60, e_X7_soonest_61, e_X7_soonest_62, e_X7_soonest_63, e_X7_soonest_69, e_X7_soonest_70_i, e_X7_soonest_70_r, e_X7_soonest_70_n, e_X7_soonest_73, e_X7_soonest_76, e_X7_soonest_78, eq_self, nI10, not_false_eq_true, not_true_eq_false, is2_i, is2_r, is2_n, nI_add, pk_mul, Nat.reduceAdd, Nat.reduceMul, e1, if_false, e_X7_soonest_54 (hb := ai_H21) (hE := s_X2_berthsFitFor hp hh ai_H21 hd), e2, h0, pSoon]
def aSoonest (p : PT) (x : HS) (k : Int32) : Int32 := match swN k p.2.2.2.2.1 with
  | none => -1
  | some dd => if x.1 dd = 9 then -3 else pSoon p dd 0 21 x
theorem s_X7_soonest (h : RC tx p x n A kp K so sd m lg) (hng : x.2.2.2.2.2 + 40 ≤ 1000) : ∃ m', RC tx p x n A kp K so sd m' lg ∧ FrC m m' ∧ Ev o (d + 20) zX7_soonest [.ref 0, .int k] (ai_w m lg) (some (.int (aSoonest p x k))) (ai_w m' lg) := by
  have hp := h.2.1
  have hh := h.2.2.1
  have hD := hp.1.2.2.1
  have hb := ai_H15
  rcases sw_cases k p.2.2.2.2.1 (by omega) with ⟨dd, hd, rfl, hs, hx⟩ | ⟨hs, hx, hn⟩
  · have d5 : dd < 5 := by omega
    have h9 := hs_p hp hh hd
    have e9 := nI_9 (a := x.1 dd) (c := 9) (by omega) (by omega)
    by_cases q : x.1 dd = 9
    · have ea : aSoonest p x (nI dd) = -3 := by unfold aSoonest; rw [hs]; exact if_pos q
      rw [ea]
      refine ⟨m, h, fun _ _ => rfl, ?_⟩
      rw [ev_X7_soonest]
      simp only [e_X7_soonest_0, e_X7_soonest_1, e_X7_soonest_4, e_X7_soonest_8, e_X7_soonest_11, e_X7_soonest_12, e_X7_soonest_13, e_X7_soonest_14, e_X7_soonest_17, e_X7_soonest_20, e_X7_soonest_21, e_X7_soonest_21_o, e_X7_soonest_22, e_X7_soonest_24, e_X7_soonest_27, e_X7_soonest_29, e_X7_soonest_30, e_X7_soonest_31, e_X7_soonest_34, e_X7_soonest_35, e_X7_soonest_41, e_X7_soonest_42_i, e_X7_soonest_42_r, e_X7_soonest_42_n, e_X7_soonest_44, e_X7_soonest_46, e_X7_soonest_49, e_X7_soonest_50, e_X7_soonest_53, e_X7_soonest_57, e_X7_soonest_60, e_X7_soonest_61, e_X7_soonest_62, e_X7_soonest_63, e_X7_soonest_69, e_X7_soonest_70_i, e_X7_soonest_70_r, e_X7_soonest_70_n, e_X7_soonest_73, e_X7_soonest_76, e_X7_soonest_78, eq_self, nI10, not_false_eq_true, not_true_eq_false, is2_i, is2_r, is2_n, nI_add, pk_mul, Nat.reduceAdd, Nat.reduceMul, hb, ai_T3, hA1 hb, hA2 hb, hA3 hb, hA4 hb, hA5 hb, hL1 hb, hL2 hb, hL3 hb, hL4 hb, hL5 hb, k0_4, k0_5, k0_6, k0_7, k0_8, kl_4, kl_5, kl_6, kl_7, kl_8, d5, hh.2.1 dd hd, e_X7_soonest_5 (hb := ai_T3) (hE := s_hasD hp), hx, bI_z, if_true, Bool.true_eq_false, e9, q, if_false]
    · have ea : aSoonest p x (nI dd) = pSoon p dd 0 21 x := by unfold aSoonest; rw [hs]; exact if_neg q
      rw [ea]
      obtain ⟨m1, f1, f2, f3⟩ := s_X2_becomes (o := o) (d := d + 18) (lg := lg) ai_H21 ai_H15 (by decide) hp hh
      obtain ⟨m', g1, g2⟩ := lp_X7_soonest (o := o) (d := d) (lg := lg) hd 21 0 m1 x (by omega) (hp.fr ai_H21 f2) f1 (by omega)
      have fr := scr_Fr (f2.trans g1)
      refine ⟨m', h.q fr, frC_of fr, ?_⟩
      rw [ev_X7_soonest]
      simp only [e_X7_soonest_0, e_X7_soonest_1, e_X7_soonest_4, e_X7_soonest_8, e_X7_soonest_11, e_X7_soonest_12, e_X7_soonest_13, e_X7_soonest_14, e_X7_soonest_17, e_X7_soonest_20, e_X7_soonest_21, e_X7_soonest_21_o, e_X7_soonest_22, e_X7_soonest_24, e_X7_soonest_27, e_X7_soonest_29, e_X7_soonest_30, e_X7_soonest_31, e_X7_soonest_34, e_X7_soonest_35, e_X7_soonest_41, e_X7_soonest_42_i, e_X7_soonest_42_r, e_X7_soonest_42_n, e_X7_soonest_44, e_X7_soonest_46, e_X7_soonest_49, e_X7_soonest_50, e_X7_soonest_53, e_X7_soonest_57, e_X7_soonest_60, e_X7_soonest_61, e_X7_soonest_62, e_X7_soonest_63, e_X7_soonest_69, e_X7_soonest_70_i, e_X7_soonest_70_r, e_X7_soonest_70_n, e_X7_soonest_73, e_X7_soonest_76, e_X7_soonest_78, eq_self, nI10, not_false_eq_true, not_true_eq_false, is2_i, is2_r, is2_n, nI_add, pk_mul, Nat.reduceAdd, Nat.reduceMul, hb, ai_T3, hA1 hb, hA2 hb, hA3 hb, hA4 hb, hA5 hb, hL1 hb, hL2 hb, hL3 hb, hL4 hb, hL5 hb, k0_4, k0_5, k0_6, k0_7, k0_8, kl_4, kl_5, kl_6, kl_7, kl_8, d5, hh.2.1 dd hd, e_X7_soonest_5 (hb := ai_T3) (hE := s_hasD hp), hx, bI_z, if_true, Bool.true_eq_false, e9, q, if_false, e_X7_soonest_38 (hb := ai_H21) (hE := f3)]
      exact g2
  · have ea : aSoonest p x k = -1 := by unfold aSoonest; rw [hs]
    rw [ea]
    refine ⟨m, h, fun _ _ => rfl, ?_⟩
    rw [ev_X7_soonest]
    simp only [e_X7_soonest_0, e_X7_soonest_1, e_X7_soonest_4, e_X7_soonest_8, e_X7_soonest_11, e_X7_soonest_12, e_X7_soonest_13, e_X7_soonest_14, e_X7_soonest_17, e_X7_soonest_20, e_X7_soonest_21, e_X7_soonest_21_o, e_X7_soonest_22, e_X7_soonest_24, e_X7_soonest_27, e_X7_soonest_29, e_X7_soonest_30, e_X7_soonest_31, e_X7_soonest_34, e_X7_soonest_35, e_X7_soonest_41, e_X7_soonest_42_i, e_X7_soonest_42_r, e_X7_soonest_42_n, e_X7_soonest_44, e_X7_soonest_46, e_X7_soonest_49, e_X7_soonest_50, e_X7_soonest_53, e_X7_soonest_57, e_X7_soonest_60, e_X7_soonest_61, e_X7_soonest_62, e_X7_soonest_63, e_X7_soonest_69, e_X7_soonest_70_i, e_X7_soonest_70_r, e_X7_soonest_70_n, e_X7_soonest_73, e_X7_soonest_76, e_X7_soonest_78, eq_self, nI10, not_false_eq_true, not_true_eq_false, is2_i, is2_r, is2_n, nI_add, pk_mul, Nat.reduceAdd, Nat.reduceMul, hb, ai_T3, hA1 hb, hA2 hb, hA3 hb, hA4 hb, hA5 hb, hL1 hb, hL2 hb, hL3 hb, hL4 hb, hL5 hb, k0_4, k0_5, k0_6, k0_7, k0_8, kl_4, kl_5, kl_6, kl_7, kl_8, e_X7_soonest_5 (hb := ai_T3) (hE := s_hasD hp), hx, bI_z, if_false]
-- depths
/-- the first below n that has f -/
def fst (f : Nat → Bool) : Nat → Option Nat
  | 0 => none
  | n + 1 => match fst f n with
    | some a => some a
    | none => if f n = true then some n else none
def fsI (g : Nat → Nat) : Option Nat → Int32
  | none => -9
  | some k => nI (g k)
theorem fs_ne {f : Nat → Bool} {g : Nat → Nat} (hg : ∀ k, g k < 2 ^ 31) {n : Nat} : (fsI g (fst f n) = -9) = (fst f n = none) := by
  cases h : fst f n with
  | none => simp [fsI]
  | some a =>
    have : ¬ nI (g a) = -9 := fun z => by
      have h1 := nI_toInt (hg a)
      rw [z] at h1
      have : (-9 : Int32).toInt = -9 := by decide
      omega
    simp [fsI, this]
def dpAt (p : PT) (so : SO) (k : Nat) : Bool := allB (soIs p so (3 * (k / 10)) (k % 10)) so.1
def dpV (k : Nat) : Nat := if k < 20 then k / 10 * 30 + k % 10 else 0
theorem dpV_lt (k : Nat) : dpV k < 2 ^ 31 := by unfold dpV; split <;> omega
theorem lp_X7_depths (hS : RS so m) (hp : RT p m) {e : Nat} (he : e ≤ 1) : ∀ j dp, dp + j = 10 → Rn o (d + 20) zX7_depths 29 [.ref 0, .int k, .int (nI (cn (dpAt p so) (10 * e + dp))), .int (fsI dpV (fst (dpAt p so) (10 * e + dp))), .int (nI (3 * e)), .int (nI dp)] [] (ai_w m lg) r = Rn o (d + 20) zX7_depths 82 [.ref 0, .int k, .int (nI (cn (dpAt p so) (10 * e + 10))), .int (fsI dpV (fst (dpAt p so) (10 * e + 10))), .int (nI (3 * e)), .int (nI 10)] [] (ai_w m lg) r := by
  intro j
  induction j with
  | zero =>
    intro dp hj
    have : dp = 10 := by omega
    subst this
    have e1 : nI 9 < nI 10 := by decide
    rw [e_X7_depths_29]
    simp only [e_X7_depths_0, e_X7_depths_1, e_X7_depths_4, e_X7_depths_5, e_X7_depths_6, e_X7_depths_9, e_X7_depths_11, e_X7_depths_12, e_X7_depths_13_i, e_X7_depths_13_r, e_X7_depths_13_n, e_X7_depths_14, e_X7_depths_16_i, e_X7_depths_16_r, e_X7_depths_16_n, e_X7_depths_17, e_X7_depths_18_i, e_X7_depths_18_r, e_X7_depths_18_n, e_X7_depths_22, e_X7_depths_23, e_X7_depths_26, e_X7_depths_27_i, e_X7_depths_27_r, e_X7_depths_27_n, e_X7_depths_31, e_X7_depths_33, e_X7_depths_36, e_X7_depths_37, e_X7_depths_40, e_X7_depths_42, e_X7_depths_44, e_X7_depths_45, e_X7_depths_51, e_X7_depths_54_i, e_X7_depths_54_r, e_X7_depths_54_n, e_X7_depths_57, e_X7_depths_58, e_X7_depths_60, e_X7_depths_63, e_X7_depths_65, e_X7_depths_67, e_X7_depths_68, e_X7_depths_70, e_X7_depths_71, e_X7_depths_74, e_X7_depths_75_i, e_X7_depths_75_r, e_X7_depths_75_n, e_X7_depths_76_i, e_X7_depths_76_r, e_X7_depths_76_n, e_X7_depths_79, e_X7_depths_85, e_X7_depths_88, e_X7_depths_89, e_X7_depths_92, e_X7_depths_93, e_X7_depths_96, e_X7_depths_97, eq_self, nI10, not_false_eq_true, not_true_eq_false, is2_i, is2_r, is2_n, nI_add, pk_mul, Nat.reduceAdd, Nat.reduceMul, e1, if_true]
  | succ j ih =>
    intro dp hj
    have e1 : ¬ nI 9 < nI dp := nI_nlt (by omega) (by omega)
    have ag := s_X4_agrees (o := o) (d := d + 17) (lg := lg) hS hp (kd := 3 * e) (dp := dp) (by omega) (by omega)
    have ef : allB (soIs p so (3 * e) dp) so.1 = dpAt p so (10 * e + dp) := by
      unfold dpAt
      rw [show (10 * e + dp) / 10 = e by omega, show (10 * e + dp) % 10 = dp by omega]
    rw [ef] at ag
    have ev : 10 * (3 * e) + dp = dpV (10 * e + dp) := by unfold dpV; rw [if_pos (by omega)]; omega
    rw [e_X7_depths_29, ← ih (dp + 1) (by omega), show 10 * e + (dp + 1) = 10 * e + dp + 1 from rfl]
    cases hf : dpAt p so (10 * e + dp)
    · rw [hf] at ag
      have c1 : cn (dpAt p so) (10 * e + dp + 1) = cn (dpAt p so) (10 * e + dp) := by rw [cn, hf]; rfl
      have c2 : fst (dpAt p so) (10 * e + dp + 1) = fst (dpAt p so) (10 * e + dp) := by
        rw [fst, hf]; cases fst (dpAt p so) (10 * e + dp) <;> rfl
      simp only [e_X7_depths_0, e_X7_depths_1, e_X7_depths_4, e_X7_depths_5, e_X7_depths_6, e_X7_depths_9, e_X7_depths_11, e_X7_depths_12, e_X7_depths_13_i, e_X7_depths_13_r, e_X7_depths_13_n, e_X7_depths_14, e_X7_depths_16_i, e_X7_depths_16_r, e_X7_depths_16_n, e_X7_depths_17, e_X7_depths_18_i, e_X7_depths_18_r, e_X7_depths_18_n, e_X7_depths_22, e_X7_depths_23, e_X7_depths_26, e_X7_depths_27_i, e_X7_depths_27_r, e_X7_depths_27_n, e_X7_depths_31, e_X7_depths_33, e_X7_depths_36, e_X7_depths_37, e_X7_depths_40, e_X7_depths_42, e_X7_depths_44, e_X7_depths_45, e_X7_depths_51, e_X7_depths_54_i, e_X7_depths_54_r, e_X7_depths_54_n, e_X7_depths_57, e_X7_depths_58, e_X7_depths_60, e_X7_depths_63, e_X7_depths_65, e_X7_depths_67, e_X7_depths_68, e_X7_depths_70, e_X7_depths_71, e_X7_depths_74, e_X7_depths_75_i, e_X7_depths_75_r, e_X7_depths_75_n, e_X7_depths_76_i, e_X7_depths_76_r, e_X7_depths_76_n, e_X7_depths_79, e_X7_depths_85, e_X7_depths_88, e_X7_depths_89, e_X7_depths_92, e_X7_depths_93, e_X7_depths_96, e_X7_depths_97, eq_self, nI10, not_false_eq_true, not_true_eq_false, is2_i, is2_r, is2_n, nI_add, pk_mul, Nat.reduceAdd, Nat.reduceMul, e1, if_false, e_X7_depths_48 (hE := ag), bI_z, if_true, c1, c2]
    · rw [hf] at ag
      have c1 : cn (dpAt p so) (10 * e + dp + 1) = cn (dpAt p so) (10 * e + dp) + 1 := by rw [cn, hf]; rfl
      have c2 : fst (dpAt p so) (10 * e + dp + 1) = if fst (dpAt p so) (10 * e + dp) = none then some (10 * e + dp) else fst (dpAt p so) (10 * e + dp) := by
        rw [fst, hf]; cases fst (dpAt p so) (10 * e + dp) <;> rfl
      simp only [e_X7_depths_0, e_X7_depths_1, e_X7_depths_4, e_X7_depths_5, e_X7_depths_6, e_X7_depths_9, e_X7_depths_11, e_X7_depths_12, e_X7_depths_13_i, e_X7_depths_13_r, e_X7_depths_13_n, e_X7_depths_14, e_X7_depths_16_i, e_X7_depths_16_r, e_X7_depths_16_n, e_X7_depths_17, e_X7_depths_18_i, e_X7_depths_18_r, e_X7_depths_18_n, e_X7_depths_22, e_X7_depths_23, e_X7_depths_26, e_X7_depths_27_i, e_X7_depths_27_r, e_X7_depths_27_n, e_X7_depths_31, e_X7_depths_33, e_X7_depths_36, e_X7_depths_37, e_X7_depths_40, e_X7_depths_42, e_X7_depths_44, e_X7_depths_45, e_X7_depths_51, e_X7_depths_54_i, e_X7_depths_54_r, e_X7_depths_54_n, e_X7_depths_57, e_X7_depths_58, e_X7_depths_60, e_X7_depths_63, e_X7_depths_65, e_X7_depths_67, e_X7_depths_68, e_X7_depths_70, e_X7_depths_71, e_X7_depths_74, e_X7_depths_75_i, e_X7_depths_75_r, e_X7_depths_75_n, e_X7_depths_76_i, e_X7_depths_76_r, e_X7_depths_76_n, e_X7_depths_79, e_X7_depths_85, e_X7_depths_88, e_X7_depths_89, e_X7_depths_92, e_X7_depths_93, e_X7_depths_96, e_X7_depths_97, eq_self, nI10, not_false_eq_true, not_true_eq_false, is2_i, is2_r, is2_n, nI_add, pk_mul, Nat.reduceAdd, Nat.reduceMul, e1, if_false, e_X7_depths_48 (hE := ag), bI_z, Bool.true_eq_false, fs_ne dpV_lt, c1, c2, ev]
      by_cases h0 : fst (dpAt p so) (10 * e + dp) = none
      · rw [h0]
        simp only [if_true, not_true_eq_false, if_false, fsI]
      · rw [if_pos h0, if_neg h0]
def aDepths (p : PT) (so : SO) (k : Int32) : Int32 := match swN k 2 with
  | some 0 => nI (cn (dpAt p so) 20)
  | some _ => fsI dpV (fst (dpAt p so) 20)
  | none => -2
theorem s_X7_depths (h : RC tx p x n A kp K so sd m lg) : Ev o (d + 20) zX7_depths [.ref 0, .int k] (ai_w m lg) (some (.int (aDepths p so k))) (ai_w m lg) := by
  have hp := h.2.1
  have hS := h.2.2.2.2.1
  rw [ev_X7_depths]
  rcases sw_cases k 2 (by decide) with ⟨j, hj, rfl, hs, _⟩ | ⟨hs, _, hn⟩
  · have e0 : ¬ nI j < nI 0 := nI_pos (by omega)
    have e1 : nI j ≤ nI 1 := nI_le (by omega) (by decide)
    have e3 : ¬ nI 3 < nI 0 := by decide
    have e4 : ¬ nI 3 < nI 3 := by decide
    have e6 : nI 3 < nI 6 := by decide
    have l0 := fun r => lp_X7_depths (o := o) (d := d) (lg := lg) (r := r) (k := nI j) hS hp (e := 0) (by omega) 10 0 (by omega)
    have l1 := fun r => lp_X7_depths (o := o) (d := d) (lg := lg) (r := r) (k := nI j) hS hp (e := 1) (by omega) 10 0 (by omega)
    simp only [Nat.mul_zero, Nat.zero_add, Nat.mul_one, Nat.add_zero, Nat.reduceAdd] at l0 l1
    simp only [e_X7_depths_0, e_X7_depths_1, e_X7_depths_4, e_X7_depths_5, e_X7_depths_6, e_X7_depths_9, e_X7_depths_11, e_X7_depths_12, e_X7_depths_13_i, e_X7_depths_13_r, e_X7_depths_13_n, e_X7_depths_14, e_X7_depths_16_i, e_X7_depths_16_r, e_X7_depths_16_n, e_X7_depths_17, e_X7_depths_18_i, e_X7_depths_18_r, e_X7_depths_18_n, e_X7_depths_22, e_X7_depths_23, e_X7_depths_26, e_X7_depths_27_i, e_X7_depths_27_r, e_X7_depths_27_n, e_X7_depths_31, e_X7_depths_33, e_X7_depths_36, e_X7_depths_37, e_X7_depths_40, e_X7_depths_42, e_X7_depths_44, e_X7_depths_45, e_X7_depths_51, e_X7_depths_54_i, e_X7_depths_54_r, e_X7_depths_54_n, e_X7_depths_57, e_X7_depths_58, e_X7_depths_60, e_X7_depths_63, e_X7_depths_65, e_X7_depths_67, e_X7_depths_68, e_X7_depths_70, e_X7_depths_71, e_X7_depths_74, e_X7_depths_75_i, e_X7_depths_75_r, e_X7_depths_75_n, e_X7_depths_76_i, e_X7_depths_76_r, e_X7_depths_76_n, e_X7_depths_79, e_X7_depths_82_i, e_X7_depths_82_r, e_X7_depths_82_n, e_X7_depths_85, e_X7_depths_88, e_X7_depths_89, e_X7_depths_92, e_X7_depths_93, e_X7_depths_96, e_X7_depths_97, eq_self, nI10, not_false_eq_true, not_true_eq_false, is2_i, is2_r, is2_n, nI_add, pk_mul, Nat.reduceAdd, Nat.reduceMul, e0, e1, if_true, if_false]
    rw [e_X7_depths_20]
    simp only [e_X7_depths_0, e_X7_depths_1, e_X7_depths_4, e_X7_depths_5, e_X7_depths_6, e_X7_depths_9, e_X7_depths_11, e_X7_depths_12, e_X7_depths_13_i, e_X7_depths_13_r, e_X7_depths_13_n, e_X7_depths_14, e_X7_depths_16_i, e_X7_depths_16_r, e_X7_depths_16_n, e_X7_depths_17, e_X7_depths_18_i, e_X7_depths_18_r, e_X7_depths_18_n, e_X7_depths_22, e_X7_depths_23, e_X7_depths_26, e_X7_depths_27_i, e_X7_depths_27_r, e_X7_depths_27_n, e_X7_depths_31, e_X7_depths_33, e_X7_depths_36, e_X7_depths_37, e_X7_depths_40, e_X7_depths_42, e_X7_depths_44, e_X7_depths_45, e_X7_depths_51, e_X7_depths_54_i, e_X7_depths_54_r, e_X7_depths_54_n, e_X7_depths_57, e_X7_depths_58, e_X7_depths_60, e_X7_depths_63, e_X7_depths_65, e_X7_depths_67, e_X7_depths_68, e_X7_depths_70, e_X7_depths_71, e_X7_depths_74, e_X7_depths_75_i, e_X7_depths_75_r, e_X7_depths_75_n, e_X7_depths_76_i, e_X7_depths_76_r, e_X7_depths_76_n, e_X7_depths_79, e_X7_depths_82_i, e_X7_depths_82_r, e_X7_depths_82_n, e_X7_depths_85, e_X7_depths_88, e_X7_depths_89, e_X7_depths_92, e_X7_depths_93, e_X7_depths_96, e_X7_depths_97, eq_self, nI10, not_false_eq_true, not_true_eq_false, is2_i, is2_r, is2_n, nI_add, pk_mul, Nat.reduceAdd, Nat.reduceMul, e3, if_false]
    refine Eq.mpr (l0 _) ?_
    simp only [e_X7_depths_0, e_X7_depths_1, e_X7_depths_4, e_X7_depths_5, e_X7_depths_6, e_X7_depths_9, e_X7_depths_11, e_X7_depths_12, e_X7_depths_13_i, e_X7_depths_13_r, e_X7_depths_13_n, e_X7_depths_14, e_X7_depths_16_i, e_X7_depths_16_r, e_X7_depths_16_n, e_X7_depths_17, e_X7_depths_18_i, e_X7_depths_18_r, e_X7_depths_18_n, e_X7_depths_22, e_X7_depths_23, e_X7_depths_26, e_X7_depths_27_i, e_X7_depths_27_r, e_X7_depths_27_n, e_X7_depths_31, e_X7_depths_33, e_X7_depths_36, e_X7_depths_37, e_X7_depths_40, e_X7_depths_42, e_X7_depths_44, e_X7_depths_45, e_X7_depths_51, e_X7_depths_54_i, e_X7_depths_54_r, e_X7_depths_54_n, e_X7_depths_57, e_X7_depths_58, e_X7_depths_60, e_X7_depths_63, e_X7_depths_65, e_X7_depths_67, e_X7_depths_68, e_X7_depths_70, e_X7_depths_71, e_X7_depths_74, e_X7_depths_75_i, e_X7_depths_75_r, e_X7_depths_75_n, e_X7_depths_76_i, e_X7_depths_76_r, e_X7_depths_76_n, e_X7_depths_79, e_X7_depths_82_i, e_X7_depths_82_r, e_X7_depths_82_n, e_X7_depths_85, e_X7_depths_88, e_X7_depths_89, e_X7_depths_92, e_X7_depths_93, e_X7_depths_96, e_X7_depths_97, eq_self, nI10, not_false_eq_true, not_true_eq_false, is2_i, is2_r, is2_n, nI_add, pk_mul, Nat.reduceAdd, Nat.reduceMul]
    rw [e_X7_depths_20]
    simp only [e_X7_depths_0, e_X7_depths_1, e_X7_depths_4, e_X7_depths_5, e_X7_depths_6, e_X7_depths_9, e_X7_depths_11, e_X7_depths_12, e_X7_depths_13_i, e_X7_depths_13_r, e_X7_depths_13_n, e_X7_depths_14, e_X7_depths_16_i, e_X7_depths_16_r, e_X7_depths_16_n, e_X7_depths_17, e_X7_depths_18_i, e_X7_depths_18_r, e_X7_depths_18_n, e_X7_depths_22, e_X7_depths_23, e_X7_depths_26, e_X7_depths_27_i, e_X7_depths_27_r, e_X7_depths_27_n, e_X7_depths_31, e_X7_depths_33, e_X7_depths_36, e_X7_depths_37, e_X7_depths_40, e_X7_depths_42, e_X7_depths_44, e_X7_depths_45, e_X7_depths_51, e_X7_depths_54_i, e_X7_depths_54_r, e_X7_depths_54_n, e_X7_depths_57, e_X7_depths_58, e_X7_depths_60, e_X7_depths_63, e_X7_depths_65, e_X7_depths_67, e_X7_depths_68, e_X7_depths_70, e_X7_depths_71, e_X7_depths_74, e_X7_depths_75_i, e_X7_depths_75_r, e_X7_depths_75_n, e_X7_depths_76_i, e_X7_depths_76_r, e_X7_depths_76_n, e_X7_depths_79, e_X7_depths_82_i, e_X7_depths_82_r, e_X7_depths_82_n, e_X7_depths_85, e_X7_depths_88, e_X7_depths_89, e_X7_depths_92, e_X7_depths_93, e_X7_depths_96, e_X7_depths_97, eq_self, nI10, not_false_eq_true, not_true_eq_false, is2_i, is2_r, is2_n, nI_add, pk_mul, Nat.reduceAdd, Nat.reduceMul, e4, if_false]
    refine Eq.mpr (l1 _) ?_
    simp only [e_X7_depths_0, e_X7_depths_1, e_X7_depths_4, e_X7_depths_5, e_X7_depths_6, e_X7_depths_9, e_X7_depths_11, e_X7_depths_12, e_X7_depths_13_i, e_X7_depths_13_r, e_X7_depths_13_n, e_X7_depths_14, e_X7_depths_16_i, e_X7_depths_16_r, e_X7_depths_16_n, e_X7_depths_17, e_X7_depths_18_i, e_X7_depths_18_r, e_X7_depths_18_n, e_X7_depths_22, e_X7_depths_23, e_X7_depths_26, e_X7_depths_27_i, e_X7_depths_27_r, e_X7_depths_27_n, e_X7_depths_31, e_X7_depths_33, e_X7_depths_36, e_X7_depths_37, e_X7_depths_40, e_X7_depths_42, e_X7_depths_44, e_X7_depths_45, e_X7_depths_51, e_X7_depths_54_i, e_X7_depths_54_r, e_X7_depths_54_n, e_X7_depths_57, e_X7_depths_58, e_X7_depths_60, e_X7_depths_63, e_X7_depths_65, e_X7_depths_67, e_X7_depths_68, e_X7_depths_70, e_X7_depths_71, e_X7_depths_74, e_X7_depths_75_i, e_X7_depths_75_r, e_X7_depths_75_n, e_X7_depths_76_i, e_X7_depths_76_r, e_X7_depths_76_n, e_X7_depths_79, e_X7_depths_82_i, e_X7_depths_82_r, e_X7_depths_82_n, e_X7_depths_85, e_X7_depths_88, e_X7_depths_89, e_X7_depths_92, e_X7_depths_93, e_X7_depths_96, e_X7_depths_97, eq_self, nI10, not_false_eq_true, not_true_eq_false, is2_i, is2_r, is2_n, nI_add, pk_mul, Nat.reduceAdd, Nat.reduceMul]
    rw [e_X7_depths_20]
    simp only [e_X7_depths_0, e_X7_depths_1, e_X7_depths_4, e_X7_depths_5, e_X7_depths_6, e_X7_depths_9, e_X7_depths_11, e_X7_depths_12, e_X7_depths_13_i, e_X7_depths_13_r, e_X7_depths_13_n, e_X7_depths_14, e_X7_depths_16_i, e_X7_depths_16_r, e_X7_depths_16_n, e_X7_depths_17, e_X7_depths_18_i, e_X7_depths_18_r, e_X7_depths_18_n, e_X7_depths_22, e_X7_depths_23, e_X7_depths_26, e_X7_depths_27_i, e_X7_depths_27_r, e_X7_depths_27_n, e_X7_depths_31, e_X7_depths_33, e_X7_depths_36, e_X7_depths_37, e_X7_depths_40, e_X7_depths_42, e_X7_depths_44, e_X7_depths_45, e_X7_depths_51, e_X7_depths_54_i, e_X7_depths_54_r, e_X7_depths_54_n, e_X7_depths_57, e_X7_depths_58, e_X7_depths_60, e_X7_depths_63, e_X7_depths_65, e_X7_depths_67, e_X7_depths_68, e_X7_depths_70, e_X7_depths_71, e_X7_depths_74, e_X7_depths_75_i, e_X7_depths_75_r, e_X7_depths_75_n, e_X7_depths_76_i, e_X7_depths_76_r, e_X7_depths_76_n, e_X7_depths_79, e_X7_depths_82_i, e_X7_depths_82_r, e_X7_depths_82_n, e_X7_depths_85, e_X7_depths_88, e_X7_depths_89, e_X7_depths_92, e_X7_depths_93, e_X7_depths_96, e_X7_depths_97, eq_self, nI10, not_false_eq_true, not_true_eq_false, is2_i, is2_r, is2_n, nI_add, pk_mul, Nat.reduceAdd, Nat.reduceMul, e6, if_true]
    rcases (show j = 0 ∨ j = 1 by omega) with rfl | rfl
    · have ea : aDepths p so (nI 0) = nI (cn (dpAt p so) 20) := by unfold aDepths; rw [hs]; rfl
      rw [ea]
      simp
    · have ea : aDepths p so (nI 1) = fsI dpV (fst (dpAt p so) 20) := by unfold aDepths; rw [hs]; rfl
      rw [ea]
      simp [nI10]
  · have ea : aDepths p so k = -2 := by unfold aDepths; rw [hs]
    rw [ea]
    rcases hn with hn | ⟨j, hj, hj2, rfl⟩
    · simp only [e_X7_depths_0, e_X7_depths_1, e_X7_depths_4, e_X7_depths_5, e_X7_depths_6, e_X7_depths_9, e_X7_depths_11, e_X7_depths_12, e_X7_depths_13_i, e_X7_depths_13_r, e_X7_depths_13_n, e_X7_depths_14, e_X7_depths_16_i, e_X7_depths_16_r, e_X7_depths_16_n, e_X7_depths_17, e_X7_depths_18_i, e_X7_depths_18_r, e_X7_depths_18_n, e_X7_depths_22, e_X7_depths_23, e_X7_depths_26, e_X7_depths_27_i, e_X7_depths_27_r, e_X7_depths_27_n, e_X7_depths_31, e_X7_depths_33, e_X7_depths_36, e_X7_depths_37, e_X7_depths_40, e_X7_depths_42, e_X7_depths_44, e_X7_depths_45, e_X7_depths_51, e_X7_depths_54_i, e_X7_depths_54_r, e_X7_depths_54_n, e_X7_depths_57, e_X7_depths_58, e_X7_depths_60, e_X7_depths_63, e_X7_depths_65, e_X7_depths_67, e_X7_depths_68, e_X7_depths_70, e_X7_depths_71, e_X7_depths_74, e_X7_depths_75_i, e_X7_depths_75_r, e_X7_depths_75_n, e_X7_depths_76_i, e_X7_depths_76_r, e_X7_depths_76_n, e_X7_depths_79, e_X7_depths_82_i, e_X7_depths_82_r, e_X7_depths_82_n, e_X7_depths_85, e_X7_depths_88, e_X7_depths_89, e_X7_depths_92, e_X7_depths_93, e_X7_depths_96, e_X7_depths_97, eq_self, nI10, not_false_eq_true, not_true_eq_false, is2_i, is2_r, is2_n, nI_add, pk_mul, Nat.reduceAdd, Nat.reduceMul, hn, if_true]
    · have e0 : ¬ nI j < nI 0 := nI_pos hj2
      have e1 : ¬ nI j ≤ nI 1 := nI_ge (by omega) hj2
      simp only [e_X7_depths_0, e_X7_depths_1, e_X7_depths_4, e_X7_depths_5, e_X7_depths_6, e_X7_depths_9, e_X7_depths_11, e_X7_depths_12, e_X7_depths_13_i, e_X7_depths_13_r, e_X7_depths_13_n, e_X7_depths_14, e_X7_depths_16_i, e_X7_depths_16_r, e_X7_depths_16_n, e_X7_depths_17, e_X7_depths_18_i, e_X7_depths_18_r, e_X7_depths_18_n, e_X7_depths_22, e_X7_depths_23, e_X7_depths_26, e_X7_depths_27_i, e_X7_depths_27_r, e_X7_depths_27_n, e_X7_depths_31, e_X7_depths_33, e_X7_depths_36, e_X7_depths_37, e_X7_depths_40, e_X7_depths_42, e_X7_depths_44, e_X7_depths_45, e_X7_depths_51, e_X7_depths_54_i, e_X7_depths_54_r, e_X7_depths_54_n, e_X7_depths_57, e_X7_depths_58, e_X7_depths_60, e_X7_depths_63, e_X7_depths_65, e_X7_depths_67, e_X7_depths_68, e_X7_depths_70, e_X7_depths_71, e_X7_depths_74, e_X7_depths_75_i, e_X7_depths_75_r, e_X7_depths_75_n, e_X7_depths_76_i, e_X7_depths_76_r, e_X7_depths_76_n, e_X7_depths_79, e_X7_depths_82_i, e_X7_depths_82_r, e_X7_depths_82_n, e_X7_depths_85, e_X7_depths_88, e_X7_depths_89, e_X7_depths_92, e_X7_depths_93, e_X7_depths_96, e_X7_depths_97, eq_self, nI10, not_false_eq_true, not_true_eq_false, is2_i, is2_r, is2_n, nI_add, pk_mul, Nat.reduceAdd, Nat.reduceMul, e0, e1, if_false]
end P44
