/-! SleepHarbour's own methods, over the class's state -/
def scr (i : Nat) : Prop := (9 ≤ i ∧ i ≤ 14) ∨ (21 ≤ i ∧ i ≤ 26) ∨ i = 117
/-- an int as a number below n, if it is one -/
def swN (k : Int32) (n : Nat) : Option Nat := if ixB k n = true then some k.toNatClampNeg else none
theorem sw_of {j n : Nat} (h : j < n) (hn : n < 2 ^ 31) : swN (nI j) n = some j := by
  unfold swN
  rw [ix_nI h hn, if_pos rfl, nI_clamp (by omega)]
theorem sw_cases (k : Int32) (n : Nat) (hn : n < 2 ^ 31) : (∃ j, j < n ∧ k = nI j ∧ swN k n = some j ∧ ixB k n = true) ∨ (swN k n = none ∧ ixB k n = false ∧ (k < nI 0 ∨ ∃ j, n ≤ j ∧ j < 2 ^ 31 ∧ k = nI j)) := by
  cases h : ixB k n
  · refine Or.inr ⟨by unfold swN; rw [h]; rfl, rfl, ?_⟩
    by_cases h0 : k < nI 0
    · exact Or.inl h0
    · obtain ⟨j, h1, rfl⟩ := nI_of (x := k) h0
      refine Or.inr ⟨j, ?_, h1, rfl⟩
      rw [nI_ix h1 hn] at h
      have := of_decide_eq_false h
      omega
  · obtain ⟨j, h1, rfl⟩ := ix_of h hn
    exact Or.inl ⟨j, h1, rfl, sw_of h1 hn, rfl⟩
theorem sw_toInt {k : Int32} {n : Nat} (hn : n < 2 ^ 31) (h : k < nI 0 ∨ ∃ j, n ≤ j ∧ j < 2 ^ 31 ∧ k = nI j) : k.toInt < 0 ∨ (n : Int) - 1 < k.toInt := by
  rcases h with h | ⟨j, h1, h2, rfl⟩
  · left
    have := Int32.lt_iff_toInt_lt.mp h
    rw [nI_toInt (by omega)] at this
    exact this
  · right
    rw [nI_toInt h2]
    omega
def RC (tx : TX) (p : PT) (x : HS) (n : Nat) (A : Nat → HS) (kp : Nat → Bool) (K : Nat → HS) (so : SO) (sd : Int64) (m : Nat → Nat → Int32) (lg : Nat → Nat → Int64) : Prop :=
  RX tx m ∧ RT p m ∧ RH p x m 15 ∧ (∃ q, RA p A n q m) ∧ RS so m ∧ (∀ i, i < 2 → m 120 i = bI (kp i)) ∧ (∀ i, i < 2 → kp i = true → RH p (K i) m (121 + 6 * i)) ∧ lg 0 11 = sd
def FrC (m m' : Nat → Nat → Int32) : Prop := ∀ i, 133 ≤ i → m' i = m i
theorem frC_of {m m' : Nat → Nat → Int32} (h : FrS scr m m') : FrC m m' := fun i hi => h i (by unfold scr; omega)
theorem frC_Fr {m m' : Nat → Nat → Int32} {b : Nat} (h : Fr b m m') (hb : b + 5 < 133) : FrC m m' := fun i hi => h i (by omega)
theorem FrC.trans {m m1 m2 : Nat → Nat → Int32} (h1 : FrC m m1) (h2 : FrC m1 m2) : FrC m m2 := fun i hi => (h2 i hi).trans (h1 i hi)
theorem RX.fr {tx : TX} {m m' : Nat → Nat → Int32} (h : RX tx m) (h1 : m' 1 = m 1) (h2 : m' 2 = m 2) : RX tx m' := ⟨h.1, by rw [h1]; exact h.2.1, fun i hi => by rw [h2]; exact h.2.2 i hi⟩
theorem RS.fr {so : SO} {m m' : Nat → Nat → Int32} (h : RS so m) (hf : ∀ i, 113 ≤ i → i ≤ 116 → m' i = m i) : RS so m' := ⟨h.1, by rw [hf 113 (by omega) (by omega)]; exact h.2.1, fun i hi => by rw [hf 114 (by omega) (by omega)]; exact h.2.2.1 i hi, fun i hi => by rw [hf 115 (by omega) (by omega)]; exact h.2.2.2.1 i hi, fun i hi => by rw [hf 116 (by omega) (by omega)]; exact h.2.2.2.2 i hi⟩
theorem RA.fr {p : PT} {A : Nat → HS} {n q : Nat} {m m' : Nat → Nat → Int32} (h : RA p A n q m) (hf : ∀ i, 27 ≤ i → i ≤ 112 → m' i = m i) : RA p A n q m' := by
  obtain ⟨h1, h2, h3, h4, h5⟩ := h
  exact ⟨h1, by rw [hf 27 (by omega) (by omega)]; exact h2, h3, by rw [hf 27 (by omega) (by omega)]; exact h4, fun i hi => (h5 i hi).frS (fun j a b => hf j (by omega) (by omega))⟩
theorem RT.fr8 {p : PT} {m m' : Nat → Nat → Int32} (h : RT p m) (hf : ∀ i, 3 ≤ i → i ≤ 8 → m' i = m i) : RT p m' := by
  obtain ⟨h0, h1, h2, h3, h4, h5, h6⟩ := h
  exact ⟨h0, by rw [hf 3 (by omega) (by omega)]; exact h1, by rw [hf 3 (by omega) (by omega)]; exact h2, by rw [hf 3 (by omega) (by omega)]; exact h3, fun t ht => by rw [hf 4 (by omega) (by omega)]; exact h4 t ht, fun t ht => by rw [hf 6 (by omega) (by omega)]; exact h5 t ht, fun t ht => by rw [hf 8 (by omega) (by omega)]; exact h6 t ht⟩
section P42
variable {o : ai_S} {d : Nat} {w : ai_W} {m m' : Nat → Nat → Int32} {lg lg' : Nat → Nat → Int64} {tx : TX} {p : PT} {x : HS} {n : Nat} {A : Nat → HS} {kp : Nat → Bool} {K : Nat → HS} {so : SO} {sd : Int64} {r : Option Value × ai_W} {k k2 : Int32}
theorem RC.fr (h : RC tx p x n A kp K so sd m lg) (hf : ∀ i, i < 133 → ¬ scr i → m' i = m i) (hl : lg' 0 11 = lg 0 11) : RC tx p x n A kp K so sd m' lg' := by
  obtain ⟨h1, h2, h3, ⟨q, h4⟩, h5, h6, h7, h8⟩ := h
  have g : ∀ i, i < 133 → (i ≤ 8 ∨ (15 ≤ i ∧ i ≤ 20) ∨ (27 ≤ i ∧ i ≤ 116) ∨ 118 ≤ i) → m' i = m i := fun i a b => hf i a (by unfold scr; omega)
  refine ⟨h1.fr (g 1 (by omega) (by omega)) (g 2 (by omega) (by omega)), h2.fr8 (fun i a b => g i (by omega) (by omega)), h3.frS (fun j a b => g j (by omega) (by omega)), ⟨q, h4.fr (fun i a b => g i (by omega) (by omega))⟩, h5.fr (fun i a b => g i (by omega) (by omega)), fun i hi => by rw [g 120 (by omega) (by omega)]; exact h6 i hi, fun i hi hk => (h7 i hi hk).frS (fun j a b => g j (by omega) (by omega)), by rw [hl]; exact h8⟩
theorem RC.q (h : RC tx p x n A kp K so sd m lg) (hf : FrS scr m m') : RC tx p x n A kp K so sd m' lg := h.fr (fun i _ hi => hf i hi) rfl
def aWrite (tx : TX) (k : Int32) : Int32 := match swN k 256 with
  | some _ => if tx.1 < 48 then nI (tx.1 + 1) else -4
  | none => -2
def uWrite (tx : TX) (k : Int32) : TX := match swN k 256 with
  | some v => if tx.1 < 48 then (tx.1 + 1, va_up tx.2 tx.1 v) else tx
  | none => tx
theorem s_X7_write (h : RC tx p x n A kp K so sd m lg) : ∃ m', RC (uWrite tx k) p x n A kp K so sd m' lg ∧ FrC m m' ∧ Ev o (d + 20) zX7_write [.ref 0, .int k] (ai_w m lg) (some (.int (aWrite tx k))) (ai_w m' lg) := by
  rcases sw_cases k 256 (by decide) with ⟨j, hj, rfl, hs, _⟩ | ⟨hs, _, hn⟩
  · have e0 : ¬ nI j < nI 0 := nI_pos (by omega)
    have e1 : nI j ≤ nI 255 := nI_le (by omega) (by decide)
    by_cases h48 : tx.1 < 48
    · obtain ⟨m1, g1, g2, g3⟩ := s_X5_add (o := o) (d := d + 19) (lg := lg) h.1 (v := j) (by omega) h48
      have e : uWrite tx (nI j) = (tx.1 + 1, va_up tx.2 tx.1 j) := by unfold uWrite; rw [hs]; exact if_pos h48
      have ea : aWrite tx (nI j) = nI (tx.1 + 1) := by unfold aWrite; rw [hs]; exact if_pos h48
      rw [e, ea]
      have g : ∀ i, i ≠ 1 → i ≠ 2 → m1 i = m i := fun i a b => g2 i (by rintro (z | z); exact a z; exact b z)
      obtain ⟨h1, h2, h3, ⟨q, h4⟩, h5, h6, h7, h8⟩ := h
      refine ⟨m1, ⟨g1, h2.fr8 (fun i a b => g i (by omega) (by omega)), h3.frS (fun j a b => g j (by omega) (by omega)), ⟨q, h4.fr (fun i a b => g i (by omega) (by omega))⟩, h5.fr (fun i a b => g i (by omega) (by omega)), fun i hi => by rw [g 120 (by omega) (by omega)]; exact h6 i hi, fun i hi hk => (h7 i hi hk).frS (fun j a b => g j (by omega) (by omega)), h8⟩, fun i hi => g i (by omega) (by omega), ?_⟩
      rw [ev_X7_write]
      simp only [e_X7_write_0, e_X7_write_1, e_X7_write_4, e_X7_write_5, e_X7_write_8, e_X7_write_11, e_X7_write_13, e_X7_write_14, e_X7_write_15, e_X7_write_18, e_X7_write_22, eq_self, nI10, not_false_eq_true, not_true_eq_false, is2_i, is2_r, is2_n, nI_add, pk_mul, Nat.reduceAdd, Nat.reduceMul, e0, e1, if_true, if_false, e_X7_write_19 (hE := g3)]
    · have e : uWrite tx (nI j) = tx := by unfold uWrite; rw [hs]; exact if_neg h48
      have ea : aWrite tx (nI j) = -4 := by unfold aWrite; rw [hs]; exact if_neg h48
      rw [e, ea]
      refine ⟨m, h, fun _ _ => rfl, ?_⟩
      rw [ev_X7_write]
      simp only [e_X7_write_0, e_X7_write_1, e_X7_write_4, e_X7_write_5, e_X7_write_8, e_X7_write_11, e_X7_write_13, e_X7_write_14, e_X7_write_15, e_X7_write_18, e_X7_write_22, eq_self, nI10, not_false_eq_true, not_true_eq_false, is2_i, is2_r, is2_n, nI_add, pk_mul, Nat.reduceAdd, Nat.reduceMul, e0, e1, if_true, if_false, e_X7_write_19 (hE := s_X5_addF h.1 h48)]
  · have e : uWrite tx k = tx := by unfold uWrite; rw [hs]
    have ea : aWrite tx k = -2 := by unfold aWrite; rw [hs]
    rw [e, ea]
    refine ⟨m, h, fun _ _ => rfl, ?_⟩
    rw [ev_X7_write]
    rcases hn with hn | ⟨j, hj, hj2, rfl⟩
    · simp only [e_X7_write_0, e_X7_write_1, e_X7_write_4, e_X7_write_5, e_X7_write_8, e_X7_write_11, e_X7_write_13, e_X7_write_14, e_X7_write_15, e_X7_write_18, e_X7_write_22, eq_self, nI10, not_false_eq_true, not_true_eq_false, is2_i, is2_r, is2_n, nI_add, pk_mul, Nat.reduceAdd, Nat.reduceMul, hn, if_true]
    · have e0 : ¬ nI j < nI 0 := nI_pos hj2
      have e1 : ¬ nI j ≤ nI 255 := nI_ge (by omega) hj2
      simp only [e_X7_write_0, e_X7_write_1, e_X7_write_4, e_X7_write_5, e_X7_write_8, e_X7_write_11, e_X7_write_13, e_X7_write_14, e_X7_write_15, e_X7_write_18, e_X7_write_22, eq_self, nI10, not_false_eq_true, not_true_eq_false, is2_i, is2_r, is2_n, nI_add, pk_mul, Nat.reduceAdd, Nat.reduceMul, e0, e1, if_false]
theorem s_X7_wipe (h : RC tx p x n A kp K so sd m lg) : ∃ m', RC (0, tx.2) p x n A kp K so sd m' lg ∧ FrC m m' ∧ Ev o (d + 20) zX7_wipe [.ref 0] (ai_w m lg) (some (.int (nI tx.1))) (ai_w m' lg) := by
  obtain ⟨m1, g1, g2, g3⟩ := s_X5_empty (o := o) (d := d + 19) (lg := lg) h.1
  have g : ∀ i, i ≠ 1 → m1 i = m i := fun i a => g2 i a
  obtain ⟨h1, h2, h3, ⟨q, h4⟩, h5, h6, h7, h8⟩ := h
  refine ⟨m1, ⟨g1, h2.fr8 (fun i a b => g i (by omega)), h3.frS (fun j a b => g j (by omega)), ⟨q, h4.fr (fun i a b => g i (by omega))⟩, h5.fr (fun i a b => g i (by omega)), fun i hi => by rw [g 120 (by omega)]; exact h6 i hi, fun i hi hk => (h7 i hi hk).frS (fun j a b => g j (by omega)), h8⟩, fun i hi => g i (by omega), ?_⟩
  rw [ev_X7_wipe]
  simp only [e_X7_wipe_0, e_X7_wipe_1, e_X7_wipe_7, eq_self, nI10, not_false_eq_true, not_true_eq_false, is2_i, is2_r, is2_n, nI_add, pk_mul, Nat.reduceAdd, Nat.reduceMul, e_X7_wipe_4 (hE := g3)]
theorem s_X7_fault (h : RC tx p x n A kp K so sd m lg) : ∃ m', RC tx p x n A kp K so sd m' lg ∧ FrC m m' ∧ Ev o (d + 20) zX7_fault [.ref 0] (ai_w m lg) (some (.int (ftI (psFault tx)))) (ai_w m' lg) := by
  obtain ⟨m1, g1, g2, g3⟩ := s_X5_tell (o := o) (d := d + 17) (lg := lg) ai_T9 (Or.inr rfl) h.1
  have f : FrS scr m m1 := fun i hi => g1 i (by unfold scr at hi; omega)
  refine ⟨m1, h.q f, frC_of f, ?_⟩
  rw [ev_X7_fault]
  simp only [e_X7_fault_0, e_X7_fault_1, e_X7_fault_4, e_X7_fault_5, e_X7_fault_11, eq_self, nI10, not_false_eq_true, not_true_eq_false, is2_i, is2_r, is2_n, nI_add, pk_mul, Nat.reduceAdd, Nat.reduceMul, e_X7_fault_8 (hE := g3)]
/-- the port that is told -/
def psPort (s : PS) : PT := (s.1.1, s.1.2, s.2.1.1, s.2.1.2.2, s.2.2.1.1, s.2.2.1.2.2)
theorem lp_X7_port : ∀ (j i : Nat) (m : Nat → Nat → Int32), i + j = 2 → (∀ a, a < i → m 120 a = bI false) → ∃ m', (∀ a, a < 2 → m' 120 a = bI false) ∧ (∀ c, c ≠ 120 → m' c = m c) ∧ ∀ r, Rn o (d + 20) zX7_port 47 [.ref 0, .int (nI i)] [] (ai_w m lg) r = Rn o (d + 20) zX7_port 65 [.ref 0, .int (nI 2)] [] (ai_w m' lg) r := by
  intro j
  induction j with
  | zero =>
    intro i m hk ha
    have : i = 2 := by omega
    subst this
    refine ⟨m, ha, fun _ _ => rfl, fun r => ?_⟩
    rw [e_X7_port_47]
    simp only [e_X7_port_0, e_X7_port_1, e_X7_port_4, e_X7_port_5, e_X7_port_11, e_X7_port_13, e_X7_port_16, e_X7_port_18, e_X7_port_19, e_X7_port_20, e_X7_port_23, e_X7_port_24, e_X7_port_30, e_X7_port_31, e_X7_port_32, e_X7_port_38, e_X7_port_39, e_X7_port_45, e_X7_port_46_i, e_X7_port_46_r, e_X7_port_48, e_X7_port_49, e_X7_port_52, e_X7_port_53, e_X7_port_56, e_X7_port_57, e_X7_port_58, e_X7_port_59_i, e_X7_port_59_r, e_X7_port_62, e_X7_port_67, e_X7_port_68, e_X7_port_71, e_X7_port_74, e_X7_port_75, e_X7_port_77, e_X7_port_78, e_X7_port_81, e_X7_port_84, e_X7_port_85, e_X7_port_86, e_X7_port_87, e_X7_port_90, e_X7_port_93, e_X7_port_94, eq_self, nI10, not_false_eq_true, not_true_eq_false, is2_i, is2_r, is2_n, nI_add, pk_mul, Nat.reduceAdd, Nat.reduceMul, Int32.le_refl, if_true]
  | succ j ih =>
    intro i m hk ha
    have hn : ¬ nI 2 ≤ nI i := nI_ge (by omega) (by omega)
    have hi : i < 2 := by omega
    obtain ⟨m', g1, g2, g3⟩ := ih (i + 1) (ai_up m 120 i (bI false)) (by omega) (fun a hb => by
      rw [up_eq]
      split
      · rfl
      · exact ha a (by omega))
    refine ⟨m', g1, fun c hc => by rw [g2 c hc, up_ne hc], fun r => ?_⟩
    rw [e_X7_port_47, ← g3 r]
    simp only [e_X7_port_0, e_X7_port_1, e_X7_port_4, e_X7_port_5, e_X7_port_11, e_X7_port_13, e_X7_port_16, e_X7_port_18, e_X7_port_19, e_X7_port_20, e_X7_port_23, e_X7_port_24, e_X7_port_30, e_X7_port_31, e_X7_port_32, e_X7_port_38, e_X7_port_39, e_X7_port_45, e_X7_port_46_i, e_X7_port_46_r, e_X7_port_48, e_X7_port_49, e_X7_port_52, e_X7_port_53, e_X7_port_56, e_X7_port_57, e_X7_port_58, e_X7_port_59_i, e_X7_port_59_r, e_X7_port_62, e_X7_port_67, e_X7_port_68, e_X7_port_71, e_X7_port_74, e_X7_port_75, e_X7_port_77, e_X7_port_78, e_X7_port_81, e_X7_port_84, e_X7_port_85, e_X7_port_86, e_X7_port_87, e_X7_port_90, e_X7_port_93, e_X7_port_94, eq_self, nI10, not_false_eq_true, not_true_eq_false, is2_i, is2_r, is2_n, nI_add, pk_mul, Nat.reduceAdd, Nat.reduceMul, hn, if_false, q1_120, ql_120, hi, show vp_nar .boolean (nI 0) = bI false from nar_bI (b := false)]
theorem RT_of {s : PS} (h : RPs 3 s m) (hs : psOk s) : RT (psPort s) m := by
  obtain ⟨a1, a2, a3, a4, a5, a6, a7, a8⟩ := hs
  obtain ⟨b1, b2, b3, b4, b5, b6, b7, b8⟩ := h
  exact ⟨⟨a1, a2, a3, a6, fun b hb => (a7 b hb).2, fun b hb => (a8 b hb).2.2⟩, b1, b2, b3, b6, fun b hb => (b7 b hb).2, fun b hb => (b8 b hb).2⟩
def aPort (tx : TX) : Int32 := match psFault tx with
  | some _ => -3
  | none => nI (100 * (pTold tx).1.1 + 10 * (pTold tx).2.1.1 + (pTold tx).2.2.1.1)
theorem psFault_le {i : Nat} (h : psFault tx = some i) : i ≤ tx.1 := by
  have key : ∀ k i s j, (psTell tx.2 i k s).1 = some j → j < i + k := by
    intro k
    induction k with
    | zero => intro i s j h; unfold psTell at h; cases h
    | succ k ih =>
      intro i s j h
      unfold psTell at h
      split at h
      · have := ih _ _ _ h; omega
      · have := Option.some.inj h; omega
  unfold psFault at h
  split at h
  · rename_i j s he
    have := key tx.1 0 psNew j (by rw [he])
    have := Option.some.inj h
    omega
  · split at h
    · cases h
    · have := Option.some.inj h; omega
theorem s_X7_portF {i : Nat} (h : RC tx p x n A kp K so sd m lg) (hF : psFault tx = some i) : ∃ m', RC tx p x n A kp K so sd m' lg ∧ FrC m m' ∧ Ev o (d + 20) zX7_port [.ref 0] (ai_w m lg) (some (.int (-3))) (ai_w m' lg) := by
  obtain ⟨m1, g1, g2, g3⟩ := s_X5_tell (o := o) (d := d + 17) (lg := lg) ai_T9 (Or.inr rfl) h.1
  have f : FrS scr m m1 := fun i hi => g1 i (by unfold scr at hi; omega)
  refine ⟨m1, h.q f, frC_of f, ?_⟩
  have hi := psFault_le hF
  have h48 := h.1.1
  have ne : ¬ nI i = -9 := by
    have : ∀ i, i < 49 → ¬ nI i = -9 := by decide +kernel
    exact this i (by omega)
  rw [hF] at g3
  rw [ev_X7_port]
  simp only [e_X7_port_0, e_X7_port_1, e_X7_port_4, e_X7_port_5, e_X7_port_11, e_X7_port_13, e_X7_port_16, e_X7_port_18, e_X7_port_19, e_X7_port_20, e_X7_port_23, e_X7_port_24, e_X7_port_30, e_X7_port_31, e_X7_port_32, e_X7_port_38, e_X7_port_39, e_X7_port_45, e_X7_port_46_i, e_X7_port_46_r, e_X7_port_48, e_X7_port_49, e_X7_port_52, e_X7_port_53, e_X7_port_56, e_X7_port_57, e_X7_port_58, e_X7_port_59_i, e_X7_port_59_r, e_X7_port_62, e_X7_port_65, e_X7_port_67, e_X7_port_68, e_X7_port_71, e_X7_port_74, e_X7_port_75, e_X7_port_77, e_X7_port_78, e_X7_port_81, e_X7_port_84, e_X7_port_85, e_X7_port_86, e_X7_port_87, e_X7_port_90, e_X7_port_93, e_X7_port_94, eq_self, nI10, not_false_eq_true, not_true_eq_false, is2_i, is2_r, is2_n, nI_add, pk_mul, Nat.reduceAdd, Nat.reduceMul, e_X7_port_8 (hE := g3), ftI, ne, if_false]
theorem s_X0_forget0 : Ev o d zX0_forget [.ref 27] (ai_w m lg) none (ai_w (ai_up m 27 2 (nI 0)) lg) := by
  rw [ev_X0_forget]
  simp only [e_X0_forget_0, e_X0_forget_1, e_X0_forget_2, e_X0_forget_5, eq_self, nI10, not_false_eq_true, not_true_eq_false, is2_i, is2_r, is2_n, nI_add, pk_mul, Nat.reduceAdd, Nat.reduceMul]
theorem s_X7_portT (h : RC tx p x n A kp K so sd m lg) (hF : psFault tx = none) : ∃ m', RC tx (psPort (pTold tx)) (pNew (pTold tx).2.2.1.2.1 (pTold tx).2.1.2.1) 0 A (fun _ => false) K so sd m' lg ∧ FrC m m' ∧ Ev o (d + 20) zX7_port [.ref 0] (ai_w m lg) (some (.int (aPort tx))) (ai_w m' lg) := by
  obtain ⟨h1, h2, h3, ⟨q, e1, e2, _, _, _⟩, h5, h6, h7, h8⟩ := h
  obtain ⟨m1, a1, a2, a3⟩ := s_X5_tell (o := o) (d := d + 17) (lg := lg) ai_T9 (Or.inr rfl) h1
  have hx1 : RX tx m1 := h1.fr (a1 1 (by omega)) (a1 2 (by omega))
  obtain ⟨m2, b1, b2, b3⟩ := s_X5_tell (o := o) (d := d + 17) (lg := lg) ai_T3 (Or.inl rfl) hx1
  obtain ⟨c1, c2, c3⟩ := b2 hF
  have hp2 := RT_of c1 c2
  obtain ⟨m3, d1, d2, d3⟩ := s_X2_begin (o := o) (d := d + 19) (lg := lg) (p := psPort (pTold tx)) (dr := (pTold tx).2.2.1.2.1) (de := (pTold tx).2.1.2.1) ai_H15 hp2 (fun j hj => ⟨(c1.2.2.2.2.2.2.2 j hj).1, (c2.2.2.2.2.2.2.2 j hj).1, (c2.2.2.2.2.2.2.2 j hj).2.1⟩) (fun j hj => ⟨(c1.2.2.2.2.2.2.1 j hj).1, (c2.2.2.2.2.2.2.1 j hj).1⟩)
  obtain ⟨m5, g1, g2, g3⟩ := lp_X7_port (o := o) (d := d) (lg := lg) 2 0 (ai_up m3 27 2 (nI 0)) (by omega) (fun a ha => absurd ha (Nat.not_lt_zero a))
  have f3 : ∀ i, i ≤ 2 ∨ (27 ≤ i) → m3 i = m i := fun i hi => by rw [d2 i (by omega), b1 i (by omega), a1 i (by omega)]
  have f5 : ∀ i, i ≠ 27 → i ≠ 120 → m5 i = m3 i := fun i x1 x2 => by rw [g2 i x2, up_ne x1]
  have hp3 : RT (psPort (pTold tx)) m3 := hp2.fr ai_H15 d2
  have hp5 : RT (psPort (pTold tx)) m5 := hp3.fr8 (fun i x1 x2 => f5 i (by omega) (by omega))
  refine ⟨m5, ⟨h1.fr (by rw [f5 1 (by omega) (by omega), f3 1 (by omega)]) (by rw [f5 2 (by omega) (by omega), f3 2 (by omega)]), hp5, d1.frS (fun j x1 x2 => f5 j (by omega) (by omega)), ⟨q, e1, ?_, by omega, ?_, fun i hi => absurd hi (Nat.not_lt_zero i)⟩, h5.fr (fun i x1 x2 => by rw [f5 i (by omega) (by omega), f3 i (by omega)]), g1, fun i hi hk => (by cases hk), h8⟩, fun i hi => by rw [f5 i (by omega) (by omega), f3 i (by omega)], ?_⟩
  · rw [g2 27 (by decide), up_eq, if_neg (by decide), f3 27 (by omega)]; exact e2
  · rw [g2 27 (by decide), up_eq, if_pos rfl]
  · have ea : aPort tx = nI (100 * (pTold tx).1.1 + 10 * (pTold tx).2.1.1 + (pTold tx).2.2.1.1) := by unfold aPort; rw [hF]
    rw [hF] at a3 b3
    have r5 : m5 3 5 = nI (pTold tx).1.1 := hp5.2.1
    have r6 : m5 3 6 = nI (pTold tx).2.1.1 := hp5.2.2.1
    have r7 : m5 3 7 = nI (pTold tx).2.2.1.1 := hp5.2.2.2.1
    rw [ea, ev_X7_port]
    simp only [e_X7_port_0, e_X7_port_1, e_X7_port_4, e_X7_port_5, e_X7_port_11, e_X7_port_13, e_X7_port_16, e_X7_port_18, e_X7_port_19, e_X7_port_20, e_X7_port_23, e_X7_port_24, e_X7_port_30, e_X7_port_31, e_X7_port_32, e_X7_port_38, e_X7_port_39, e_X7_port_45, e_X7_port_46_i, e_X7_port_46_r, e_X7_port_48, e_X7_port_49, e_X7_port_52, e_X7_port_53, e_X7_port_56, e_X7_port_57, e_X7_port_58, e_X7_port_59_i, e_X7_port_59_r, e_X7_port_62, e_X7_port_65, e_X7_port_67, e_X7_port_68, e_X7_port_71, e_X7_port_74, e_X7_port_75, e_X7_port_77, e_X7_port_78, e_X7_port_81, e_X7_port_84, e_X7_port_85, e_X7_port_86, e_X7_port_87, e_X7_port_90, e_X7_port_93, e_X7_port_94, eq_self, nI10, not_false_eq_true, not_true_eq_false, is2_i, is2_r, is2_n, nI_add, pk_mul, Nat.reduceAdd, Nat.reduceMul, e_X7_port_8 (hE := a3), ftI, if_true, e_X7_port_27 (hE := b3), e_X7_port_35 (hb := ai_H15) (hE := d3), e_X7_port_42 (hE := s_X0_forget0)]
    rw [g3]
    simp only [e_X7_port_0, e_X7_port_1, e_X7_port_4, e_X7_port_5, e_X7_port_11, e_X7_port_13, e_X7_port_16, e_X7_port_18, e_X7_port_19, e_X7_port_20, e_X7_port_23, e_X7_port_24, e_X7_port_30, e_X7_port_31, e_X7_port_32, e_X7_port_38, e_X7_port_39, e_X7_port_45, e_X7_port_46_i, e_X7_port_46_r, e_X7_port_48, e_X7_port_49, e_X7_port_52, e_X7_port_53, e_X7_port_56, e_X7_port_57, e_X7_port_58, e_X7_port_59_i, e_X7_port_59_r, e_X7_port_62, e_X7_port_65, e_X7_port_67, e_X7_port_68, e_X7_port_71, e_X7_port_74, e_X7_port_75, e_X7_port_77, e_X7_port_78, e_X7_port_81, e_X7_port_84, e_X7_port_85, e_X7_port_86, e_X7_port_87, e_X7_port_90, e_X7_port_93, e_X7_port_94, eq_self, nI10, not_false_eq_true, not_true_eq_false, is2_i, is2_r, is2_n, nI_add, pk_mul, Nat.reduceAdd, Nat.reduceMul, ai_T3, r5, r6, r7]
end P42
