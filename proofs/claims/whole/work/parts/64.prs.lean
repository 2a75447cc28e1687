/-! the reference reads a text -/
def psFt (x : TX) (t : Option Nat × PS) : Option Nat := match t with
  | (some i, _) => some i
  | (none, s) => if s.2.2.2.1 = 1 then none else some x.1
theorem psFault_ft (x : TX) : psFault x = psFt x (psTell x.2 0 x.1 psNew) := rfl
theorem tl_step {x : TX} {i : Nat} {s : PS} (h : i < x.1) : psTell x.2 i (x.1 - i) s = if (psHear s (x.2 i)).1 = true then psTell x.2 (i + 1) (x.1 - (i + 1)) (psHear s (x.2 i)).2 else (some i, s) := by
  rw [show x.1 - i = (x.1 - (i + 1)) + 1 by omega, psTell]
theorem tl_end {x : TX} {i : Nat} {s : PS} (h : x.1 ≤ i) : psTell x.2 i (x.1 - i) s = (none, s) := by
  rw [show x.1 - i = 0 by omega, psTell]
theorem tl_bad {x : TX} {i : Nat} {s : PS} (hi : i ≤ x.1) (h1 : i < x.1 → (psHear s (x.2 i)).1 = false) (h2 : s.2.2.2.1 ≠ 1 ∨ i < x.1) : psFt x (psTell x.2 i (x.1 - i) s) = some i := by
  by_cases h : i < x.1
  · rw [tl_step h, h1 h, if_neg (by decide)]
    rfl
  · rw [tl_end (by omega)]
    have : i = x.1 := by omega
    unfold psFt
    dsimp only
    rw [if_neg (h2.resolve_right h), this]
/-- a figure stands there -/
def fgAt (x : TX) (i lo hi : Nat) : Prop := i < x.1 ∧ 48 + lo ≤ x.2 i ∧ x.2 i ≤ 48 + hi
/-- what the reference has read -/
def RPm (s : PS) (m : Nat → Nat → Int32) : Prop := m 133 10 = nI s.1.1 ∧ m 133 12 = nI s.2.1.1 ∧ m 133 14 = nI s.2.2.1.1 ∧ (∀ i, i < s.1.1 → m 138 i = nI (s.1.2 i)) ∧ (∀ i, i < s.2.1.1 → m 139 (2 * i) = nI (s.2.1.2.1 i) ∧ m 139 (2 * i + 1) = nI (s.2.1.2.2 i)) ∧ ∀ i, i < s.2.2.1.1 → m 140 (2 * i) = nI (s.2.2.1.2.1 i) ∧ m 140 (2 * i + 1) = nI (s.2.2.1.2.2 i)
def FrQ (m m' : Nat → Nat → Int32) : Prop := (∀ i, i ≠ 133 → i ≠ 138 → i ≠ 139 → i ≠ 140 → m' i = m i) ∧ ∀ k, k ≠ 3 → k ≠ 10 → k ≠ 12 → k ≠ 14 → m' 133 k = m 133 k
theorem FrQ.trans {m m1 m2 : Nat → Nat → Int32} (h1 : FrQ m m1) (h2 : FrQ m1 m2) : FrQ m m2 := ⟨fun i a b c e => (h2.1 i a b c e).trans (h1.1 i a b c e), fun k a b c e => (h2.2 k a b c e).trans (h1.2 k a b c e)⟩
theorem FrQ.rfl' {m : Nat → Nat → Int32} : FrQ m m := ⟨fun _ _ _ _ _ => rfl, fun _ _ _ _ _ => rfl⟩
theorem FrQ.n {m m' : Nat → Nat → Int32} (h : FrQ m m') : FrN m m' := ⟨fun i hi => h.1 i (by omega) (by omega) (by omega) (by omega), fun k hk => h.2 k (by omega) (by omega) (by omega) (by omega)⟩
theorem FrQ.up {m : Nat → Nat → Int32} {k : Nat} {v : Int32} (h : k = 3 ∨ k = 10 ∨ k = 12 ∨ k = 14) : FrQ m (ai_up m 133 k v) := ⟨fun i a _ _ _ => up_ne a, fun q a b c e => by rw [up_eq, if_neg (by omega)]⟩
theorem FrQ.upA {m : Nat → Nat → Int32} {a k : Nat} {v : Int32} (h : a = 138 ∨ a = 139 ∨ a = 140) : FrQ m (ai_up m a k v) := ⟨fun i _ b c e => up_ne (by omega), fun q _ _ _ _ => by rw [up_ne (by omega)]⟩
/-- the text, in the reference -/
def RXm (x : TX) (m : Nat → Nat → Int32) : Prop := x.1 ≤ 48 ∧ m 133 2 = nI x.1 ∧ ∀ i, i < x.1 → m 134 i = nI (x.2 i) ∧ x.2 i ≤ 255
theorem RXm.fr {x : TX} {m m' : Nat → Nat → Int32} (h : RXm x m) (hf : FrQ m m') : RXm x m' := ⟨h.1, by rw [hf.2 2 (by decide) (by decide) (by decide) (by decide)]; exact h.2.1, fun i hi => by rw [hf.1 134 (by decide) (by decide) (by decide) (by decide)]; exact h.2.2 i hi⟩
theorem RPm.p3 {s : PS} {m : Nat → Nat → Int32} {v : Int32} (h : RPm s m) : RPm s (ai_up m 133 3 v) := by
  obtain ⟨h1, h2, h3, h4, h5, h6⟩ := h
  exact ⟨by rw [up_eq, if_neg (by decide)]; exact h1, by rw [up_eq, if_neg (by decide)]; exact h2, by rw [up_eq, if_neg (by decide)]; exact h3, fun i hi => by rw [up_ne (by decide)]; exact h4 i hi, fun i hi => by rw [up_ne (by decide)]; exact h5 i hi, fun i hi => by rw [up_ne (by decide)]; exact h6 i hi⟩
theorem fg_in {l lo hi : Nat} (hl : l ≤ 255) (h1 : lo ≤ 9) (h2 : hi ≤ 9) : decide ((nI lo).toInt64 ≤ (nI l - nI 48).toInt64 ∧ (nI l - nI 48).toInt64 ≤ (nI hi).toInt64) = decide (48 + lo ≤ l ∧ l ≤ 48 + hi) := by
  refine decide_eq_decide.mpr (and_congr ?_ ?_)
  · rw [Int64.le_iff_toInt_le, Int32.toInt_toInt64, Int32.toInt_toInt64, nI_toInt (by omega), pk_sub_toInt (by omega) (by omega)]
    omega
  · rw [Int64.le_iff_toInt_le, Int32.toInt_toInt64, Int32.toInt_toInt64, nI_toInt (by omega), pk_sub_toInt (by omega) (by omega)]
    omega
section P64
variable {o : ai_S} {d : Nat} {w : ai_W} {m m' : Nat → Nat → Int32} {lg lg' : Nat → Nat → Int64} {tx : TX} {i lo hi : Nat} {s : PS}
theorem s_X8_figF (h : RXm tx m) (hi' : i ≤ tx.1) (h3 : m 133 3 = nI i) (h1 : lo ≤ 9) (h2 : hi ≤ 9) (hf : ¬ fgAt tx i lo hi) : Ev o (d + 1) zX8_figure [.ref 133, .int (nI lo), .int (nI hi)] (ai_w m lg) (some (.int (-9))) (ai_w m lg) := by
  obtain ⟨t1, t2, t3⟩ := h
  have e := nI_9 (a := i) (c := tx.1) (by omega) (by omega)
  rw [ev_X8_figure]
  by_cases q : i = tx.1
  · simp only [e_X8_figure_0, e_X8_figure_1, e_X8_figure_4, e_X8_figure_5, e_X8_figure_8, e_X8_figure_11, e_X8_figure_12, e_X8_figure_15, e_X8_figure_16, e_X8_figure_19, e_X8_figure_20, e_X8_figure_22, e_X8_figure_23, e_X8_figure_24, e_X8_figure_25, e_X8_figure_26, e_X8_figure_27, e_X8_figure_31, e_X8_figure_34, e_X8_figure_36, e_X8_figure_37, e_X8_figure_38, e_X8_figure_39, e_X8_figure_42, e_X8_figure_43, e_X8_figure_44, e_X8_figure_47, e_X8_figure_48, e_X8_figure_51, e_X8_figure_52, e_X8_figure_55, e_X8_figure_56, e_X8_figure_57, e_X8_figure_58, e_X8_figure_60, e_X8_figure_61, eq_self, nI10, not_false_eq_true, not_true_eq_false, is2_i, is2_r, is2_n, nI_add, pk_mul, Nat.reduceAdd, Nat.reduceMul, h3, t2, q, if_true]
  · have i48 : i < 48 := by omega
    obtain ⟨u1, u2⟩ := t3 i (by omega)
    have ef : (48 + lo ≤ tx.2 i ∧ tx.2 i ≤ 48 + hi) = False := by
      simp only [eq_iff_iff, iff_false]
      exact fun z => hf ⟨by omega, z⟩
    simp only [e_X8_figure_0, e_X8_figure_1, e_X8_figure_4, e_X8_figure_5, e_X8_figure_8, e_X8_figure_11, e_X8_figure_12, e_X8_figure_15, e_X8_figure_16, e_X8_figure_19, e_X8_figure_20, e_X8_figure_22, e_X8_figure_23, e_X8_figure_24, e_X8_figure_25, e_X8_figure_26, e_X8_figure_27, e_X8_figure_31, e_X8_figure_34, e_X8_figure_36, e_X8_figure_37, e_X8_figure_38, e_X8_figure_39, e_X8_figure_42, e_X8_figure_43, e_X8_figure_44, e_X8_figure_47, e_X8_figure_48, e_X8_figure_51, e_X8_figure_52, e_X8_figure_55, e_X8_figure_56, e_X8_figure_57, e_X8_figure_58, e_X8_figure_60, e_X8_figure_61, eq_self, nI10, not_false_eq_true, not_true_eq_false, is2_i, is2_r, is2_n, nI_add, pk_mul, Nat.reduceAdd, Nat.reduceMul, h3, t2, e, q, if_false, m0_134, ml_134, i48, u1, e_X8_figure_28 (hE := s_X8_in), fg_in u2 h1 h2, ef, decide_false, bI_z]
theorem s_X8_figT (h : RXm tx m) (h3 : m 133 3 = nI i) (h1 : lo ≤ 9) (h2 : hi ≤ 9) (hf : fgAt tx i lo hi) : Ev o (d + 1) zX8_figure [.ref 133, .int (nI lo), .int (nI hi)] (ai_w m lg) (some (.int (nI (tx.2 i - 48)))) (ai_w (ai_up m 133 3 (nI (i + 1))) lg) := by
  obtain ⟨t1, t2, t3⟩ := h
  obtain ⟨f1, f2⟩ := hf
  have e := nI_9 (a := i) (c := tx.1) (by omega) (by omega)
  have q : ¬ i = tx.1 := by omega
  have i48 : i < 48 := by omega
  obtain ⟨u1, u2⟩ := t3 i (by omega)
  have sb : nI (tx.2 i) - nI 48 = nI (tx.2 i - 48) := pk_sub (by omega)
  have s1 : nI (i + 1) - nI 1 = nI i := (pk_sub (by omega)).trans (by rw [Nat.add_sub_cancel])
  have fi := fg_in (l := tx.2 i) u2 h1 h2
  rw [sb, decide_eq_true f2] at fi
  rw [ev_X8_figure]
  simp only [e_X8_figure_0, e_X8_figure_1, e_X8_figure_4, e_X8_figure_5, e_X8_figure_8, e_X8_figure_11, e_X8_figure_12, e_X8_figure_15, e_X8_figure_16, e_X8_figure_19, e_X8_figure_20, e_X8_figure_22, e_X8_figure_23, e_X8_figure_24, e_X8_figure_25, e_X8_figure_26, e_X8_figure_27, e_X8_figure_31, e_X8_figure_34, e_X8_figure_36, e_X8_figure_37, e_X8_figure_38, e_X8_figure_39, e_X8_figure_42, e_X8_figure_43, e_X8_figure_44, e_X8_figure_47, e_X8_figure_48, e_X8_figure_51, e_X8_figure_52, e_X8_figure_55, e_X8_figure_56, e_X8_figure_57, e_X8_figure_58, e_X8_figure_60, e_X8_figure_61, eq_self, nI10, not_false_eq_true, not_true_eq_false, is2_i, is2_r, is2_n, nI_add, pk_mul, Nat.reduceAdd, Nat.reduceMul, h3, t2, e, q, if_false, m0_134, ml_134, i48, u1, e_X8_figure_28 (hE := s_X8_in), fi, bI_z, Bool.true_eq_false, up_eq, if_true, s1, up_ne (show (134 : Nat) ≠ 133 by decide), sb]
theorem nv9 {v : Nat} (h : v ≤ 207) : (nI v = -9) = False := by
  have : ∀ v, v ≤ 207 → ¬ nI v = -9 := by decide +kernel
  simp only [this v h]
theorem s_X8_tideF (h : RXm tx m) (hi' : i ≤ tx.1) (h3 : m 133 3 = nI i) (hf : ¬ fgAt tx i 0 9) : Ev o (d + 2) zX8_readOneTide [.ref 133] (ai_w m lg) (some (.int (bI false))) (ai_w m lg) := by
  rw [ev_X8_readOneTide]
  simp only [e_X8_readOneTide_0, e_X8_readOneTide_1, e_X8_readOneTide_2, e_X8_readOneTide_7_i, e_X8_readOneTide_7_r, e_X8_readOneTide_8, e_X8_readOneTide_9, e_X8_readOneTide_11, e_X8_readOneTide_14, e_X8_readOneTide_15, e_X8_readOneTide_16, e_X8_readOneTide_17, e_X8_readOneTide_20, e_X8_readOneTide_21, e_X8_readOneTide_24, e_X8_readOneTide_25, e_X8_readOneTide_26, e_X8_readOneTide_27, e_X8_readOneTide_28, e_X8_readOneTide_31, e_X8_readOneTide_32, e_X8_readOneTide_33, e_X8_readOneTide_36, e_X8_readOneTide_37, eq_self, nI10, not_false_eq_true, not_true_eq_false, is2_i, is2_r, is2_n, nI_add, pk_mul, Nat.reduceAdd, Nat.reduceMul, e_X8_readOneTide_4 (hE := s_X8_figF h hi' h3 (show 0 ≤ 9 by decide) (show 9 ≤ 9 by decide) hf), if_false, nar_0, bI_f]
theorem s_X8_tideT (h : RXm tx m) (h3 : m 133 3 = nI i) (hf : fgAt tx i 0 9) (hR : RPm s m) (h4 : s.1.1 < 4) : ∃ m', FrQ m m' ∧ m' 133 3 = nI (i + 1) ∧ RPm ((s.1.1 + 1, va_up s.1.2 s.1.1 (tx.2 i - 48)), s.2.1, s.2.2.1, 1, none) m' ∧ Ev o (d + 2) zX8_readOneTide [.ref 133] (ai_w m lg) (some (.int (bI true))) (ai_w m' lg) := by
  have hv := hf.2.2
  have hT := s_X8_figT (o := o) (d := d) (lg := lg) h h3 (show 0 ≤ 9 by decide) (show 9 ≤ 9 by decide) hf
  obtain ⟨m1, hm1⟩ : ∃ m1, m1 = ai_up m 133 3 (nI (i + 1)) := ⟨_, rfl⟩
  rw [← hm1] at hT
  have f1 : FrQ m m1 := by rw [hm1]; exact FrQ.up (Or.inl rfl)
  have r3 : m1 133 3 = nI (i + 1) := by rw [hm1, up_eq, if_pos rfl]
  have hR1 : RPm s m1 := by rw [hm1]; exact hR.p3
  obtain ⟨b1, b2, b3, b4, b5, b6⟩ := hR1
  refine ⟨ai_up (ai_up m1 138 s.1.1 (nI (tx.2 i - 48))) 133 10 (nI (s.1.1 + 1)), f1.trans ((FrQ.upA (Or.inl rfl)).trans (FrQ.up (Or.inr (Or.inl rfl)))), ?_, ⟨?_, ?_, ?_, fun j hj => ?_, fun j hj => ?_, fun j hj => ?_⟩, ?_⟩
  · rw [up_eq, if_neg (by decide), up_ne (by decide)]; exact r3
  · rw [up_eq, if_pos rfl]
  · rw [up_eq, if_neg (by decide), up_ne (by decide)]; exact b2
  · rw [up_eq, if_neg (by decide), up_ne (by decide)]; exact b3
  · rw [up_ne (by decide), up_eq]
    simp only [va_up]
    split
    · rfl
    · exact b4 j (by simp only at hj; omega)
  · rw [up_ne (by decide), up_ne (by decide)]; exact b5 j hj
  · rw [up_ne (by decide), up_ne (by decide)]; exact b6 j hj
  · rw [ev_X8_readOneTide]
    simp only [e_X8_readOneTide_0, e_X8_readOneTide_1, e_X8_readOneTide_2, e_X8_readOneTide_7_i, e_X8_readOneTide_7_r, e_X8_readOneTide_8, e_X8_readOneTide_9, e_X8_readOneTide_11, e_X8_readOneTide_14, e_X8_readOneTide_15, e_X8_readOneTide_16, e_X8_readOneTide_17, e_X8_readOneTide_20, e_X8_readOneTide_21, e_X8_readOneTide_24, e_X8_readOneTide_25, e_X8_readOneTide_26, e_X8_readOneTide_27, e_X8_readOneTide_28, e_X8_readOneTide_31, e_X8_readOneTide_32, e_X8_readOneTide_33, e_X8_readOneTide_36, e_X8_readOneTide_37, eq_self, nI10, not_false_eq_true, not_true_eq_false, is2_i, is2_r, is2_n, nI_add, pk_mul, Nat.reduceAdd, Nat.reduceMul, e_X8_readOneTide_4 (hE := hT), nv9 (show tx.2 i - 48 ≤ 207 by omega), m0_138, ml_138, b1, h4, up_ne (show (133 : Nat) ≠ 138 by decide), nar_1, bI_t, if_true]
theorem s_X8_berthF (h : RXm tx m) (hi' : i ≤ tx.1) (h3 : m 133 3 = nI i) (hf : ¬ fgAt tx i 0 9) : Ev o (d + 2) zX8_readOneBerth [.ref 133] (ai_w m lg) (some (.int (bI false))) (ai_w m lg) := by
  rw [ev_X8_readOneBerth]
  simp only [e_X8_readOneBerth_0, e_X8_readOneBerth_1, e_X8_readOneBerth_2, e_X8_readOneBerth_7_i, e_X8_readOneBerth_7_r, e_X8_readOneBerth_8, e_X8_readOneBerth_9, e_X8_readOneBerth_11, e_X8_readOneBerth_14, e_X8_readOneBerth_16, e_X8_readOneBerth_19, e_X8_readOneBerth_20, e_X8_readOneBerth_21, e_X8_readOneBerth_25_i, e_X8_readOneBerth_25_r, e_X8_readOneBerth_25_n, e_X8_readOneBerth_26, e_X8_readOneBerth_27, e_X8_readOneBerth_29, e_X8_readOneBerth_32, e_X8_readOneBerth_33, e_X8_readOneBerth_34, e_X8_readOneBerth_35, e_X8_readOneBerth_38, e_X8_readOneBerth_39, e_X8_readOneBerth_40, e_X8_readOneBerth_43, e_X8_readOneBerth_44, e_X8_readOneBerth_45, e_X8_readOneBerth_46, e_X8_readOneBerth_47, e_X8_readOneBerth_50, e_X8_readOneBerth_51, e_X8_readOneBerth_52, e_X8_readOneBerth_55, e_X8_readOneBerth_56, e_X8_readOneBerth_57, e_X8_readOneBerth_58, e_X8_readOneBerth_59, e_X8_readOneBerth_60, e_X8_readOneBerth_61, e_X8_readOneBerth_62, e_X8_readOneBerth_65, e_X8_readOneBerth_66, e_X8_readOneBerth_67, e_X8_readOneBerth_70, e_X8_readOneBerth_71, eq_self, nI10, not_false_eq_true, not_true_eq_false, is2_i, is2_r, is2_n, nI_add, pk_mul, Nat.reduceAdd, Nat.reduceMul, e_X8_readOneBerth_4 (hE := s_X8_figF h hi' h3 (show 0 ≤ 9 by decide) (show 9 ≤ 9 by decide) hf), if_false, nar_0, bI_f]
theorem s_X8_berthG (h : RXm tx m) (h3 : m 133 3 = nI i) (hf : fgAt tx i 0 9) (hg : ¬ fgAt tx (i + 1) 0 3) : Ev o (d + 2) zX8_readOneBerth [.ref 133] (ai_w m lg) (some (.int (bI false))) (ai_w (ai_up m 133 3 (nI (i + 1))) lg) := by
  have hv := hf.2.2
  have hT := s_X8_figT (o := o) (d := d) (lg := lg) h h3 (show 0 ≤ 9 by decide) (show 9 ≤ 9 by decide) hf
  have h1 : RXm tx (ai_up m 133 3 (nI (i + 1))) := h.fr (FrQ.up (Or.inl rfl))
  have hT2 := s_X8_figF (o := o) (d := d) (lg := lg) h1 (show i + 1 ≤ tx.1 from hf.1) (by rw [up_eq, if_pos rfl]) (show 0 ≤ 9 by decide) (show 3 ≤ 9 by decide) hg
  rw [ev_X8_readOneBerth]
  simp only [e_X8_readOneBerth_0, e_X8_readOneBerth_1, e_X8_readOneBerth_2, e_X8_readOneBerth_7_i, e_X8_readOneBerth_7_r, e_X8_readOneBerth_8, e_X8_readOneBerth_9, e_X8_readOneBerth_11, e_X8_readOneBerth_14, e_X8_readOneBerth_16, e_X8_readOneBerth_19, e_X8_readOneBerth_20, e_X8_readOneBerth_21, e_X8_readOneBerth_25_i, e_X8_readOneBerth_25_r, e_X8_readOneBerth_25_n, e_X8_readOneBerth_26, e_X8_readOneBerth_27, e_X8_readOneBerth_29, e_X8_readOneBerth_32, e_X8_readOneBerth_33, e_X8_readOneBerth_34, e_X8_readOneBerth_35, e_X8_readOneBerth_38, e_X8_readOneBerth_39, e_X8_readOneBerth_40, e_X8_readOneBerth_43, e_X8_readOneBerth_44, e_X8_readOneBerth_45, e_X8_readOneBerth_46, e_X8_readOneBerth_47, e_X8_readOneBerth_50, e_X8_readOneBerth_51, e_X8_readOneBerth_52, e_X8_readOneBerth_55, e_X8_readOneBerth_56, e_X8_readOneBerth_57, e_X8_readOneBerth_58, e_X8_readOneBerth_59, e_X8_readOneBerth_60, e_X8_readOneBerth_61, e_X8_readOneBerth_62, e_X8_readOneBerth_65, e_X8_readOneBerth_66, e_X8_readOneBerth_67, e_X8_readOneBerth_70, e_X8_readOneBerth_71, eq_self, nI10, not_false_eq_true, not_true_eq_false, is2_i, is2_r, is2_n, nI_add, pk_mul, Nat.reduceAdd, Nat.reduceMul, e_X8_readOneBerth_4 (hE := hT), nv9 (show tx.2 i - 48 ≤ 207 by omega), if_true, e_X8_readOneBerth_22 (hE := hT2), if_false, nar_0, bI_f]
theorem s_X8_berthT (h : RXm tx m) (h3 : m 133 3 = nI i) (hf : fgAt tx i 0 9) (hg : fgAt tx (i + 1) 0 3) (hR : RPm s m) (h4 : s.2.1.1 < 4) : ∃ m', FrQ m m' ∧ m' 133 3 = nI (i + 2) ∧ RPm (s.1, (s.2.1.1 + 1, va_up s.2.1.2.1 s.2.1.1 (tx.2 i - 48), va_up s.2.1.2.2 s.2.1.1 (tx.2 (i + 1) - 48)), s.2.2.1, 1, some (tx.2 i - 48)) m' ∧ Ev o (d + 2) zX8_readOneBerth [.ref 133] (ai_w m lg) (some (.int (bI true))) (ai_w m' lg) := by
  have hv := hf.2.2
  have hv2 := hg.2.2
  have hT := s_X8_figT (o := o) (d := d) (lg := lg) h h3 (show 0 ≤ 9 by decide) (show 9 ≤ 9 by decide) hf
  have h1 : RXm tx (ai_up m 133 3 (nI (i + 1))) := h.fr (FrQ.up (Or.inl rfl))
  have hT2 := s_X8_figT (o := o) (d := d) (lg := lg) h1 (by rw [up_eq, if_pos rfl]) (show 0 ≤ 9 by decide) (show 3 ≤ 9 by decide) hg
  obtain ⟨m1, hm1⟩ : ∃ m1, m1 = ai_up (ai_up m 133 3 (nI (i + 1))) 133 3 (nI (i + 1 + 1)) := ⟨_, rfl⟩
  rw [← hm1] at hT2
  have f1 : FrQ m m1 := by rw [hm1]; exact (FrQ.up (Or.inl rfl)).trans (FrQ.up (Or.inl rfl))
  have r3 : m1 133 3 = nI (i + 2) := by rw [hm1, up_eq, if_pos rfl]
  have hR1 : RPm s m1 := by rw [hm1]; exact hR.p3.p3
  obtain ⟨b1, b2, b3, b4, b5, b6⟩ := hR1
  refine ⟨ai_up (ai_up (ai_up m1 139 (2 * s.2.1.1) (nI (tx.2 i - 48))) 139 (2 * s.2.1.1 + 1) (nI (tx.2 (i + 1) - 48))) 133 12 (nI (s.2.1.1 + 1)), f1.trans ((FrQ.upA (by omega)).trans ((FrQ.upA (by omega)).trans (FrQ.up (by omega)))), ?_, ⟨?_, ?_, ?_, fun j hj => ?_, fun j hj => ?_, fun j hj => ?_⟩, ?_⟩
  · rw [up_eq, if_neg (by decide), up_ne (by decide), up_ne (by decide)]; exact r3
  · rw [up_eq, if_neg (by decide), up_ne (by decide), up_ne (by decide)]; exact b1
  · rw [up_eq, if_pos rfl]
  · rw [up_eq, if_neg (by decide), up_ne (by decide), up_ne (by decide)]; exact b3
  · rw [up_ne (by decide), up_ne (by decide), up_ne (by decide)]; exact b4 j hj
  · simp only at hj
    rw [up_ne (by decide), up_eq, up_eq, up_eq, up_eq]
    simp only [va_up]
    by_cases q : j = s.2.1.1
    · rw [if_neg (by omega), if_pos (by omega), if_pos q, if_pos (by omega), if_pos q]
      exact ⟨rfl, rfl⟩
    · rw [if_neg (by omega), if_neg (by omega), if_neg q, if_neg (by omega), if_neg (by omega), if_neg q]
      exact b5 j (by omega)
  · rw [up_ne (by decide), up_ne (by decide), up_ne (by decide)]; exact b6 j hj
  · have l1 : 2 * s.2.1.1 < 8 := by omega
    have l2 : 2 * s.2.1.1 + 1 < 8 := by omega
    rw [ev_X8_readOneBerth]
    simp only [e_X8_readOneBerth_0, e_X8_readOneBerth_1, e_X8_readOneBerth_2, e_X8_readOneBerth_7_i, e_X8_readOneBerth_7_r, e_X8_readOneBerth_8, e_X8_readOneBerth_9, e_X8_readOneBerth_11, e_X8_readOneBerth_14, e_X8_readOneBerth_16, e_X8_readOneBerth_19, e_X8_readOneBerth_20, e_X8_readOneBerth_21, e_X8_readOneBerth_25_i, e_X8_readOneBerth_25_r, e_X8_readOneBerth_25_n, e_X8_readOneBerth_26, e_X8_readOneBerth_27, e_X8_readOneBerth_29, e_X8_readOneBerth_32, e_X8_readOneBerth_33, e_X8_readOneBerth_34, e_X8_readOneBerth_35, e_X8_readOneBerth_38, e_X8_readOneBerth_39, e_X8_readOneBerth_40, e_X8_readOneBerth_43, e_X8_readOneBerth_44, e_X8_readOneBerth_45, e_X8_readOneBerth_46, e_X8_readOneBerth_47, e_X8_readOneBerth_50, e_X8_readOneBerth_51, e_X8_readOneBerth_52, e_X8_readOneBerth_55, e_X8_readOneBerth_56, e_X8_readOneBerth_57, e_X8_readOneBerth_58, e_X8_readOneBerth_59, e_X8_readOneBerth_60, e_X8_readOneBerth_61, e_X8_readOneBerth_62, e_X8_readOneBerth_65, e_X8_readOneBerth_66, e_X8_readOneBerth_67, e_X8_readOneBerth_70, e_X8_readOneBerth_71, eq_self, nI10, not_false_eq_true, not_true_eq_false, is2_i, is2_r, is2_n, nI_add, pk_mul, Nat.reduceAdd, Nat.reduceMul, e_X8_readOneBerth_4 (hE := hT), nv9 (show tx.2 i - 48 ≤ 207 by omega), if_true, e_X8_readOneBerth_22 (hE := hT2), nv9 (show tx.2 (i + 1) - 48 ≤ 207 by omega), m0_139, ml_139, b2, l1, l2, up_ne (show (133 : Nat) ≠ 139 by decide), nar_1, bI_t]
theorem s_X8_dreamF (h : RXm tx m) (hi' : i ≤ tx.1) (h3 : m 133 3 = nI i) (hf : ¬ fgAt tx i 1 9) : Ev o (d + 2) zX8_readOneDream [.ref 133] (ai_w m lg) (some (.int (bI false))) (ai_w m lg) := by
  rw [ev_X8_readOneDream]
  simp only [e_X8_readOneDream_0, e_X8_readOneDream_1, e_X8_readOneDream_2, e_X8_readOneDream_7_i, e_X8_readOneDream_7_r, e_X8_readOneDream_8, e_X8_readOneDream_9, e_X8_readOneDream_11, e_X8_readOneDream_14, e_X8_readOneDream_16, e_X8_readOneDream_19, e_X8_readOneDream_20, e_X8_readOneDream_21, e_X8_readOneDream_25_i, e_X8_readOneDream_25_r, e_X8_readOneDream_25_n, e_X8_readOneDream_26, e_X8_readOneDream_27, e_X8_readOneDream_29, e_X8_readOneDream_32, e_X8_readOneDream_33, e_X8_readOneDream_34, e_X8_readOneDream_35, e_X8_readOneDream_38, e_X8_readOneDream_39, e_X8_readOneDream_40, e_X8_readOneDream_43, e_X8_readOneDream_44, e_X8_readOneDream_45, e_X8_readOneDream_46, e_X8_readOneDream_47, e_X8_readOneDream_50, e_X8_readOneDream_51, e_X8_readOneDream_52, e_X8_readOneDream_55, e_X8_readOneDream_56, e_X8_readOneDream_57, e_X8_readOneDream_58, e_X8_readOneDream_59, e_X8_readOneDream_60, e_X8_readOneDream_61, e_X8_readOneDream_62, e_X8_readOneDream_65, e_X8_readOneDream_66, e_X8_readOneDream_67, e_X8_readOneDream_70, e_X8_readOneDream_71, eq_self, nI10, not_false_eq_true, not_true_eq_false, is2_i, is2_r, is2_n, nI_add, pk_mul, Nat.reduceAdd, Nat.reduceMul, e_X8_readOneDream_4 (hE := s_X8_figF h hi' h3 (show 1 ≤ 9 by decide) (show 9 ≤ 9 by decide) hf), if_false, nar_0, bI_f]
theorem s_X8_dreamG (h : RXm tx m) (h3 : m 133 3 = nI i) (hf : fgAt tx i 1 9) (hg : ¬ fgAt tx (i + 1) 0 3) : Ev o (d + 2) zX8_readOneDream [.ref 133] (ai_w m lg) (some (.int (bI false))) (ai_w (ai_up m 133 3 (nI (i + 1))) lg) := by
  have hv := hf.2.2
  have hT := s_X8_figT (o := o) (d := d) (lg := lg) h h3 (show 1 ≤ 9 by decide) (show 9 ≤ 9 by decide) hf
  have h1 : RXm tx (ai_up m 133 3 (nI (i + 1))) := h.fr (FrQ.up (Or.inl rfl))
  have hT2 := s_X8_figF (o := o) (d := d) (lg := lg) h1 (show i + 1 ≤ tx.1 from hf.1) (by rw [up_eq, if_pos rfl]) (show 0 ≤ 9 by decide) (show 3 ≤ 9 by decide) hg
  rw [ev_X8_readOneDream]
  simp only [e_X8_readOneDream_0, e_X8_readOneDream_1, e_X8_readOneDream_2, e_X8_readOneDream_7_i, e_X8_readOneDream_7_r, e_X8_readOneDream_8, e_X8_readOneDream_9, e_X8_readOneDream_11, e_X8_readOneDream_14, e_X8_readOneDream_16, e_X8_readOneDream_19, e_X8_readOneDream_20, e_X8_readOneDream_21, e_X8_readOneDream_25_i, e_X8_readOneDream_25_r, e_X8_readOneDream_25_n, e_X8_readOneDream_26, e_X8_readOneDream_27, e_X8_readOneDream_29, e_X8_readOneDream_32, e_X8_readOneDream_33, e_X8_readOneDream_34, e_X8_readOneDream_35, e_X8_readOneDream_38, e_X8_readOneDream_39, e_X8_readOneDream_40, e_X8_readOneDream_43, e_X8_readOneDream_44, e_X8_readOneDream_45, e_X8_readOneDream_46, e_X8_readOneDream_47, e_X8_readOneDream_50, e_X8_readOneDream_51, e_X8_readOneDream_52, e_X8_readOneDream_55, e_X8_readOneDream_56, e_X8_readOneDream_57, e_X8_readOneDream_58, e_X8_readOneDream_59, e_X8_readOneDream_60, e_X8_readOneDream_61, e_X8_readOneDream_62, e_X8_readOneDream_65, e_X8_readOneDream_66, e_X8_readOneDream_67, e_X8_readOneDream_70, e_X8_readOneDream_71, eq_self, nI10, not_false_eq_true, not_true_eq_false, is2_i, is2_r, is2_n, nI_add, pk_mul, Nat.reduceAdd, Nat.reduceMul, e_X8_readOneDream_4 (hE := hT), nv9 (show tx.2 i - 48 ≤ 207 by omega), if_true, e_X8_readOneDream_22 (hE := hT2), if_false, nar_0, bI_f]
theorem s_X8_dreamT (h : RXm tx m) (h3 : m 133 3 = nI i) (hf : fgAt tx i 1 9) (hg : fgAt tx (i + 1) 0 3) (hR : RPm s m) (h4 : s.2.2.1.1 < 5) : ∃ m', FrQ m m' ∧ m' 133 3 = nI (i + 2) ∧ RPm (s.1, s.2.1, (s.2.2.1.1 + 1, va_up s.2.2.1.2.1 s.2.2.1.1 (tx.2 i - 48), va_up s.2.2.1.2.2 s.2.2.1.1 (tx.2 (i + 1) - 48)), 1, some (tx.2 i - 48)) m' ∧ Ev o (d + 2) zX8_readOneDream [.ref 133] (ai_w m lg) (some (.int (bI true))) (ai_w m' lg) := by
  have hv := hf.2.2
  have hv2 := hg.2.2
  have hT := s_X8_figT (o := o) (d := d) (lg := lg) h h3 (show 1 ≤ 9 by decide) (show 9 ≤ 9 by decide) hf
  have h1 : RXm tx (ai_up m 133 3 (nI (i + 1))) := h.fr (FrQ.up (Or.inl rfl))
  have hT2 := s_X8_figT (o := o) (d := d) (lg := lg) h1 (by rw [up_eq, if_pos rfl]) (show 0 ≤ 9 by decide) (show 3 ≤ 9 by decide) hg
  obtain ⟨m1, hm1⟩ : ∃ m1, m1 = ai_up (ai_up m 133 3 (nI (i + 1))) 133 3 (nI (i + 1 + 1)) := ⟨_, rfl⟩
  rw [← hm1] at hT2
  have f1 : FrQ m m1 := by rw [hm1]; exact (FrQ.up (Or.inl rfl)).trans (FrQ.up (Or.inl rfl))
  have r3 : m1 133 3 = nI (i + 2) := by rw [hm1, up_eq, if_pos rfl]
  have hR1 : RPm s m1 := by rw [hm1]; exact hR.p3.p3
  obtain ⟨b1, b2, b3, b4, b5, b6⟩ := hR1
  refine ⟨ai_up (ai_up (ai_up m1 140 (2 * s.2.2.1.1) (nI (tx.2 i - 48))) 140 (2 * s.2.2.1.1 + 1) (nI (tx.2 (i + 1) - 48))) 133 14 (nI (s.2.2.1.1 + 1)), f1.trans ((FrQ.upA (by omega)).trans ((FrQ.upA (by omega)).trans (FrQ.up (by omega)))), ?_, ⟨?_, ?_, ?_, fun j hj => ?_, fun j hj => ?_, fun j hj => ?_⟩, ?_⟩
  · rw [up_eq, if_neg (by decide), up_ne (by decide), up_ne (by decide)]; exact r3
  · rw [up_eq, if_neg (by decide), up_ne (by decide), up_ne (by decide)]; exact b1
  · rw [up_eq, if_neg (by decide), up_ne (by decide), up_ne (by decide)]; exact b2
  · rw [up_eq, if_pos rfl]
  · rw [up_ne (by decide), up_ne (by decide), up_ne (by decide)]; exact b4 j hj
  · rw [up_ne (by decide), up_ne (by decide), up_ne (by decide)]; exact b5 j hj
  · simp only at hj
    rw [up_ne (by decide), up_eq, up_eq, up_eq, up_eq]
    simp only [va_up]
    by_cases q : j = s.2.2.1.1
    · rw [if_neg (by omega), if_pos (by omega), if_pos q, if_pos (by omega), if_pos q]
      exact ⟨rfl, rfl⟩
    · rw [if_neg (by omega), if_neg (by omega), if_neg q, if_neg (by omega), if_neg (by omega), if_neg q]
      exact b6 j (by omega)
  · have l1 : 2 * s.2.2.1.1 < 10 := by omega
    have l2 : 2 * s.2.2.1.1 + 1 < 10 := by omega
    rw [ev_X8_readOneDream]
    simp only [e_X8_readOneDream_0, e_X8_readOneDream_1, e_X8_readOneDream_2, e_X8_readOneDream_7_i, e_X8_readOneDream_7_r, e_X8_readOneDream_8, e_X8_readOneDream_9, e_X8_readOneDream_11, e_X8_readOneDream_14, e_X8_readOneDream_16, e_X8_readOneDream_19, e_X8_readOneDream_20, e_X8_readOneDream_21, e_X8_readOneDream_25_i, e_X8_readOneDream_25_r, e_X8_readOneDream_25_n, e_X8_readOneDream_26, e_X8_readOneDream_27, e_X8_readOneDream_29, e_X8_readOneDream_32, e_X8_readOneDream_33, e_X8_readOneDream_34, e_X8_readOneDream_35, e_X8_readOneDream_38, e_X8_readOneDream_39, e_X8_readOneDream_40, e_X8_readOneDream_43, e_X8_readOneDream_44, e_X8_readOneDream_45, e_X8_readOneDream_46, e_X8_readOneDream_47, e_X8_readOneDream_50, e_X8_readOneDream_51, e_X8_readOneDream_52, e_X8_readOneDream_55, e_X8_readOneDream_56, e_X8_readOneDream_57, e_X8_readOneDream_58, e_X8_readOneDream_59, e_X8_readOneDream_60, e_X8_readOneDream_61, e_X8_readOneDream_62, e_X8_readOneDream_65, e_X8_readOneDream_66, e_X8_readOneDream_67, e_X8_readOneDream_70, e_X8_readOneDream_71, eq_self, nI10, not_false_eq_true, not_true_eq_false, is2_i, is2_r, is2_n, nI_add, pk_mul, Nat.reduceAdd, Nat.reduceMul, e_X8_readOneDream_4 (hE := hT), nv9 (show tx.2 i - 48 ≤ 207 by omega), if_true, e_X8_readOneDream_22 (hE := hT2), nv9 (show tx.2 (i + 1) - 48 ≤ 207 by omega), m0_140, ml_140, b3, l1, l2, up_ne (show (133 : Nat) ≠ 140 by decide), nar_1, bI_t]
end P64
