/-! THE REFERENCE: what its cells mean; small methods -/
theorem m0_134 : ai_a0 134 = true := by decide +kernel
theorem m0_135 : ai_a0 135 = true := by decide +kernel
theorem m0_136 : ai_a0 136 = true := by decide +kernel
theorem m0_137 : ai_a0 137 = true := by decide +kernel
theorem m0_138 : ai_a0 138 = true := by decide +kernel
theorem m0_139 : ai_a0 139 = true := by decide +kernel
theorem m0_140 : ai_a0 140 = true := by decide +kernel
theorem m0_141 : ai_a0 141 = true := by decide +kernel
theorem m0_142 : ai_a0 142 = true := by decide +kernel
theorem m0_143 : ai_a0 143 = true := by decide +kernel
theorem m0_144 : ai_a0 144 = true := by decide +kernel
theorem m1_145 : ai_a1 145 = true := by decide +kernel
theorem m0_146 : ai_a0 146 = true := by decide +kernel
theorem m0_147 : ai_a0 147 = true := by decide +kernel
theorem m0_148 : ai_a0 148 = true := by decide +kernel
theorem m0_149 : ai_a0 149 = true := by decide +kernel
theorem m0_150 : ai_a0 150 = true := by decide +kernel
theorem ml_134 : ai_len 134 = 48 := by decide +kernel
theorem ml_135 : ai_len 135 = 4 := by decide +kernel
theorem ml_136 : ai_len 136 = 4 := by decide +kernel
theorem ml_137 : ai_len 137 = 5 := by decide +kernel
theorem ml_138 : ai_len 138 = 4 := by decide +kernel
theorem ml_139 : ai_len 139 = 8 := by decide +kernel
theorem ml_140 : ai_len 140 = 10 := by decide +kernel
theorem ml_141 : ai_len 141 = 24 := by decide +kernel
theorem ml_142 : ai_len 142 = 24 := by decide +kernel
theorem ml_143 : ai_len 143 = 336 := by decide +kernel
theorem ml_144 : ai_len 144 = 48 := by decide +kernel
theorem ml_145 : ai_len 145 = 2 := by decide +kernel
theorem ml_146 : ai_len 146 = 6 := by decide +kernel
theorem ml_147 : ai_len 147 = 6 := by decide +kernel
theorem ml_148 : ai_len 148 = 6 := by decide +kernel
theorem ml_149 : ai_len 149 = 50 := by decide +kernel
theorem ml_150 : ai_len 150 = 16 := by decide +kernel
/-- the port, in the reference -/
def RMp (p : PT) (m : Nat → Nat → Int32) : Prop := ptOk p ∧ m 133 4 = nI p.1 ∧ m 133 6 = nI p.2.2.1 ∧ m 133 8 = nI p.2.2.2.2.1 ∧ (∀ t, t < p.1 → m 135 t = nI (p.2.1 t)) ∧ (∀ b, b < p.2.2.1 → m 136 b = nI (p.2.2.2.1 b)) ∧ ∀ d, d < p.2.2.2.2.1 → m 137 d = nI (p.2.2.2.2.2 d)
/-- a page -/
def RG (p : PT) (x : HS) (f : Nat → Int32) : Prop := hsOk p x ∧ (∀ d, d < p.2.2.2.2.1 → f d = nI (x.1 d)) ∧ (∀ d, d < p.2.2.2.2.1 → f (5 + d) = x.2.1 d) ∧ (∀ d, d < p.2.2.2.2.1 → f (10 + d) = nI (x.2.2.1 d)) ∧ (∀ c, c < p.2.2.1 → f (15 + c) = nI (x.2.2.2.1 c)) ∧ (∀ c, c < p.2.2.1 → f (19 + c) = x.2.2.2.2.1 c) ∧ f 23 = nI x.2.2.2.2.2
def aiP (a : Nat) : Prop := a = 141 ∨ a = 142
theorem aiP0 {a : Nat} (h : aiP a) : ai_a0 a = true := by rcases h with rfl | rfl; exact m0_141; exact m0_142
theorem aiPl {a : Nat} (h : aiP a) : ai_len a = 24 := by rcases h with rfl | rfl; exact ml_141; exact ml_142
theorem aiPn {a : Nat} (h : aiP a) : 141 ≤ a ∧ a ≤ 142 := by rcases h with rfl | rfl <;> decide
theorem RMp.fr {p : PT} {m m' : Nat → Nat → Int32} (h : RMp p m) (h4 : m' 133 4 = m 133 4) (h6 : m' 133 6 = m 133 6) (h8 : m' 133 8 = m 133 8) (h5 : m' 135 = m 135) (h7 : m' 136 = m 136) (h9 : m' 137 = m 137) : RMp p m' := by
  obtain ⟨k, a1, a2, a3, a4, a5, a6⟩ := h
  exact ⟨k, by rw [h4]; exact a1, by rw [h6]; exact a2, by rw [h8]; exact a3, fun t ht => by rw [h5]; exact a4 t ht, fun t ht => by rw [h7]; exact a5 t ht, fun t ht => by rw [h9]; exact a6 t ht⟩
theorem RMp.frP {p : PT} {m m' : Nat → Nat → Int32} {a : Nat} (h : RMp p m) (ha : aiP a) (hf : FrS (fun i => i = a) m m') : RMp p m' := by
  have := aiPn ha
  exact h.fr (by rw [hf 133 (by omega)]) (by rw [hf 133 (by omega)]) (by rw [hf 133 (by omega)]) (hf 135 (by omega)) (hf 136 (by omega)) (hf 137 (by omega))
section UPG
variable {p : PT} {x : HS} {m : Nat → Nat → Int32} {a dd c v : Nat}
theorem RG.pl (hp : ptOk p) (h : RG p x (m a)) (hd : dd < 5) (hv : v < p.2.2.1 ∨ v = 8 ∨ v = 9) : RG p (va_up x.1 dd v, x.2) (ai_up m a dd (nI v) a) := by
  have hD := hp.2.2.1
  have hB := hp.2.1
  obtain ⟨⟨k1, k2, k3, k4⟩, h1, h2, h3, h4, h5, h6⟩ := h
  refine ⟨⟨fun t ht => ?_, k2, k3, k4⟩, fun t ht => ?_, fun t ht => ?_, fun t ht => ?_, fun t ht => ?_, fun t ht => ?_, ?_⟩
  · simp only [va_up]; split
    · exact hv
    · exact k1 t ht
  · rw [up_eq]; simp only [va_up]; split
    · rfl
    · exact h1 t ht
  · rw [up_eq, if_neg (by omega)]; exact h2 t ht
  · rw [up_eq, if_neg (by omega)]; exact h3 t ht
  · rw [up_eq, if_neg (by omega)]; exact h4 t ht
  · rw [up_eq, if_neg (by omega)]; exact h5 t ht
  · rw [up_eq, if_neg (by omega)]; exact h6
theorem RG.la {v : Int32} (hp : ptOk p) (h : RG p x (m a)) (hd : dd < 5) : RG p (x.1, va_up x.2.1 dd v, x.2.2) (ai_up m a (5 + dd) v a) := by
  have hD := hp.2.2.1
  have hB := hp.2.1
  obtain ⟨⟨k1, k2, k3, k4⟩, h1, h2, h3, h4, h5, h6⟩ := h
  refine ⟨⟨k1, k2, k3, k4⟩, fun t ht => ?_, fun t ht => ?_, fun t ht => ?_, fun t ht => ?_, fun t ht => ?_, ?_⟩
  · rw [up_eq, if_neg (by omega)]; exact h1 t ht
  · rw [up_eq]; simp only [va_up]
    by_cases q : t = dd
    · rw [if_pos (by omega), if_pos q]
    · rw [if_neg (by omega), if_neg q]; exact h2 t ht
  · rw [up_eq, if_neg (by omega)]; exact h3 t ht
  · rw [up_eq, if_neg (by omega)]; exact h4 t ht
  · rw [up_eq, if_neg (by omega)]; exact h5 t ht
  · rw [up_eq, if_neg (by omega)]; exact h6
theorem RG.dr (hp : ptOk p) (h : RG p x (m a)) (hd : dd < 5) (hv : 1 ≤ v ∧ v ≤ 9) : RG p (x.1, x.2.1, va_up x.2.2.1 dd v, x.2.2.2) (ai_up m a (10 + dd) (nI v) a) := by
  have hD := hp.2.2.1
  have hB := hp.2.1
  obtain ⟨⟨k1, k2, k3, k4⟩, h1, h2, h3, h4, h5, h6⟩ := h
  refine ⟨⟨k1, fun t ht => ?_, k3, k4⟩, fun t ht => ?_, fun t ht => ?_, fun t ht => ?_, fun t ht => ?_, fun t ht => ?_, ?_⟩
  · simp only [va_up]; split
    · exact hv
    · exact k2 t ht
  · rw [up_eq, if_neg (by omega)]; exact h1 t ht
  · rw [up_eq, if_neg (by omega)]; exact h2 t ht
  · rw [up_eq]; simp only [va_up]
    by_cases q : t = dd
    · rw [if_pos (by omega), if_pos q]
    · rw [if_neg (by omega), if_neg q]; exact h3 t ht
  · rw [up_eq, if_neg (by omega)]; exact h4 t ht
  · rw [up_eq, if_neg (by omega)]; exact h5 t ht
  · rw [up_eq, if_neg (by omega)]; exact h6
theorem RG.de (hp : ptOk p) (h : RG p x (m a)) (hd : c < 4) (hv : v ≤ 9) : RG p (x.1, x.2.1, x.2.2.1, va_up x.2.2.2.1 c v, x.2.2.2.2) (ai_up m a (15 + c) (nI v) a) := by
  have hD := hp.2.2.1
  have hB := hp.2.1
  obtain ⟨⟨k1, k2, k3, k4⟩, h1, h2, h3, h4, h5, h6⟩ := h
  refine ⟨⟨k1, k2, fun t ht => ?_, k4⟩, fun t ht => ?_, fun t ht => ?_, fun t ht => ?_, fun t ht => ?_, fun t ht => ?_, ?_⟩
  · simp only [va_up]; split
    · exact hv
    · exact k3 t ht
  · rw [up_eq, if_neg (by omega)]; exact h1 t ht
  · rw [up_eq, if_neg (by omega)]; exact h2 t ht
  · rw [up_eq, if_neg (by omega)]; exact h3 t ht
  · rw [up_eq]; simp only [va_up]
    by_cases q : t = c
    · rw [if_pos (by omega), if_pos q]
    · rw [if_neg (by omega), if_neg q]; exact h4 t ht
  · rw [up_eq, if_neg (by omega)]; exact h5 t ht
  · rw [up_eq, if_neg (by omega)]; exact h6
theorem RG.wo {v : Int32} (hp : ptOk p) (h : RG p x (m a)) (hd : c < 4) : RG p (x.1, x.2.1, x.2.2.1, x.2.2.2.1, va_up x.2.2.2.2.1 c v, x.2.2.2.2.2) (ai_up m a (19 + c) v a) := by
  have hD := hp.2.2.1
  have hB := hp.2.1
  obtain ⟨⟨k1, k2, k3, k4⟩, h1, h2, h3, h4, h5, h6⟩ := h
  refine ⟨⟨k1, k2, k3, k4⟩, fun t ht => ?_, fun t ht => ?_, fun t ht => ?_, fun t ht => ?_, fun t ht => ?_, ?_⟩
  · rw [up_eq, if_neg (by omega)]; exact h1 t ht
  · rw [up_eq, if_neg (by omega)]; exact h2 t ht
  · rw [up_eq, if_neg (by omega)]; exact h3 t ht
  · rw [up_eq, if_neg (by omega)]; exact h4 t ht
  · rw [up_eq]; simp only [va_up]
    by_cases q : t = c
    · rw [if_pos (by omega), if_pos q]
    · rw [if_neg (by omega), if_neg q]; exact h5 t ht
  · rw [up_eq, if_neg (by omega)]; exact h6
theorem RG.ng (hp : ptOk p) (h : RG p x (m a)) (hv : v ≤ 1000) : RG p (x.1, x.2.1, x.2.2.1, x.2.2.2.1, x.2.2.2.2.1, v) (ai_up m a 23 (nI v) a) := by
  have hD := hp.2.2.1
  have hB := hp.2.1
  obtain ⟨⟨k1, k2, k3, k4⟩, h1, h2, h3, h4, h5, h6⟩ := h
  refine ⟨⟨k1, k2, k3, hv⟩, fun t ht => ?_, fun t ht => ?_, fun t ht => ?_, fun t ht => ?_, fun t ht => ?_, ?_⟩
  · rw [up_eq, if_neg (by omega)]; exact h1 t ht
  · rw [up_eq, if_neg (by omega)]; exact h2 t ht
  · rw [up_eq, if_neg (by omega)]; exact h3 t ht
  · rw [up_eq, if_neg (by omega)]; exact h4 t ht
  · rw [up_eq, if_neg (by omega)]; exact h5 t ht
  · rw [up_eq]; simp
end UPG
theorem hg_p {p : PT} {x : HS} {f : Nat → Int32} {dd : Nat} (hp : ptOk p) (hh : RG p x f) (h : dd < p.2.2.2.2.1) : x.1 dd ≤ 9 := by
  have := hh.1.1 dd h
  have := hp.2.1
  omega
section P51
variable {o : ai_S} {d : Nat} {w : ai_W} {m : Nat → Nat → Int32} {lg : Nat → Nat → Int64} {p : PT} {x : HS} {a : Nat} {k : Int32} {r : Option Value × ai_W} {C E : Nat}
theorem s_X8_in {v u t : Int64} : Ev o d zX8_in [.long v, .long u, .long t] w (some (.int (bI (decide (u ≤ v ∧ v ≤ t))))) w := by
  have e1 : (lg_cmp v u < nI 0) = (v < u) := propext (lg_cmp_lt v u)
  have e2 : (nI 0 < lg_cmp v t) = (t < v) := propext (lg_cmp_gt v t)
  rw [ev_X8_in]
  simp only [e_X8_in_0, e_X8_in_1, e_X8_in_2, e_X8_in_3, e_X8_in_6, e_X8_in_7, e_X8_in_9, e_X8_in_10, e_X8_in_13, e_X8_in_14, e_X8_in_17, e_X8_in_18, eq_self, nI10, not_false_eq_true, not_true_eq_false, is2_i, is2_r, is2_n, nI_add, pk_mul, Nat.reduceAdd, Nat.reduceMul, e1, e2, nar_0, nar_1]
  by_cases h1 : v < u
  · have : ¬ u ≤ v := Int64.not_le.mpr h1
    simp [h1, this, bI]
  · have h1' : u ≤ v := Int64.not_lt.mp h1
    by_cases h2 : t < v
    · have : ¬ v ≤ t := Int64.not_le.mpr h2
      simp [h1, h2, this, bI]
    · have : v ≤ t := Int64.not_lt.mp h2
      simp [h1, h1', h2, this, bI]
theorem in_ix {n : Nat} (hn : n ≤ 1000) : decide ((0 : Int64) ≤ k.toInt64 ∧ k.toInt64 ≤ (nI n - nI 1).toInt64) = ixB k n := by
  unfold ixB
  have e1 : ((0 : Int64) ≤ k.toInt64) ↔ ¬ k < nI 0 := by
    rw [Int64.le_iff_toInt_le, Int32.toInt_toInt64, Int32.lt_iff_toInt_lt, nI_toInt (by omega)]
    show (0 : Int) ≤ _ ↔ _
    omega
  have e2 : (k.toInt64 ≤ (nI n - nI 1).toInt64) ↔ k < nI n := by
    rw [Int64.le_iff_toInt_le, Int32.toInt_toInt64, Int32.toInt_toInt64, Int32.lt_iff_toInt_lt, nI_toInt (by omega), pk_sub_toInt (by omega) (by omega)]
    omega
  exact decide_eq_decide.mpr (and_congr e1 e2)
theorem s_X8_noBerth (hp : RMp p m) : Ev o (d + 1) zX8_noBerth [.ref 133, .int k] (ai_w m lg) (some (.int (bI (!ixB k p.2.2.1)))) (ai_w m lg) := by
  have hB := hp.1.2.1
  rw [ev_X8_noBerth]
  simp only [e_X8_noBerth_0, e_X8_noBerth_1, e_X8_noBerth_2, e_X8_noBerth_3, e_X8_noBerth_4, e_X8_noBerth_7, e_X8_noBerth_8, e_X8_noBerth_9, e_X8_noBerth_13, e_X8_noBerth_16, e_X8_noBerth_17, e_X8_noBerth_20, e_X8_noBerth_21, eq_self, nI10, not_false_eq_true, not_true_eq_false, is2_i, is2_r, is2_n, nI_add, pk_mul, Nat.reduceAdd, Nat.reduceMul, hp.2.2.1, e_X8_noBerth_10 (hE := s_X8_in), in_ix (k := k) (n := p.2.2.1) (by omega), bI_z, nar_0, nar_1]
  cases ixB k p.2.2.1 <;> simp [bI]
theorem s_X8_noDream (hp : RMp p m) : Ev o (d + 1) zX8_noDream [.ref 133, .int k] (ai_w m lg) (some (.int (bI (!ixB k p.2.2.2.2.1)))) (ai_w m lg) := by
  have hB := hp.1.2.2.1
  rw [ev_X8_noDream]
  simp only [e_X8_noDream_0, e_X8_noDream_1, e_X8_noDream_2, e_X8_noDream_3, e_X8_noDream_4, e_X8_noDream_7, e_X8_noDream_8, e_X8_noDream_9, e_X8_noDream_13, e_X8_noDream_16, e_X8_noDream_17, e_X8_noDream_20, e_X8_noDream_21, eq_self, nI10, not_false_eq_true, not_true_eq_false, is2_i, is2_r, is2_n, nI_add, pk_mul, Nat.reduceAdd, Nat.reduceMul, hp.2.2.2.1, e_X8_noDream_10 (hE := s_X8_in), in_ix (k := k) (n := p.2.2.2.2.1) (by omega), bI_z, nar_0, nar_1]
  cases ixB k p.2.2.2.2.1 <;> simp [bI]
theorem s_X8_has {M j : Nat} (hM : M < 32) (hj : j < 5) : Ev o d zX8_has [.int (nI M), .int (nI j)] w (some (.int (bI (decide (M / 2 ^ j % 2 = 1))))) w := by
  have zz : ¬ nI 0 = nI 1 := by decide
  rw [ev_X8_has]
  simp only [e_X8_has_0, e_X8_has_1, e_X8_has_2, e_X8_has_3, e_X8_has_4, e_X8_has_5, e_X8_has_6, e_X8_has_9, e_X8_has_10, e_X8_has_13, e_X8_has_14, eq_self, nI10, not_false_eq_true, not_true_eq_false, is2_i, is2_r, is2_n, nI_add, pk_mul, Nat.reduceAdd, Nat.reduceMul, sh_bit M hM j hj, nar_0, nar_1]
  rcases (show M / 2 ^ j % 2 = 0 ∨ M / 2 ^ j % 2 = 1 by omega) with h | h
  · simp [h, zz, bI]
  · simp [h, bI]
theorem s_X8_many {M : Nat} (hM : M < 32) : Ev o d zX8_many [.int (nI M)] w (some (.int (nI (pcn M)))) w := by
  have lp : ∀ j c, c + j = 5 → Rn o d zX8_many 4 [.int (nI M), .int (nI (sumN (fun i => M / 2 ^ i % 2) c)), .int (nI c)] [] w (some (.int (nI (sumN (fun i => M / 2 ^ i % 2) 5))), w) := by
    intro j
    induction j with
    | zero =>
      intro c hj
      have : c = 5 := by omega
      subst this
      rw [e_X8_many_4]
      simp only [e_X8_many_0, e_X8_many_1_i, e_X8_many_1_r, e_X8_many_2, e_X8_many_3_i, e_X8_many_3_r, e_X8_many_3_n, e_X8_many_5, e_X8_many_6, e_X8_many_9, e_X8_many_10, e_X8_many_11, e_X8_many_12, e_X8_many_13, e_X8_many_14, e_X8_many_15, e_X8_many_16_i, e_X8_many_16_r, e_X8_many_17_i, e_X8_many_17_r, e_X8_many_17_n, e_X8_many_20, e_X8_many_23, e_X8_many_24, eq_self, nI10, not_false_eq_true, not_true_eq_false, is2_i, is2_r, is2_n, nI_add, pk_mul, Nat.reduceAdd, Nat.reduceMul, Int32.le_refl, if_true]
    | succ j ih =>
      intro c hj
      have e1 : ¬ nI 5 ≤ nI c := nI_ge (by omega) (by omega)
      have := ih (c + 1) (by omega)
      rw [sumN] at this
      rw [e_X8_many_4]
      simp only [e_X8_many_0, e_X8_many_1_i, e_X8_many_1_r, e_X8_many_2, e_X8_many_3_i, e_X8_many_3_r, e_X8_many_3_n, e_X8_many_5, e_X8_many_6, e_X8_many_9, e_X8_many_10, e_X8_many_11, e_X8_many_12, e_X8_many_13, e_X8_many_14, e_X8_many_15, e_X8_many_16_i, e_X8_many_16_r, e_X8_many_17_i, e_X8_many_17_r, e_X8_many_17_n, e_X8_many_20, e_X8_many_23, e_X8_many_24, eq_self, nI10, not_false_eq_true, not_true_eq_false, is2_i, is2_r, is2_n, nI_add, pk_mul, Nat.reduceAdd, Nat.reduceMul, e1, if_false, sh_bit M hM c (by omega)]
      exact this
  rw [ev_X8_many]
  simp only [e_X8_many_0, e_X8_many_1_i, e_X8_many_1_r, e_X8_many_2, e_X8_many_3_i, e_X8_many_3_r, e_X8_many_3_n, e_X8_many_5, e_X8_many_6, e_X8_many_9, e_X8_many_10, e_X8_many_11, e_X8_many_12, e_X8_many_13, e_X8_many_14, e_X8_many_15, e_X8_many_16_i, e_X8_many_16_r, e_X8_many_17_i, e_X8_many_17_r, e_X8_many_17_n, e_X8_many_20, e_X8_many_23, e_X8_many_24, eq_self, nI10, not_false_eq_true, not_true_eq_false, is2_i, is2_r, is2_n, nI_add, pk_mul, Nat.reduceAdd, Nat.reduceMul]
  have all : ∀ M, M < 32 → sumN (fun i => M / 2 ^ i % 2) 5 = pcn M := by decide +kernel
  have e := all M hM
  have := lp 5 0 (by omega)
  rw [e] at this
  exact this
theorem s_X8_power {b n : Nat} (hn : n < 2 ^ 31) : Ev o d zX8_power [.int (nI b), .int (nI n)] w (some (.int (nI (b ^ n)))) w := by
  have lp : ∀ j c, c + j = n → Rn o d zX8_power 4 [.int (nI b), .int (nI n), .int (nI (b ^ c)), .int (nI c)] [] w (some (.int (nI (b ^ n))), w) := by
    intro j
    induction j with
    | zero =>
      intro c hj
      have : c = n := by omega
      subst this
      rw [e_X8_power_4]
      simp only [e_X8_power_0, e_X8_power_1_i, e_X8_power_1_r, e_X8_power_1_n, e_X8_power_2, e_X8_power_3_i, e_X8_power_3_r, e_X8_power_3_n, e_X8_power_5, e_X8_power_6, e_X8_power_9, e_X8_power_10, e_X8_power_11, e_X8_power_12_i, e_X8_power_12_r, e_X8_power_12_n, e_X8_power_13_i, e_X8_power_13_r, e_X8_power_13_n, e_X8_power_16, e_X8_power_19, e_X8_power_20, eq_self, nI10, not_false_eq_true, not_true_eq_false, is2_i, is2_r, is2_n, nI_add, pk_mul, Nat.reduceAdd, Nat.reduceMul, Int32.le_refl, if_true]
    | succ j ih =>
      intro c hj
      have e1 : ¬ nI n ≤ nI c := nI_ge (by omega) (by omega)
      have := ih (c + 1) (by omega)
      rw [Nat.pow_succ] at this
      rw [e_X8_power_4]
      simp only [e_X8_power_0, e_X8_power_1_i, e_X8_power_1_r, e_X8_power_1_n, e_X8_power_2, e_X8_power_3_i, e_X8_power_3_r, e_X8_power_3_n, e_X8_power_5, e_X8_power_6, e_X8_power_9, e_X8_power_10, e_X8_power_11, e_X8_power_12_i, e_X8_power_12_r, e_X8_power_12_n, e_X8_power_13_i, e_X8_power_13_r, e_X8_power_13_n, e_X8_power_16, e_X8_power_19, e_X8_power_20, eq_self, nI10, not_false_eq_true, not_true_eq_false, is2_i, is2_r, is2_n, nI_add, pk_mul, Nat.reduceAdd, Nat.reduceMul, e1, if_false]
      exact this
  rw [ev_X8_power]
  simp only [e_X8_power_0, e_X8_power_1_i, e_X8_power_1_r, e_X8_power_1_n, e_X8_power_2, e_X8_power_3_i, e_X8_power_3_r, e_X8_power_3_n, e_X8_power_5, e_X8_power_6, e_X8_power_9, e_X8_power_10, e_X8_power_11, e_X8_power_12_i, e_X8_power_12_r, e_X8_power_12_n, e_X8_power_13_i, e_X8_power_13_r, e_X8_power_13_n, e_X8_power_16, e_X8_power_19, e_X8_power_20, eq_self, nI10, not_false_eq_true, not_true_eq_false, is2_i, is2_r, is2_n, nI_add, pk_mul, Nat.reduceAdd, Nat.reduceMul]
  exact lp n 0 (by omega)
theorem s_X8_tideOf (hp : RMp p m) {n : Nat} (hn : n < 2 ^ 31) : Ev o d zX8_tideOf [.ref 133, .int (nI n)] (ai_w m lg) (some (.int (nI (pTide p n)))) (ai_w m lg) := by
  obtain ⟨hk, h5, h6, h7, ht, hb, hd⟩ := hp
  have hT4 := hk.1
  rw [ev_X8_tideOf]
  by_cases h0 : p.1 = 0
  · simp only [e_X8_tideOf_0, e_X8_tideOf_1, e_X8_tideOf_4, e_X8_tideOf_7, e_X8_tideOf_8, e_X8_tideOf_11, e_X8_tideOf_12, e_X8_tideOf_15, e_X8_tideOf_16, e_X8_tideOf_17, e_X8_tideOf_20, e_X8_tideOf_21, e_X8_tideOf_22, eq_self, nI10, not_false_eq_true, not_true_eq_false, is2_i, is2_r, is2_n, nI_add, pk_mul, Nat.reduceAdd, Nat.reduceMul, h5, h0, pTide, if_true, if_false]
  · have hne : ¬ nI p.1 = nI 0 := fun z => h0 ((nI_eq (by omega) (by omega)).mp z)
    have hne' : ¬ nI p.1 = 0 := hne
    have hlt : n % p.1 < p.1 := Nat.mod_lt _ (by omega)
    have hl4 : n % p.1 < 4 := by omega
    simp only [e_X8_tideOf_0, e_X8_tideOf_1, e_X8_tideOf_4, e_X8_tideOf_7, e_X8_tideOf_8, e_X8_tideOf_11, e_X8_tideOf_12, e_X8_tideOf_15, e_X8_tideOf_16, e_X8_tideOf_17, e_X8_tideOf_20, e_X8_tideOf_21, e_X8_tideOf_22, eq_self, nI10, not_false_eq_true, not_true_eq_false, is2_i, is2_r, is2_n, nI_add, pk_mul, Nat.reduceAdd, Nat.reduceMul, h5, hne, hne', if_true, pk_rem (a := n) (d := p.1) hn (by omega) (by omega), hl4, m0_135, ml_135, ht _ hlt, pTide, h0, if_false]
/-- how deep the water is, if the tide fails in some -/
def mWater (p : PT) (x : HS) (E c : Nat) : Nat := x.2.2.2.1 c + tE p x E c
theorem s_X8_waterOf (hp : RMp p m) (hh : RG p x (m a)) (ha : aiP a) (hE : m 133 27 = nI E) (hE2 : E < 32) {c : Nat} (hc : c < p.2.2.1) : Ev o (d + 1) zX8_waterOf [.ref 133, .ref a, .int (nI c)] (ai_w m lg) (some (.int (nI (mWater p x E c)))) (ai_w m lg) := by
  have hB := hp.1.2.1
  have c24 : 15 + c < 24 := by omega
  have hn : x.2.2.2.2.2 < 2 ^ 31 := by have := hh.1.2.2.2; omega
  rw [ev_X8_waterOf]
  simp only [e_X8_waterOf_0, e_X8_waterOf_1, e_X8_waterOf_3, e_X8_waterOf_4, e_X8_waterOf_5, e_X8_waterOf_6, e_X8_waterOf_7, e_X8_waterOf_10, e_X8_waterOf_14, e_X8_waterOf_17, e_X8_waterOf_18, e_X8_waterOf_21, e_X8_waterOf_22, e_X8_waterOf_23, e_X8_waterOf_25, e_X8_waterOf_29, e_X8_waterOf_30, eq_self, nI10, not_false_eq_true, not_true_eq_false, is2_i, is2_r, is2_n, nI_add, pk_mul, Nat.reduceAdd, Nat.reduceMul, aiP0 ha, aiPl ha, c24, hh.2.2.2.2.1 c hc, hE, e_X8_waterOf_11 (hE := s_X8_has hE2 (show c < 5 by omega)), bI_z, show (23 : Nat) < 24 by decide, hh.2.2.2.2.2.2, e_X8_waterOf_26 (hE := s_X8_tideOf hp hn)]
  unfold mWater tE
  by_cases q : E / 2 ^ c % 2 = 1
  · simp [q]
  · simp [q]
theorem s_X8_dreamsAt (hp : RMp p m) (hh : RG p x (m a)) (ha : aiP a) {c : Nat} (hc : c < 2 ^ 31) : Ev o d zX8_dreamsAt [.ref 133, .ref a, .int (nI c)] (ai_w m lg) (some (.int (nI (mk (atP x c) p.2.2.2.2.1)))) (ai_w m lg) := by
  have hD := hp.1.2.2.1
  have or0 : ∀ v : Int32, v ||| nI 0 = v := fun v => Int32.or_zero
  have lp : ∀ j dd, dd + j = p.2.2.2.2.1 → Rn o d zX8_dreamsAt 5 [.ref 133, .ref a, .int (nI c), .int (nI (mk (atP x c) dd)), .int (nI dd)] [] (ai_w m lg) (some (.int (nI (mk (atP x c) p.2.2.2.2.1))), ai_w m lg) := by
    intro j
    induction j with
    | zero =>
      intro dd hj
      have : dd = p.2.2.2.2.1 := by omega
      subst this
      rw [e_X8_dreamsAt_5]
      simp only [e_X8_dreamsAt_0, e_X8_dreamsAt_1_i, e_X8_dreamsAt_1_r, e_X8_dreamsAt_1_n, e_X8_dreamsAt_2, e_X8_dreamsAt_3_i, e_X8_dreamsAt_3_r, e_X8_dreamsAt_3_n, e_X8_dreamsAt_7, e_X8_dreamsAt_8, e_X8_dreamsAt_11, e_X8_dreamsAt_14, e_X8_dreamsAt_15, e_X8_dreamsAt_16, e_X8_dreamsAt_18, e_X8_dreamsAt_19, e_X8_dreamsAt_20, e_X8_dreamsAt_23, e_X8_dreamsAt_24, e_X8_dreamsAt_26, e_X8_dreamsAt_27, e_X8_dreamsAt_30, e_X8_dreamsAt_31, e_X8_dreamsAt_32_i, e_X8_dreamsAt_32_r, e_X8_dreamsAt_32_n, e_X8_dreamsAt_33_i, e_X8_dreamsAt_33_r, e_X8_dreamsAt_33_n, e_X8_dreamsAt_36, e_X8_dreamsAt_39, e_X8_dreamsAt_40, eq_self, nI10, not_false_eq_true, not_true_eq_false, is2_i, is2_r, is2_n, nI_add, pk_mul, Nat.reduceAdd, Nat.reduceMul, hp.2.2.2.1, Int32.le_refl, if_true]
    | succ j ih =>
      intro dd hj
      have hlt : dd < p.2.2.2.2.1 := by omega
      have h24 : dd < 24 := by omega
      have h9 := hg_p hp.1 hh hlt
      have e1 : ¬ nI p.2.2.2.2.1 ≤ nI dd := nI_ge hlt (by omega)
      have := ih (dd + 1) (by omega)
      rw [e_X8_dreamsAt_5]
      simp only [e_X8_dreamsAt_0, e_X8_dreamsAt_1_i, e_X8_dreamsAt_1_r, e_X8_dreamsAt_1_n, e_X8_dreamsAt_2, e_X8_dreamsAt_3_i, e_X8_dreamsAt_3_r, e_X8_dreamsAt_3_n, e_X8_dreamsAt_7, e_X8_dreamsAt_8, e_X8_dreamsAt_11, e_X8_dreamsAt_14, e_X8_dreamsAt_15, e_X8_dreamsAt_16, e_X8_dreamsAt_18, e_X8_dreamsAt_19, e_X8_dreamsAt_20, e_X8_dreamsAt_23, e_X8_dreamsAt_24, e_X8_dreamsAt_26, e_X8_dreamsAt_27, e_X8_dreamsAt_30, e_X8_dreamsAt_31, e_X8_dreamsAt_32_i, e_X8_dreamsAt_32_r, e_X8_dreamsAt_32_n, e_X8_dreamsAt_33_i, e_X8_dreamsAt_33_r, e_X8_dreamsAt_33_n, e_X8_dreamsAt_36, e_X8_dreamsAt_39, e_X8_dreamsAt_40, eq_self, nI10, not_false_eq_true, not_true_eq_false, is2_i, is2_r, is2_n, nI_add, pk_mul, Nat.reduceAdd, Nat.reduceMul, hp.2.2.2.1, e1, if_false, aiP0 ha, aiPl ha, h24, hh.2.1 dd hlt, nI_9 (a := x.1 dd) (c := c) (by omega) hc, or_bit (mk_lt (atP x c) dd) (show dd < 31 by omega), or0]
      by_cases q : x.1 dd = c
      · rw [mk, show atP x c dd = true by unfold atP; simp [q], if_pos rfl] at this
        rw [if_neg (fun z => z q)]
        exact this
      · rw [mk, show atP x c dd = false by unfold atP; simp [q]] at this
        rw [if_pos q]
        exact this
  rw [ev_X8_dreamsAt]
  simp only [e_X8_dreamsAt_0, e_X8_dreamsAt_1_i, e_X8_dreamsAt_1_r, e_X8_dreamsAt_1_n, e_X8_dreamsAt_2, e_X8_dreamsAt_3_i, e_X8_dreamsAt_3_r, e_X8_dreamsAt_3_n, e_X8_dreamsAt_7, e_X8_dreamsAt_8, e_X8_dreamsAt_11, e_X8_dreamsAt_14, e_X8_dreamsAt_15, e_X8_dreamsAt_16, e_X8_dreamsAt_18, e_X8_dreamsAt_19, e_X8_dreamsAt_20, e_X8_dreamsAt_23, e_X8_dreamsAt_24, e_X8_dreamsAt_26, e_X8_dreamsAt_27, e_X8_dreamsAt_30, e_X8_dreamsAt_31, e_X8_dreamsAt_32_i, e_X8_dreamsAt_32_r, e_X8_dreamsAt_32_n, e_X8_dreamsAt_33_i, e_X8_dreamsAt_33_r, e_X8_dreamsAt_33_n, e_X8_dreamsAt_36, e_X8_dreamsAt_39, e_X8_dreamsAt_40, eq_self, nI10, not_false_eq_true, not_true_eq_false, is2_i, is2_r, is2_n, nI_add, pk_mul, Nat.reduceAdd, Nat.reduceMul]
  exact lp p.2.2.2.2.1 0 (by omega)
theorem s_X8_berthed (hp : RMp p m) (hh : RG p x (m a)) (ha : aiP a) : Ev o (d + 1) zX8_berthed [.ref 133, .ref a] (ai_w m lg) (some (.int (nI (mk (fun i => decide (x.1 i < p.2.2.1)) p.2.2.2.2.1)))) (ai_w m lg) := by
  have hB := hp.1.2.1
  have lp : ∀ j c, c + j = p.2.2.1 → Rn o (d + 1) zX8_berthed 4 [.ref 133, .ref a, .int (nI (mk (fun i => decide (x.1 i < c)) p.2.2.2.2.1)), .int (nI c)] [] (ai_w m lg) (some (.int (nI (mk (fun i => decide (x.1 i < p.2.2.1)) p.2.2.2.2.1))), ai_w m lg) := by
    intro j
    induction j with
    | zero =>
      intro c hj
      have : c = p.2.2.1 := by omega
      subst this
      rw [e_X8_berthed_4]
      simp only [e_X8_berthed_0, e_X8_berthed_1_i, e_X8_berthed_1_r, e_X8_berthed_1_n, e_X8_berthed_2, e_X8_berthed_3_i, e_X8_berthed_3_r, e_X8_berthed_3_n, e_X8_berthed_5, e_X8_berthed_6, e_X8_berthed_9, e_X8_berthed_12, e_X8_berthed_13, e_X8_berthed_14, e_X8_berthed_15, e_X8_berthed_19, e_X8_berthed_20_i, e_X8_berthed_20_r, e_X8_berthed_20_n, e_X8_berthed_21_i, e_X8_berthed_21_r, e_X8_berthed_21_n, e_X8_berthed_24, e_X8_berthed_27, e_X8_berthed_28, eq_self, nI10, not_false_eq_true, not_true_eq_false, is2_i, is2_r, is2_n, nI_add, pk_mul, Nat.reduceAdd, Nat.reduceMul, hp.2.2.1, Int32.le_refl, if_true]
    | succ j ih =>
      intro c hj
      have e1 : ¬ nI p.2.2.1 ≤ nI c := nI_ge (by omega) (by omega)
      have := ih (c + 1) (by omega)
      rw [e_X8_berthed_4]
      simp only [e_X8_berthed_0, e_X8_berthed_1_i, e_X8_berthed_1_r, e_X8_berthed_1_n, e_X8_berthed_2, e_X8_berthed_3_i, e_X8_berthed_3_r, e_X8_berthed_3_n, e_X8_berthed_5, e_X8_berthed_6, e_X8_berthed_9, e_X8_berthed_12, e_X8_berthed_13, e_X8_berthed_14, e_X8_berthed_15, e_X8_berthed_19, e_X8_berthed_20_i, e_X8_berthed_20_r, e_X8_berthed_20_n, e_X8_berthed_21_i, e_X8_berthed_21_r, e_X8_berthed_21_n, e_X8_berthed_24, e_X8_berthed_27, e_X8_berthed_28, eq_self, nI10, not_false_eq_true, not_true_eq_false, is2_i, is2_r, is2_n, nI_add, pk_mul, Nat.reduceAdd, Nat.reduceMul, hp.2.2.1, e1, if_false, e_X8_berthed_16 (hE := s_X8_dreamsAt hp hh ha (show c < 2 ^ 31 by omega)), fa_or, mk_or]
      rw [mk_congr (f := fun i => decide (x.1 i < c) || atP x c i) (g := fun i => decide (x.1 i < c + 1)) (fun i _ => by
        unfold atP
        by_cases h1 : x.1 i < c
        · simp [h1, Nat.lt_succ_of_lt h1]
        · by_cases h2 : x.1 i = c
          · simp [h2]
          · have : ¬ x.1 i < c + 1 := by omega
            simp [h1, h2, this])]
      exact this
  rw [ev_X8_berthed]
  simp only [e_X8_berthed_0, e_X8_berthed_1_i, e_X8_berthed_1_r, e_X8_berthed_1_n, e_X8_berthed_2, e_X8_berthed_3_i, e_X8_berthed_3_r, e_X8_berthed_3_n, e_X8_berthed_5, e_X8_berthed_6, e_X8_berthed_9, e_X8_berthed_12, e_X8_berthed_13, e_X8_berthed_14, e_X8_berthed_15, e_X8_berthed_19, e_X8_berthed_20_i, e_X8_berthed_20_r, e_X8_berthed_20_n, e_X8_berthed_21_i, e_X8_berthed_21_r, e_X8_berthed_21_n, e_X8_berthed_24, e_X8_berthed_27, e_X8_berthed_28, eq_self, nI10, not_false_eq_true, not_true_eq_false, is2_i, is2_r, is2_n, nI_add, pk_mul, Nat.reduceAdd, Nat.reduceMul]
  have := lp p.2.2.1 0 (by omega)
  rw [show mk (fun i => decide (x.1 i < 0)) p.2.2.2.2.1 = 0 by
    rw [mk_congr (g := fun _ => false) (fun i _ => by simp)]
    clear this
    induction p.2.2.2.2.1 with
    | zero => rfl
    | succ n ih => unfold mk; rw [ih]; rfl] at this
  exact this
theorem s_X8_suits (hp : RMp p m) (hh : RG p x (m a)) (ha : aiP a) {dd c : Nat} (hd : dd < p.2.2.2.2.1) (hc : c < p.2.2.1) : Ev o d zX8_suits [.ref 133, .ref a, .int (nI dd), .int (nI c)] (ai_w m lg) (some (.int (bI (pSuit p x dd c)))) (ai_w m lg) := by
  have hD := hp.1.2.2.1
  have hB := hp.1.2.1
  have h5 : dd < 5 := by omega
  have h4 : c < 4 := by omega
  have h24 : 10 + dd < 24 := by omega
  have k1 := hp.1.2.2.2.2.1 c hc
  have k2 := hp.1.2.2.2.2.2 dd hd
  have k3 := (hh.1.2.1 dd hd).2
  have e3 : (nI 3 < nI (x.2.2.1 dd)) = (3 < x.2.2.1 dd) := propext (nI_ltI (by omega) (by omega))
  rw [ev_X8_suits]
  simp only [e_X8_suits_0, e_X8_suits_1, e_X8_suits_4, e_X8_suits_5, e_X8_suits_6, e_X8_suits_7, e_X8_suits_10, e_X8_suits_11, e_X8_suits_13, e_X8_suits_14, e_X8_suits_15, e_X8_suits_16, e_X8_suits_17, e_X8_suits_20, e_X8_suits_21, e_X8_suits_24, e_X8_suits_25, e_X8_suits_26, e_X8_suits_27, e_X8_suits_30, e_X8_suits_31, e_X8_suits_34, e_X8_suits_35, eq_self, nI10, not_false_eq_true, not_true_eq_false, is2_i, is2_r, is2_n, nI_add, pk_mul, Nat.reduceAdd, Nat.reduceMul, aiP0 ha, aiPl ha, m0_136, ml_136, m0_137, ml_137, h5, h4, h24, hp.2.2.2.2.2.1 c hc, hp.2.2.2.2.2.2 dd hd, hh.2.2.2.1 dd hd, nI_9 (a := p.2.2.2.1 c) (c := 1) (by omega) (by omega), nI_9 (a := p.2.2.2.2.2 dd) (c := 1) (by omega) (by omega), e3, nar_0, nar_1]
  unfold pSuit
  by_cases a1 : p.2.2.2.1 c = 1
  · by_cases a2 : 3 < x.2.2.1 dd
    · simp [a1, a2, Nat.not_le.mpr a2, bI]
    · by_cases a3 : p.2.2.2.2.2 dd = 1
      · simp [a1, a2, a3, bI]
      · simp [a1, a2, a3, Nat.not_lt.mp a2, bI]
  · simp [a1, bI]
def mCan (p : PT) (x : HS) (C dd c : Nat) : Bool := decide (C / 2 ^ c % 2 = 1) && pCan p x dd c
theorem s_X8_canBe (hp : RMp p m) (hh : RG p x (m a)) (ha : aiP a) (hC : m 133 28 = nI C) (hC2 : C < 32) {dd c : Nat} (hd : dd < p.2.2.2.2.1) (hc : c < p.2.2.1) : Ev o (d + 1) zX8_canBe [.ref 133, .ref a, .int (nI dd), .int (nI c)] (ai_w m lg) (some (.int (bI (mCan p x C dd c)))) (ai_w m lg) := by
  have hD := hp.1.2.2.1
  have hB := hp.1.2.1
  have h4 : c < 4 := by omega
  have k1 := hp.1.2.2.2.2.1 c hc
  have hM : mk (atP x c) p.2.2.2.2.1 < 32 := Nat.lt_of_lt_of_le (mk_lt _ _) (Nat.pow_le_pow_right (by decide) hD)
  have hcl := cn_le (atP x c) p.2.2.2.2.1
  have eL : ∀ b, b < 2 ^ 31 → (nI b ≤ nI (cn (atP x c) p.2.2.2.2.1)) = (b ≤ cn (atP x c) p.2.2.2.2.1) := fun b hb => propext (nI_leI hb (by omega))
  rw [ev_X8_canBe]
  simp only [e_X8_canBe_0, e_X8_canBe_1, e_X8_canBe_4, e_X8_canBe_8, e_X8_canBe_11, e_X8_canBe_12, e_X8_canBe_13, e_X8_canBe_14, e_X8_canBe_18, e_X8_canBe_21, e_X8_canBe_22, e_X8_canBe_23, e_X8_canBe_30, e_X8_canBe_31, e_X8_canBe_34, e_X8_canBe_35, e_X8_canBe_36, e_X8_canBe_37, e_X8_canBe_40, e_X8_canBe_41, e_X8_canBe_44, e_X8_canBe_45, e_X8_canBe_48, e_X8_canBe_49, e_X8_canBe_52, e_X8_canBe_53, eq_self, nI10, not_false_eq_true, not_true_eq_false, is2_i, is2_r, is2_n, nI_add, pk_mul, Nat.reduceAdd, Nat.reduceMul, hC, e_X8_canBe_5 (hE := s_X8_has hC2 (show c < 5 by omega)), bI_z, e_X8_canBe_15 (hE := s_X8_suits hp hh ha hd hc), e_X8_canBe_24 (hE := s_X8_dreamsAt hp hh ha (show c < 2 ^ 31 by omega)), e_X8_canBe_27 (hE := s_X8_many hM), pcn_mk _ hD, m0_136, ml_136, h4, hp.2.2.2.2.2.1 c hc, nI_9 (a := p.2.2.2.1 c) (c := 2) (by omega) (by omega), eL 1 (by omega), eL 2 (by omega), nar_0, nar_1]
  unfold mCan pCan pCap
  by_cases q1 : C / 2 ^ c % 2 = 1
  · cases q2 : pSuit p x dd c
    · simp [q1, bI]
    · by_cases q3 : p.2.2.2.1 c = 2
      · by_cases q4 : 2 ≤ cn (atP x c) p.2.2.2.2.1
        · simp [q1, q3, q4, Nat.not_lt.mpr q4, bI]
        · simp [q1, q3, q4, Nat.not_le.mp q4, bI]
      · by_cases q4 : 1 ≤ cn (atP x c) p.2.2.2.2.1
        · simp [q1, q3, q4, Nat.not_lt.mpr q4, bI]
        · have : cn (atP x c) p.2.2.2.2.1 = 0 := by omega
          simp [q1, q3, this, bI]
  · simp [q1, bI]
theorem s_X8_mayBe (hp : RMp p m) (hh : RG p x (m a)) (ha : aiP a) (hC : m 133 28 = nI C) (hC2 : C < 32) {dd : Nat} (hd : dd < p.2.2.2.2.1) : Ev o (d + 2) zX8_mayBe [.ref 133, .ref a, .int (nI dd)] (ai_w m lg) (some (.int (nI (mk (mCan p x C dd) p.2.2.1)))) (ai_w m lg) := by
  have hB := hp.1.2.1
  have or0 : ∀ v : Int32, v ||| nI 0 = v := fun v => Int32.or_zero
  have lp : ∀ j c, c + j = p.2.2.1 → Rn o (d + 2) zX8_mayBe 5 [.ref 133, .ref a, .int (nI dd), .int (nI (mk (mCan p x C dd) c)), .int (nI c)] [] (ai_w m lg) (some (.int (nI (mk (mCan p x C dd) p.2.2.1))), ai_w m lg) := by
    intro j
    induction j with
    | zero =>
      intro c hj
      have : c = p.2.2.1 := by omega
      subst this
      rw [e_X8_mayBe_5]
      simp only [e_X8_mayBe_0, e_X8_mayBe_1_i, e_X8_mayBe_1_r, e_X8_mayBe_1_n, e_X8_mayBe_2, e_X8_mayBe_3_i, e_X8_mayBe_3_r, e_X8_mayBe_3_n, e_X8_mayBe_7, e_X8_mayBe_8, e_X8_mayBe_11, e_X8_mayBe_14, e_X8_mayBe_15, e_X8_mayBe_16, e_X8_mayBe_17, e_X8_mayBe_18, e_X8_mayBe_23, e_X8_mayBe_26, e_X8_mayBe_27, e_X8_mayBe_29, e_X8_mayBe_30, e_X8_mayBe_33, e_X8_mayBe_34, e_X8_mayBe_35_i, e_X8_mayBe_35_r, e_X8_mayBe_35_n, e_X8_mayBe_36_i, e_X8_mayBe_36_r, e_X8_mayBe_36_n, e_X8_mayBe_39, e_X8_mayBe_42, e_X8_mayBe_43, eq_self, nI10, not_false_eq_true, not_true_eq_false, is2_i, is2_r, is2_n, nI_add, pk_mul, Nat.reduceAdd, Nat.reduceMul, hp.2.2.1, Int32.le_refl, if_true]
    | succ j ih =>
      intro c hj
      have hlt : c < p.2.2.1 := by omega
      have e1 : ¬ nI p.2.2.1 ≤ nI c := nI_ge hlt (by omega)
      have := ih (c + 1) (by omega)
      rw [e_X8_mayBe_5]
      simp only [e_X8_mayBe_0, e_X8_mayBe_1_i, e_X8_mayBe_1_r, e_X8_mayBe_1_n, e_X8_mayBe_2, e_X8_mayBe_3_i, e_X8_mayBe_3_r, e_X8_mayBe_3_n, e_X8_mayBe_7, e_X8_mayBe_8, e_X8_mayBe_11, e_X8_mayBe_14, e_X8_mayBe_15, e_X8_mayBe_16, e_X8_mayBe_17, e_X8_mayBe_18, e_X8_mayBe_23, e_X8_mayBe_26, e_X8_mayBe_27, e_X8_mayBe_29, e_X8_mayBe_30, e_X8_mayBe_33, e_X8_mayBe_34, e_X8_mayBe_35_i, e_X8_mayBe_35_r, e_X8_mayBe_35_n, e_X8_mayBe_36_i, e_X8_mayBe_36_r, e_X8_mayBe_36_n, e_X8_mayBe_39, e_X8_mayBe_42, e_X8_mayBe_43, eq_self, nI10, not_false_eq_true, not_true_eq_false, is2_i, is2_r, is2_n, nI_add, pk_mul, Nat.reduceAdd, Nat.reduceMul, hp.2.2.1, e1, if_false, e_X8_mayBe_20 (hE := s_X8_canBe hp hh ha hC hC2 hd hlt), bI_z, or_bit (mk_lt (mCan p x C dd) c) (show c < 31 by omega), or0]
      cases q : mCan p x C dd c
      · rw [mk, q] at this
        rw [if_pos rfl]
        exact this
      · rw [mk, q, if_pos rfl] at this
        rw [if_neg (by decide)]
        exact this
  rw [ev_X8_mayBe]
  simp only [e_X8_mayBe_0, e_X8_mayBe_1_i, e_X8_mayBe_1_r, e_X8_mayBe_1_n, e_X8_mayBe_2, e_X8_mayBe_3_i, e_X8_mayBe_3_r, e_X8_mayBe_3_n, e_X8_mayBe_7, e_X8_mayBe_8, e_X8_mayBe_11, e_X8_mayBe_14, e_X8_mayBe_15, e_X8_mayBe_16, e_X8_mayBe_17, e_X8_mayBe_18, e_X8_mayBe_23, e_X8_mayBe_26, e_X8_mayBe_27, e_X8_mayBe_29, e_X8_mayBe_30, e_X8_mayBe_33, e_X8_mayBe_34, e_X8_mayBe_35_i, e_X8_mayBe_35_r, e_X8_mayBe_35_n, e_X8_mayBe_36_i, e_X8_mayBe_36_r, e_X8_mayBe_36_n, e_X8_mayBe_39, e_X8_mayBe_42, e_X8_mayBe_43, eq_self, nI10, not_false_eq_true, not_true_eq_false, is2_i, is2_r, is2_n, nI_add, pk_mul, Nat.reduceAdd, Nat.reduceMul]
  exact lp p.2.2.1 0 (by omega)
end P51
