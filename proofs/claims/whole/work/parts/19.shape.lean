/-! the world behind the two constructors: which cell is what stays so -/
def ai_w (m : Nat → Nat → Int32) (lg : Nat → Nat → Int64) : ai_W := (151, 1354, cz_k, cz_rf, m, lg)
abbrev ai_rf : Nat → Nat → Option Nat := cz_rf
def ai_len (i : Nat) : Nat := (cz_k i).2
def ai_a0 (i : Nat) : Bool := decide (i < 151) && decide ((cz_k i).1 = 0)
def ai_a1 (i : Nat) : Bool := decide (i < 151) && decide ((cz_k i).1 = 1)
def ai_a2 (i : Nat) : Bool := decide (i < 151) && decide ((cz_k i).1 = 2)
/-- a Harbour: its arrays follow it -/
def ai_H (b : Nat) : Prop := (b < 151 ∧ (cz_k b).1 = 2 + 3) ∧ cz_rf b 0 = some 3 ∧ cz_rf b 1 = some (b + 1) ∧ cz_rf b 2 = some (b + 2) ∧ cz_rf b 3 = some (b + 3) ∧ cz_rf b 4 = some (b + 4) ∧ cz_rf b 5 = some (b + 5) ∧
  (ai_a0 (b + 1) = true ∧ ai_len (b + 1) = 5) ∧ (ai_a0 (b + 2) = true ∧ ai_len (b + 2) = 5) ∧ (ai_a0 (b + 3) = true ∧ ai_len (b + 3) = 5) ∧ (ai_a0 (b + 4) = true ∧ ai_len (b + 4) = 4) ∧ ai_a0 (b + 5) = true ∧ ai_len (b + 5) = 4
/-- a Told, likewise -/
def ai_T (b : Nat) : Prop := (b < 151 ∧ (cz_k b).1 = 6 + 3) ∧ cz_rf b 0 = some (b + 1) ∧ cz_rf b 1 = some (b + 2) ∧ cz_rf b 2 = some (b + 3) ∧ cz_rf b 3 = some (b + 4) ∧ cz_rf b 4 = some (b + 5) ∧
  (ai_a0 (b + 1) = true ∧ ai_len (b + 1) = 4) ∧ (ai_a0 (b + 2) = true ∧ ai_len (b + 2) = 4) ∧ (ai_a0 (b + 3) = true ∧ ai_len (b + 3) = 4) ∧ (ai_a0 (b + 4) = true ∧ ai_len (b + 4) = 5) ∧ ai_a0 (b + 5) = true ∧ ai_len (b + 5) = 5
section SHAPE
variable {b : Nat}
theorem ai_Hr0 (h : ai_H b) : cz_rf b 0 = some 3 := h.2.1
theorem ai_Hr1 (h : ai_H b) : cz_rf b 1 = some (b + 1) := h.2.2.1
theorem ai_Hr2 (h : ai_H b) : cz_rf b 2 = some (b + 2) := h.2.2.2.1
theorem ai_Hr3 (h : ai_H b) : cz_rf b 3 = some (b + 3) := h.2.2.2.2.1
theorem ai_Hr4 (h : ai_H b) : cz_rf b 4 = some (b + 4) := h.2.2.2.2.2.1
theorem ai_Hr5 (h : ai_H b) : cz_rf b 5 = some (b + 5) := h.2.2.2.2.2.2.1
theorem ai_Tr0 (h : ai_T b) : cz_rf b 0 = some (b + 1) := h.2.1
theorem ai_Tr1 (h : ai_T b) : cz_rf b 1 = some (b + 2) := h.2.2.1
theorem ai_Tr2 (h : ai_T b) : cz_rf b 2 = some (b + 3) := h.2.2.2.1
theorem ai_Tr3 (h : ai_T b) : cz_rf b 3 = some (b + 4) := h.2.2.2.2.1
theorem ai_Tr4 (h : ai_T b) : cz_rf b 4 = some (b + 5) := h.2.2.2.2.2.1
theorem hA1 (h : ai_H b) : ai_a0 (b + 1) = true := h.2.2.2.2.2.2.2.1.1
theorem hA2 (h : ai_H b) : ai_a0 (b + 2) = true := h.2.2.2.2.2.2.2.2.1.1
theorem hA3 (h : ai_H b) : ai_a0 (b + 3) = true := h.2.2.2.2.2.2.2.2.2.1.1
theorem hA4 (h : ai_H b) : ai_a0 (b + 4) = true := h.2.2.2.2.2.2.2.2.2.2.1.1
theorem hA5 (h : ai_H b) : ai_a0 (b + 5) = true := h.2.2.2.2.2.2.2.2.2.2.2.1
theorem hL1 (h : ai_H b) : ai_len (b + 1) = 5 := h.2.2.2.2.2.2.2.1.2
theorem hL2 (h : ai_H b) : ai_len (b + 2) = 5 := h.2.2.2.2.2.2.2.2.1.2
theorem hL3 (h : ai_H b) : ai_len (b + 3) = 5 := h.2.2.2.2.2.2.2.2.2.1.2
theorem hL4 (h : ai_H b) : ai_len (b + 4) = 4 := h.2.2.2.2.2.2.2.2.2.2.1.2
theorem hL5 (h : ai_H b) : ai_len (b + 5) = 4 := h.2.2.2.2.2.2.2.2.2.2.2.2
theorem tA1 (h : ai_T b) : ai_a0 (b + 1) = true := h.2.2.2.2.2.2.1.1
theorem tA2 (h : ai_T b) : ai_a0 (b + 2) = true := h.2.2.2.2.2.2.2.1.1
theorem tA3 (h : ai_T b) : ai_a0 (b + 3) = true := h.2.2.2.2.2.2.2.2.1.1
theorem tA4 (h : ai_T b) : ai_a0 (b + 4) = true := h.2.2.2.2.2.2.2.2.2.1.1
theorem tA5 (h : ai_T b) : ai_a0 (b + 5) = true := h.2.2.2.2.2.2.2.2.2.2.1
theorem tL1 (h : ai_T b) : ai_len (b + 1) = 4 := h.2.2.2.2.2.2.1.2
theorem tL2 (h : ai_T b) : ai_len (b + 2) = 4 := h.2.2.2.2.2.2.2.1.2
theorem tL3 (h : ai_T b) : ai_len (b + 3) = 4 := h.2.2.2.2.2.2.2.2.1.2
theorem tL4 (h : ai_T b) : ai_len (b + 4) = 5 := h.2.2.2.2.2.2.2.2.2.1.2
theorem tL5 (h : ai_T b) : ai_len (b + 5) = 5 := h.2.2.2.2.2.2.2.2.2.2.2
end SHAPE
theorem ai_H15 : ai_H 15 := by unfold ai_H; decide +kernel
theorem ai_H21 : ai_H 21 := by unfold ai_H; decide +kernel
theorem ai_H121 : ai_H 121 := by unfold ai_H; decide +kernel
theorem ai_H127 : ai_H 127 := by unfold ai_H; decide +kernel
theorem ai_Hact : ∀ i, i < 14 → ai_H (29 + 6 * i) := by unfold ai_H; decide +kernel
theorem ai_act : ∀ i, i < 14 → cz_rf 28 i = some (29 + 6 * i) := by decide +kernel
theorem ai_T3 : ai_T 3 := by unfold ai_T; decide +kernel
theorem ai_T9 : ai_T 9 := by unfold ai_T; decide +kernel
theorem ai_lens : ∀ i, i < 151 → (cz_k i).2 ≤ 1000 := by decide +kernel
theorem ai_lt_a0 {i : Nat} (h : ai_a0 i = true) : i < 151 ∧ (cz_k i).1 = 0 := by simpa [ai_a0] using h
theorem ai_lt_a1 {i : Nat} (h : ai_a1 i = true) : i < 151 ∧ (cz_k i).1 = 1 := by simpa [ai_a1] using h
theorem ai_lt_a2 {i : Nat} (h : ai_a2 i = true) : i < 151 ∧ (cz_k i).1 = 2 := by simpa [ai_a2] using h
section RF
variable {o : ai_S} {d : Nat} {z : ai_Mi} {pc : Nat} {L st : List Value} {r : Option Value × ai_W} {x y v : Int32} {i j k idx : Nat} {m : Nat → Nat → Int32} {lg : Nat → Nat → Int64}
theorem ai_ix {n j : Nat} (hj : j < n) (hn : n ≤ 1000) : ¬ (nI j < 0 ∨ n ≤ (nI j).toNatClampNeg) ∧ (nI j).toNatClampNeg = j := by
  have h2 := nI_clamp (n := j) (by omega)
  refine ⟨fun h => ?_, h2⟩
  rw [h2] at h
  exact h.elim (nI_pos (by omega)) (by omega)
theorem rf_ald0 (hd : decode z.2.1 pc = .ok (.iaload, 1)) (hk : ai_a0 i = true) (hj : j < ai_len i) : Rn o d z pc L (.int (nI j) :: .ref i :: st) (ai_w m lg) r = Rn o d z (pc + 1) L (.int (m i j) :: st) (ai_w m lg) r := rn_M hd (by
  obtain ⟨h1, h2⟩ := ai_lt_a0 hk
  obtain ⟨h3, h4⟩ := ai_ix hj (ai_lens i h1)
  unfold ai_len at h3
  rw [h4] at h3
  simp only [ai_M, ai_ald, ai_w, ai_keep, h1, h2, h3, h4, if_pos, not_false_eq_true, and_self])
theorem rf_ald1 (hd : decode z.2.1 pc = .ok (.baload, 1)) (hk : ai_a1 i = true) (hj : j < ai_len i) : Rn o d z pc L (.int (nI j) :: .ref i :: st) (ai_w m lg) r = Rn o d z (pc + 1) L (.int (m i j) :: st) (ai_w m lg) r := rn_M hd (by
  obtain ⟨h1, h2⟩ := ai_lt_a1 hk
  obtain ⟨h3, h4⟩ := ai_ix hj (ai_lens i h1)
  unfold ai_len at h3
  rw [h4] at h3
  simp only [ai_M, ai_ald, ai_w, ai_keep, h1, h2, h3, h4, if_pos, not_false_eq_true, and_self])
theorem rf_aldO (hd : decode z.2.1 pc = .ok (.iaload, 1)) (hk : k < 2) (hj : j < o.1 k) (hl : o.1 k ≤ 1000) : Rn o d z pc L (.int (nI j) :: .ref (ai_O + k) :: st) (ai_w m lg) r = Rn o d z (pc + 1) L (.int (o.2 k j) :: st) (ai_w m lg) r := rn_M hd (by
  obtain ⟨h3, h4⟩ := ai_ix hj hl
  rw [h4] at h3
  have e1 : ¬ (ai_O + k < 151) := by
    have : ai_O = 1000000000 := rfl
    omega
  have e2 : ai_O + k - ai_O = k := Nat.add_sub_cancel_left _ _
  have e3 : ai_O ≤ ai_O + k := Nat.le_add_right _ _
  have e4 : ai_O + k < ai_O + 2 := Nat.add_lt_add_left hk _
  simp only [ai_M, ai_ald, ai_w, ai_keep, e1, e2, e3, e4, h3, h4, if_pos, if_false, not_false_eq_true, and_self])
theorem rf_ast0 (hd : decode z.2.1 pc = .ok (.iastore, 1)) (hk : ai_a0 i = true) (hj : j < ai_len i) : Rn o d z pc L (.int x :: .int (nI j) :: .ref i :: st) (ai_w m lg) r = Rn o d z (pc + 1) L st (ai_w (ai_up m i j x) lg) r := rn_M hd (by
  obtain ⟨h1, h2⟩ := ai_lt_a0 hk
  obtain ⟨h3, h4⟩ := ai_ix hj (ai_lens i h1)
  unfold ai_len at h3
  rw [h4] at h3
  simp only [ai_M, ai_ast, ai_w, h1, h2, h3, h4, if_pos, not_false_eq_true, and_self])
theorem rf_ast1 (hd : decode z.2.1 pc = .ok (.bastore, 1)) (hk : ai_a1 i = true) (hj : j < ai_len i) : Rn o d z pc L (.int x :: .int (nI j) :: .ref i :: st) (ai_w m lg) r = Rn o d z (pc + 1) L st (ai_w (ai_up m i j (vp_nar .boolean x)) lg) r := rn_M hd (by
  obtain ⟨h1, h2⟩ := ai_lt_a1 hk
  obtain ⟨h3, h4⟩ := ai_ix hj (ai_lens i h1)
  unfold ai_len at h3
  rw [h4] at h3
  simp only [ai_M, ai_ast, ai_w, h1, h2, h3, h4, if_pos, not_false_eq_true, and_self])
theorem rf_aldR (hd : decode z.2.1 pc = .ok (.aaload, 1)) (hk : ai_a2 i = true) (hj : j < ai_len i) (hq : ai_rf i j = some k) : Rn o d z pc L (.int (nI j) :: .ref i :: st) (ai_w m lg) r = Rn o d z (pc + 1) L (.ref k :: st) (ai_w m lg) r := rn_M hd (by
  obtain ⟨h1, h2⟩ := ai_lt_a2 hk
  obtain ⟨h3, h4⟩ := ai_ix hj (ai_lens i h1)
  unfold ai_len at h3
  rw [h4] at h3
  simp only [ai_M, ai_aldR, ai_w, ai_keep, h1, h2, h3, h4, hq, if_pos, not_false_eq_true, and_self])
theorem rf_copy (hd : decode z.2.1 pc = .ok (.invokestatic idx, 3)) (hl : ai_mlk z.1.cls idx = some arraycopyName) (y1 : Cond.native arraycopyName ∈ ai_tb) (y2 : Cond.static arraycopyName ∈ ai_tb) (y3 : Cond.initialized "java/lang/System" ∈ ai_tb) (hi : ai_a0 i = true) (hj : ai_a0 j = true) (h1 : k ≤ ai_len i) (h2 : k ≤ ai_len j) : Rn o (d + 1) z pc L [.int (nI k), .int (nI 0), .ref j, .int (nI 0), .ref i] (ai_w m lg) r = Rn o (d + 1) z (pc + 3) L [] (ai_w (va_up m j (va_cpy (m i) (m j) 0 0 k)) lg) r := rn_M hd (by
  obtain ⟨a1, a2⟩ := ai_lt_a0 hi
  obtain ⟨b1, b2⟩ := ai_lt_a0 hj
  have l1 := ai_lens i a1
  have l2 := ai_lens j b1
  unfold ai_len at h1 h2
  have c1 := nI_clamp (n := k) (by omega)
  have c2 : (nI 0).toNatClampNeg = 0 := nI_clamp (by omega)
  have p1 : ¬ nI k < 0 := nI_pos (by omega)
  have p2 : ¬ nI 0 < 0 := nI_pos (by omega)
  simp only [ai_M, hl, y1, y2, y3, Nat.zero_lt_succ, and_self, if_pos, ai_cpy, ai_w, a1, b1, a2, b2, c1, c2, p1, p2, Nat.zero_add, h1, h2, not_false_eq_true, List.map_nil, List.sum_nil, Nat.zero_le])
end RF
