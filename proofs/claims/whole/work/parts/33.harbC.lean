/-! Harbour: what changes it -/
/-- only the cells of one harbour have changed -/
def Fr (b : Nat) (m m' : Nat → Nat → Int32) : Prop := ∀ i, i < b ∨ b + 5 < i → m' i = m i
theorem Fr.rfl' {b : Nat} {m : Nat → Nat → Int32} : Fr b m m := fun _ _ => rfl
theorem Fr.trans {b : Nat} {m m1 m2 : Nat → Nat → Int32} (h1 : Fr b m m1) (h2 : Fr b m1 m2) : Fr b m m2 := fun i hi => (h2 i hi).trans (h1 i hi)
theorem Fr.up {b j k : Nat} {m : Nat → Nat → Int32} {v : Int32} (hj : j ≤ 5) : Fr b m (ai_up m (b + j) k v) := fun i hi => by
  have : i ≠ b + j := by omega
  simp [ai_up, this]
theorem ai_H_ge {b : Nat} (h : ai_H b) : 15 ≤ b := by
  have : ∀ b, b < 151 → (cz_k b).1 = 5 → 15 ≤ b := by decide +kernel
  exact this b h.1.1 h.1.2
theorem RT.fr {p : PT} {b : Nat} {m m' : Nat → Nat → Int32} (h : RT p m) (hb : ai_H b) (hf : Fr b m m') : RT p m' := by
  have h15 := ai_H_ge hb
  obtain ⟨h0, h1, h2, h3, h4, h5, h6⟩ := h
  refine ⟨h0, ?_, ?_, ?_, ?_, ?_, ?_⟩
  · rw [hf 3 (by omega)]; exact h1
  · rw [hf 3 (by omega)]; exact h2
  · rw [hf 3 (by omega)]; exact h3
  · intro t ht; rw [hf 4 (by omega)]; exact h4 t ht
  · intro t ht; rw [hf 6 (by omega)]; exact h5 t ht
  · intro t ht; rw [hf 8 (by omega)]; exact h6 t ht
theorem ai_H_apart {b c : Nat} (hb : ai_H b) (hc : ai_H c) (h : b ≠ c) : b + 5 < c ∨ c + 5 < b := by
  have h1 : ∀ b, b < 151 → (cz_k b).1 = 5 → b ∈ [15, 21, 29, 35, 41, 47, 53, 59, 65, 71, 77, 83, 89, 95, 101, 107, 121, 127] := by decide +kernel
  have h2 : ∀ b ∈ [15, 21, 29, 35, 41, 47, 53, 59, 65, 71, 77, 83, 89, 95, 101, 107, 121, 127], ∀ c ∈ [15, 21, 29, 35, 41, 47, 53, 59, 65, 71, 77, 83, 89, 95, 101, 107, 121, 127], b = c ∨ (b + 5 < c ∨ c + 5 < b) := by decide +kernel
  exact (h2 b (h1 b hb.1.1 hb.1.2) c (h1 c hc.1.1 hc.1.2)).resolve_left h
theorem RH.fr {p : PT} {x : HS} {b c : Nat} {m m' : Nat → Nat → Int32} (h : RH p x m c) (hb : ai_H b) (hc : ai_H c) (hn : b ≠ c) (hf : Fr b m m') : RH p x m' c := by
  have ha := ai_H_apart hb hc hn
  obtain ⟨h0, h1, h2, h3, h4, h5, h6⟩ := h
  refine ⟨h0, ?_, ?_, ?_, ?_, ?_, ?_⟩
  · intro t ht; rw [hf (c + 1) (by omega)]; exact h1 t ht
  · intro t ht; rw [hf (c + 2) (by omega)]; exact h2 t ht
  · intro t ht; rw [hf (c + 3) (by omega)]; exact h3 t ht
  · intro t ht; rw [hf (c + 4) (by omega)]; exact h4 t ht
  · intro t ht; rw [hf (c + 5) (by omega)]; exact h5 t ht
  · rw [hf c (by omega)]; exact h6
theorem up_eq {m : Nat → Nat → Int32} {i j a : Nat} {v : Int32} : ai_up m i j v i a = if a = j then v else m i a := by simp [ai_up, upd]
theorem up_ne {m : Nat → Nat → Int32} {i j a : Nat} {v : Int32} (h : a ≠ i) : ai_up m i j v a = m a := by simp [ai_up, h]
section UPS
variable {p : PT} {x : HS} {m : Nat → Nat → Int32} {b dd c v : Nat}
theorem RH.pl (h : RH p x m b) (hv : v < p.2.2.1 ∨ v = 8 ∨ v = 9) : RH p (va_up x.1 dd v, x.2) (ai_up m (b + 1) dd (nI v)) b := by
  obtain ⟨⟨k1, k2, k3, k4⟩, h1, h2, h3, h4, h5, h6⟩ := h
  refine ⟨⟨fun t ht => ?_, k2, k3, k4⟩, fun t ht => ?_, fun t ht => ?_, fun t ht => ?_, fun t ht => ?_, fun t ht => ?_, ?_⟩
  · simp only [va_up]; split
    · exact hv
    · exact k1 t ht
  · rw [up_eq]; simp only [va_up]; split
    · rfl
    · exact h1 t ht
  · rw [up_ne (by omega)]; exact h2 t ht
  · rw [up_ne (by omega)]; exact h3 t ht
  · rw [up_ne (by omega)]; exact h4 t ht
  · rw [up_ne (by omega)]; exact h5 t ht
  · rw [up_ne (by omega)]; exact h6
theorem RH.la {v : Int32} (h : RH p x m b) : RH p (x.1, va_up x.2.1 dd v, x.2.2) (ai_up m (b + 2) dd v) b := by
  obtain ⟨⟨k1, k2, k3, k4⟩, h1, h2, h3, h4, h5, h6⟩ := h
  refine ⟨⟨k1, k2, k3, k4⟩, fun t ht => ?_, fun t ht => ?_, fun t ht => ?_, fun t ht => ?_, fun t ht => ?_, ?_⟩
  · rw [up_ne (by omega)]; exact h1 t ht
  · rw [up_eq]; simp only [va_up]; split
    · rfl
    · exact h2 t ht
  · rw [up_ne (by omega)]; exact h3 t ht
  · rw [up_ne (by omega)]; exact h4 t ht
  · rw [up_ne (by omega)]; exact h5 t ht
  · rw [up_ne (by omega)]; exact h6
theorem RH.dr (h : RH p x m b) (hv : 1 ≤ v ∧ v ≤ 9) : RH p (x.1, x.2.1, va_up x.2.2.1 dd v, x.2.2.2) (ai_up m (b + 3) dd (nI v)) b := by
  obtain ⟨⟨k1, k2, k3, k4⟩, h1, h2, h3, h4, h5, h6⟩ := h
  refine ⟨⟨k1, fun t ht => ?_, k3, k4⟩, fun t ht => ?_, fun t ht => ?_, fun t ht => ?_, fun t ht => ?_, fun t ht => ?_, ?_⟩
  · simp only [va_up]; split
    · exact hv
    · exact k2 t ht
  · rw [up_ne (by omega)]; exact h1 t ht
  · rw [up_ne (by omega)]; exact h2 t ht
  · rw [up_eq]; simp only [va_up]; split
    · rfl
    · exact h3 t ht
  · rw [up_ne (by omega)]; exact h4 t ht
  · rw [up_ne (by omega)]; exact h5 t ht
  · rw [up_ne (by omega)]; exact h6
theorem RH.de (h : RH p x m b) (hv : v ≤ 9) : RH p (x.1, x.2.1, x.2.2.1, va_up x.2.2.2.1 c v, x.2.2.2.2) (ai_up m (b + 4) c (nI v)) b := by
  obtain ⟨⟨k1, k2, k3, k4⟩, h1, h2, h3, h4, h5, h6⟩ := h
  refine ⟨⟨k1, k2, fun t ht => ?_, k4⟩, fun t ht => ?_, fun t ht => ?_, fun t ht => ?_, fun t ht => ?_, fun t ht => ?_, ?_⟩
  · simp only [va_up]; split
    · exact hv
    · exact k3 t ht
  · rw [up_ne (by omega)]; exact h1 t ht
  · rw [up_ne (by omega)]; exact h2 t ht
  · rw [up_ne (by omega)]; exact h3 t ht
  · rw [up_eq]; simp only [va_up]; split
    · rfl
    · exact h4 t ht
  · rw [up_ne (by omega)]; exact h5 t ht
  · rw [up_ne (by omega)]; exact h6
theorem RH.wo {v : Int32} (h : RH p x m b) : RH p (x.1, x.2.1, x.2.2.1, x.2.2.2.1, va_up x.2.2.2.2.1 c v, x.2.2.2.2.2) (ai_up m (b + 5) c v) b := by
  obtain ⟨⟨k1, k2, k3, k4⟩, h1, h2, h3, h4, h5, h6⟩ := h
  refine ⟨⟨k1, k2, k3, k4⟩, fun t ht => ?_, fun t ht => ?_, fun t ht => ?_, fun t ht => ?_, fun t ht => ?_, ?_⟩
  · rw [up_ne (by omega)]; exact h1 t ht
  · rw [up_ne (by omega)]; exact h2 t ht
  · rw [up_ne (by omega)]; exact h3 t ht
  · rw [up_ne (by omega)]; exact h4 t ht
  · rw [up_eq]; simp only [va_up]; split
    · rfl
    · exact h5 t ht
  · rw [up_ne (by omega)]; exact h6
theorem RH.ng (h : RH p x m b) (hv : v ≤ 1000) : RH p (x.1, x.2.1, x.2.2.1, x.2.2.2.1, x.2.2.2.2.1, v) (ai_up m b 6 (nI v)) b := by
  obtain ⟨⟨k1, k2, k3, k4⟩, h1, h2, h3, h4, h5, h6⟩ := h
  refine ⟨⟨k1, k2, k3, hv⟩, fun t ht => ?_, fun t ht => ?_, fun t ht => ?_, fun t ht => ?_, fun t ht => ?_, ?_⟩
  · rw [up_ne (by omega)]; exact h1 t ht
  · rw [up_ne (by omega)]; exact h2 t ht
  · rw [up_ne (by omega)]; exact h3 t ht
  · rw [up_ne (by omega)]; exact h4 t ht
  · rw [up_ne (by omega)]; exact h5 t ht
  · rw [up_eq]; simp
end UPS
/-- step after step, by numbers -/
def itN (f : Nat → HS → HS) : Nat → Nat → HS → HS
  | _, 0, y => y
  | n, k + 1, y => itN f (n + 1) k (f n y)
theorem mk_bit (f : Nat → Bool) : ∀ (n d : Nat), d < n → mk f n / 2 ^ d % 2 = if f d = true then 1 else 0 := by
  intro n
  induction n with
  | zero => intro d h; omega
  | succ n ih =>
    intro d hd
    have hlt := mk_lt f n
    by_cases h : d = n
    · subst h
      unfold mk
      split
      · rw [Nat.add_div_right _ (Nat.two_pow_pos d), Nat.div_eq_of_lt hlt]
      · rw [Nat.add_zero, Nat.div_eq_of_lt hlt]
    · have hdn : d < n := by omega
      unfold mk
      split
      · have e : 2 ^ n = 2 * 2 ^ (n - d - 1) * 2 ^ d := by
          rw [Nat.mul_assoc, ← Nat.pow_add, ← Nat.pow_succ']
          congr 1
          omega
        rw [e, Nat.add_mul_div_right _ _ (Nat.two_pow_pos d), Nat.add_mul_mod_self_left]
        exact ih d hdn
      · rw [Nat.add_zero]
        exact ih d hdn
theorem sh_bit : ∀ M, M < 32 → ∀ d, d < 5 → ((nI M >>> (nI d &&& 31)) &&& nI 1) = nI (M / 2 ^ d % 2) := by decide +kernel
def slStep (p : PT) (c : Nat) (f : Nat → Bool) (n : Nat) (y : HS) : HS := if y.1 n = c then (if f n = true then (va_up y.1 n 9, y.2) else (y.1, y.2.1, y.2.2.1, va_up y.2.2.2.1 c (if p.2.2.2.2.2 n = 3 then y.2.2.2.1 c - 1 else y.2.2.2.1 c), va_up y.2.2.2.2.1 c (y.2.2.2.2.1 c + nI 1), y.2.2.2.2.2)) else y
section P33
variable {o : ai_S} {d : Nat} {w : ai_W} {lg : Nat → Nat → Int64} {p : PT} {b : Nat}
theorem lp_X2_sleepIn (hb : ai_H b) {c : Nat} {f : Nat → Bool} (hc : c < p.2.2.1) : ∀ (k n : Nat) (m : Nat → Nat → Int32) (y : HS), n + k = p.2.2.2.2.1 → RT p m → RH p y m b → ∃ m', RH p (itN (slStep p c f) n k y) m' b ∧ Fr b m m' ∧ ∀ r, Rn o (d + 2) zX2_sleepIn 2 [.ref b, .int (nI c), .int (nI (mk f p.2.2.2.2.1)), .int (nI n)] [] (ai_w m lg) r = Rn o (d + 2) zX2_sleepIn 76 [.ref b, .int (nI c), .int (nI (mk f p.2.2.2.2.1)), .int (nI p.2.2.2.2.1)] [] (ai_w m' lg) r := by
  intro k
  induction k with
  | zero =>
    intro n m y hk hp hh
    have : n = p.2.2.2.2.1 := by omega
    subst this
    refine ⟨m, hh, Fr.rfl', fun r => ?_⟩
    rw [e_X2_sleepIn_2]
    simp only [e_X2_sleepIn_0, e_X2_sleepIn_1_i, e_X2_sleepIn_1_r, e_X2_sleepIn_1_n, e_X2_sleepIn_3, e_X2_sleepIn_4, e_X2_sleepIn_7, e_X2_sleepIn_10, e_X2_sleepIn_13, e_X2_sleepIn_14, e_X2_sleepIn_17, e_X2_sleepIn_18, e_X2_sleepIn_19, e_X2_sleepIn_20, e_X2_sleepIn_23, e_X2_sleepIn_24, e_X2_sleepIn_25, e_X2_sleepIn_26, e_X2_sleepIn_27, e_X2_sleepIn_28, e_X2_sleepIn_29, e_X2_sleepIn_32, e_X2_sleepIn_33, e_X2_sleepIn_36, e_X2_sleepIn_37, e_X2_sleepIn_39, e_X2_sleepIn_40, e_X2_sleepIn_43, e_X2_sleepIn_44, e_X2_sleepIn_47, e_X2_sleepIn_48, e_X2_sleepIn_49, e_X2_sleepIn_50, e_X2_sleepIn_51, e_X2_sleepIn_52, e_X2_sleepIn_53, e_X2_sleepIn_54, e_X2_sleepIn_57, e_X2_sleepIn_58, e_X2_sleepIn_59, e_X2_sleepIn_60, e_X2_sleepIn_63, e_X2_sleepIn_64, e_X2_sleepIn_65, e_X2_sleepIn_69, e_X2_sleepIn_70_i, e_X2_sleepIn_70_r, e_X2_sleepIn_70_n, e_X2_sleepIn_73, eq_self, nI10, not_false_eq_true, not_true_eq_false, is2_i, is2_r, is2_n, nI_add, pk_mul, Nat.reduceAdd, Nat.reduceMul, hb, ai_T3, hA1 hb, hA2 hb, hA3 hb, hA4 hb, hA5 hb, hL1 hb, hL2 hb, hL3 hb, hL4 hb, hL5 hb, k0_4, k0_5, k0_6, k0_7, k0_8, kl_4, kl_5, kl_6, kl_7, kl_8, hp.2.2.2.1, Int32.le_refl, if_true]
  | succ k ih =>
    intro n m y hk hp hh
    have hD := hp.1.2.2.1
    have hB := hp.1.2.1
    have hlt : n < p.2.2.2.2.1 := by omega
    have h5 : n < 5 := by omega
    have h4 : c < 4 := by omega
    have h9 := hs_p hp hh hlt
    have hn : ¬ nI p.2.2.2.2.1 ≤ nI n := nI_ge hlt (by omega)
    have hM : mk f p.2.2.2.2.1 < 32 := Nat.lt_of_lt_of_le (mk_lt _ _) (Nat.pow_le_pow_right (by decide) hD)
    have hbit := mk_bit f p.2.2.2.2.1 n hlt
    have hde := hh.1.2.2.1 c hc
    by_cases h : y.1 n = c
    · cases hf : f n
      · -- it grounds
        have hp1 : RT p (ai_up m (b + 5) c (y.2.2.2.2.1 c + nI 1)) := hp.fr hb (Fr.up (by omega))
        have hh1 := (hh.wo (c := c) (v := y.2.2.2.2.1 c + nI 1)).de (c := c) (v := if p.2.2.2.2.2 n = 3 then y.2.2.2.1 c - 1 else y.2.2.2.1 c) (by split <;> omega)
        obtain ⟨m', g1, g2, g3⟩ := ih (n + 1) _ _ (by omega) ((hp1).fr hb (Fr.up (j := 4) (k := c) (v := nI (if p.2.2.2.2.2 n = 3 then y.2.2.2.1 c - 1 else y.2.2.2.1 c)) (by omega))) hh1
        refine ⟨m', ?_, (Fr.up (j := 5) (by omega)).trans ((Fr.up (j := 4) (by omega)).trans g2), fun r => ?_⟩
        · rw [show itN (slStep p c f) n (k + 1) y = itN (slStep p c f) (n + 1) k (slStep p c f n y) from rfl]
          unfold slStep at g1 ⊢
          rw [if_pos h, hf]
          exact g1
        · rw [e_X2_sleepIn_2, ← g3 r]
          have hz : ¬ nI 0 = nI 1 := by decide
          simp only [e_X2_sleepIn_0, e_X2_sleepIn_1_i, e_X2_sleepIn_1_r, e_X2_sleepIn_1_n, e_X2_sleepIn_3, e_X2_sleepIn_4, e_X2_sleepIn_7, e_X2_sleepIn_10, e_X2_sleepIn_13, e_X2_sleepIn_14, e_X2_sleepIn_17, e_X2_sleepIn_18, e_X2_sleepIn_19, e_X2_sleepIn_20, e_X2_sleepIn_23, e_X2_sleepIn_24, e_X2_sleepIn_25, e_X2_sleepIn_26, e_X2_sleepIn_27, e_X2_sleepIn_28, e_X2_sleepIn_29, e_X2_sleepIn_32, e_X2_sleepIn_33, e_X2_sleepIn_36, e_X2_sleepIn_37, e_X2_sleepIn_39, e_X2_sleepIn_40, e_X2_sleepIn_43, e_X2_sleepIn_44, e_X2_sleepIn_47, e_X2_sleepIn_48, e_X2_sleepIn_49, e_X2_sleepIn_50, e_X2_sleepIn_51, e_X2_sleepIn_52, e_X2_sleepIn_53, e_X2_sleepIn_54, e_X2_sleepIn_57, e_X2_sleepIn_58, e_X2_sleepIn_59, e_X2_sleepIn_60, e_X2_sleepIn_63, e_X2_sleepIn_64, e_X2_sleepIn_65, e_X2_sleepIn_69, e_X2_sleepIn_70_i, e_X2_sleepIn_70_r, e_X2_sleepIn_70_n, e_X2_sleepIn_73, eq_self, nI10, not_false_eq_true, not_true_eq_false, is2_i, is2_r, is2_n, nI_add, pk_mul, Nat.reduceAdd, Nat.reduceMul, hb, ai_T3, hA1 hb, hA2 hb, hA3 hb, hA4 hb, hA5 hb, hL1 hb, hL2 hb, hL3 hb, hL4 hb, hL5 hb, k0_4, k0_5, k0_6, k0_7, k0_8, kl_4, kl_5, kl_6, kl_7, kl_8, hp.2.2.2.1, hn, if_false, h5, h4, hh.2.1 n hlt, h, sh_bit _ hM n h5, hbit, hf, Bool.false_eq_true, hz, if_true, hh.2.2.2.2.2.1 c hc, up_ne (show b + 4 ≠ b + 5 by omega), hh.2.2.2.2.1 c hc, e_X2_sleepIn_66 (hb := hb) (hE := s_X2_spoilt hp1 hb hde hlt)]
      · -- it is dreamt
        have hh1 := hh.pl (dd := n) (v := 9) (Or.inr (Or.inr rfl))
        obtain ⟨m', g1, g2, g3⟩ := ih (n + 1) _ _ (by omega) (hp.fr hb (Fr.up (j := 1) (k := n) (v := nI 9) (by omega))) hh1
        refine ⟨m', ?_, (Fr.up (j := 1) (by omega)).trans g2, fun r => ?_⟩
        · rw [show itN (slStep p c f) n (k + 1) y = itN (slStep p c f) (n + 1) k (slStep p c f n y) from rfl]
          unfold slStep at g1 ⊢
          rw [if_pos h, if_pos hf]
          exact g1
        · rw [e_X2_sleepIn_2, ← g3 r]
          simp only [e_X2_sleepIn_0, e_X2_sleepIn_1_i, e_X2_sleepIn_1_r, e_X2_sleepIn_1_n, e_X2_sleepIn_3, e_X2_sleepIn_4, e_X2_sleepIn_7, e_X2_sleepIn_10, e_X2_sleepIn_13, e_X2_sleepIn_14, e_X2_sleepIn_17, e_X2_sleepIn_18, e_X2_sleepIn_19, e_X2_sleepIn_20, e_X2_sleepIn_23, e_X2_sleepIn_24, e_X2_sleepIn_25, e_X2_sleepIn_26, e_X2_sleepIn_27, e_X2_sleepIn_28, e_X2_sleepIn_29, e_X2_sleepIn_32, e_X2_sleepIn_33, e_X2_sleepIn_36, e_X2_sleepIn_37, e_X2_sleepIn_39, e_X2_sleepIn_40, e_X2_sleepIn_43, e_X2_sleepIn_44, e_X2_sleepIn_47, e_X2_sleepIn_48, e_X2_sleepIn_49, e_X2_sleepIn_50, e_X2_sleepIn_51, e_X2_sleepIn_52, e_X2_sleepIn_53, e_X2_sleepIn_54, e_X2_sleepIn_57, e_X2_sleepIn_58, e_X2_sleepIn_59, e_X2_sleepIn_60, e_X2_sleepIn_63, e_X2_sleepIn_64, e_X2_sleepIn_65, e_X2_sleepIn_69, e_X2_sleepIn_70_i, e_X2_sleepIn_70_r, e_X2_sleepIn_70_n, e_X2_sleepIn_73, eq_self, nI10, not_false_eq_true, not_true_eq_false, is2_i, is2_r, is2_n, nI_add, pk_mul, Nat.reduceAdd, Nat.reduceMul, hb, ai_T3, hA1 hb, hA2 hb, hA3 hb, hA4 hb, hA5 hb, hL1 hb, hL2 hb, hL3 hb, hL4 hb, hL5 hb, k0_4, k0_5, k0_6, k0_7, k0_8, kl_4, kl_5, kl_6, kl_7, kl_8, hp.2.2.2.1, hn, if_false, h5, h4, hh.2.1 n hlt, h, sh_bit _ hM n h5, hbit, hf, if_true]
    · obtain ⟨m', g1, g2, g3⟩ := ih (n + 1) m y (by omega) hp hh
      refine ⟨m', ?_, g2, fun r => ?_⟩
      · rw [show itN (slStep p c f) n (k + 1) y = itN (slStep p c f) (n + 1) k (slStep p c f n y) from rfl]
        rw [show slStep p c f n y = y by unfold slStep; rw [if_neg h]]
        exact g1
      · rw [e_X2_sleepIn_2, ← g3 r]
        simp only [e_X2_sleepIn_0, e_X2_sleepIn_1_i, e_X2_sleepIn_1_r, e_X2_sleepIn_1_n, e_X2_sleepIn_3, e_X2_sleepIn_4, e_X2_sleepIn_7, e_X2_sleepIn_10, e_X2_sleepIn_13, e_X2_sleepIn_14, e_X2_sleepIn_17, e_X2_sleepIn_18, e_X2_sleepIn_19, e_X2_sleepIn_20, e_X2_sleepIn_23, e_X2_sleepIn_24, e_X2_sleepIn_25, e_X2_sleepIn_26, e_X2_sleepIn_27, e_X2_sleepIn_28, e_X2_sleepIn_29, e_X2_sleepIn_32, e_X2_sleepIn_33, e_X2_sleepIn_36, e_X2_sleepIn_37, e_X2_sleepIn_39, e_X2_sleepIn_40, e_X2_sleepIn_43, e_X2_sleepIn_44, e_X2_sleepIn_47, e_X2_sleepIn_48, e_X2_sleepIn_49, e_X2_sleepIn_50, e_X2_sleepIn_51, e_X2_sleepIn_52, e_X2_sleepIn_53, e_X2_sleepIn_54, e_X2_sleepIn_57, e_X2_sleepIn_58, e_X2_sleepIn_59, e_X2_sleepIn_60, e_X2_sleepIn_63, e_X2_sleepIn_64, e_X2_sleepIn_65, e_X2_sleepIn_69, e_X2_sleepIn_70_i, e_X2_sleepIn_70_r, e_X2_sleepIn_70_n, e_X2_sleepIn_73, eq_self, nI10, not_false_eq_true, not_true_eq_false, is2_i, is2_r, is2_n, nI_add, pk_mul, Nat.reduceAdd, Nat.reduceMul, hb, ai_T3, hA1 hb, hA2 hb, hA3 hb, hA4 hb, hA5 hb, hL1 hb, hL2 hb, hL3 hb, hL4 hb, hL5 hb, k0_4, k0_5, k0_6, k0_7, k0_8, kl_4, kl_5, kl_6, kl_7, kl_8, hp.2.2.2.1, hn, if_false, h5, h4, hh.2.1 n hlt, nI_9 (a := y.1 n) (c := c) (by omega) (by omega), h, if_true]
theorem s_X2_sleepIn (hb : ai_H b) {c : Nat} {f : Nat → Bool} (hc : c < p.2.2.1) {m : Nat → Nat → Int32} {y : HS} (hp : RT p m) (hh : RH p y m b) : ∃ m', RH p (itN (slStep p c f) 0 p.2.2.2.2.1 y) m' b ∧ Fr b m m' ∧ Ev o (d + 2) zX2_sleepIn [.ref b, .int (nI c), .int (nI (mk f p.2.2.2.2.1))] (ai_w m lg) none (ai_w m' lg) := by
  obtain ⟨m', g1, g2, g3⟩ := lp_X2_sleepIn (o := o) (d := d) (lg := lg) hb (f := f) hc p.2.2.2.2.1 0 m y (by omega) hp hh
  refine ⟨m', g1, g2, ?_⟩
  rw [ev_X2_sleepIn]
  simp only [e_X2_sleepIn_0, e_X2_sleepIn_1_i, e_X2_sleepIn_1_r, e_X2_sleepIn_1_n, e_X2_sleepIn_3, e_X2_sleepIn_4, e_X2_sleepIn_7, e_X2_sleepIn_10, e_X2_sleepIn_13, e_X2_sleepIn_14, e_X2_sleepIn_17, e_X2_sleepIn_18, e_X2_sleepIn_19, e_X2_sleepIn_20, e_X2_sleepIn_23, e_X2_sleepIn_24, e_X2_sleepIn_25, e_X2_sleepIn_26, e_X2_sleepIn_27, e_X2_sleepIn_28, e_X2_sleepIn_29, e_X2_sleepIn_32, e_X2_sleepIn_33, e_X2_sleepIn_36, e_X2_sleepIn_37, e_X2_sleepIn_39, e_X2_sleepIn_40, e_X2_sleepIn_43, e_X2_sleepIn_44, e_X2_sleepIn_47, e_X2_sleepIn_48, e_X2_sleepIn_49, e_X2_sleepIn_50, e_X2_sleepIn_51, e_X2_sleepIn_52, e_X2_sleepIn_53, e_X2_sleepIn_54, e_X2_sleepIn_57, e_X2_sleepIn_58, e_X2_sleepIn_59, e_X2_sleepIn_60, e_X2_sleepIn_63, e_X2_sleepIn_64, e_X2_sleepIn_65, e_X2_sleepIn_69, e_X2_sleepIn_70_i, e_X2_sleepIn_70_r, e_X2_sleepIn_70_n, e_X2_sleepIn_73, e_X2_sleepIn_76, eq_self, nI10, not_false_eq_true, not_true_eq_false, is2_i, is2_r, is2_n, nI_add, pk_mul, Nat.reduceAdd, Nat.reduceMul]
  rw [g3]
  simp only [e_X2_sleepIn_0, e_X2_sleepIn_1_i, e_X2_sleepIn_1_r, e_X2_sleepIn_1_n, e_X2_sleepIn_3, e_X2_sleepIn_4, e_X2_sleepIn_7, e_X2_sleepIn_10, e_X2_sleepIn_13, e_X2_sleepIn_14, e_X2_sleepIn_17, e_X2_sleepIn_18, e_X2_sleepIn_19, e_X2_sleepIn_20, e_X2_sleepIn_23, e_X2_sleepIn_24, e_X2_sleepIn_25, e_X2_sleepIn_26, e_X2_sleepIn_27, e_X2_sleepIn_28, e_X2_sleepIn_29, e_X2_sleepIn_32, e_X2_sleepIn_33, e_X2_sleepIn_36, e_X2_sleepIn_37, e_X2_sleepIn_39, e_X2_sleepIn_40, e_X2_sleepIn_43, e_X2_sleepIn_44, e_X2_sleepIn_47, e_X2_sleepIn_48, e_X2_sleepIn_49, e_X2_sleepIn_50, e_X2_sleepIn_51, e_X2_sleepIn_52, e_X2_sleepIn_53, e_X2_sleepIn_54, e_X2_sleepIn_57, e_X2_sleepIn_58, e_X2_sleepIn_59, e_X2_sleepIn_60, e_X2_sleepIn_63, e_X2_sleepIn_64, e_X2_sleepIn_65, e_X2_sleepIn_69, e_X2_sleepIn_70_i, e_X2_sleepIn_70_r, e_X2_sleepIn_70_n, e_X2_sleepIn_73, e_X2_sleepIn_76]
end P33
