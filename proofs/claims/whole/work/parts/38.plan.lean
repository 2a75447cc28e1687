/-! Choosers and Planner -/
theorem RH.cong {p : PT} {x y : HS} {m : Nat → Nat → Int32} {b : Nat} (h : RH p y m b) (h1 : ∀ d, d < p.2.2.2.2.1 → y.1 d = x.1 d) (h2 : y.2 = x.2) : RH p x m b := by
  obtain ⟨⟨k1, k2, k3, k4⟩, a1, a2, a3, a4, a5, a6⟩ := h
  rw [h2] at k2 k3 k4 a2 a3 a4 a5 a6
  exact ⟨⟨fun t ht => by rw [← h1 t ht]; exact k1 t ht, k2, k3, k4⟩, fun t ht => by rw [← h1 t ht]; exact a1 t ht, a2, a3, a4, a5, a6⟩
def pCh (p : PT) (x : HS) (dd c : Nat) : Nat := if c < p.2.2.1 ∧ pCan p x dd c = true then c else 4
/-- the state in which both have chosen -/
def pBoth (x : HS) (dd c ot e : Nat) : HS := (va_up (va_up x.1 dd c) ot (if e = 4 then 8 else e), x.2)
def pGain (p : PT) (x : HS) (dd c ot e : Nat) : Int32 :=
  if pCh p x dd c = 4 then nI 0
  else if pCh p x dd c = pCh p x ot e ∧ pCap p (pCh p x dd c) = cn (atP x (pCh p x dd c)) p.2.2.2.2.1 + 1 then -1
  else if dSl p (pBoth x dd (pCh p x dd c) ot (pCh p x ot e)) (pCh p x dd c) (pTide p x.2.2.2.2.2) dd = true then nI 3 else -2
theorem rm_eq : ∀ a, a ≤ 2 → ∀ k, k ≤ 5 → ((nI a - nI k = nI 1) ↔ a = k + 1) := by decide +kernel
theorem pCh_lt {p : PT} {x : HS} {dd c : Nat} (h : ¬ pCh p x dd c = 4) : pCh p x dd c < p.2.2.1 := by
  unfold pCh at h ⊢
  split
  · rename_i z; exact z.1
  · rename_i z; rw [if_neg z] at h; exact absurd rfl h
section P38
variable {o : ai_S} {d : Nat} {w : ai_W} {m : Nat → Nat → Int32} {lg : Nat → Nat → Int64} {p : PT} {x : HS} {b : Nat} {r : Option Value × ai_W}
theorem s_X1_berthChosen (hp : RT p m) (hh : RH p x m 21) {dd c : Nat} (hd : dd < p.2.2.2.2.1) (hc : c ≤ 4) : Ev o (d + 2) zX1_berthChosen [.ref 118, .int (nI dd), .int (nI c)] (ai_w m lg) (some (.int (nI (pCh p x dd c)))) (ai_w m lg) := by
  have hB := hp.1.2.1
  rw [ev_X1_berthChosen]
  simp only [e_X1_berthChosen_0, e_X1_berthChosen_1, e_X1_berthChosen_4, e_X1_berthChosen_8, e_X1_berthChosen_11, e_X1_berthChosen_12, e_X1_berthChosen_15, e_X1_berthChosen_16, e_X1_berthChosen_20, e_X1_berthChosen_23, e_X1_berthChosen_24, e_X1_berthChosen_27, e_X1_berthChosen_28, eq_self, nI10, not_false_eq_true, not_true_eq_false, is2_i, is2_r, is2_n, nI_add, pk_mul, Nat.reduceAdd, Nat.reduceMul, e_X1_berthChosen_5 (hb := ai_T3) (hE := s_hasB hp), bI_z, nI_ix (j := c) (n := p.2.2.1) (by omega) (by omega)]
  by_cases h : c < p.2.2.1
  · simp only [h, decide_true, Bool.true_eq_false, if_false]
    simp only [e_X1_berthChosen_0, e_X1_berthChosen_1, e_X1_berthChosen_4, e_X1_berthChosen_8, e_X1_berthChosen_11, e_X1_berthChosen_12, e_X1_berthChosen_15, e_X1_berthChosen_16, e_X1_berthChosen_20, e_X1_berthChosen_23, e_X1_berthChosen_24, e_X1_berthChosen_27, e_X1_berthChosen_28, eq_self, nI10, not_false_eq_true, not_true_eq_false, is2_i, is2_r, is2_n, nI_add, pk_mul, Nat.reduceAdd, Nat.reduceMul, e_X1_berthChosen_17 (hb := ai_H21) (hE := s_X2_canBe hp hh ai_H21 hd h), bI_z]
    unfold pCh
    cases hcn : pCan p x dd c <;> simp [h]
  · simp [h, pCh]
theorem s_X1_gain (hp : RT p m) (hh : RH p x m 21) {dd c ot e : Nat} (hd : dd < p.2.2.2.2.1) (ho : ot < p.2.2.2.2.1) (hdo : dd ≠ ot) (hx1 : x.1 dd = 8) (hx2 : x.1 ot = 8) (hc : c ≤ 4) (he : e ≤ 4) : ∃ m', RH p x m' 21 ∧ Fr 21 m m' ∧ Ev o (d + 3) zX1_gain [.ref 118, .int (nI dd), .int (nI c), .int (nI ot), .int (nI e)] (ai_w m lg) (some (.int (pGain p x dd c ot e))) (ai_w m' lg) := by
  have hB := hp.1.2.1
  have hD := hp.1.2.2.1
  have h5 : dd < 5 := by omega
  have o5 : ot < 5 := by omega
  have b1 : pCh p x dd c ≤ 4 := by unfold pCh; split <;> omega
  have b2 : pCh p x ot e ≤ 4 := by unfold pCh; split <;> omega
  have e1 := nI_9 (a := pCh p x dd c) (c := 4) (by omega) (by omega)
  have e2 := nI_9 (a := pCh p x dd c) (c := pCh p x ot e) (by omega) (by omega)
  have e3 := nI_9 (a := pCh p x ot e) (c := 4) (by omega) (by omega)
  have A1 := hA1 ai_H21
  have L1 := hL1 ai_H21
  by_cases h4 : pCh p x dd c = 4
  · refine ⟨m, hh, Fr.rfl', ?_⟩
    rw [ev_X1_gain]
    simp only [e_X1_gain_0, e_X1_gain_1, e_X1_gain_2, e_X1_gain_6_i, e_X1_gain_6_r, e_X1_gain_6_n, e_X1_gain_8, e_X1_gain_9, e_X1_gain_10, e_X1_gain_15_i, e_X1_gain_15_r, e_X1_gain_15_n, e_X1_gain_17, e_X1_gain_19, e_X1_gain_20, e_X1_gain_23, e_X1_gain_24, e_X1_gain_25, e_X1_gain_27, e_X1_gain_29, e_X1_gain_32, e_X1_gain_33, e_X1_gain_36, e_X1_gain_41, e_X1_gain_42, e_X1_gain_45, e_X1_gain_46, e_X1_gain_47, e_X1_gain_48, e_X1_gain_51, e_X1_gain_54, e_X1_gain_55, e_X1_gain_57, e_X1_gain_58, e_X1_gain_59, e_X1_gain_62, e_X1_gain_65, e_X1_gain_66, e_X1_gain_68, e_X1_gain_69, e_X1_gain_72, e_X1_gain_74, e_X1_gain_77, e_X1_gain_79, e_X1_gain_80, e_X1_gain_81, e_X1_gain_84, e_X1_gain_86, e_X1_gain_87, e_X1_gain_96_i, e_X1_gain_96_r, e_X1_gain_96_n, e_X1_gain_98, e_X1_gain_99, e_X1_gain_102, e_X1_gain_105, e_X1_gain_106, e_X1_gain_108, e_X1_gain_109, e_X1_gain_110, e_X1_gain_113, e_X1_gain_116, e_X1_gain_117, e_X1_gain_119, e_X1_gain_120, e_X1_gain_122, e_X1_gain_123, e_X1_gain_124, e_X1_gain_125, e_X1_gain_126, e_X1_gain_127, e_X1_gain_130, e_X1_gain_131, e_X1_gain_134, e_X1_gain_136, eq_self, nI10, not_false_eq_true, not_true_eq_false, is2_i, is2_r, is2_n, nI_add, pk_mul, Nat.reduceAdd, Nat.reduceMul, e_X1_gain_3 (hE := s_X1_berthChosen hp hh hd hc), e_X1_gain_12 (hE := s_X1_berthChosen hp hh ho he), h4, if_false]
    unfold pGain
    rw [if_pos h4]
  · have hlt := pCh_lt h4
    have hcl := cn_le (atP x (pCh p x dd c)) p.2.2.2.2.1
    have er := rm_eq _ (pCap_le p (pCh p x dd c)) _ (show cn (atP x (pCh p x dd c)) p.2.2.2.2.1 ≤ 5 by omega)
    -- behind the two tests
    have hy1 := hh.pl (dd := dd) (v := pCh p x dd c) (Or.inl hlt)
    have hy2 := hy1.pl (dd := ot) (v := if pCh p x ot e = 4 then 8 else pCh p x ot e) (by
      split
      · exact Or.inr (Or.inl rfl)
      · exact Or.inl (pCh_lt (by assumption)))
    have hyB : RH p (pBoth x dd (pCh p x dd c) ot (pCh p x ot e)) (ai_up (ai_up m 22 dd (nI (pCh p x dd c))) 22 ot (nI (if pCh p x ot e = 4 then 8 else pCh p x ot e))) 21 := hy2
    have hz := (hy2.pl (dd := dd) (v := 8) (Or.inr (Or.inl rfl))).pl (dd := ot) (v := 8) (Or.inr (Or.inl rfl))
    have hx : RH p x (ai_up (ai_up (ai_up (ai_up m 22 dd (nI (pCh p x dd c))) 22 ot (nI (if pCh p x ot e = 4 then 8 else pCh p x ot e))) 22 dd (nI 8)) 22 ot (nI 8)) 21 := hz.cong (fun t ht => by
      simp only [va_up]
      by_cases t1 : t = ot
      · subst t1; simp [hx2]
      · by_cases t2 : t = dd
        · subst t2; simp [t1, hx1]
        · simp [t1, t2]) rfl
    have hF : Fr 21 m (ai_up (ai_up (ai_up (ai_up m 22 dd (nI (pCh p x dd c))) 22 ot (nI (if pCh p x ot e = 4 then 8 else pCh p x ot e))) 22 dd (nI 8)) 22 ot (nI 8)) := (Fr.up (b := 21) (j := 1) (by omega)).trans ((Fr.up (b := 21) (j := 1) (by omega)).trans ((Fr.up (b := 21) (j := 1) (by omega)).trans (Fr.up (b := 21) (j := 1) (by omega))))
    have hpB : RT p (ai_up (ai_up m 22 dd (nI (pCh p x dd c))) 22 ot (nI (if pCh p x ot e = 4 then 8 else pCh p x ot e))) := hp.fr ai_H21 ((Fr.up (b := 21) (j := 1) (by omega)).trans (Fr.up (b := 21) (j := 1) (by omega)))
    have hM : mk (dSl p (pBoth x dd (pCh p x dd c) ot (pCh p x ot e)) (pCh p x dd c) (pTide p x.2.2.2.2.2)) p.2.2.2.2.1 < 32 := Nat.lt_of_lt_of_le (mk_lt _ _) (Nat.pow_le_pow_right (by decide) hD)
    have hbit := mk_bit (dSl p (pBoth x dd (pCh p x dd c) ot (pCh p x ot e)) (pCh p x dd c) (pTide p x.2.2.2.2.2)) p.2.2.2.2.1 dd hd
    have td : pTide p (pBoth x dd (pCh p x dd c) ot (pCh p x ot e)).2.2.2.2.2 = pTide p x.2.2.2.2.2 := rfl
    have s1 := s_X2_tide (o := o) (d := d) (lg := lg) hpB hyB ai_H21
    rw [td] at s1
    have s2 := s_X2_dreamtIn (o := o) (d := d) (lg := lg) hpB hyB ai_H21 hlt (pTide_le hp.1 x.2.2.2.2.2)
    have zz : ¬ nI 0 = nI 1 := by decide
    by_cases hL : pCh p x dd c = pCh p x ot e ∧ pCap p (pCh p x dd c) = cn (atP x (pCh p x dd c)) p.2.2.2.2.1 + 1
    · refine ⟨m, hh, Fr.rfl', ?_⟩
      rw [ev_X1_gain]
      simp only [e_X1_gain_0, e_X1_gain_1, e_X1_gain_2, e_X1_gain_6_i, e_X1_gain_6_r, e_X1_gain_6_n, e_X1_gain_8, e_X1_gain_9, e_X1_gain_10, e_X1_gain_15_i, e_X1_gain_15_r, e_X1_gain_15_n, e_X1_gain_17, e_X1_gain_19, e_X1_gain_20, e_X1_gain_23, e_X1_gain_24, e_X1_gain_25, e_X1_gain_27, e_X1_gain_29, e_X1_gain_32, e_X1_gain_33, e_X1_gain_36, e_X1_gain_41, e_X1_gain_42, e_X1_gain_45, e_X1_gain_46, e_X1_gain_47, e_X1_gain_48, e_X1_gain_51, e_X1_gain_54, e_X1_gain_55, e_X1_gain_57, e_X1_gain_58, e_X1_gain_59, e_X1_gain_62, e_X1_gain_65, e_X1_gain_66, e_X1_gain_68, e_X1_gain_69, e_X1_gain_72, e_X1_gain_74, e_X1_gain_77, e_X1_gain_79, e_X1_gain_80, e_X1_gain_81, e_X1_gain_84, e_X1_gain_86, e_X1_gain_87, e_X1_gain_96_i, e_X1_gain_96_r, e_X1_gain_96_n, e_X1_gain_98, e_X1_gain_99, e_X1_gain_102, e_X1_gain_105, e_X1_gain_106, e_X1_gain_108, e_X1_gain_109, e_X1_gain_110, e_X1_gain_113, e_X1_gain_116, e_X1_gain_117, e_X1_gain_119, e_X1_gain_120, e_X1_gain_122, e_X1_gain_123, e_X1_gain_124, e_X1_gain_125, e_X1_gain_126, e_X1_gain_127, e_X1_gain_130, e_X1_gain_131, e_X1_gain_134, e_X1_gain_136, eq_self, nI10, not_false_eq_true, not_true_eq_false, is2_i, is2_r, is2_n, nI_add, pk_mul, Nat.reduceAdd, Nat.reduceMul, e_X1_gain_3 (hE := s_X1_berthChosen hp hh hd hc), e_X1_gain_12 (hE := s_X1_berthChosen hp hh ho he), e1, h4, if_true, e2, e_X1_gain_38 (hb := ai_H21) (hE := s_X2_roomIn hp hh ai_H21 hlt), er]
      rw [if_neg (fun z => z hL.1), if_neg (fun z => z hL.2)]
      unfold pGain
      rw [if_neg h4, if_pos hL]
    · refine ⟨_, hx, hF, ?_⟩
      have tail : Rn o (d + 3) zX1_gain 47 [.ref 118, .int (nI dd), .int (nI c), .int (nI ot), .int (nI e), .int (nI (pCh p x dd c)), .int (nI (pCh p x ot e)), .null] [] (ai_w m lg) (some (.int (pGain p x dd c ot e)), ai_w (ai_up (ai_up (ai_up (ai_up m 22 dd (nI (pCh p x dd c))) 22 ot (nI (if pCh p x ot e = 4 then 8 else pCh p x ot e))) 22 dd (nI 8)) 22 ot (nI 8)) lg) := by
        have g : pGain p x dd c ot e = if dSl p (pBoth x dd (pCh p x dd c) ot (pCh p x ot e)) (pCh p x dd c) (pTide p x.2.2.2.2.2) dd = true then nI 3 else -2 := by
          unfold pGain
          rw [if_neg h4, if_neg hL]
        rw [g]
        by_cases h8 : pCh p x ot e = 4
        · rw [if_pos h8] at s1 s2 ⊢
          have e3' : (nI (pCh p x ot e) = nI 4) = True := by rw [e3]; simp [h8]
          simp only [e_X1_gain_0, e_X1_gain_1, e_X1_gain_2, e_X1_gain_6_i, e_X1_gain_6_r, e_X1_gain_6_n, e_X1_gain_8, e_X1_gain_9, e_X1_gain_10, e_X1_gain_15_i, e_X1_gain_15_r, e_X1_gain_15_n, e_X1_gain_17, e_X1_gain_19, e_X1_gain_20, e_X1_gain_23, e_X1_gain_24, e_X1_gain_25, e_X1_gain_27, e_X1_gain_29, e_X1_gain_32, e_X1_gain_33, e_X1_gain_36, e_X1_gain_41, e_X1_gain_42, e_X1_gain_45, e_X1_gain_46, e_X1_gain_47, e_X1_gain_48, e_X1_gain_51, e_X1_gain_54, e_X1_gain_55, e_X1_gain_57, e_X1_gain_58, e_X1_gain_59, e_X1_gain_62, e_X1_gain_65, e_X1_gain_66, e_X1_gain_68, e_X1_gain_69, e_X1_gain_72, e_X1_gain_74, e_X1_gain_77, e_X1_gain_79, e_X1_gain_80, e_X1_gain_81, e_X1_gain_84, e_X1_gain_86, e_X1_gain_87, e_X1_gain_96_i, e_X1_gain_96_r, e_X1_gain_96_n, e_X1_gain_98, e_X1_gain_99, e_X1_gain_102, e_X1_gain_105, e_X1_gain_106, e_X1_gain_108, e_X1_gain_109, e_X1_gain_110, e_X1_gain_113, e_X1_gain_116, e_X1_gain_117, e_X1_gain_119, e_X1_gain_120, e_X1_gain_122, e_X1_gain_123, e_X1_gain_124, e_X1_gain_125, e_X1_gain_126, e_X1_gain_127, e_X1_gain_130, e_X1_gain_131, e_X1_gain_134, e_X1_gain_136, eq_self, nI10, not_false_eq_true, not_true_eq_false, is2_i, is2_r, is2_n, nI_add, pk_mul, Nat.reduceAdd, Nat.reduceMul, ai_H21, A1, L1, h5, o5, e3', if_false, e_X1_gain_90 (hb := ai_H21) (hE := s1), e_X1_gain_93 (hb := ai_H21) (hE := s2), sh_bit _ hM dd h5, hbit]
          by_cases hq : dSl p (pBoth x dd (pCh p x dd c) ot (pCh p x ot e)) (pCh p x dd c) (pTide p x.2.2.2.2.2) dd = true <;> simp [hq, zz]
        · rw [if_neg h8] at s1 s2 ⊢
          simp only [e_X1_gain_0, e_X1_gain_1, e_X1_gain_2, e_X1_gain_6_i, e_X1_gain_6_r, e_X1_gain_6_n, e_X1_gain_8, e_X1_gain_9, e_X1_gain_10, e_X1_gain_15_i, e_X1_gain_15_r, e_X1_gain_15_n, e_X1_gain_17, e_X1_gain_19, e_X1_gain_20, e_X1_gain_23, e_X1_gain_24, e_X1_gain_25, e_X1_gain_27, e_X1_gain_29, e_X1_gain_32, e_X1_gain_33, e_X1_gain_36, e_X1_gain_41, e_X1_gain_42, e_X1_gain_45, e_X1_gain_46, e_X1_gain_47, e_X1_gain_48, e_X1_gain_51, e_X1_gain_54, e_X1_gain_55, e_X1_gain_57, e_X1_gain_58, e_X1_gain_59, e_X1_gain_62, e_X1_gain_65, e_X1_gain_66, e_X1_gain_68, e_X1_gain_69, e_X1_gain_72, e_X1_gain_74, e_X1_gain_77, e_X1_gain_79, e_X1_gain_80, e_X1_gain_81, e_X1_gain_84, e_X1_gain_86, e_X1_gain_87, e_X1_gain_96_i, e_X1_gain_96_r, e_X1_gain_96_n, e_X1_gain_98, e_X1_gain_99, e_X1_gain_102, e_X1_gain_105, e_X1_gain_106, e_X1_gain_108, e_X1_gain_109, e_X1_gain_110, e_X1_gain_113, e_X1_gain_116, e_X1_gain_117, e_X1_gain_119, e_X1_gain_120, e_X1_gain_122, e_X1_gain_123, e_X1_gain_124, e_X1_gain_125, e_X1_gain_126, e_X1_gain_127, e_X1_gain_130, e_X1_gain_131, e_X1_gain_134, e_X1_gain_136, eq_self, nI10, not_false_eq_true, not_true_eq_false, is2_i, is2_r, is2_n, nI_add, pk_mul, Nat.reduceAdd, Nat.reduceMul, ai_H21, A1, L1, h5, o5, e3, h8, if_true, e_X1_gain_90 (hb := ai_H21) (hE := s1), e_X1_gain_93 (hb := ai_H21) (hE := s2), sh_bit _ hM dd h5, hbit]
          by_cases hq : dSl p (pBoth x dd (pCh p x dd c) ot (pCh p x ot e)) (pCh p x dd c) (pTide p x.2.2.2.2.2) dd = true <;> simp [hq, zz]
      rw [ev_X1_gain]
      simp only [e_X1_gain_0, e_X1_gain_1, e_X1_gain_2, e_X1_gain_6_i, e_X1_gain_6_r, e_X1_gain_6_n, e_X1_gain_8, e_X1_gain_9, e_X1_gain_10, e_X1_gain_15_i, e_X1_gain_15_r, e_X1_gain_15_n, e_X1_gain_17, e_X1_gain_19, e_X1_gain_20, e_X1_gain_23, e_X1_gain_24, e_X1_gain_25, e_X1_gain_27, e_X1_gain_29, e_X1_gain_32, e_X1_gain_33, e_X1_gain_36, e_X1_gain_41, e_X1_gain_42, e_X1_gain_45, e_X1_gain_46, e_X1_gain_48, e_X1_gain_51, e_X1_gain_54, e_X1_gain_55, e_X1_gain_57, e_X1_gain_58, e_X1_gain_59, e_X1_gain_62, e_X1_gain_65, e_X1_gain_66, e_X1_gain_68, e_X1_gain_69, e_X1_gain_72, e_X1_gain_74, e_X1_gain_77, e_X1_gain_79, e_X1_gain_80, e_X1_gain_81, e_X1_gain_84, e_X1_gain_86, e_X1_gain_87, e_X1_gain_96_i, e_X1_gain_96_r, e_X1_gain_96_n, e_X1_gain_98, e_X1_gain_99, e_X1_gain_102, e_X1_gain_105, e_X1_gain_106, e_X1_gain_108, e_X1_gain_109, e_X1_gain_110, e_X1_gain_113, e_X1_gain_116, e_X1_gain_117, e_X1_gain_119, e_X1_gain_120, e_X1_gain_122, e_X1_gain_123, e_X1_gain_124, e_X1_gain_125, e_X1_gain_126, e_X1_gain_127, e_X1_gain_130, e_X1_gain_131, e_X1_gain_134, e_X1_gain_136, eq_self, nI10, not_false_eq_true, not_true_eq_false, is2_i, is2_r, is2_n, nI_add, pk_mul, Nat.reduceAdd, Nat.reduceMul, e_X1_gain_3 (hE := s_X1_berthChosen hp hh hd hc), e_X1_gain_12 (hE := s_X1_berthChosen hp hh ho he), e1, h4, if_true, e2, e_X1_gain_38 (hb := ai_H21) (hE := s_X2_roomIn hp hh ai_H21 hlt), er]
      by_cases q1 : pCh p x dd c = pCh p x ot e
      · rw [if_neg (fun z => z q1), if_pos (fun z => hL ⟨q1, z⟩)]
        exact tail
      · rw [if_pos q1]
        exact tail
theorem lp_X1_isContent (hp : RT p m) (hh : RH p x m 21) {dd c ot e : Nat} (hd : dd < p.2.2.2.2.1) (ho : ot < p.2.2.2.2.1) (hdo : dd ≠ ot) (hx1 : x.1 dd = 8) (hx2 : x.1 ot = 8) (hc : c ≤ 4) (he : e ≤ 4) : ∀ (k n : Nat) (m : Nat → Nat → Int32), n + k = 5 → RT p m → RH p x m 21 → allB (fun a => decide (pGain p x dd a ot e ≤ pGain p x dd c ot e)) n = true → ∃ m', RH p x m' 21 ∧ Fr 21 m m' ∧ Rn o (d + 4) zX1_isContent 14 [.ref 118, .int (nI dd), .int (nI c), .int (nI ot), .int (nI e), .int (pGain p x dd c ot e), .int (nI n)] [] (ai_w m lg) (some (.int (bI (allB (fun a => decide (pGain p x dd a ot e ≤ pGain p x dd c ot e)) 5))), ai_w m' lg) := by
  intro k
  induction k with
  | zero =>
    intro n m hk hp hh ha
    have : n = 5 := by omega
    subst this
    refine ⟨m, hh, Fr.rfl', ?_⟩
    rw [e_X1_isContent_14]
    simp only [e_X1_isContent_0, e_X1_isContent_1, e_X1_isContent_2, e_X1_isContent_3, e_X1_isContent_4, e_X1_isContent_9_i, e_X1_isContent_9_r, e_X1_isContent_9_n, e_X1_isContent_11, e_X1_isContent_12_i, e_X1_isContent_12_r, e_X1_isContent_12_n, e_X1_isContent_16, e_X1_isContent_17, e_X1_isContent_20, e_X1_isContent_21, e_X1_isContent_22, e_X1_isContent_24, e_X1_isContent_25, e_X1_isContent_30, e_X1_isContent_32, e_X1_isContent_35, e_X1_isContent_36, e_X1_isContent_37_i, e_X1_isContent_37_r, e_X1_isContent_37_n, e_X1_isContent_40, e_X1_isContent_43, e_X1_isContent_44, eq_self, nI10, not_false_eq_true, not_true_eq_false, is2_i, is2_r, is2_n, nI_add, pk_mul, Nat.reduceAdd, Nat.reduceMul, Int32.le_refl, if_true, ha, bI_t, nar_1]
  | succ k ih =>
    intro n m hk hp hh ha
    have hn : ¬ nI 5 ≤ nI n := nI_ge (by omega) (by omega)
    obtain ⟨m1, f1, f2, f3⟩ := s_X1_gain (o := o) (d := d) (lg := lg) hp hh hd ho hdo hx1 hx2 (c := n) (e := e) (by omega) he
    by_cases h : pGain p x dd n ot e ≤ pGain p x dd c ot e
    · obtain ⟨m', g1, g2, g3⟩ := ih (n + 1) m1 (by omega) (hp.fr ai_H21 f2) f1 (by unfold allB; rw [ha]; simp [h])
      refine ⟨m', g1, f2.trans g2, ?_⟩
      rw [e_X1_isContent_14]
      simp only [e_X1_isContent_0, e_X1_isContent_1, e_X1_isContent_2, e_X1_isContent_3, e_X1_isContent_4, e_X1_isContent_9_i, e_X1_isContent_9_r, e_X1_isContent_9_n, e_X1_isContent_11, e_X1_isContent_12_i, e_X1_isContent_12_r, e_X1_isContent_12_n, e_X1_isContent_16, e_X1_isContent_17, e_X1_isContent_20, e_X1_isContent_21, e_X1_isContent_22, e_X1_isContent_24, e_X1_isContent_25, e_X1_isContent_30, e_X1_isContent_32, e_X1_isContent_35, e_X1_isContent_36, e_X1_isContent_37_i, e_X1_isContent_37_r, e_X1_isContent_37_n, e_X1_isContent_40, e_X1_isContent_43, e_X1_isContent_44, eq_self, nI10, not_false_eq_true, not_true_eq_false, is2_i, is2_r, is2_n, nI_add, pk_mul, Nat.reduceAdd, Nat.reduceMul, hn, if_false, e_X1_isContent_27 (hE := f3), h, if_true]
      exact g3
    · refine ⟨m1, f1, f2, ?_⟩
      have hf : ∀ j, n < j → allB (fun a => decide (pGain p x dd a ot e ≤ pGain p x dd c ot e)) j = false := by
        intro j
        induction j with
        | zero => intro z; omega
        | succ j ihj =>
          intro hj
          unfold allB
          by_cases hnj : n = j
          · subst hnj; simp [h]
          · rw [ihj (by omega)]; rfl
      rw [e_X1_isContent_14]
      simp only [e_X1_isContent_0, e_X1_isContent_1, e_X1_isContent_2, e_X1_isContent_3, e_X1_isContent_4, e_X1_isContent_9_i, e_X1_isContent_9_r, e_X1_isContent_9_n, e_X1_isContent_11, e_X1_isContent_12_i, e_X1_isContent_12_r, e_X1_isContent_12_n, e_X1_isContent_16, e_X1_isContent_17, e_X1_isContent_20, e_X1_isContent_21, e_X1_isContent_22, e_X1_isContent_24, e_X1_isContent_25, e_X1_isContent_30, e_X1_isContent_32, e_X1_isContent_35, e_X1_isContent_36, e_X1_isContent_37_i, e_X1_isContent_37_r, e_X1_isContent_37_n, e_X1_isContent_40, e_X1_isContent_43, e_X1_isContent_44, eq_self, nI10, not_false_eq_true, not_true_eq_false, is2_i, is2_r, is2_n, nI_add, pk_mul, Nat.reduceAdd, Nat.reduceMul, hn, if_false, e_X1_isContent_27 (hE := f3), h, hf 5 (by omega), bI_f, nar_0]
def pCont (p : PT) (x : HS) (dd c ot e : Nat) : Bool := allB (fun a => decide (pGain p x dd a ot e ≤ pGain p x dd c ot e)) 5
theorem s_X1_isContent (hp : RT p m) (hh : RH p x m 21) {dd c ot e : Nat} (hd : dd < p.2.2.2.2.1) (ho : ot < p.2.2.2.2.1) (hdo : dd ≠ ot) (hx1 : x.1 dd = 8) (hx2 : x.1 ot = 8) (hc : c ≤ 4) (he : e ≤ 4) : ∃ m', RH p x m' 21 ∧ Fr 21 m m' ∧ Ev o (d + 4) zX1_isContent [.ref 118, .int (nI dd), .int (nI c), .int (nI ot), .int (nI e)] (ai_w m lg) (some (.int (bI (pCont p x dd c ot e)))) (ai_w m' lg) := by
  obtain ⟨m1, f1, f2, f3⟩ := s_X1_gain (o := o) (d := d) (lg := lg) hp hh hd ho hdo hx1 hx2 hc he
  obtain ⟨m', g1, g2, g3⟩ := lp_X1_isContent (o := o) (d := d) (lg := lg) hp hh hd ho hdo hx1 hx2 hc he 5 0 m1 (by omega) (hp.fr ai_H21 f2) f1 rfl
  refine ⟨m', g1, f2.trans g2, ?_⟩
  rw [ev_X1_isContent]
  simp only [e_X1_isContent_0, e_X1_isContent_1, e_X1_isContent_2, e_X1_isContent_3, e_X1_isContent_4, e_X1_isContent_9_i, e_X1_isContent_9_r, e_X1_isContent_9_n, e_X1_isContent_11, e_X1_isContent_12_i, e_X1_isContent_12_r, e_X1_isContent_12_n, e_X1_isContent_16, e_X1_isContent_17, e_X1_isContent_20, e_X1_isContent_21, e_X1_isContent_22, e_X1_isContent_24, e_X1_isContent_25, e_X1_isContent_30, e_X1_isContent_32, e_X1_isContent_35, e_X1_isContent_36, e_X1_isContent_37_i, e_X1_isContent_37_r, e_X1_isContent_37_n, e_X1_isContent_40, e_X1_isContent_43, e_X1_isContent_44, eq_self, nI10, not_false_eq_true, not_true_eq_false, is2_i, is2_r, is2_n, nI_add, pk_mul, Nat.reduceAdd, Nat.reduceMul, e_X1_isContent_6 (hE := f3)]
  exact g3
end P38
