/-! SleepHarbour's own methods: asked, done, undone, kept -/
section P43
variable {o : ai_S} {d : Nat} {w : ai_W} {m m' : Nat → Nat → Int32} {lg lg' : Nat → Nat → Int64} {tx : TX} {p : PT} {x : HS} {n : Nat} {A : Nat → HS} {kp : Nat → Bool} {K : Nat → HS} {so : SO} {sd : Int64} {r : Option Value × ai_W} {k k2 k3 : Int32}
def aAbout (tx : TX) (p : PT) (x : HS) (n : Nat) (so : SO) (k : Int32) : Int32 := match swN k 12 with
  | some 0 => nI p.1
  | some 1 => nI p.2.2.1
  | some 2 => nI p.2.2.2.2.1
  | some 3 => nI x.2.2.2.2.2
  | some 4 => nI (pTide p x.2.2.2.2.2)
  | some 5 => nI (mk (atP x 8) p.2.2.2.2.1)
  | some 6 => nI (mk (fun i => decide (x.1 i < p.2.2.1)) p.2.2.2.2.1)
  | some 7 => nI (mk (atP x 9) p.2.2.2.2.1)
  | some 8 => sumW x.2.2.2.2.1 p.2.2.1
  | some 9 => nI n
  | some 10 => nI so.1
  | some 11 => nI tx.1
  | _ => -2
theorem s_X7_about (h : RC tx p x n A kp K so sd m lg) : Ev o (d + 20) zX7_about [.ref 0, .int k] (ai_w m lg) (some (.int (aAbout tx p x n so k))) (ai_w m lg) := by
  obtain ⟨h1, hp, hh, ⟨q, h4⟩, h5, h6, h7, h8⟩ := h
  rw [ev_X7_about]
  rcases sw_cases k 12 (by decide) with ⟨j, hj, rfl, hs, _⟩ | ⟨hs, _, hn⟩
  · rcases (show j = 0 ∨ j = 1 ∨ j = 2 ∨ j = 3 ∨ j = 4 ∨ j = 5 ∨ j = 6 ∨ j = 7 ∨ j = 8 ∨ j = 9 ∨ j = 10 ∨ j = 11 by omega) with rfl | rfl | rfl | rfl | rfl | rfl | rfl | rfl | rfl | rfl | rfl | rfl
    all_goals (unfold aAbout; rw [hs]; simp only [e_X7_about_0, e_X7_about_1_0, e_X7_about_1_1, e_X7_about_1_2, e_X7_about_1_3, e_X7_about_1_4, e_X7_about_1_5, e_X7_about_1_6, e_X7_about_1_7, e_X7_about_1_8, e_X7_about_1_9, e_X7_about_1_10, e_X7_about_1_11, e_X7_about_1_d, e_X7_about_64, e_X7_about_65, e_X7_about_68, e_X7_about_71, e_X7_about_72, e_X7_about_73, e_X7_about_76, e_X7_about_79, e_X7_about_80, e_X7_about_81, e_X7_about_84, e_X7_about_87, e_X7_about_88, e_X7_about_89, e_X7_about_92, e_X7_about_95, e_X7_about_96, e_X7_about_97, e_X7_about_103, e_X7_about_104, e_X7_about_105, e_X7_about_108, e_X7_about_113, e_X7_about_114, e_X7_about_115, e_X7_about_121, e_X7_about_122, e_X7_about_123, e_X7_about_126, e_X7_about_131, e_X7_about_132, e_X7_about_133, e_X7_about_139, e_X7_about_140, e_X7_about_141, e_X7_about_144, e_X7_about_147, e_X7_about_148, e_X7_about_149, e_X7_about_152, e_X7_about_155, e_X7_about_156, e_X7_about_157, e_X7_about_160, e_X7_about_163, e_X7_about_164, e_X7_about_166, eq_self, nI10, not_false_eq_true, not_true_eq_false, is2_i, is2_r, is2_n, nI_add, pk_mul, Nat.reduceAdd, Nat.reduceMul, ai_T3, ai_H15, hp.2.1, hp.2.2.1, hp.2.2.2.1, hh.2.2.2.2.2.2, e_X7_about_100 (hb := ai_H15) (hE := s_X2_tide hp hh ai_H15), e_X7_about_110 (hb := ai_H15) (hE := s_X2_dreamsAt hp hh ai_H15 (c := 8) (by omega)), e_X7_about_118 (hb := ai_H15) (hE := s_X2_dreamsBerthed hp hh ai_H15), e_X7_about_128 (hb := ai_H15) (hE := s_X2_dreamsAt hp hh ai_H15 (c := 9) (by omega)), e_X7_about_136 (hb := ai_H15) (hE := s_X2_wokeInAll hp hh ai_H15), h4.2.2.2.1, h5.2.1, h1.2.1])
  · have ea : aAbout tx p x n so k = -2 := by unfold aAbout; rw [hs]
    rw [ea, e_X7_about_0, e_X7_about_1_d (sw_toInt (n := 12) (by decide) hn)]
    simp only [e_X7_about_0, e_X7_about_1_0, e_X7_about_1_1, e_X7_about_1_2, e_X7_about_1_3, e_X7_about_1_4, e_X7_about_1_5, e_X7_about_1_6, e_X7_about_1_7, e_X7_about_1_8, e_X7_about_1_9, e_X7_about_1_10, e_X7_about_1_11, e_X7_about_1_d, e_X7_about_64, e_X7_about_65, e_X7_about_68, e_X7_about_71, e_X7_about_72, e_X7_about_73, e_X7_about_76, e_X7_about_79, e_X7_about_80, e_X7_about_81, e_X7_about_84, e_X7_about_87, e_X7_about_88, e_X7_about_89, e_X7_about_92, e_X7_about_95, e_X7_about_96, e_X7_about_97, e_X7_about_103, e_X7_about_104, e_X7_about_105, e_X7_about_108, e_X7_about_113, e_X7_about_114, e_X7_about_115, e_X7_about_121, e_X7_about_122, e_X7_about_123, e_X7_about_126, e_X7_about_131, e_X7_about_132, e_X7_about_133, e_X7_about_139, e_X7_about_140, e_X7_about_141, e_X7_about_144, e_X7_about_147, e_X7_about_148, e_X7_about_149, e_X7_about_152, e_X7_about_155, e_X7_about_156, e_X7_about_157, e_X7_about_160, e_X7_about_163, e_X7_about_164, e_X7_about_166, eq_self, nI10, not_false_eq_true, not_true_eq_false, is2_i, is2_r, is2_n, nI_add, pk_mul, Nat.reduceAdd, Nat.reduceMul]
def aBerth (p : PT) (x : HS) (k k2 : Int32) : Int32 := match swN k p.2.2.1 with
  | none => -1
  | some c => match swN k2 5 with
    | some 0 => nI (x.2.2.2.1 c)
    | some 1 => nI (p.2.2.2.1 c)
    | some 2 => nI (pWater p x c)
    | some 3 => nI (mk (atP x c) p.2.2.2.2.1)
    | some 4 => x.2.2.2.2.1 c
    | _ => -2
theorem s_X7_berth (h : RC tx p x n A kp K so sd m lg) : Ev o (d + 20) zX7_berth [.ref 0, .int k, .int k2] (ai_w m lg) (some (.int (aBerth p x k k2))) (ai_w m lg) := by
  obtain ⟨h1, hp, hh, ⟨q, h4⟩, h5, h6, h7, h8⟩ := h
  have hB := hp.1.2.1
  have hb := ai_H15
  rw [ev_X7_berth]
  rcases sw_cases k p.2.2.1 (by omega) with ⟨c, hc, rfl, hs, hx⟩ | ⟨hs, hx, hn⟩
  · have c4 : c < 4 := by omega
    rcases sw_cases k2 5 (by decide) with ⟨j, hj, rfl, hs2, _⟩ | ⟨hs2, _, hn2⟩
    · rcases (show j = 0 ∨ j = 1 ∨ j = 2 ∨ j = 3 ∨ j = 4 by omega) with rfl | rfl | rfl | rfl | rfl
      all_goals (unfold aBerth; rw [hs]; dsimp only; rw [hs2]; simp only [e_X7_berth_0, e_X7_berth_1, e_X7_berth_4, e_X7_berth_8, e_X7_berth_11, e_X7_berth_12, e_X7_berth_13, e_X7_berth_14_0, e_X7_berth_14_1, e_X7_berth_14_2, e_X7_berth_14_3, e_X7_berth_14_4, e_X7_berth_14_d, e_X7_berth_48, e_X7_berth_49, e_X7_berth_52, e_X7_berth_55, e_X7_berth_56, e_X7_berth_56_o, e_X7_berth_57, e_X7_berth_58, e_X7_berth_59, e_X7_berth_62, e_X7_berth_65, e_X7_berth_66, e_X7_berth_66_o, e_X7_berth_67, e_X7_berth_68, e_X7_berth_69, e_X7_berth_72, e_X7_berth_76, e_X7_berth_77, e_X7_berth_78, e_X7_berth_81, e_X7_berth_85, e_X7_berth_86, e_X7_berth_87, e_X7_berth_90, e_X7_berth_93, e_X7_berth_94, e_X7_berth_94_o, e_X7_berth_95, e_X7_berth_96, e_X7_berth_98, eq_self, nI10, not_false_eq_true, not_true_eq_false, is2_i, is2_r, is2_n, nI_add, pk_mul, Nat.reduceAdd, Nat.reduceMul, hb, ai_T3, hA1 hb, hA2 hb, hA3 hb, hA4 hb, hA5 hb, hL1 hb, hL2 hb, hL3 hb, hL4 hb, hL5 hb, k0_4, k0_5, k0_6, k0_7, k0_8, kl_4, kl_5, kl_6, kl_7, kl_8, e_X7_berth_5 (hb := ai_T3) (hE := s_hasB hp), hx, bI_z, if_true, Bool.true_eq_false, c4, hh.2.2.2.2.1 c hc, hp.2.2.2.2.2.1 c hc, hh.2.2.2.2.2.1 c hc, e_X7_berth_73 (hb := ai_H15) (hE := s_X2_water hp hh ai_H15 hc), e_X7_berth_82 (hb := ai_H15) (hE := s_X2_dreamsAt hp hh ai_H15 (show c ≤ 9 by omega))])
    · have ea : aBerth p x (nI c) k2 = -2 := by unfold aBerth; rw [hs]; dsimp only; rw [hs2]
      rw [ea]
      simp only [e_X7_berth_0, e_X7_berth_1, e_X7_berth_4, e_X7_berth_8, e_X7_berth_11, e_X7_berth_12, e_X7_berth_13, e_X7_berth_14_0, e_X7_berth_14_1, e_X7_berth_14_2, e_X7_berth_14_3, e_X7_berth_14_4, e_X7_berth_14_d, e_X7_berth_48, e_X7_berth_49, e_X7_berth_52, e_X7_berth_55, e_X7_berth_56, e_X7_berth_56_o, e_X7_berth_57, e_X7_berth_58, e_X7_berth_59, e_X7_berth_62, e_X7_berth_65, e_X7_berth_66, e_X7_berth_66_o, e_X7_berth_67, e_X7_berth_68, e_X7_berth_69, e_X7_berth_72, e_X7_berth_76, e_X7_berth_77, e_X7_berth_78, e_X7_berth_81, e_X7_berth_85, e_X7_berth_86, e_X7_berth_87, e_X7_berth_90, e_X7_berth_93, e_X7_berth_94, e_X7_berth_94_o, e_X7_berth_95, e_X7_berth_96, e_X7_berth_98, eq_self, nI10, not_false_eq_true, not_true_eq_false, is2_i, is2_r, is2_n, nI_add, pk_mul, Nat.reduceAdd, Nat.reduceMul, hb, ai_T3, hA1 hb, hA2 hb, hA3 hb, hA4 hb, hA5 hb, hL1 hb, hL2 hb, hL3 hb, hL4 hb, hL5 hb, k0_4, k0_5, k0_6, k0_7, k0_8, kl_4, kl_5, kl_6, kl_7, kl_8, e_X7_berth_5 (hb := ai_T3) (hE := s_hasB hp), hx, bI_z, if_true, Bool.true_eq_false, e_X7_berth_14_d (sw_toInt (n := 5) (by decide) hn2)]
  · have ea : aBerth p x k k2 = -1 := by unfold aBerth; rw [hs]
    rw [ea]
    simp only [e_X7_berth_0, e_X7_berth_1, e_X7_berth_4, e_X7_berth_8, e_X7_berth_11, e_X7_berth_12, e_X7_berth_13, e_X7_berth_14_0, e_X7_berth_14_1, e_X7_berth_14_2, e_X7_berth_14_3, e_X7_berth_14_4, e_X7_berth_14_d, e_X7_berth_48, e_X7_berth_49, e_X7_berth_52, e_X7_berth_55, e_X7_berth_56, e_X7_berth_56_o, e_X7_berth_57, e_X7_berth_58, e_X7_berth_59, e_X7_berth_62, e_X7_berth_65, e_X7_berth_66, e_X7_berth_66_o, e_X7_berth_67, e_X7_berth_68, e_X7_berth_69, e_X7_berth_72, e_X7_berth_76, e_X7_berth_77, e_X7_berth_78, e_X7_berth_81, e_X7_berth_85, e_X7_berth_86, e_X7_berth_87, e_X7_berth_90, e_X7_berth_93, e_X7_berth_94, e_X7_berth_94_o, e_X7_berth_95, e_X7_berth_96, e_X7_berth_98, eq_self, nI10, not_false_eq_true, not_true_eq_false, is2_i, is2_r, is2_n, nI_add, pk_mul, Nat.reduceAdd, Nat.reduceMul, hb, ai_T3, hA1 hb, hA2 hb, hA3 hb, hA4 hb, hA5 hb, hL1 hb, hL2 hb, hL3 hb, hL4 hb, hL5 hb, k0_4, k0_5, k0_6, k0_7, k0_8, kl_4, kl_5, kl_6, kl_7, kl_8, e_X7_berth_5 (hb := ai_T3) (hE := s_hasB hp), hx, bI_z, if_false]
def aDream (p : PT) (x : HS) (k k2 : Int32) : Int32 := match swN k p.2.2.2.2.1 with
  | none => -1
  | some c => match swN k2 5 with
    | some 0 => nI (x.2.2.1 c)
    | some 1 => nI (p.2.2.2.2.2 c)
    | some 2 => nI (x.1 c)
    | some 3 => if x.1 c = 8 then x.2.1 c else -9
    | some 4 => if x.1 c = 8 then nI (mk (pCan p x c) p.2.2.1) else nI 0
    | _ => -2
theorem s_X7_dream (h : RC tx p x n A kp K so sd m lg) : Ev o (d + 20) zX7_dream [.ref 0, .int k, .int k2] (ai_w m lg) (some (.int (aDream p x k k2))) (ai_w m lg) := by
  obtain ⟨h1, hp, hh, ⟨q, h4⟩, h5, h6, h7, h8⟩ := h
  have hB := hp.1.2.2.1
  have hb := ai_H15
  rw [ev_X7_dream]
  rcases sw_cases k p.2.2.2.2.1 (by omega) with ⟨c, hc, rfl, hs, hx⟩ | ⟨hs, hx, hn⟩
  · have c4 : c < 5 := by omega
    rcases sw_cases k2 5 (by decide) with ⟨j, hj, rfl, hs2, _⟩ | ⟨hs2, _, hn2⟩
    · rcases (show j = 0 ∨ j = 1 ∨ j = 2 ∨ j = 3 ∨ j = 4 by omega) with rfl | rfl | rfl | rfl | rfl
      all_goals (unfold aDream; rw [hs]; dsimp only; rw [hs2]; simp only [e_X7_dream_0, e_X7_dream_1, e_X7_dream_4, e_X7_dream_8, e_X7_dream_11, e_X7_dream_12, e_X7_dream_13, e_X7_dream_14_0, e_X7_dream_14_1, e_X7_dream_14_2, e_X7_dream_14_3, e_X7_dream_14_4, e_X7_dream_14_d, e_X7_dream_48, e_X7_dream_49, e_X7_dream_52, e_X7_dream_55, e_X7_dream_56, e_X7_dream_56_o, e_X7_dream_57, e_X7_dream_58, e_X7_dream_59, e_X7_dream_62, e_X7_dream_65, e_X7_dream_66, e_X7_dream_66_o, e_X7_dream_67, e_X7_dream_68, e_X7_dream_69, e_X7_dream_72, e_X7_dream_75, e_X7_dream_76, e_X7_dream_76_o, e_X7_dream_77, e_X7_dream_78, e_X7_dream_79, e_X7_dream_82, e_X7_dream_86, e_X7_dream_89, e_X7_dream_90, e_X7_dream_93, e_X7_dream_96, e_X7_dream_97, e_X7_dream_97_o, e_X7_dream_98, e_X7_dream_101, e_X7_dream_103, e_X7_dream_104, e_X7_dream_105, e_X7_dream_108, e_X7_dream_112, e_X7_dream_115, e_X7_dream_116, e_X7_dream_119, e_X7_dream_123, e_X7_dream_126, e_X7_dream_127, e_X7_dream_128, e_X7_dream_130, eq_self, nI10, not_false_eq_true, not_true_eq_false, is2_i, is2_r, is2_n, nI_add, pk_mul, Nat.reduceAdd, Nat.reduceMul, hb, ai_T3, hA1 hb, hA2 hb, hA3 hb, hA4 hb, hA5 hb, hL1 hb, hL2 hb, hL3 hb, hL4 hb, hL5 hb, k0_4, k0_5, k0_6, k0_7, k0_8, kl_4, kl_5, kl_6, kl_7, kl_8, e_X7_dream_5 (hb := ai_T3) (hE := s_hasD hp), hx, bI_z, if_true, Bool.true_eq_false, c4, hh.2.1 c hc, hh.2.2.1 c hc, hp.2.2.2.2.2.2 c hc, hh.2.2.2.1 c hc, e_X7_dream_83 (hb := ai_H15) (hE := s_X2_liesOff hp hh ai_H15 hc), e_X7_dream_109 (hb := ai_H15) (hE := s_X2_liesOff hp hh ai_H15 hc), e_X7_dream_120 (hb := ai_H15) (hE := s_X2_berthsOpenTo hp hh ai_H15 hc)])
      · by_cases h8 : x.1 c = 8 <;> simp [h8]
      · by_cases h8 : x.1 c = 8 <;> simp [h8]
    · have ea : aDream p x (nI c) k2 = -2 := by unfold aDream; rw [hs]; dsimp only; rw [hs2]
      rw [ea]
      simp only [e_X7_dream_0, e_X7_dream_1, e_X7_dream_4, e_X7_dream_8, e_X7_dream_11, e_X7_dream_12, e_X7_dream_13, e_X7_dream_14_0, e_X7_dream_14_1, e_X7_dream_14_2, e_X7_dream_14_3, e_X7_dream_14_4, e_X7_dream_14_d, e_X7_dream_48, e_X7_dream_49, e_X7_dream_52, e_X7_dream_55, e_X7_dream_56, e_X7_dream_56_o, e_X7_dream_57, e_X7_dream_58, e_X7_dream_59, e_X7_dream_62, e_X7_dream_65, e_X7_dream_66, e_X7_dream_66_o, e_X7_dream_67, e_X7_dream_68, e_X7_dream_69, e_X7_dream_72, e_X7_dream_75, e_X7_dream_76, e_X7_dream_76_o, e_X7_dream_77, e_X7_dream_78, e_X7_dream_79, e_X7_dream_82, e_X7_dream_86, e_X7_dream_89, e_X7_dream_90, e_X7_dream_93, e_X7_dream_96, e_X7_dream_97, e_X7_dream_97_o, e_X7_dream_98, e_X7_dream_101, e_X7_dream_103, e_X7_dream_104, e_X7_dream_105, e_X7_dream_108, e_X7_dream_112, e_X7_dream_115, e_X7_dream_116, e_X7_dream_119, e_X7_dream_123, e_X7_dream_126, e_X7_dream_127, e_X7_dream_128, e_X7_dream_130, eq_self, nI10, not_false_eq_true, not_true_eq_false, is2_i, is2_r, is2_n, nI_add, pk_mul, Nat.reduceAdd, Nat.reduceMul, hb, ai_T3, hA1 hb, hA2 hb, hA3 hb, hA4 hb, hA5 hb, hL1 hb, hL2 hb, hL3 hb, hL4 hb, hL5 hb, k0_4, k0_5, k0_6, k0_7, k0_8, kl_4, kl_5, kl_6, kl_7, kl_8, e_X7_dream_5 (hb := ai_T3) (hE := s_hasD hp), hx, bI_z, if_true, Bool.true_eq_false, e_X7_dream_14_d (sw_toInt (n := 5) (by decide) hn2)]
  · have ea : aDream p x k k2 = -1 := by unfold aDream; rw [hs]
    rw [ea]
    simp only [e_X7_dream_0, e_X7_dream_1, e_X7_dream_4, e_X7_dream_8, e_X7_dream_11, e_X7_dream_12, e_X7_dream_13, e_X7_dream_14_0, e_X7_dream_14_1, e_X7_dream_14_2, e_X7_dream_14_3, e_X7_dream_14_4, e_X7_dream_14_d, e_X7_dream_48, e_X7_dream_49, e_X7_dream_52, e_X7_dream_55, e_X7_dream_56, e_X7_dream_56_o, e_X7_dream_57, e_X7_dream_58, e_X7_dream_59, e_X7_dream_62, e_X7_dream_65, e_X7_dream_66, e_X7_dream_66_o, e_X7_dream_67, e_X7_dream_68, e_X7_dream_69, e_X7_dream_72, e_X7_dream_75, e_X7_dream_76, e_X7_dream_76_o, e_X7_dream_77, e_X7_dream_78, e_X7_dream_79, e_X7_dream_82, e_X7_dream_86, e_X7_dream_89, e_X7_dream_90, e_X7_dream_93, e_X7_dream_96, e_X7_dream_97, e_X7_dream_97_o, e_X7_dream_98, e_X7_dream_101, e_X7_dream_103, e_X7_dream_104, e_X7_dream_105, e_X7_dream_108, e_X7_dream_112, e_X7_dream_115, e_X7_dream_116, e_X7_dream_119, e_X7_dream_123, e_X7_dream_126, e_X7_dream_127, e_X7_dream_128, e_X7_dream_130, eq_self, nI10, not_false_eq_true, not_true_eq_false, is2_i, is2_r, is2_n, nI_add, pk_mul, Nat.reduceAdd, Nat.reduceMul, hb, ai_T3, hA1 hb, hA2 hb, hA3 hb, hA4 hb, hA5 hb, hL1 hb, hL2 hb, hL3 hb, hL4 hb, hL5 hb, k0_4, k0_5, k0_6, k0_7, k0_8, kl_4, kl_5, kl_6, kl_7, kl_8, e_X7_dream_5 (hb := ai_T3) (hE := s_hasD hp), hx, bI_z, if_false]
theorem s_X7_night (h : RC tx p x n A kp K so sd m lg) (hng : x.2.2.2.2.2 + 1 ≤ 1000) : ∃ m', RC tx p (pNight p x) (min 14 (n + 1)) (pushA A x) kp K so sd m' lg ∧ FrC m m' ∧ Ev o (d + 20) zX7_night [.ref 0] (ai_w m lg) (some (.int (nI (pCnt p x)))) (ai_w m' lg) := by
  obtain ⟨h1, hp, hh, ⟨q, h4⟩, h5, h6, h7, h8⟩ := h
  obtain ⟨m1, q', a1, a2, a3⟩ := s_X0_remember (o := o) (d := d + 17) (lg := lg) hp h4 hh
  have hp1 : RT p m1 := hp.fr8 (fun i x1 x2 => a2 i (by omega))
  have hh1 : RH p x m1 15 := hh.frS (fun i x1 x2 => a2 i (by omega))
  obtain ⟨m2, b1, b2, b3⟩ := s_X2_passNight (o := o) (d := d + 15) (lg := lg) ai_H15 hp1 hh1 hng
  have g : ∀ i, (i < 15 ∨ 112 < i) → m2 i = m i := fun i hi => by rw [b2 i (by omega), a2 i (by omega)]
  refine ⟨m2, ⟨h1.fr (g 1 (by omega)) (g 2 (by omega)), hp.fr8 (fun i x1 x2 => g i (by omega)), b1, ⟨q', a1.fr (fun i x1 x2 => b2 i (by omega))⟩, h5.fr (fun i x1 x2 => g i (by omega)), fun i hi => by rw [g 120 (by omega)]; exact h6 i hi, fun i hi hk => (h7 i hi hk).frS (fun j x1 x2 => g j (by omega)), h8⟩, fun i hi => g i (by omega), ?_⟩
  rw [ev_X7_night]
  simp only [e_X7_night_0, e_X7_night_1, e_X7_night_4, e_X7_night_5, e_X7_night_11, e_X7_night_12, e_X7_night_18, eq_self, nI10, not_false_eq_true, not_true_eq_false, is2_i, is2_r, is2_n, nI_add, pk_mul, Nat.reduceAdd, Nat.reduceMul, e_X7_night_8 (hE := a3), e_X7_night_15 (hb := ai_H15) (hE := b3)]
def aMoor (p : PT) (x : HS) (k k2 : Int32) : Int32 := match swN k p.2.2.2.2.1, swN k2 p.2.2.1 with
  | some dd, some c => if x.1 dd = 8 ∧ pCan p x dd c = true then nI (cn (atP (va_up x.1 dd c, x.2) c) p.2.2.2.2.1) else -3
  | _, _ => -1
/-- whether a mooring is done, which -/
def dMoor (p : PT) (x : HS) (k k2 : Int32) : Option (Nat × Nat) := match swN k p.2.2.2.2.1, swN k2 p.2.2.1 with
  | some dd, some c => if x.1 dd = 8 ∧ pCan p x dd c = true then some (dd, c) else none
  | _, _ => none
theorem s_X7_moorF (h : RC tx p x n A kp K so sd m lg) (hd : dMoor p x k k2 = none) : Ev o (d + 20) zX7_moor [.ref 0, .int k, .int k2] (ai_w m lg) (some (.int (aMoor p x k k2))) (ai_w m lg) := by
  obtain ⟨h1, hp, hh, ⟨q, h4⟩, h5, h6, h7, h8⟩ := h
  have hD := hp.1.2.2.1
  have hB := hp.1.2.1
  rw [ev_X7_moor]
  unfold dMoor at hd
  unfold aMoor
  rcases sw_cases k p.2.2.2.2.1 (by omega) with ⟨dd, hdd, rfl, hs, hx⟩ | ⟨hs, hx, hn⟩
  · rcases sw_cases k2 p.2.2.1 (by omega) with ⟨c, hc, rfl, hs2, hx2⟩ | ⟨hs2, hx2, hn2⟩
    · rw [hs, hs2] at hd ⊢
      dsimp only at hd ⊢
      by_cases hq : x.1 dd = 8 ∧ pCan p x dd c = true
      · rw [if_pos hq] at hd; cases hd
      · rw [if_neg hq]
        have hm : pMoor p x (nI dd) (nI c) = false := by
          unfold pMoor
          rw [hx, hx2, nI_clamp (by omega), nI_clamp (by omega)]
          cases h9 : pCan p x dd c
          · simp
          · have : ¬ x.1 dd = 8 := fun z => hq ⟨z, h9⟩
            simp [this]
        simp only [e_X7_moor_0, e_X7_moor_1, e_X7_moor_4, e_X7_moor_8, e_X7_moor_11, e_X7_moor_12, e_X7_moor_15, e_X7_moor_19, e_X7_moor_22, e_X7_moor_23, e_X7_moor_24, e_X7_moor_25, e_X7_moor_28, e_X7_moor_29, e_X7_moor_33, e_X7_moor_36, e_X7_moor_38, e_X7_moor_39, e_X7_moor_40, e_X7_moor_43, e_X7_moor_44, e_X7_moor_50, e_X7_moor_51, e_X7_moor_54, e_X7_moor_57, e_X7_moor_58, e_X7_moor_59, e_X7_moor_60, e_X7_moor_61, e_X7_moor_64, e_X7_moor_68, eq_self, nI10, not_false_eq_true, not_true_eq_false, is2_i, is2_r, is2_n, nI_add, pk_mul, Nat.reduceAdd, Nat.reduceMul, e_X7_moor_5 (hb := ai_T3) (hE := s_hasD hp), e_X7_moor_16 (hb := ai_T3) (hE := s_hasB hp), hx, hx2, bI_z, if_false, if_true, Bool.true_eq_false, e_X7_moor_30 (hb := ai_H15) (hE := s_X2_canMoor hp hh ai_H15), hm]
    · rw [hs, hs2]
      simp only [e_X7_moor_0, e_X7_moor_1, e_X7_moor_4, e_X7_moor_8, e_X7_moor_11, e_X7_moor_12, e_X7_moor_15, e_X7_moor_19, e_X7_moor_22, e_X7_moor_23, e_X7_moor_24, e_X7_moor_25, e_X7_moor_28, e_X7_moor_29, e_X7_moor_33, e_X7_moor_36, e_X7_moor_38, e_X7_moor_39, e_X7_moor_40, e_X7_moor_43, e_X7_moor_44, e_X7_moor_50, e_X7_moor_51, e_X7_moor_54, e_X7_moor_57, e_X7_moor_58, e_X7_moor_59, e_X7_moor_60, e_X7_moor_61, e_X7_moor_64, e_X7_moor_68, eq_self, nI10, not_false_eq_true, not_true_eq_false, is2_i, is2_r, is2_n, nI_add, pk_mul, Nat.reduceAdd, Nat.reduceMul, e_X7_moor_5 (hb := ai_T3) (hE := s_hasD hp), e_X7_moor_16 (hb := ai_T3) (hE := s_hasB hp), hx, hx2, bI_z, if_false, if_true, Bool.true_eq_false]
  · rw [hs]
    simp only [e_X7_moor_0, e_X7_moor_1, e_X7_moor_4, e_X7_moor_8, e_X7_moor_11, e_X7_moor_12, e_X7_moor_15, e_X7_moor_19, e_X7_moor_22, e_X7_moor_23, e_X7_moor_24, e_X7_moor_25, e_X7_moor_28, e_X7_moor_29, e_X7_moor_33, e_X7_moor_36, e_X7_moor_38, e_X7_moor_39, e_X7_moor_40, e_X7_moor_43, e_X7_moor_44, e_X7_moor_50, e_X7_moor_51, e_X7_moor_54, e_X7_moor_57, e_X7_moor_58, e_X7_moor_59, e_X7_moor_60, e_X7_moor_61, e_X7_moor_64, e_X7_moor_68, eq_self, nI10, not_false_eq_true, not_true_eq_false, is2_i, is2_r, is2_n, nI_add, pk_mul, Nat.reduceAdd, Nat.reduceMul, e_X7_moor_5 (hb := ai_T3) (hE := s_hasD hp), hx, bI_z, if_true]
theorem s_X7_moorT {dd c : Nat} (h : RC tx p x n A kp K so sd m lg) (hd : dMoor p x k k2 = some (dd, c)) : ∃ m', RC tx p (va_up x.1 dd c, x.2) (min 14 (n + 1)) (pushA A x) kp K so sd m' lg ∧ FrC m m' ∧ Ev o (d + 20) zX7_moor [.ref 0, .int k, .int k2] (ai_w m lg) (some (.int (aMoor p x k k2))) (ai_w m' lg) := by
  obtain ⟨h1, hp, hh, ⟨q, h4⟩, h5, h6, h7, h8⟩ := h
  have hD := hp.1.2.2.1
  have hB := hp.1.2.1
  unfold dMoor at hd
  unfold aMoor
  rcases sw_cases k p.2.2.2.2.1 (by omega) with ⟨dd', hdd, rfl, hs, hx⟩ | ⟨hs, hx, hn⟩
  · rcases sw_cases k2 p.2.2.1 (by omega) with ⟨c', hc, rfl, hs2, hx2⟩ | ⟨hs2, hx2, hn2⟩
    · rw [hs, hs2] at hd ⊢
      dsimp only at hd ⊢
      by_cases hq : x.1 dd' = 8 ∧ pCan p x dd' c' = true
      · rw [if_pos hq] at hd ⊢
        cases hd
        have hm : pMoor p x (nI dd) (nI c) = true := by
          unfold pMoor
          rw [hx, hx2, nI_clamp (by omega), nI_clamp (by omega), hq.2]
          simp [hq.1]
        obtain ⟨m1, q', a1, a2, a3⟩ := s_X0_remember (o := o) (d := d + 17) (lg := lg) hp h4 hh
        have hp1 : RT p m1 := hp.fr8 (fun i x1 x2 => a2 i (by omega))
        have hh1 : RH p x m1 15 := hh.frS (fun i x1 x2 => a2 i (by omega))
        have b1 := hh1.pl (dd := dd) (v := c) (Or.inl hc)
        have hp2 : RT p (ai_up m1 16 dd (nI c)) := hp1.fr ai_H15 (Fr.up (b := 15) (j := 1) (by omega))
        have g : ∀ i, (i < 15 ∨ 112 < i) → ai_up m1 16 dd (nI c) i = m i := fun i hi => by rw [up_ne (by omega), a2 i (by omega)]
        have sc := s_X2_countAt (o := o) (d := d + 18) (lg := lg) hp2 b1 ai_H15 (c := c) (by omega)
        have A1 := hA1 ai_H15
        have L1 := hL1 ai_H15
        have d5 : dd < 5 := by omega
        refine ⟨ai_up m1 16 dd (nI c), ⟨h1.fr (g 1 (by omega)) (g 2 (by omega)), hp2, b1, ⟨q', a1.fr (fun i x1 x2 => up_ne (by omega))⟩, h5.fr (fun i x1 x2 => g i (by omega)), fun i hi => by rw [g 120 (by omega)]; exact h6 i hi, fun i hi hk => (h7 i hi hk).frS (fun j x1 x2 => g j (by omega)), h8⟩, fun i hi => g i (by omega), ?_⟩
        rw [ev_X7_moor]
        simp only [e_X7_moor_0, e_X7_moor_1, e_X7_moor_4, e_X7_moor_8, e_X7_moor_11, e_X7_moor_12, e_X7_moor_15, e_X7_moor_19, e_X7_moor_22, e_X7_moor_23, e_X7_moor_24, e_X7_moor_25, e_X7_moor_28, e_X7_moor_29, e_X7_moor_33, e_X7_moor_36, e_X7_moor_38, e_X7_moor_39, e_X7_moor_40, e_X7_moor_43, e_X7_moor_44, e_X7_moor_50, e_X7_moor_51, e_X7_moor_54, e_X7_moor_57, e_X7_moor_58, e_X7_moor_59, e_X7_moor_60, e_X7_moor_61, e_X7_moor_64, e_X7_moor_68, eq_self, nI10, not_false_eq_true, not_true_eq_false, is2_i, is2_r, is2_n, nI_add, pk_mul, Nat.reduceAdd, Nat.reduceMul, ai_H15, A1, L1, d5, e_X7_moor_5 (hb := ai_T3) (hE := s_hasD hp), e_X7_moor_16 (hb := ai_T3) (hE := s_hasB hp), hx, hx2, bI_z, if_false, if_true, Bool.true_eq_false, e_X7_moor_30 (hb := ai_H15) (hE := s_X2_canMoor hp hh ai_H15), hm, e_X7_moor_47 (hE := a3), e_X7_moor_65 (hb := ai_H15) (hE := sc)]
      · rw [if_neg hq] at hd; cases hd
    · rw [hs, hs2] at hd; cases hd
  · rw [hs] at hd; cases hd
def aTow (p : PT) (x : HS) (k : Int32) : Int32 := match swN k p.2.2.2.2.1 with
  | some dd => if x.1 dd < 4 then nI (x.1 dd) else -3
  | none => -1
def dTow (p : PT) (x : HS) (k : Int32) : Option Nat := match swN k p.2.2.2.2.1 with
  | some dd => if x.1 dd < 4 then some dd else none
  | none => none
theorem s_X7_towF (h : RC tx p x n A kp K so sd m lg) (hd : dTow p x k = none) : Ev o (d + 20) zX7_tow [.ref 0, .int k] (ai_w m lg) (some (.int (aTow p x k))) (ai_w m lg) := by
  obtain ⟨h1, hp, hh, ⟨q, h4⟩, h5, h6, h7, h8⟩ := h
  have hD := hp.1.2.2.1
  rw [ev_X7_tow]
  unfold dTow at hd
  unfold aTow
  rcases sw_cases k p.2.2.2.2.1 (by omega) with ⟨dd, hdd, rfl, hs, hx⟩ | ⟨hs, hx, hn⟩
  · rw [hs] at hd ⊢
    dsimp only at hd ⊢
    by_cases hq : x.1 dd < 4
    · rw [if_pos hq] at hd; cases hd
    · rw [if_neg hq]
      have hm : pTow p x (nI dd) = false := by
        unfold pTow
        rw [hx, nI_clamp (by omega)]
        simp [hq]
      simp only [e_X7_tow_0, e_X7_tow_1, e_X7_tow_4, e_X7_tow_8, e_X7_tow_11, e_X7_tow_12, e_X7_tow_13, e_X7_tow_14, e_X7_tow_17, e_X7_tow_21, e_X7_tow_24, e_X7_tow_26, e_X7_tow_27, e_X7_tow_28, e_X7_tow_31, e_X7_tow_32, e_X7_tow_38, e_X7_tow_39, e_X7_tow_42, e_X7_tow_45, e_X7_tow_46, e_X7_tow_46_o, e_X7_tow_47_i, e_X7_tow_47_r, e_X7_tow_47_n, e_X7_tow_48, e_X7_tow_49, e_X7_tow_52, e_X7_tow_56, e_X7_tow_57, eq_self, nI10, not_false_eq_true, not_true_eq_false, is2_i, is2_r, is2_n, nI_add, pk_mul, Nat.reduceAdd, Nat.reduceMul, e_X7_tow_5 (hb := ai_T3) (hE := s_hasD hp), hx, bI_z, if_false, if_true, Bool.true_eq_false, e_X7_tow_18 (hb := ai_H15) (hE := s_X2_canTow hp hh ai_H15), hm]
  · rw [hs]
    simp only [e_X7_tow_0, e_X7_tow_1, e_X7_tow_4, e_X7_tow_8, e_X7_tow_11, e_X7_tow_12, e_X7_tow_13, e_X7_tow_14, e_X7_tow_17, e_X7_tow_21, e_X7_tow_24, e_X7_tow_26, e_X7_tow_27, e_X7_tow_28, e_X7_tow_31, e_X7_tow_32, e_X7_tow_38, e_X7_tow_39, e_X7_tow_42, e_X7_tow_45, e_X7_tow_46, e_X7_tow_46_o, e_X7_tow_47_i, e_X7_tow_47_r, e_X7_tow_47_n, e_X7_tow_48, e_X7_tow_49, e_X7_tow_52, e_X7_tow_56, e_X7_tow_57, eq_self, nI10, not_false_eq_true, not_true_eq_false, is2_i, is2_r, is2_n, nI_add, pk_mul, Nat.reduceAdd, Nat.reduceMul, e_X7_tow_5 (hb := ai_T3) (hE := s_hasD hp), hx, bI_z, if_false]
theorem s_X7_towT {dd : Nat} (h : RC tx p x n A kp K so sd m lg) (hd : dTow p x k = some dd) : ∃ m', RC tx p (va_up x.1 dd 8, va_up x.2.1 dd (nI 0), x.2.2) (min 14 (n + 1)) (pushA A x) kp K so sd m' lg ∧ FrC m m' ∧ Ev o (d + 20) zX7_tow [.ref 0, .int k] (ai_w m lg) (some (.int (aTow p x k))) (ai_w m' lg) := by
  obtain ⟨h1, hp, hh, ⟨q, h4⟩, h5, h6, h7, h8⟩ := h
  have hD := hp.1.2.2.1
  unfold dTow at hd
  unfold aTow
  rcases sw_cases k p.2.2.2.2.1 (by omega) with ⟨dd', hdd, rfl, hs, hx⟩ | ⟨hs, hx, hn⟩
  · rw [hs] at hd ⊢
    dsimp only at hd ⊢
    by_cases hq : x.1 dd' < 4
    · rw [if_pos hq] at hd ⊢
      cases hd
      have hm : pTow p x (nI dd) = true := by
        unfold pTow
        rw [hx, nI_clamp (by omega)]
        simp [hq]
      obtain ⟨m1, q', a1, a2, a3⟩ := s_X0_remember (o := o) (d := d + 17) (lg := lg) hp h4 hh
      have hp1 : RT p m1 := hp.fr8 (fun i x1 x2 => a2 i (by omega))
      have hh1 : RH p x m1 15 := hh.frS (fun i x1 x2 => a2 i (by omega))
      obtain ⟨m2, b1, b2, b3⟩ := s_X2_towOut (o := o) (d := d + 19) (lg := lg) ai_H15 hp1 hh1 hdd
      have g : ∀ i, (i < 15 ∨ 112 < i) → m2 i = m i := fun i hi => by rw [b2 i (by omega), a2 i (by omega)]
      have A1 := hA1 ai_H15
      have L1 := hL1 ai_H15
      have d5 : dd < 5 := by omega
      have r1 := hh1.2.1 dd hdd
      refine ⟨m2, ⟨h1.fr (g 1 (by omega)) (g 2 (by omega)), hp.fr8 (fun i x1 x2 => g i (by omega)), b1, ⟨q', a1.fr (fun i x1 x2 => b2 i (by omega))⟩, h5.fr (fun i x1 x2 => g i (by omega)), fun i hi => by rw [g 120 (by omega)]; exact h6 i hi, fun i hi hk => (h7 i hi hk).frS (fun j x1 x2 => g j (by omega)), h8⟩, fun i hi => g i (by omega), ?_⟩
      rw [ev_X7_tow]
      simp only [e_X7_tow_0, e_X7_tow_1, e_X7_tow_4, e_X7_tow_8, e_X7_tow_11, e_X7_tow_12, e_X7_tow_13, e_X7_tow_14, e_X7_tow_17, e_X7_tow_21, e_X7_tow_24, e_X7_tow_26, e_X7_tow_27, e_X7_tow_28, e_X7_tow_31, e_X7_tow_32, e_X7_tow_38, e_X7_tow_39, e_X7_tow_42, e_X7_tow_45, e_X7_tow_46, e_X7_tow_46_o, e_X7_tow_47_i, e_X7_tow_47_r, e_X7_tow_47_n, e_X7_tow_48, e_X7_tow_49, e_X7_tow_52, e_X7_tow_56, e_X7_tow_57, eq_self, nI10, not_false_eq_true, not_true_eq_false, is2_i, is2_r, is2_n, nI_add, pk_mul, Nat.reduceAdd, Nat.reduceMul, ai_H15, A1, L1, d5, r1, e_X7_tow_5 (hb := ai_T3) (hE := s_hasD hp), hx, bI_z, if_false, if_true, Bool.true_eq_false, e_X7_tow_18 (hb := ai_H15) (hE := s_X2_canTow hp hh ai_H15), hm, e_X7_tow_35 (hE := a3), e_X7_tow_53 (hb := ai_H15) (hE := b3)]
    · rw [if_neg hq] at hd; cases hd
  · rw [hs] at hd; cases hd
theorem s_X7_undoF (h : RC tx p x 0 A kp K so sd m lg) : Ev o (d + 20) zX7_undo [.ref 0] (ai_w m lg) (some (.int (-3))) (ai_w m lg) := by
  obtain ⟨h1, hp, hh, ⟨q, h4⟩, h5, h6, h7, h8⟩ := h
  rw [ev_X7_undo]
  simp only [e_X7_undo_0, e_X7_undo_1, e_X7_undo_4, e_X7_undo_7, e_X7_undo_10, e_X7_undo_12, e_X7_undo_13, e_X7_undo_14, e_X7_undo_17, e_X7_undo_18, e_X7_undo_24, e_X7_undo_25, e_X7_undo_28, e_X7_undo_31, eq_self, nI10, not_false_eq_true, not_true_eq_false, is2_i, is2_r, is2_n, nI_add, pk_mul, Nat.reduceAdd, Nat.reduceMul, h4.2.2.2.1, if_false]
theorem s_X7_undoT (h : RC tx p x n A kp K so sd m lg) (hn : 0 < n) : ∃ m', RC tx p (A 0) (n - 1) (fun i => A (i + 1)) kp K so sd m' lg ∧ FrC m m' ∧ Ev o (d + 20) zX7_undo [.ref 0] (ai_w m lg) (some (.int (nI (n - 1)))) (ai_w m' lg) := by
  obtain ⟨h1, hp, hh, ⟨q, h4⟩, h5, h6, h7, h8⟩ := h
  obtain ⟨m2, q', a1, b1, b2, b3⟩ := s_X0_takeBack (o := o) (d := d + 17) (lg := lg) hp h4 hn
  have g : ∀ i, (i ≠ 27 ∧ (i < 15 ∨ 20 < i)) → m2 i = m i := fun i hi => b2 i (by omega)
  have hn14 := h4.2.2.1
  have ne : ¬ nI n = nI 0 := fun z => by have := (nI_eq (by omega) (by omega)).mp z; omega
  refine ⟨m2, ⟨h1.fr (g 1 (by omega)) (g 2 (by omega)), hp.fr8 (fun i x1 x2 => g i (by omega)), b1, ⟨q', a1⟩, h5.fr (fun i x1 x2 => g i (by omega)), fun i hi => by rw [g 120 (by omega)]; exact h6 i hi, fun i hi hk => (h7 i hi hk).frS (fun j x1 x2 => g j (by omega)), h8⟩, fun i hi => g i (by omega), ?_⟩
  rw [ev_X7_undo]
  simp only [e_X7_undo_0, e_X7_undo_1, e_X7_undo_4, e_X7_undo_7, e_X7_undo_10, e_X7_undo_12, e_X7_undo_13, e_X7_undo_14, e_X7_undo_17, e_X7_undo_18, e_X7_undo_24, e_X7_undo_25, e_X7_undo_28, e_X7_undo_31, eq_self, nI10, not_false_eq_true, not_true_eq_false, is2_i, is2_r, is2_n, nI_add, pk_mul, Nat.reduceAdd, Nat.reduceMul, h4.2.2.2.1, ne, if_true, e_X7_undo_21 (hE := b3), a1.2.2.2.1]
theorem ai_kp : ∀ i, i < 2 → cz_rf 119 i = some (121 + 6 * i) := by decide +kernel
theorem ai_HK : ∀ i, i < 2 → ai_H (121 + 6 * i) := by unfold ai_H; decide +kernel
theorem s_X7_keepF (hs : swN k 2 = none) : Ev o (d + 20) zX7_keep [.ref 0, .int k] (ai_w m lg) (some (.int (-1))) (ai_w m lg) := by
  rw [ev_X7_keep]
  rcases sw_cases k 2 (by decide) with ⟨j, hj, rfl, hs2, _⟩ | ⟨hs, _, hn⟩
  · rw [hs2] at hs; cases hs
  · rcases hn with hn | ⟨j, hj, hj2, rfl⟩
    · simp only [e_X7_keep_0, e_X7_keep_1, e_X7_keep_4, e_X7_keep_5, e_X7_keep_6, e_X7_keep_9, e_X7_keep_10, e_X7_keep_11, e_X7_keep_12, e_X7_keep_15, e_X7_keep_16, e_X7_keep_17, e_X7_keep_18, e_X7_keep_24, e_X7_keep_25, e_X7_keep_28, e_X7_keep_29, e_X7_keep_30, e_X7_keep_31, e_X7_keep_32, e_X7_keep_35, e_X7_keep_38, eq_self, nI10, not_false_eq_true, not_true_eq_false, is2_i, is2_r, is2_n, nI_add, pk_mul, Nat.reduceAdd, Nat.reduceMul, hn, if_true]
    · have e0 : ¬ nI j < nI 0 := nI_pos hj2
      have e1 : ¬ nI j < nI 2 := nI_nlt hj hj2
      simp only [e_X7_keep_0, e_X7_keep_1, e_X7_keep_4, e_X7_keep_5, e_X7_keep_6, e_X7_keep_9, e_X7_keep_10, e_X7_keep_11, e_X7_keep_12, e_X7_keep_15, e_X7_keep_16, e_X7_keep_17, e_X7_keep_18, e_X7_keep_24, e_X7_keep_25, e_X7_keep_28, e_X7_keep_29, e_X7_keep_30, e_X7_keep_31, e_X7_keep_32, e_X7_keep_35, e_X7_keep_38, eq_self, nI10, not_false_eq_true, not_true_eq_false, is2_i, is2_r, is2_n, nI_add, pk_mul, Nat.reduceAdd, Nat.reduceMul, e0, e1, if_false]
theorem s_X7_keepT {j : Nat} (hj : j < 2) (h : RC tx p x n A kp K so sd m lg) : ∃ m', RC tx p x n A (va_up kp j true) (va_up K j x) so sd m' lg ∧ FrC m m' ∧ Ev o (d + 20) zX7_keep [.ref 0, .int (nI j)] (ai_w m lg) (some (.int (nI x.2.2.2.2.2))) (ai_w m' lg) := by
  obtain ⟨h1, hp, hh, ⟨q, h4⟩, h5, h6, h7, h8⟩ := h
  obtain ⟨m1, b1, b2, b3⟩ := s_X2_becomes (o := o) (d := d + 18) (lg := lg) (ai_HK j hj) ai_H15 (by omega) hp hh
  have g : ∀ i, i ≠ 120 → (i < 121 ∨ 132 < i) → ai_up m1 120 j (bI true) i = m i := fun i x1 x2 => by rw [up_ne x1, b2 i (by omega)]
  have e0 : ¬ nI j < nI 0 := nI_pos (by omega)
  have e1 : nI j < nI 2 := nI_lt hj (by decide)
  have hh2 : RH p x (ai_up m1 120 j (bI true)) 15 := hh.frS (fun i x1 x2 => g i (by omega) (by omega))
  refine ⟨ai_up m1 120 j (bI true), ⟨h1.fr (g 1 (by omega) (by omega)) (g 2 (by omega) (by omega)), hp.fr8 (fun i x1 x2 => g i (by omega) (by omega)), hh2, ⟨q, h4.fr (fun i x1 x2 => g i (by omega) (by omega))⟩, h5.fr (fun i x1 x2 => g i (by omega) (by omega)), fun i hi => ?_, fun i hi hk => ?_, h8⟩, fun i hi => g i (by omega) (by omega), ?_⟩
  · rw [up_eq]
    simp only [va_up]
    split
    · rfl
    · rw [b2 120 (by omega)]; exact h6 i hi
  · by_cases hij : i = j
    · subst hij
      rw [show va_up K i x i = x by simp [va_up]]
      exact b1.frS (fun c x1 x2 => up_ne (by omega))
    · rw [show va_up K j x i = K i by simp [va_up, hij]]
      rw [show va_up kp j true i = kp i by simp [va_up, hij]] at hk
      exact (h7 i hi hk).frS (fun c x1 x2 => by rw [up_ne (by omega)]; exact b2 c (by omega))
  · rw [ev_X7_keep]
    simp only [e_X7_keep_0, e_X7_keep_1, e_X7_keep_4, e_X7_keep_5, e_X7_keep_6, e_X7_keep_9, e_X7_keep_10, e_X7_keep_11, e_X7_keep_12, e_X7_keep_15, e_X7_keep_16, e_X7_keep_17, e_X7_keep_18, e_X7_keep_24, e_X7_keep_25, e_X7_keep_28, e_X7_keep_29, e_X7_keep_30, e_X7_keep_31, e_X7_keep_32, e_X7_keep_35, e_X7_keep_38, eq_self, nI10, not_false_eq_true, not_true_eq_false, is2_i, is2_r, is2_n, nI_add, pk_mul, Nat.reduceAdd, Nat.reduceMul, ai_H15, e0, e1, if_false, if_true, q1_120, ql_120, hj, e_X7_keep_16 q2_119 (by rw [ql_119]; exact hj) (ai_kp j hj), e_X7_keep_21 (hb := ai_HK j hj) (hE := b3), show vp_nar .boolean (nI 1) = bI true from nar_bI (b := true), hh2.2.2.2.2.2.2]
theorem s_X7_againF (hs : swN k 2 = none) : Ev o (d + 20) zX7_again [.ref 0, .int k] (ai_w m lg) (some (.int (-1))) (ai_w m lg) := by
  rw [ev_X7_again]
  rcases sw_cases k 2 (by decide) with ⟨j, hj, rfl, hs2, _⟩ | ⟨hs, _, hn⟩
  · rw [hs2] at hs; cases hs
  · rcases hn with hn | ⟨j, hj, hj2, rfl⟩
    · simp only [e_X7_again_0, e_X7_again_1, e_X7_again_4, e_X7_again_5, e_X7_again_6, e_X7_again_9, e_X7_again_10, e_X7_again_11, e_X7_again_12, e_X7_again_15, e_X7_again_16, e_X7_again_17, e_X7_again_20, e_X7_again_22, e_X7_again_23, e_X7_again_24, e_X7_again_27, e_X7_again_28, e_X7_again_31, e_X7_again_32, e_X7_again_36, e_X7_again_37, e_X7_again_43, e_X7_again_44, e_X7_again_47, e_X7_again_50, eq_self, nI10, not_false_eq_true, not_true_eq_false, is2_i, is2_r, is2_n, nI_add, pk_mul, Nat.reduceAdd, Nat.reduceMul, hn, if_true]
    · have e0 : ¬ nI j < nI 0 := nI_pos hj2
      have e1 : ¬ nI j < nI 2 := nI_nlt hj hj2
      simp only [e_X7_again_0, e_X7_again_1, e_X7_again_4, e_X7_again_5, e_X7_again_6, e_X7_again_9, e_X7_again_10, e_X7_again_11, e_X7_again_12, e_X7_again_15, e_X7_again_16, e_X7_again_17, e_X7_again_20, e_X7_again_22, e_X7_again_23, e_X7_again_24, e_X7_again_27, e_X7_again_28, e_X7_again_31, e_X7_again_32, e_X7_again_36, e_X7_again_37, e_X7_again_43, e_X7_again_44, e_X7_again_47, e_X7_again_50, eq_self, nI10, not_false_eq_true, not_true_eq_false, is2_i, is2_r, is2_n, nI_add, pk_mul, Nat.reduceAdd, Nat.reduceMul, e0, e1, if_false]
theorem s_X7_againL {j : Nat} (hj : j < 2) (h : RC tx p x n A kp K so sd m lg) (hk : kp j = false) : Ev o (d + 20) zX7_again [.ref 0, .int (nI j)] (ai_w m lg) (some (.int (-3))) (ai_w m lg) := by
  obtain ⟨h1, hp, hh, ⟨q, h4⟩, h5, h6, h7, h8⟩ := h
  have e0 : ¬ nI j < nI 0 := nI_pos (by omega)
  have e1 : nI j < nI 2 := nI_lt hj (by decide)
  rw [ev_X7_again]
  simp only [e_X7_again_0, e_X7_again_1, e_X7_again_4, e_X7_again_5, e_X7_again_6, e_X7_again_9, e_X7_again_10, e_X7_again_11, e_X7_again_12, e_X7_again_15, e_X7_again_16, e_X7_again_17, e_X7_again_20, e_X7_again_22, e_X7_again_23, e_X7_again_24, e_X7_again_27, e_X7_again_28, e_X7_again_31, e_X7_again_32, e_X7_again_36, e_X7_again_37, e_X7_again_43, e_X7_again_44, e_X7_again_47, e_X7_again_50, eq_self, nI10, not_false_eq_true, not_true_eq_false, is2_i, is2_r, is2_n, nI_add, pk_mul, Nat.reduceAdd, Nat.reduceMul, e0, e1, if_false, if_true, q1_120, ql_120, hj, h6 j hj, hk, bI_z]
theorem s_X7_againT {j : Nat} (hj : j < 2) (h : RC tx p x n A kp K so sd m lg) (hk : kp j = true) : ∃ m', RC tx p (K j) 0 A kp K so sd m' lg ∧ FrC m m' ∧ Ev o (d + 20) zX7_again [.ref 0, .int (nI j)] (ai_w m lg) (some (.int (nI (K j).2.2.2.2.2))) (ai_w m' lg) := by
  obtain ⟨h1, hp, hh, ⟨q, h4⟩, h5, h6, h7, h8⟩ := h
  have e0 : ¬ nI j < nI 0 := nI_pos (by omega)
  have e1 : nI j < nI 2 := nI_lt hj (by decide)
  obtain ⟨m1, b1, b2, b3⟩ := s_X2_becomes (o := o) (d := d + 18) (lg := lg) ai_H15 (ai_HK j hj) (by omega) hp (h7 j hj hk)
  have g : ∀ i, i ≠ 27 → (i < 15 ∨ 20 < i) → ai_up m1 27 2 (nI 0) i = m i := fun i x1 x2 => by rw [up_ne x1, b2 i (by omega)]
  have hh2 : RH p (K j) (ai_up m1 27 2 (nI 0)) 15 := b1.frS (fun i x1 x2 => up_ne (by omega))
  refine ⟨ai_up m1 27 2 (nI 0), ⟨h1.fr (g 1 (by omega) (by omega)) (g 2 (by omega) (by omega)), hp.fr8 (fun i x1 x2 => g i (by omega) (by omega)), hh2, ⟨q, h4.1, ?_, by omega, by rw [up_eq, if_pos rfl], fun i hi => absurd hi (Nat.not_lt_zero i)⟩, h5.fr (fun i x1 x2 => g i (by omega) (by omega)), fun i hi => by rw [g 120 (by omega) (by omega)]; exact h6 i hi, fun i hi hk => (h7 i hi hk).frS (fun c x1 x2 => g c (by omega) (by omega)), h8⟩, fun i hi => g i (by omega) (by omega), ?_⟩
  · rw [up_eq, if_neg (by decide), b2 27 (by omega)]; exact h4.2.1
  · rw [ev_X7_again]
    simp only [e_X7_again_0, e_X7_again_1, e_X7_again_4, e_X7_again_5, e_X7_again_6, e_X7_again_9, e_X7_again_10, e_X7_again_11, e_X7_again_12, e_X7_again_15, e_X7_again_16, e_X7_again_17, e_X7_again_20, e_X7_again_22, e_X7_again_23, e_X7_again_24, e_X7_again_27, e_X7_again_28, e_X7_again_31, e_X7_again_32, e_X7_again_36, e_X7_again_37, e_X7_again_43, e_X7_again_44, e_X7_again_47, e_X7_again_50, eq_self, nI10, not_false_eq_true, not_true_eq_false, is2_i, is2_r, is2_n, nI_add, pk_mul, Nat.reduceAdd, Nat.reduceMul, ai_H15, e0, e1, if_false, if_true, q1_120, ql_120, hj, h6 j hj, hk, bI_z, Bool.true_eq_false, e_X7_again_32 q2_119 (by rw [ql_119]; exact hj) (ai_kp j hj), e_X7_again_33 (hb := ai_H15) (hE := b3), e_X7_again_40 (hE := s_X0_forget0), hh2.2.2.2.2.2.2]
def aSound (so : SO) (k k2 k3 : Int32) : Int32 := match swN k 10, swN k2 10, swN k3 2 with
  | some (_ + 1), some _, some _ => if so.1 < 6 then nI (so.1 + 1) else -4
  | _, _, _ => -2
def uSound (so : SO) (k k2 k3 : Int32) : SO := match swN k 10, swN k2 10, swN k3 2 with
  | some (g + 1), some t, some q => if so.1 < 6 then (so.1 + 1, va_up so.2.1 so.1 (g + 1), va_up so.2.2.1 so.1 t, va_up so.2.2.2 so.1 (decide (q = 1))) else so
  | _, _, _ => so
theorem s_X7_sound (h : RC tx p x n A kp K so sd m lg) : ∃ m', RC tx p x n A kp K (uSound so k k2 k3) sd m' lg ∧ FrC m m' ∧ Ev o (d + 20) zX7_sound [.ref 0, .int k, .int k2, .int k3] (ai_w m lg) (some (.int (aSound so k k2 k3))) (ai_w m' lg) := by
  have bad : aSound so k k2 k3 = -2 → uSound so k k2 k3 = so → (∀ r, Rn o (d + 20) zX7_sound 0 [.ref 0, .int k, .int k2, .int k3] [] (ai_w m lg) r = Rn o (d + 20) zX7_sound 30 [.ref 0, .int k, .int k2, .int k3] [] (ai_w m lg) r) → ∃ m', RC tx p x n A kp K (uSound so k k2 k3) sd m' lg ∧ FrC m m' ∧ Ev o (d + 20) zX7_sound [.ref 0, .int k, .int k2, .int k3] (ai_w m lg) (some (.int (aSound so k k2 k3))) (ai_w m' lg) := by
    intro ea eu er
    rw [ea, eu]
    refine ⟨m, h, fun _ _ => rfl, ?_⟩
    rw [ev_X7_sound, er]
    simp only [e_X7_sound_0, e_X7_sound_1, e_X7_sound_2, e_X7_sound_5, e_X7_sound_6, e_X7_sound_8, e_X7_sound_11, e_X7_sound_12, e_X7_sound_15, e_X7_sound_16, e_X7_sound_18, e_X7_sound_21, e_X7_sound_22, e_X7_sound_25, e_X7_sound_26, e_X7_sound_27, e_X7_sound_30, e_X7_sound_32, e_X7_sound_33, e_X7_sound_34, e_X7_sound_37, e_X7_sound_38, e_X7_sound_39, e_X7_sound_40, e_X7_sound_41, e_X7_sound_44, e_X7_sound_45, e_X7_sound_48, e_X7_sound_52, eq_self, nI10, not_false_eq_true, not_true_eq_false, is2_i, is2_r, is2_n, nI_add, pk_mul, Nat.reduceAdd, Nat.reduceMul]
  rcases sw_cases k 10 (by decide) with ⟨g, hg, rfl, hs, _⟩ | ⟨hs, _, hn⟩
  · by_cases g0 : g = 0
    · subst g0
      have e1 : nI 0 < nI 1 := by decide
      exact bad (by unfold aSound; rw [hs]) (by unfold uSound; rw [hs]) (fun r => by simp only [e_X7_sound_0, e_X7_sound_1, e_X7_sound_2, e_X7_sound_5, e_X7_sound_6, e_X7_sound_8, e_X7_sound_11, e_X7_sound_12, e_X7_sound_15, e_X7_sound_16, e_X7_sound_18, e_X7_sound_21, e_X7_sound_22, e_X7_sound_25, e_X7_sound_26, e_X7_sound_27, e_X7_sound_32, e_X7_sound_33, e_X7_sound_34, e_X7_sound_37, e_X7_sound_38, e_X7_sound_39, e_X7_sound_40, e_X7_sound_41, e_X7_sound_44, e_X7_sound_45, e_X7_sound_48, e_X7_sound_52, eq_self, nI10, not_false_eq_true, not_true_eq_false, is2_i, is2_r, is2_n, nI_add, pk_mul, Nat.reduceAdd, Nat.reduceMul, e1, if_true])
    · obtain ⟨g', rfl⟩ : ∃ g', g = g' + 1 := ⟨g - 1, by omega⟩
      have e1 : ¬ nI (g' + 1) < nI 1 := nI_nlt (by omega) (by omega)
      have e2 : ¬ nI 9 < nI (g' + 1) := nI_nlt (by omega) (by omega)
      rcases sw_cases k2 10 (by decide) with ⟨t, ht, rfl, hs2, _⟩ | ⟨hs2, _, hn2⟩
      · have e3 : ¬ nI t < nI 0 := nI_pos (by omega)
        have e4 : ¬ nI 9 < nI t := nI_nlt (by omega) (by omega)
        rcases sw_cases k3 2 (by decide) with ⟨q, hq, rfl, hs3, _⟩ | ⟨hs3, _, hn3⟩
        · have e5 : ¬ nI q < nI 0 := nI_pos (by omega)
          have e6 : nI q ≤ nI 1 := nI_le (by omega) (by omega)
          have pre : ∀ r, Rn o (d + 20) zX7_sound 0 [.ref 0, .int (nI (g' + 1)), .int (nI t), .int (nI q)] [] (ai_w m lg) r = Rn o (d + 20) zX7_sound 49 [.ref 0, .int (nI (g' + 1)), .int (nI t), .int (nI q)] [.int (bI (decide (q = 1))), .int (nI t), .int (nI (g' + 1)), .ref 113] (ai_w m lg) r := by
            intro r
            rcases (show q = 0 ∨ q = 1 by omega) with rfl | rfl
            · have z : ¬ nI 0 = nI 1 := by decide
              simp only [e_X7_sound_0, e_X7_sound_1, e_X7_sound_2, e_X7_sound_5, e_X7_sound_6, e_X7_sound_8, e_X7_sound_11, e_X7_sound_12, e_X7_sound_15, e_X7_sound_16, e_X7_sound_18, e_X7_sound_21, e_X7_sound_22, e_X7_sound_25, e_X7_sound_26, e_X7_sound_27, e_X7_sound_30, e_X7_sound_32, e_X7_sound_33, e_X7_sound_34, e_X7_sound_37, e_X7_sound_38, e_X7_sound_39, e_X7_sound_40, e_X7_sound_41, e_X7_sound_44, e_X7_sound_45, e_X7_sound_48, e_X7_sound_52, eq_self, nI10, not_false_eq_true, not_true_eq_false, is2_i, is2_r, is2_n, nI_add, pk_mul, Nat.reduceAdd, Nat.reduceMul, e1, e2, e3, e4, e5, e6, z, if_true, if_false]
              rfl
            · simp only [e_X7_sound_0, e_X7_sound_1, e_X7_sound_2, e_X7_sound_5, e_X7_sound_6, e_X7_sound_8, e_X7_sound_11, e_X7_sound_12, e_X7_sound_15, e_X7_sound_16, e_X7_sound_18, e_X7_sound_21, e_X7_sound_22, e_X7_sound_25, e_X7_sound_26, e_X7_sound_27, e_X7_sound_30, e_X7_sound_32, e_X7_sound_33, e_X7_sound_34, e_X7_sound_37, e_X7_sound_38, e_X7_sound_39, e_X7_sound_40, e_X7_sound_41, e_X7_sound_44, e_X7_sound_45, e_X7_sound_48, e_X7_sound_52, eq_self, nI10, not_false_eq_true, not_true_eq_false, is2_i, is2_r, is2_n, nI_add, pk_mul, Nat.reduceAdd, Nat.reduceMul, e1, e2, e3, e4, e5, e6, if_true, if_false]
              rfl
          by_cases h6 : so.1 < 6
          · have eu : uSound so (nI (g' + 1)) (nI t) (nI q) = (so.1 + 1, va_up so.2.1 so.1 (g' + 1), va_up so.2.2.1 so.1 t, va_up so.2.2.2 so.1 (decide (q = 1))) := by unfold uSound; rw [hs, hs2, hs3]; exact if_pos h6
            have ea : aSound so (nI (g' + 1)) (nI t) (nI q) = nI (so.1 + 1) := by unfold aSound; rw [hs, hs2, hs3]; exact if_pos h6
            obtain ⟨h1, hp, hh, ⟨qq, h4⟩, h5, h6', h7, h8⟩ := h
            obtain ⟨m1, b1, b2, b3⟩ := s_X4_add (o := o) (d := d + 19) (lg := lg) (g := g' + 1) (t := t) (q := decide (q = 1)) h5 (by omega) (by omega) h6
            rw [eu, ea]
            refine ⟨m1, ⟨h1.fr (b2 1 (by omega)) (b2 2 (by omega)), hp.fr8 (fun i x1 x2 => b2 i (by omega)), hh.frS (fun i x1 x2 => b2 i (by omega)), ⟨qq, h4.fr (fun i x1 x2 => b2 i (by omega))⟩, b1, fun i hi => by rw [b2 120 (by omega)]; exact h6' i hi, fun i hi hk => (h7 i hi hk).frS (fun c x1 x2 => b2 c (by omega)), h8⟩, fun i hi => b2 i (by omega), ?_⟩
            rw [ev_X7_sound, pre]
            simp only [e_X7_sound_0, e_X7_sound_1, e_X7_sound_2, e_X7_sound_5, e_X7_sound_6, e_X7_sound_8, e_X7_sound_11, e_X7_sound_12, e_X7_sound_15, e_X7_sound_16, e_X7_sound_18, e_X7_sound_21, e_X7_sound_22, e_X7_sound_25, e_X7_sound_26, e_X7_sound_27, e_X7_sound_30, e_X7_sound_32, e_X7_sound_33, e_X7_sound_34, e_X7_sound_37, e_X7_sound_38, e_X7_sound_39, e_X7_sound_40, e_X7_sound_41, e_X7_sound_44, e_X7_sound_45, e_X7_sound_48, e_X7_sound_52, eq_self, nI10, not_false_eq_true, not_true_eq_false, is2_i, is2_r, is2_n, nI_add, pk_mul, Nat.reduceAdd, Nat.reduceMul, e_X7_sound_49 (hE := b3)]
          · have eu : uSound so (nI (g' + 1)) (nI t) (nI q) = so := by unfold uSound; rw [hs, hs2, hs3]; exact if_neg h6
            have ea : aSound so (nI (g' + 1)) (nI t) (nI q) = -4 := by unfold aSound; rw [hs, hs2, hs3]; exact if_neg h6
            rw [eu, ea]
            refine ⟨m, h, fun _ _ => rfl, ?_⟩
            rw [ev_X7_sound, pre]
            simp only [e_X7_sound_0, e_X7_sound_1, e_X7_sound_2, e_X7_sound_5, e_X7_sound_6, e_X7_sound_8, e_X7_sound_11, e_X7_sound_12, e_X7_sound_15, e_X7_sound_16, e_X7_sound_18, e_X7_sound_21, e_X7_sound_22, e_X7_sound_25, e_X7_sound_26, e_X7_sound_27, e_X7_sound_30, e_X7_sound_32, e_X7_sound_33, e_X7_sound_34, e_X7_sound_37, e_X7_sound_38, e_X7_sound_39, e_X7_sound_40, e_X7_sound_41, e_X7_sound_44, e_X7_sound_45, e_X7_sound_48, e_X7_sound_52, eq_self, nI10, not_false_eq_true, not_true_eq_false, is2_i, is2_r, is2_n, nI_add, pk_mul, Nat.reduceAdd, Nat.reduceMul, e_X7_sound_49 (hE := s_X4_addF h.2.2.2.2.1 h6)]
        · refine bad (by unfold aSound; rw [hs, hs2, hs3]) (by unfold uSound; rw [hs, hs2, hs3]) (fun r => ?_)
          rcases hn3 with hn3 | ⟨j, hj, hj2, rfl⟩
          · simp only [e_X7_sound_0, e_X7_sound_1, e_X7_sound_2, e_X7_sound_5, e_X7_sound_6, e_X7_sound_8, e_X7_sound_11, e_X7_sound_12, e_X7_sound_15, e_X7_sound_16, e_X7_sound_18, e_X7_sound_21, e_X7_sound_22, e_X7_sound_25, e_X7_sound_26, e_X7_sound_27, e_X7_sound_32, e_X7_sound_33, e_X7_sound_34, e_X7_sound_37, e_X7_sound_38, e_X7_sound_39, e_X7_sound_40, e_X7_sound_41, e_X7_sound_44, e_X7_sound_45, e_X7_sound_48, e_X7_sound_52, eq_self, nI10, not_false_eq_true, not_true_eq_false, is2_i, is2_r, is2_n, nI_add, pk_mul, Nat.reduceAdd, Nat.reduceMul, e1, e2, e3, e4, hn3, if_true, if_false]
          · have a1 : ¬ nI j < nI 0 := nI_pos hj2
            have a2 : ¬ nI j ≤ nI 1 := nI_ge (by omega) hj2
            simp only [e_X7_sound_0, e_X7_sound_1, e_X7_sound_2, e_X7_sound_5, e_X7_sound_6, e_X7_sound_8, e_X7_sound_11, e_X7_sound_12, e_X7_sound_15, e_X7_sound_16, e_X7_sound_18, e_X7_sound_21, e_X7_sound_22, e_X7_sound_25, e_X7_sound_26, e_X7_sound_27, e_X7_sound_32, e_X7_sound_33, e_X7_sound_34, e_X7_sound_37, e_X7_sound_38, e_X7_sound_39, e_X7_sound_40, e_X7_sound_41, e_X7_sound_44, e_X7_sound_45, e_X7_sound_48, e_X7_sound_52, eq_self, nI10, not_false_eq_true, not_true_eq_false, is2_i, is2_r, is2_n, nI_add, pk_mul, Nat.reduceAdd, Nat.reduceMul, e1, e2, e3, e4, a1, a2, if_false]
      · refine bad (by unfold aSound; rw [hs, hs2]) (by unfold uSound; rw [hs, hs2]) (fun r => ?_)
        rcases hn2 with hn2 | ⟨j, hj, hj2, rfl⟩
        · simp only [e_X7_sound_0, e_X7_sound_1, e_X7_sound_2, e_X7_sound_5, e_X7_sound_6, e_X7_sound_8, e_X7_sound_11, e_X7_sound_12, e_X7_sound_15, e_X7_sound_16, e_X7_sound_18, e_X7_sound_21, e_X7_sound_22, e_X7_sound_25, e_X7_sound_26, e_X7_sound_27, e_X7_sound_32, e_X7_sound_33, e_X7_sound_34, e_X7_sound_37, e_X7_sound_38, e_X7_sound_39, e_X7_sound_40, e_X7_sound_41, e_X7_sound_44, e_X7_sound_45, e_X7_sound_48, e_X7_sound_52, eq_self, nI10, not_false_eq_true, not_true_eq_false, is2_i, is2_r, is2_n, nI_add, pk_mul, Nat.reduceAdd, Nat.reduceMul, e1, e2, hn2, if_true, if_false]
        · have a1 : ¬ nI j < nI 0 := nI_pos hj2
          have a2 : nI 9 < nI j := nI_lt (by omega) hj2
          simp only [e_X7_sound_0, e_X7_sound_1, e_X7_sound_2, e_X7_sound_5, e_X7_sound_6, e_X7_sound_8, e_X7_sound_11, e_X7_sound_12, e_X7_sound_15, e_X7_sound_16, e_X7_sound_18, e_X7_sound_21, e_X7_sound_22, e_X7_sound_25, e_X7_sound_26, e_X7_sound_27, e_X7_sound_32, e_X7_sound_33, e_X7_sound_34, e_X7_sound_37, e_X7_sound_38, e_X7_sound_39, e_X7_sound_40, e_X7_sound_41, e_X7_sound_44, e_X7_sound_45, e_X7_sound_48, e_X7_sound_52, eq_self, nI10, not_false_eq_true, not_true_eq_false, is2_i, is2_r, is2_n, nI_add, pk_mul, Nat.reduceAdd, Nat.reduceMul, e1, e2, a1, a2, if_false, if_true]
  · refine bad (by unfold aSound; rw [hs]) (by unfold uSound; rw [hs]) (fun r => ?_)
    rcases hn with hn | ⟨j, hj, hj2, rfl⟩
    · have a1 : k < nI 1 := Int32.lt_trans hn (by decide)
      simp only [e_X7_sound_0, e_X7_sound_1, e_X7_sound_2, e_X7_sound_5, e_X7_sound_6, e_X7_sound_8, e_X7_sound_11, e_X7_sound_12, e_X7_sound_15, e_X7_sound_16, e_X7_sound_18, e_X7_sound_21, e_X7_sound_22, e_X7_sound_25, e_X7_sound_26, e_X7_sound_27, e_X7_sound_32, e_X7_sound_33, e_X7_sound_34, e_X7_sound_37, e_X7_sound_38, e_X7_sound_39, e_X7_sound_40, e_X7_sound_41, e_X7_sound_44, e_X7_sound_45, e_X7_sound_48, e_X7_sound_52, eq_self, nI10, not_false_eq_true, not_true_eq_false, is2_i, is2_r, is2_n, nI_add, pk_mul, Nat.reduceAdd, Nat.reduceMul, a1, if_true]
    · have a1 : ¬ nI j < nI 1 := nI_nlt (by omega) hj2
      have a2 : nI 9 < nI j := nI_lt (by omega) hj2
      simp only [e_X7_sound_0, e_X7_sound_1, e_X7_sound_2, e_X7_sound_5, e_X7_sound_6, e_X7_sound_8, e_X7_sound_11, e_X7_sound_12, e_X7_sound_15, e_X7_sound_16, e_X7_sound_18, e_X7_sound_21, e_X7_sound_22, e_X7_sound_25, e_X7_sound_26, e_X7_sound_27, e_X7_sound_32, e_X7_sound_33, e_X7_sound_34, e_X7_sound_37, e_X7_sound_38, e_X7_sound_39, e_X7_sound_40, e_X7_sound_41, e_X7_sound_44, e_X7_sound_45, e_X7_sound_48, e_X7_sound_52, eq_self, nI10, not_false_eq_true, not_true_eq_false, is2_i, is2_r, is2_n, nI_add, pk_mul, Nat.reduceAdd, Nat.reduceMul, a1, a2, if_false, if_true]
theorem s_X7_unsound (h : RC tx p x n A kp K so sd m lg) : ∃ m', RC tx p x n A kp K (0, so.2) sd m' lg ∧ FrC m m' ∧ Ev o (d + 20) zX7_unsound [.ref 0] (ai_w m lg) (some (.int (nI so.1))) (ai_w m' lg) := by
  obtain ⟨h1, hp, hh, ⟨qq, h4⟩, h5, h6', h7, h8⟩ := h
  obtain ⟨m1, b1, b2, b3⟩ := s_X4_empty (o := o) (d := d + 19) (lg := lg) h5
  refine ⟨m1, ⟨h1.fr (b2 1 (by omega)) (b2 2 (by omega)), hp.fr8 (fun i x1 x2 => b2 i (by omega)), hh.frS (fun i x1 x2 => b2 i (by omega)), ⟨qq, h4.fr (fun i x1 x2 => b2 i (by omega))⟩, b1, fun i hi => by rw [b2 120 (by omega)]; exact h6' i hi, fun i hi hk => (h7 i hi hk).frS (fun c x1 x2 => b2 c (by omega)), h8⟩, fun i hi => b2 i (by omega), ?_⟩
  rw [ev_X7_unsound]
  simp only [e_X7_unsound_0, e_X7_unsound_1, e_X7_unsound_7, eq_self, nI10, not_false_eq_true, not_true_eq_false, is2_i, is2_r, is2_n, nI_add, pk_mul, Nat.reduceAdd, Nat.reduceMul, e_X7_unsound_4 (hE := b3)]
theorem s_X7_seed {v : Int64} (h : RC tx p x n A kp K so sd m lg) : RC tx p x n A kp K so v m (ai_upL lg 0 11 v) ∧ Ev o (d + 20) zX7_seed [.ref 0, .long v] (ai_w m lg) (some (.long sd)) (ai_w m (ai_upL lg 0 11 v)) := by
  obtain ⟨h1, hp, hh, ⟨qq, h4⟩, h5, h6', h7, h8⟩ := h
  refine ⟨⟨h1, hp, hh, ⟨qq, h4⟩, h5, h6', h7, by simp [ai_upL, vp_updL]⟩, ?_⟩
  rw [ev_X7_seed]
  simp only [e_X7_seed_0, e_X7_seed_1, e_X7_seed_4_i, e_X7_seed_4_r, e_X7_seed_4_n, e_X7_seed_5, e_X7_seed_6, e_X7_seed_7, e_X7_seed_10, e_X7_seed_11, eq_self, nI10, not_false_eq_true, not_true_eq_false, is2_i, is2_r, is2_n, nI_add, pk_mul, Nat.reduceAdd, Nat.reduceMul, h8]
end P43
