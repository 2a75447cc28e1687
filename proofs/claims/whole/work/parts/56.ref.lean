/-! The reference: soundings, seeds, slots; nights to come -/
section P56
variable {o : ai_S} {d : Nat} {w : ai_W} {m m' : Nat → Nat → Int32} {lg lg' : Nat → Nat → Int64} {tx : TX} {p : PT} {x : HS} {n : Nat} {A : Nat → HS} {kp : Nat → Bool} {K : Nat → HS} {so : SO} {sd : Int64} {r : Option Value × ai_W} {k k2 k3 : Int32}
theorem s_X8_unsound (h : RM tx p x n A kp K so sd m lg) : ∃ m', RM tx p x n A kp K (0, so.2) sd m' lg ∧ FrK m m' ∧ Ev o (d + 20) zX8_unsound [.ref 133] (ai_w m lg) (some (.int (nI so.1))) (ai_w m' lg) := by
  obtain ⟨⟨t1, t2, t3⟩, hp, hh, ⟨a1, a2, a3⟩, ⟨w1, w2⟩, ⟨s1, s2, s3⟩, h8⟩ := h.q (frT (m := m))
  obtain ⟨m1, hm1⟩ : ∃ m1, m1 = ai_up m 133 0 (nI 0) := ⟨_, rfl⟩
  rw [← hm1] at t2 t3 hp hh a2 a3 w1 w2 s2 s3
  have g : ∀ i, i ≠ 133 → ai_up m1 133 22 (nI 0) i = m1 i := fun i x1 => up_ne x1
  have f : ∀ q, q ≠ 22 → ai_up m1 133 22 (nI 0) 133 q = m1 133 q := fun q hq => by rw [up_eq, if_neg hq]
  refine ⟨ai_up m1 133 22 (nI 0), ⟨⟨t1, by rw [f 2 (by decide)]; exact t2, fun i hi => by rw [g 134 (by decide)]; exact t3 i hi⟩, hp.fr (f 4 (by decide)) (f 6 (by decide)) (f 8 (by decide)) (g 135 (by decide)) (g 136 (by decide)) (g 137 (by decide)), by rw [g 141 (by decide)]; exact hh, ⟨a1, by rw [f 19 (by decide)]; exact a2, fun i hi => by rw [g 143 (by decide)]; exact a3 i hi⟩, ⟨fun i hi => by rw [g 145 (by decide)]; exact w1 i hi, fun i hi hk => by rw [g 144 (by decide)]; exact w2 i hi hk⟩, ⟨Nat.zero_le _, by rw [up_eq, if_pos rfl], fun i hi => absurd hi (Nat.not_lt_zero i)⟩, h8⟩, fun i hi => by rw [g i (by omega), hm1, up_ne (by omega)], ?_⟩
  rw [ev_X8_unsound]
  simp only [e_X8_unsound_0, e_X8_unsound_1, e_X8_unsound_2, e_X8_unsound_5, e_X8_unsound_6, e_X8_unsound_9_i, e_X8_unsound_9_r, e_X8_unsound_10, e_X8_unsound_11, e_X8_unsound_12, e_X8_unsound_15, e_X8_unsound_16, eq_self, nI10, not_false_eq_true, not_true_eq_false, is2_i, is2_r, is2_n, nI_add, pk_mul, Nat.reduceAdd, Nat.reduceMul, ← hm1, s2]
theorem s_X8_seed {v : Int64} (h : RM tx p x n A kp K so sd m lg) : RM tx p x n A kp K so v (ai_up m 133 0 (nI 0)) (ai_upL lg 133 26 v) ∧ Ev o (d + 20) zX8_seed [.ref 133, .long v] (ai_w m lg) (some (.long sd)) (ai_w (ai_up m 133 0 (nI 0)) (ai_upL lg 133 26 v)) := by
  obtain ⟨h1, h2, h3, h4, h5, h6, h7⟩ := h.q (frT (m := m))
  refine ⟨⟨h1, h2, h3, h4, h5, h6, by simp [ai_upL, vp_updL]⟩, ?_⟩
  rw [ev_X8_seed]
  simp only [e_X8_seed_0, e_X8_seed_1, e_X8_seed_2, e_X8_seed_5, e_X8_seed_6, e_X8_seed_9_i, e_X8_seed_9_r, e_X8_seed_9_n, e_X8_seed_10, e_X8_seed_11, e_X8_seed_12, e_X8_seed_15, e_X8_seed_16, eq_self, nI10, not_false_eq_true, not_true_eq_false, is2_i, is2_r, is2_n, nI_add, pk_mul, Nat.reduceAdd, Nat.reduceMul, h7]
theorem s_X8_soundB (h : RM tx p x n A kp K so sd m lg) (hb : ∀ r, Rn o (d + 20) zX8_sound 5 [.ref 133, .int k, .int k2, .int k3] [] (ai_w (ai_up m 133 0 (nI 0)) lg) r = Rn o (d + 20) zX8_sound 39 [.ref 133, .int k, .int k2, .int k3] [] (ai_w (ai_up m 133 0 (nI 0)) lg) r) (ea : aSound so k k2 k3 = -2) (eu : uSound so k k2 k3 = so) : ∃ m', RM tx p x n A kp K (uSound so k k2 k3) sd m' lg ∧ FrK m m' ∧ Ev o (d + 20) zX8_sound [.ref 133, .int k, .int k2, .int k3] (ai_w m lg) (some (.int (aSound so k k2 k3))) (ai_w m' lg) := by
  rw [ea, eu]
  refine ⟨_, h.q frT, (frT (m := m)).k, ?_⟩
  rw [ev_X8_sound]
  simp only [e_X8_sound_0, e_X8_sound_1, e_X8_sound_2, e_X8_sound_6, e_X8_sound_7, e_X8_sound_8, e_X8_sound_14, e_X8_sound_17, e_X8_sound_18, e_X8_sound_19, e_X8_sound_20, e_X8_sound_26, e_X8_sound_29, e_X8_sound_30, e_X8_sound_31, e_X8_sound_32, e_X8_sound_36, e_X8_sound_39, e_X8_sound_41, e_X8_sound_42, e_X8_sound_43, e_X8_sound_46, e_X8_sound_48, e_X8_sound_51, e_X8_sound_53, e_X8_sound_54, e_X8_sound_55, e_X8_sound_58, e_X8_sound_59, e_X8_sound_62, e_X8_sound_63, e_X8_sound_64, e_X8_sound_65, e_X8_sound_68, e_X8_sound_69, e_X8_sound_72, e_X8_sound_73, e_X8_sound_74, e_X8_sound_75, e_X8_sound_78, e_X8_sound_79, e_X8_sound_82, e_X8_sound_83, e_X8_sound_84, e_X8_sound_85, e_X8_sound_86, e_X8_sound_89, e_X8_sound_90, e_X8_sound_91, e_X8_sound_94, e_X8_sound_95, e_X8_sound_98, eq_self, nI10, not_false_eq_true, not_true_eq_false, is2_i, is2_r, is2_n, nI_add, pk_mul, Nat.reduceAdd, Nat.reduceMul]
  rw [hb]
  simp only [e_X8_sound_0, e_X8_sound_1, e_X8_sound_2, e_X8_sound_5, e_X8_sound_6, e_X8_sound_7, e_X8_sound_8, e_X8_sound_14, e_X8_sound_17, e_X8_sound_18, e_X8_sound_19, e_X8_sound_20, e_X8_sound_26, e_X8_sound_29, e_X8_sound_30, e_X8_sound_31, e_X8_sound_32, e_X8_sound_36, e_X8_sound_39, e_X8_sound_41, e_X8_sound_42, e_X8_sound_43, e_X8_sound_46, e_X8_sound_48, e_X8_sound_51, e_X8_sound_53, e_X8_sound_54, e_X8_sound_55, e_X8_sound_58, e_X8_sound_59, e_X8_sound_62, e_X8_sound_63, e_X8_sound_64, e_X8_sound_65, e_X8_sound_68, e_X8_sound_69, e_X8_sound_72, e_X8_sound_73, e_X8_sound_74, e_X8_sound_75, e_X8_sound_78, e_X8_sound_79, e_X8_sound_82, e_X8_sound_83, e_X8_sound_84, e_X8_sound_85, e_X8_sound_86, e_X8_sound_89, e_X8_sound_90, e_X8_sound_91, e_X8_sound_94, e_X8_sound_95, e_X8_sound_98, eq_self, nI10, not_false_eq_true, not_true_eq_false, is2_i, is2_r, is2_n, nI_add, pk_mul, Nat.reduceAdd, Nat.reduceMul]
theorem s_X8_sound (h : RM tx p x n A kp K so sd m lg) : ∃ m', RM tx p x n A kp K (uSound so k k2 k3) sd m' lg ∧ FrK m m' ∧ Ev o (d + 20) zX8_sound [.ref 133, .int k, .int k2, .int k3] (ai_w m lg) (some (.int (aSound so k k2 k3))) (ai_w m' lg) := by
  have i1 := in_c (k := k) (a := 1) (b := 9) (u := 1) (v := 9) rfl rfl (by decide) (by decide)
  have i2 := in_z (k := k2) (n := 9) (v := 9) rfl (by decide)
  have i3 := in_z (k := k3) (n := 1) (v := 1) rfl (by decide)
  rcases sw_cases k 10 (by decide) with ⟨g, hg, rfl, hs, _⟩ | ⟨hs, _, hn⟩
  · by_cases g0 : g = 0
    · subst g0
      have e1 : decide (nI 1 ≤ nI 0 ∧ nI 0 ≤ nI 9) = false := by decide
      exact s_X8_soundB h (fun r => by simp only [e_X8_sound_0, e_X8_sound_1, e_X8_sound_2, e_X8_sound_5, e_X8_sound_6, e_X8_sound_7, e_X8_sound_8, e_X8_sound_14, e_X8_sound_17, e_X8_sound_18, e_X8_sound_19, e_X8_sound_20, e_X8_sound_26, e_X8_sound_29, e_X8_sound_30, e_X8_sound_31, e_X8_sound_32, e_X8_sound_36, e_X8_sound_41, e_X8_sound_42, e_X8_sound_43, e_X8_sound_46, e_X8_sound_48, e_X8_sound_51, e_X8_sound_53, e_X8_sound_54, e_X8_sound_55, e_X8_sound_58, e_X8_sound_59, e_X8_sound_62, e_X8_sound_63, e_X8_sound_64, e_X8_sound_65, e_X8_sound_68, e_X8_sound_69, e_X8_sound_72, e_X8_sound_73, e_X8_sound_74, e_X8_sound_75, e_X8_sound_78, e_X8_sound_79, e_X8_sound_82, e_X8_sound_83, e_X8_sound_84, e_X8_sound_85, e_X8_sound_86, e_X8_sound_89, e_X8_sound_90, e_X8_sound_91, e_X8_sound_94, e_X8_sound_95, e_X8_sound_98, eq_self, nI10, not_false_eq_true, not_true_eq_false, is2_i, is2_r, is2_n, nI_add, pk_mul, Nat.reduceAdd, Nat.reduceMul, e_X8_sound_11 (hE := s_X8_in), i1, e1, bI_z, if_true]) (by unfold aSound; rw [hs]) (by unfold uSound; rw [hs])
    · obtain ⟨g', rfl⟩ : ∃ g', g = g' + 1 := ⟨g - 1, by omega⟩
      have e1 : decide (nI 1 ≤ nI (g' + 1) ∧ nI (g' + 1) ≤ nI 9) = true := decide_eq_true ⟨nI_le (by omega) (by omega), nI_le (by omega) (by omega)⟩
      rw [e1] at i1
      rcases sw_cases k2 10 (by decide) with ⟨t, ht, rfl, hs2, hx2⟩ | ⟨hs2, hx2, hn2⟩
      · rcases sw_cases k3 2 (by decide) with ⟨q, hq, rfl, hs3, hx3⟩ | ⟨hs3, hx3, hn3⟩
        · by_cases h6 : so.1 < 6
          · have eu : uSound so (nI (g' + 1)) (nI t) (nI q) = (so.1 + 1, va_up so.2.1 so.1 (g' + 1), va_up so.2.2.1 so.1 t, va_up so.2.2.2 so.1 (decide (q = 1))) := by unfold uSound; rw [hs, hs2, hs3]; exact if_pos h6
            have ea : aSound so (nI (g' + 1)) (nI t) (nI q) = nI (so.1 + 1) := by unfold aSound; rw [hs, hs2, hs3]; exact if_pos h6
            rw [eu, ea]
            obtain ⟨⟨t1, t2, t3⟩, hp, hh, ⟨a1, a2, a3⟩, ⟨w1, w2⟩, ⟨s1, s2, s3⟩, h8⟩ := h.q (frT (m := m))
            obtain ⟨m1, hm1⟩ : ∃ m1, m1 = ai_up m 133 0 (nI 0) := ⟨_, rfl⟩
            rw [← hm1] at t2 t3 hp hh a2 a3 w1 w2 s2 s3
            obtain ⟨m2, hm2⟩ : ∃ m2, m2 = ai_up (ai_up (ai_up (ai_up m1 146 so.1 (nI (g' + 1))) 147 so.1 (nI t)) 148 so.1 (nI q)) 133 22 (nI (so.1 + 1)) := ⟨_, rfl⟩
            have g : ∀ i, i ≠ 133 → i ≠ 146 → i ≠ 147 → i ≠ 148 → m2 i = m1 i := fun i x1 x2 x3 x4 => by rw [hm2, up_ne x1, up_ne x4, up_ne x3, up_ne x2]
            have f : ∀ q, q ≠ 22 → m2 133 q = m1 133 q := fun q hq => by rw [hm2, up_eq, if_neg hq, up_ne (by decide), up_ne (by decide), up_ne (by decide)]
            have ne6 : ¬ nI so.1 = nI 6 := fun z => by have := (nI_eq (by omega) (by omega)).mp z; omega
            refine ⟨m2, ⟨⟨t1, by rw [f 2 (by decide)]; exact t2, fun i hi => by rw [g 134 (by decide) (by decide) (by decide) (by decide)]; exact t3 i hi⟩, hp.fr (f 4 (by decide)) (f 6 (by decide)) (f 8 (by decide)) (g 135 (by decide) (by decide) (by decide) (by decide)) (g 136 (by decide) (by decide) (by decide) (by decide)) (g 137 (by decide) (by decide) (by decide) (by decide)), by rw [g 141 (by decide) (by decide) (by decide) (by decide)]; exact hh, ⟨a1, by rw [f 19 (by decide)]; exact a2, fun i hi => by rw [g 143 (by decide) (by decide) (by decide) (by decide)]; exact a3 i hi⟩, ⟨fun i hi => by rw [g 145 (by decide) (by decide) (by decide) (by decide)]; exact w1 i hi, fun i hi hk => by rw [g 144 (by decide) (by decide) (by decide) (by decide)]; exact w2 i hi hk⟩, ⟨h6, by rw [hm2, up_eq, if_pos rfl], fun i hi => ?_⟩, h8⟩, fun i hi => by rw [g i (by omega) (by omega) (by omega) (by omega), hm1, up_ne (by omega)], ?_⟩
            · have b6 : m2 146 = ai_up m1 146 so.1 (nI (g' + 1)) 146 := by rw [hm2, up_ne (by decide), up_ne (by decide), up_ne (by decide)]
              have b7 : m2 147 = ai_up m1 147 so.1 (nI t) 147 := by
                rw [hm2, up_ne (by decide), up_ne (by decide)]
                funext i
                rw [up_eq, up_eq, up_ne (by decide)]
              have b8 : m2 148 = ai_up m1 148 so.1 (nI q) 148 := by
                rw [hm2, up_ne (by decide)]
                funext i
                rw [up_eq, up_eq, up_ne (by decide), up_ne (by decide)]
              rw [b6, b7, b8, up_eq, up_eq, up_eq]
              simp only [va_up]
              by_cases hi2 : i = so.1
              · rw [if_pos hi2, if_pos hi2, if_pos hi2, if_pos hi2, if_pos hi2, if_pos hi2]
                refine ⟨rfl, by omega, rfl, by omega, ?_⟩
                rcases (show q = 0 ∨ q = 1 by omega) with rfl | rfl <;> rfl
              · rw [if_neg hi2, if_neg hi2, if_neg hi2, if_neg hi2, if_neg hi2, if_neg hi2]
                exact s3 i (by simp only at hi; omega)
            · rw [ev_X8_sound, hm2]
              simp only [e_X8_sound_0, e_X8_sound_1, e_X8_sound_2, e_X8_sound_5, e_X8_sound_6, e_X8_sound_7, e_X8_sound_8, e_X8_sound_14, e_X8_sound_17, e_X8_sound_18, e_X8_sound_19, e_X8_sound_20, e_X8_sound_26, e_X8_sound_29, e_X8_sound_30, e_X8_sound_31, e_X8_sound_32, e_X8_sound_36, e_X8_sound_39, e_X8_sound_41, e_X8_sound_42, e_X8_sound_43, e_X8_sound_46, e_X8_sound_48, e_X8_sound_51, e_X8_sound_53, e_X8_sound_54, e_X8_sound_55, e_X8_sound_58, e_X8_sound_59, e_X8_sound_62, e_X8_sound_63, e_X8_sound_64, e_X8_sound_65, e_X8_sound_68, e_X8_sound_69, e_X8_sound_72, e_X8_sound_73, e_X8_sound_74, e_X8_sound_75, e_X8_sound_78, e_X8_sound_79, e_X8_sound_82, e_X8_sound_83, e_X8_sound_84, e_X8_sound_85, e_X8_sound_86, e_X8_sound_89, e_X8_sound_90, e_X8_sound_91, e_X8_sound_94, e_X8_sound_95, e_X8_sound_98, eq_self, nI10, not_false_eq_true, not_true_eq_false, is2_i, is2_r, is2_n, nI_add, pk_mul, Nat.reduceAdd, Nat.reduceMul, ← hm1, e_X8_sound_11 (hE := s_X8_in), e_X8_sound_23 (hE := s_X8_in), e_X8_sound_33 (hE := s_X8_in), i1, i2, i3, hx2, hx3, bI_z, Bool.true_eq_false, if_true, if_false, s2, ne6, m0_146, m0_147, m0_148, ml_146, ml_147, ml_148, h6, up_ne (show (133 : Nat) ≠ 146 by decide), up_ne (show (133 : Nat) ≠ 147 by decide), up_ne (show (133 : Nat) ≠ 148 by decide), up_eq]
          · have h6' : so.1 = 6 := by have := h.2.2.2.2.2.1.1; omega
            have eu : uSound so (nI (g' + 1)) (nI t) (nI q) = so := by unfold uSound; rw [hs, hs2, hs3]; exact if_neg h6
            have ea : aSound so (nI (g' + 1)) (nI t) (nI q) = -4 := by unfold aSound; rw [hs, hs2, hs3]; exact if_neg h6
            rw [eu, ea]
            have h' := h.q (frT (m := m))
            refine ⟨_, h', (frT (m := m)).k, ?_⟩
            have s2 := h'.2.2.2.2.2.1.2.1
            rw [ev_X8_sound]
            simp only [e_X8_sound_0, e_X8_sound_1, e_X8_sound_2, e_X8_sound_5, e_X8_sound_6, e_X8_sound_7, e_X8_sound_8, e_X8_sound_14, e_X8_sound_17, e_X8_sound_18, e_X8_sound_19, e_X8_sound_20, e_X8_sound_26, e_X8_sound_29, e_X8_sound_30, e_X8_sound_31, e_X8_sound_32, e_X8_sound_36, e_X8_sound_39, e_X8_sound_41, e_X8_sound_42, e_X8_sound_43, e_X8_sound_46, e_X8_sound_48, e_X8_sound_51, e_X8_sound_53, e_X8_sound_54, e_X8_sound_55, e_X8_sound_58, e_X8_sound_59, e_X8_sound_62, e_X8_sound_63, e_X8_sound_64, e_X8_sound_65, e_X8_sound_68, e_X8_sound_69, e_X8_sound_72, e_X8_sound_73, e_X8_sound_74, e_X8_sound_75, e_X8_sound_78, e_X8_sound_79, e_X8_sound_82, e_X8_sound_83, e_X8_sound_84, e_X8_sound_85, e_X8_sound_86, e_X8_sound_89, e_X8_sound_90, e_X8_sound_91, e_X8_sound_94, e_X8_sound_95, e_X8_sound_98, eq_self, nI10, not_false_eq_true, not_true_eq_false, is2_i, is2_r, is2_n, nI_add, pk_mul, Nat.reduceAdd, Nat.reduceMul, e_X8_sound_11 (hE := s_X8_in), e_X8_sound_23 (hE := s_X8_in), e_X8_sound_33 (hE := s_X8_in), i1, i2, i3, hx2, hx3, bI_z, Bool.true_eq_false, if_true, if_false, s2, h6']
        · exact s_X8_soundB h (fun r => by simp only [e_X8_sound_0, e_X8_sound_1, e_X8_sound_2, e_X8_sound_5, e_X8_sound_6, e_X8_sound_7, e_X8_sound_8, e_X8_sound_14, e_X8_sound_17, e_X8_sound_18, e_X8_sound_19, e_X8_sound_20, e_X8_sound_26, e_X8_sound_29, e_X8_sound_30, e_X8_sound_31, e_X8_sound_32, e_X8_sound_36, e_X8_sound_41, e_X8_sound_42, e_X8_sound_43, e_X8_sound_46, e_X8_sound_48, e_X8_sound_51, e_X8_sound_53, e_X8_sound_54, e_X8_sound_55, e_X8_sound_58, e_X8_sound_59, e_X8_sound_62, e_X8_sound_63, e_X8_sound_64, e_X8_sound_65, e_X8_sound_68, e_X8_sound_69, e_X8_sound_72, e_X8_sound_73, e_X8_sound_74, e_X8_sound_75, e_X8_sound_78, e_X8_sound_79, e_X8_sound_82, e_X8_sound_83, e_X8_sound_84, e_X8_sound_85, e_X8_sound_86, e_X8_sound_89, e_X8_sound_90, e_X8_sound_91, e_X8_sound_94, e_X8_sound_95, e_X8_sound_98, eq_self, nI10, not_false_eq_true, not_true_eq_false, is2_i, is2_r, is2_n, nI_add, pk_mul, Nat.reduceAdd, Nat.reduceMul, e_X8_sound_11 (hE := s_X8_in), e_X8_sound_23 (hE := s_X8_in), e_X8_sound_33 (hE := s_X8_in), i1, i2, i3, hx2, hx3, bI_z, Bool.true_eq_false, if_false]) (by unfold aSound; rw [hs, hs2, hs3]) (by unfold uSound; rw [hs, hs2, hs3])
      · exact s_X8_soundB h (fun r => by simp only [e_X8_sound_0, e_X8_sound_1, e_X8_sound_2, e_X8_sound_5, e_X8_sound_6, e_X8_sound_7, e_X8_sound_8, e_X8_sound_14, e_X8_sound_17, e_X8_sound_18, e_X8_sound_19, e_X8_sound_20, e_X8_sound_26, e_X8_sound_29, e_X8_sound_30, e_X8_sound_31, e_X8_sound_32, e_X8_sound_36, e_X8_sound_41, e_X8_sound_42, e_X8_sound_43, e_X8_sound_46, e_X8_sound_48, e_X8_sound_51, e_X8_sound_53, e_X8_sound_54, e_X8_sound_55, e_X8_sound_58, e_X8_sound_59, e_X8_sound_62, e_X8_sound_63, e_X8_sound_64, e_X8_sound_65, e_X8_sound_68, e_X8_sound_69, e_X8_sound_72, e_X8_sound_73, e_X8_sound_74, e_X8_sound_75, e_X8_sound_78, e_X8_sound_79, e_X8_sound_82, e_X8_sound_83, e_X8_sound_84, e_X8_sound_85, e_X8_sound_86, e_X8_sound_89, e_X8_sound_90, e_X8_sound_91, e_X8_sound_94, e_X8_sound_95, e_X8_sound_98, eq_self, nI10, not_false_eq_true, not_true_eq_false, is2_i, is2_r, is2_n, nI_add, pk_mul, Nat.reduceAdd, Nat.reduceMul, e_X8_sound_11 (hE := s_X8_in), e_X8_sound_23 (hE := s_X8_in), i1, i2, hx2, bI_z, Bool.true_eq_false, if_true, if_false]) (by unfold aSound; rw [hs, hs2]) (by unfold uSound; rw [hs, hs2])
  · have e1 : decide (nI 1 ≤ k ∧ k ≤ nI 9) = false := by
      refine decide_eq_false (fun ⟨z1, z2⟩ => ?_)
      rcases hn with hn | ⟨j, hj, hj2, rfl⟩
      · exact absurd (Int32.lt_trans hn (show nI 0 < nI 1 by decide)) (Int32.not_lt.mpr z1)
      · exact nI_ge (show 9 < j by omega) hj2 z2
    exact s_X8_soundB h (fun r => by simp only [e_X8_sound_0, e_X8_sound_1, e_X8_sound_2, e_X8_sound_5, e_X8_sound_6, e_X8_sound_7, e_X8_sound_8, e_X8_sound_14, e_X8_sound_17, e_X8_sound_18, e_X8_sound_19, e_X8_sound_20, e_X8_sound_26, e_X8_sound_29, e_X8_sound_30, e_X8_sound_31, e_X8_sound_32, e_X8_sound_36, e_X8_sound_41, e_X8_sound_42, e_X8_sound_43, e_X8_sound_46, e_X8_sound_48, e_X8_sound_51, e_X8_sound_53, e_X8_sound_54, e_X8_sound_55, e_X8_sound_58, e_X8_sound_59, e_X8_sound_62, e_X8_sound_63, e_X8_sound_64, e_X8_sound_65, e_X8_sound_68, e_X8_sound_69, e_X8_sound_72, e_X8_sound_73, e_X8_sound_74, e_X8_sound_75, e_X8_sound_78, e_X8_sound_79, e_X8_sound_82, e_X8_sound_83, e_X8_sound_84, e_X8_sound_85, e_X8_sound_86, e_X8_sound_89, e_X8_sound_90, e_X8_sound_91, e_X8_sound_94, e_X8_sound_95, e_X8_sound_98, eq_self, nI10, not_false_eq_true, not_true_eq_false, is2_i, is2_r, is2_n, nI_add, pk_mul, Nat.reduceAdd, Nat.reduceMul, e_X8_sound_11 (hE := s_X8_in), i1, e1, bI_z, if_true]) (by unfold aSound; rw [hs]) (by unfold uSound; rw [hs])
theorem s_X8_keepF (h : RM tx p x n A kp K so sd m lg) (hs : swN k 2 = none) : ∃ m', RM tx p x n A kp K so sd m' lg ∧ FrK m m' ∧ Ev o (d + 20) zX8_keep [.ref 133, .int k] (ai_w m lg) (some (.int (-1))) (ai_w m' lg) := by
  have ei := in_z (k := k) (n := 1) (v := 1) rfl (by decide)
  rcases sw_cases k 2 (by decide) with ⟨j, hj, rfl, hs2, hx⟩ | ⟨hs2, hx, hn⟩
  · rw [hs2] at hs; cases hs
  · refine ⟨_, h.q frT, (frT (m := m)).k, ?_⟩
    rw [ev_X8_keep]
    simp only [e_X8_keep_0, e_X8_keep_1, e_X8_keep_2, e_X8_keep_5, e_X8_keep_6, e_X8_keep_7, e_X8_keep_8, e_X8_keep_12, e_X8_keep_15, e_X8_keep_16, e_X8_keep_17, e_X8_keep_18, e_X8_keep_21, e_X8_keep_22, e_X8_keep_23, e_X8_keep_24, e_X8_keep_25_i, e_X8_keep_25_r, e_X8_keep_25_n, e_X8_keep_27, e_X8_keep_29, e_X8_keep_32, e_X8_keep_33, e_X8_keep_36, e_X8_keep_38, e_X8_keep_39, e_X8_keep_40, e_X8_keep_41, e_X8_keep_42, e_X8_keep_43, e_X8_keep_46, e_X8_keep_47, e_X8_keep_48, e_X8_keep_49_i, e_X8_keep_49_r, e_X8_keep_49_n, e_X8_keep_52, e_X8_keep_55, e_X8_keep_56, e_X8_keep_59, e_X8_keep_61, e_X8_keep_62, eq_self, nI10, not_false_eq_true, not_true_eq_false, is2_i, is2_r, is2_n, nI_add, pk_mul, Nat.reduceAdd, Nat.reduceMul, e_X8_keep_9 (hE := s_X8_in), ei, hx, bI_z, if_false]
theorem s_X8_keepT {j : Nat} (hj : j < 2) (h : RM tx p x n A kp K so sd m lg) : ∃ m', RM tx p x n A (va_up kp j true) (va_up K j x) so sd m' lg ∧ FrK m m' ∧ Ev o (d + 20) zX8_keep [.ref 133, .int (nI j)] (ai_w m lg) (some (.int (nI x.2.2.2.2.2))) (ai_w m' lg) := by
  have ei := in_z (k := nI j) (n := 1) (v := 1) rfl (by decide)
  rw [ix_nI hj (by decide)] at ei
  obtain ⟨⟨t1, t2, t3⟩, hp, hh, ⟨a1, a2, a3⟩, ⟨w1, w2⟩, ⟨s1, s2, s3⟩, h8⟩ := h.q (frT (m := m))
  obtain ⟨m1, hm1⟩ : ∃ m1, m1 = ai_up m 133 0 (nI 0) := ⟨_, rfl⟩
  rw [← hm1] at t2 t3 hp hh a2 a3 w1 w2 s2 s3
  obtain ⟨m2, hm2⟩ : ∃ m2, m2 = ai_up m1 145 j (nI 1) := ⟨_, rfl⟩
  have nb : vp_nar .boolean (nI 1) = nI 1 := nar_bI (b := true)
  have lp : ∀ (i c : Nat), c + i = 24 → ∀ r, Rn o (d + 20) zX8_keep 26 [.ref 133, .int (nI j), .int (nI c)] [] (ai_w (cpS m2 141 0 144 (24 * j) c) lg) r = Rn o (d + 20) zX8_keep 55 [.ref 133, .int (nI j), .int (nI 24)] [] (ai_w (cpS m2 141 0 144 (24 * j) 24) lg) r := by
    intro i
    induction i with
    | zero =>
      intro c hc r
      have : c = 24 := by omega
      subst this
      rw [e_X8_keep_26]
      simp only [e_X8_keep_0, e_X8_keep_1, e_X8_keep_2, e_X8_keep_5, e_X8_keep_6, e_X8_keep_7, e_X8_keep_8, e_X8_keep_12, e_X8_keep_15, e_X8_keep_16, e_X8_keep_17, e_X8_keep_18, e_X8_keep_21, e_X8_keep_22, e_X8_keep_23, e_X8_keep_24, e_X8_keep_25_i, e_X8_keep_25_r, e_X8_keep_25_n, e_X8_keep_27, e_X8_keep_29, e_X8_keep_32, e_X8_keep_33, e_X8_keep_36, e_X8_keep_38, e_X8_keep_39, e_X8_keep_40, e_X8_keep_41, e_X8_keep_42, e_X8_keep_43, e_X8_keep_46, e_X8_keep_47, e_X8_keep_48, e_X8_keep_49_i, e_X8_keep_49_r, e_X8_keep_49_n, e_X8_keep_52, e_X8_keep_56, e_X8_keep_59, e_X8_keep_61, e_X8_keep_62, eq_self, nI10, not_false_eq_true, not_true_eq_false, is2_i, is2_r, is2_n, nI_add, pk_mul, Nat.reduceAdd, Nat.reduceMul, Int32.le_refl, if_true]
    | succ i ih =>
      intro c hc r
      have e1 : ¬ nI 24 ≤ nI c := nI_ge (by omega) (by omega)
      have i1 : c < 24 := by omega
      have i2 : 24 * j + c < 48 := by omega
      have st := cpS_s (m := m2) (s := 141) (sp := 0) (t := 144) (tp := 24 * j) (k := c)
      rw [Nat.zero_add] at st
      rw [e_X8_keep_26, ← ih (c + 1) (by omega) r]
      simp only [e_X8_keep_0, e_X8_keep_1, e_X8_keep_2, e_X8_keep_5, e_X8_keep_6, e_X8_keep_7, e_X8_keep_8, e_X8_keep_12, e_X8_keep_15, e_X8_keep_16, e_X8_keep_17, e_X8_keep_18, e_X8_keep_21, e_X8_keep_22, e_X8_keep_23, e_X8_keep_24, e_X8_keep_25_i, e_X8_keep_25_r, e_X8_keep_25_n, e_X8_keep_27, e_X8_keep_29, e_X8_keep_32, e_X8_keep_33, e_X8_keep_36, e_X8_keep_38, e_X8_keep_39, e_X8_keep_40, e_X8_keep_41, e_X8_keep_42, e_X8_keep_43, e_X8_keep_46, e_X8_keep_47, e_X8_keep_48, e_X8_keep_49_i, e_X8_keep_49_r, e_X8_keep_49_n, e_X8_keep_52, e_X8_keep_56, e_X8_keep_59, e_X8_keep_61, e_X8_keep_62, eq_self, nI10, not_false_eq_true, not_true_eq_false, is2_i, is2_r, is2_n, nI_add, pk_mul, Nat.reduceAdd, Nat.reduceMul, e1, if_false, m0_144, ml_144, m0_141, ml_141, i1, i2, cpS_ne (show (141 : Nat) ≠ 144 by decide), st]
  obtain ⟨m3, hm3⟩ : ∃ m3, m3 = cpS m2 141 0 144 (24 * j) 24 := ⟨_, rfl⟩
  have l2 := fun r => lp 24 0 (by omega) r
  rw [cpS_0, ← hm3] at l2
  have g : ∀ i, i ≠ 144 → i ≠ 145 → m3 i = m1 i := fun i x1 x2 => by rw [hm3, cpS_ne x1, hm2, up_ne x2]
  have g3 := g 133 (by decide) (by decide)
  refine ⟨m3, ⟨⟨t1, by rw [g3]; exact t2, fun i hi => by rw [g 134 (by decide) (by decide)]; exact t3 i hi⟩, hp.fr (by rw [g3]) (by rw [g3]) (by rw [g3]) (g 135 (by decide) (by decide)) (g 136 (by decide) (by decide)) (g 137 (by decide) (by decide)), by rw [g 141 (by decide) (by decide)]; exact hh, ⟨a1, by rw [g3]; exact a2, fun i hi => by rw [g 143 (by decide) (by decide)]; exact a3 i hi⟩, ⟨fun i hi => ?_, fun i hi hk => ?_⟩, ⟨s1, by rw [g3]; exact s2, fun i hi => by rw [g 146 (by decide) (by decide), g 147 (by decide) (by decide), g 148 (by decide) (by decide)]; exact s3 i hi⟩, h8⟩, fun i hi => by rw [g i (by omega) (by omega), hm1, up_ne (by omega)], ?_⟩
  · rw [hm3, cpS_ne (by decide), hm2, up_eq]
    simp only [va_up]
    by_cases q : i = j
    · rw [if_pos q, if_pos q]; rfl
    · rw [if_neg q, if_neg q]; exact w1 i hi
  · simp only [va_up] at hk ⊢
    by_cases q : i = j
    · subst q
      rw [if_pos rfl]
      refine hh.cg hp.1 (fun c hc => ?_)
      show m3 144 (24 * i + c) = m1 141 c
      rw [hm3, cpS_in hc, Nat.zero_add, hm2, up_ne (by decide)]
    · rw [if_neg q] at hk ⊢
      refine (w2 i hi hk).cg hp.1 (fun c hc => ?_)
      show m3 144 (24 * i + c) = m1 144 (24 * i + c)
      rw [hm3, cpS_out (by omega), hm2, up_ne (by decide)]
  · have j2 : j < 2 := hj
    have r23 : m3 141 23 = nI x.2.2.2.2.2 := by rw [g 141 (by decide) (by decide)]; exact hh.2.2.2.2.2.2
    rw [ev_X8_keep]
    simp only [e_X8_keep_0, e_X8_keep_1, e_X8_keep_2, e_X8_keep_5, e_X8_keep_6, e_X8_keep_7, e_X8_keep_8, e_X8_keep_12, e_X8_keep_15, e_X8_keep_16, e_X8_keep_17, e_X8_keep_18, e_X8_keep_21, e_X8_keep_22, e_X8_keep_23, e_X8_keep_24, e_X8_keep_25_i, e_X8_keep_25_r, e_X8_keep_25_n, e_X8_keep_27, e_X8_keep_29, e_X8_keep_32, e_X8_keep_33, e_X8_keep_36, e_X8_keep_38, e_X8_keep_39, e_X8_keep_40, e_X8_keep_41, e_X8_keep_42, e_X8_keep_43, e_X8_keep_46, e_X8_keep_47, e_X8_keep_48, e_X8_keep_49_i, e_X8_keep_49_r, e_X8_keep_49_n, e_X8_keep_52, e_X8_keep_55, e_X8_keep_56, e_X8_keep_59, e_X8_keep_61, e_X8_keep_62, eq_self, nI10, not_false_eq_true, not_true_eq_false, is2_i, is2_r, is2_n, nI_add, pk_mul, Nat.reduceAdd, Nat.reduceMul, ← hm1, e_X8_keep_9 (hE := s_X8_in), ei, bI_z, Bool.true_eq_false, if_true, m1_145, ml_145, j2, nb, ← hm2]
    refine Eq.mpr (l2 _) ?_
    simp only [e_X8_keep_0, e_X8_keep_1, e_X8_keep_2, e_X8_keep_5, e_X8_keep_6, e_X8_keep_7, e_X8_keep_8, e_X8_keep_12, e_X8_keep_15, e_X8_keep_16, e_X8_keep_17, e_X8_keep_18, e_X8_keep_21, e_X8_keep_22, e_X8_keep_23, e_X8_keep_24, e_X8_keep_25_i, e_X8_keep_25_r, e_X8_keep_25_n, e_X8_keep_27, e_X8_keep_29, e_X8_keep_32, e_X8_keep_33, e_X8_keep_36, e_X8_keep_38, e_X8_keep_39, e_X8_keep_40, e_X8_keep_41, e_X8_keep_42, e_X8_keep_43, e_X8_keep_46, e_X8_keep_47, e_X8_keep_48, e_X8_keep_49_i, e_X8_keep_49_r, e_X8_keep_49_n, e_X8_keep_52, e_X8_keep_55, e_X8_keep_56, e_X8_keep_59, e_X8_keep_61, e_X8_keep_62, eq_self, nI10, not_false_eq_true, not_true_eq_false, is2_i, is2_r, is2_n, nI_add, pk_mul, Nat.reduceAdd, Nat.reduceMul, m0_141, ml_141, show (23 : Nat) < 24 by decide, r23]
theorem s_X8_againF (h : RM tx p x n A kp K so sd m lg) (hs : swN k 2 = none) : ∃ m', RM tx p x n A kp K so sd m' lg ∧ FrK m m' ∧ Ev o (d + 20) zX8_again [.ref 133, .int k] (ai_w m lg) (some (.int (-1))) (ai_w m' lg) := by
  have ei := in_z (k := k) (n := 1) (v := 1) rfl (by decide)
  rcases sw_cases k 2 (by decide) with ⟨j, hj, rfl, hs2, hx⟩ | ⟨hs2, hx, hn⟩
  · rw [hs2] at hs; cases hs
  · refine ⟨_, h.q frT, (frT (m := m)).k, ?_⟩
    rw [ev_X8_again]
    simp only [e_X8_again_0, e_X8_again_1, e_X8_again_2, e_X8_again_5, e_X8_again_6, e_X8_again_7, e_X8_again_8, e_X8_again_12, e_X8_again_15, e_X8_again_16, e_X8_again_17, e_X8_again_18, e_X8_again_21, e_X8_again_22, e_X8_again_23, e_X8_again_26, e_X8_again_28, e_X8_again_29, e_X8_again_30_i, e_X8_again_30_r, e_X8_again_30_n, e_X8_again_32, e_X8_again_34, e_X8_again_37, e_X8_again_38, e_X8_again_41, e_X8_again_42, e_X8_again_43, e_X8_again_46, e_X8_again_48, e_X8_again_49, e_X8_again_50, e_X8_again_51, e_X8_again_52, e_X8_again_53, e_X8_again_54_i, e_X8_again_54_r, e_X8_again_54_n, e_X8_again_57, e_X8_again_60, e_X8_again_61, e_X8_again_62, e_X8_again_65, e_X8_again_66, e_X8_again_69, e_X8_again_71, e_X8_again_72, eq_self, nI10, not_false_eq_true, not_true_eq_false, is2_i, is2_r, is2_n, nI_add, pk_mul, Nat.reduceAdd, Nat.reduceMul, e_X8_again_9 (hE := s_X8_in), ei, hx, bI_z, if_false]
theorem s_X8_againL {j : Nat} (hj : j < 2) (h : RM tx p x n A kp K so sd m lg) (hk : kp j = false) : ∃ m', RM tx p x n A kp K so sd m' lg ∧ FrK m m' ∧ Ev o (d + 20) zX8_again [.ref 133, .int (nI j)] (ai_w m lg) (some (.int (-3))) (ai_w m' lg) := by
  have ei := in_z (k := nI j) (n := 1) (v := 1) rfl (by decide)
  rw [ix_nI hj (by decide)] at ei
  have h' := h.q (frT (m := m))
  have j2 : j < 2 := hj
  refine ⟨_, h', (frT (m := m)).k, ?_⟩
  have w1 := h'.2.2.2.2.1.1 j hj
  rw [ev_X8_again]
  simp only [e_X8_again_0, e_X8_again_1, e_X8_again_2, e_X8_again_5, e_X8_again_6, e_X8_again_7, e_X8_again_8, e_X8_again_12, e_X8_again_15, e_X8_again_16, e_X8_again_17, e_X8_again_18, e_X8_again_21, e_X8_again_22, e_X8_again_23, e_X8_again_26, e_X8_again_28, e_X8_again_29, e_X8_again_30_i, e_X8_again_30_r, e_X8_again_30_n, e_X8_again_32, e_X8_again_34, e_X8_again_37, e_X8_again_38, e_X8_again_41, e_X8_again_42, e_X8_again_43, e_X8_again_46, e_X8_again_48, e_X8_again_49, e_X8_again_50, e_X8_again_51, e_X8_again_52, e_X8_again_53, e_X8_again_54_i, e_X8_again_54_r, e_X8_again_54_n, e_X8_again_57, e_X8_again_60, e_X8_again_61, e_X8_again_62, e_X8_again_65, e_X8_again_66, e_X8_again_69, e_X8_again_71, e_X8_again_72, eq_self, nI10, not_false_eq_true, not_true_eq_false, is2_i, is2_r, is2_n, nI_add, pk_mul, Nat.reduceAdd, Nat.reduceMul, e_X8_again_9 (hE := s_X8_in), ei, bI_z, Bool.true_eq_false, if_true, if_false, m1_145, ml_145, j2, w1, hk]
theorem s_X8_againT {j : Nat} (hj : j < 2) (h : RM tx p x n A kp K so sd m lg) (hk : kp j = true) : ∃ m', RM tx p (K j) 0 A kp K so sd m' lg ∧ FrK m m' ∧ Ev o (d + 20) zX8_again [.ref 133, .int (nI j)] (ai_w m lg) (some (.int (nI (K j).2.2.2.2.2))) (ai_w m' lg) := by
  have ei := in_z (k := nI j) (n := 1) (v := 1) rfl (by decide)
  rw [ix_nI hj (by decide)] at ei
  obtain ⟨⟨t1, t2, t3⟩, hp, hh, ⟨a1, a2, a3⟩, ⟨w1, w2⟩, ⟨s1, s2, s3⟩, h8⟩ := h.q (frT (m := m))
  obtain ⟨m1, hm1⟩ : ∃ m1, m1 = ai_up m 133 0 (nI 0) := ⟨_, rfl⟩
  rw [← hm1] at t2 t3 hp hh a2 a3 w1 w2 s2 s3
  have lp : ∀ (i c : Nat), c + i = 24 → ∀ r, Rn o (d + 20) zX8_again 31 [.ref 133, .int (nI j), .int (nI c)] [] (ai_w (cpS m1 144 (24 * j) 141 0 c) lg) r = Rn o (d + 20) zX8_again 60 [.ref 133, .int (nI j), .int (nI 24)] [] (ai_w (cpS m1 144 (24 * j) 141 0 24) lg) r := by
    intro i
    induction i with
    | zero =>
      intro c hc r
      have : c = 24 := by omega
      subst this
      rw [e_X8_again_31]
      simp only [e_X8_again_0, e_X8_again_1, e_X8_again_2, e_X8_again_5, e_X8_again_6, e_X8_again_7, e_X8_again_8, e_X8_again_12, e_X8_again_15, e_X8_again_16, e_X8_again_17, e_X8_again_18, e_X8_again_21, e_X8_again_22, e_X8_again_23, e_X8_again_26, e_X8_again_28, e_X8_again_29, e_X8_again_30_i, e_X8_again_30_r, e_X8_again_30_n, e_X8_again_32, e_X8_again_34, e_X8_again_37, e_X8_again_38, e_X8_again_41, e_X8_again_42, e_X8_again_43, e_X8_again_46, e_X8_again_48, e_X8_again_49, e_X8_again_50, e_X8_again_51, e_X8_again_52, e_X8_again_53, e_X8_again_54_i, e_X8_again_54_r, e_X8_again_54_n, e_X8_again_57, e_X8_again_61, e_X8_again_62, e_X8_again_65, e_X8_again_66, e_X8_again_69, e_X8_again_71, e_X8_again_72, eq_self, nI10, not_false_eq_true, not_true_eq_false, is2_i, is2_r, is2_n, nI_add, pk_mul, Nat.reduceAdd, Nat.reduceMul, Int32.le_refl, if_true]
    | succ i ih =>
      intro c hc r
      have e1 : ¬ nI 24 ≤ nI c := nI_ge (by omega) (by omega)
      have i1 : c < 24 := by omega
      have i2 : 24 * j + c < 48 := by omega
      have st := cpS_s (m := m1) (s := 144) (sp := 24 * j) (t := 141) (tp := 0) (k := c)
      rw [Nat.zero_add] at st
      rw [e_X8_again_31, ← ih (c + 1) (by omega) r]
      simp only [e_X8_again_0, e_X8_again_1, e_X8_again_2, e_X8_again_5, e_X8_again_6, e_X8_again_7, e_X8_again_8, e_X8_again_12, e_X8_again_15, e_X8_again_16, e_X8_again_17, e_X8_again_18, e_X8_again_21, e_X8_again_22, e_X8_again_23, e_X8_again_26, e_X8_again_28, e_X8_again_29, e_X8_again_30_i, e_X8_again_30_r, e_X8_again_30_n, e_X8_again_32, e_X8_again_34, e_X8_again_37, e_X8_again_38, e_X8_again_41, e_X8_again_42, e_X8_again_43, e_X8_again_46, e_X8_again_48, e_X8_again_49, e_X8_again_50, e_X8_again_51, e_X8_again_52, e_X8_again_53, e_X8_again_54_i, e_X8_again_54_r, e_X8_again_54_n, e_X8_again_57, e_X8_again_61, e_X8_again_62, e_X8_again_65, e_X8_again_66, e_X8_again_69, e_X8_again_71, e_X8_again_72, eq_self, nI10, not_false_eq_true, not_true_eq_false, is2_i, is2_r, is2_n, nI_add, pk_mul, Nat.reduceAdd, Nat.reduceMul, e1, if_false, m0_144, ml_144, m0_141, ml_141, i1, i2, cpS_ne (show (144 : Nat) ≠ 141 by decide), st]
  obtain ⟨m2, hm2⟩ : ∃ m2, m2 = cpS m1 144 (24 * j) 141 0 24 := ⟨_, rfl⟩
  have l2 := fun r => lp 24 0 (by omega) r
  rw [cpS_0, ← hm2] at l2
  obtain ⟨m3, hm3⟩ : ∃ m3, m3 = ai_up m2 133 19 (nI 0) := ⟨_, rfl⟩
  have g : ∀ i, i ≠ 133 → i ≠ 141 → m3 i = m1 i := fun i x1 x2 => by rw [hm3, up_ne x1, hm2, cpS_ne x2]
  have f : ∀ q, q ≠ 19 → m3 133 q = m1 133 q := fun q hq => by rw [hm3, up_eq, if_neg hq, hm2, cpS_ne (by decide)]
  have hK : RG p (K j) (m3 141) := by
    refine (w2 j hj hk).cg hp.1 (fun c hc => ?_)
    show m3 141 c = m1 144 (24 * j + c)
    have := cpS_in (m := m1) (s := 144) (sp := 24 * j) (t := 141) (tp := 0) hc
    rw [Nat.zero_add, ← hm2] at this
    rw [hm3, up_ne (by decide)]
    exact this
  refine ⟨m3, ⟨⟨t1, by rw [f 2 (by decide)]; exact t2, fun i hi => by rw [g 134 (by decide) (by decide)]; exact t3 i hi⟩, hp.fr (f 4 (by decide)) (f 6 (by decide)) (f 8 (by decide)) (g 135 (by decide) (by decide)) (g 136 (by decide) (by decide)) (g 137 (by decide) (by decide)), hK, ⟨Nat.zero_le _, by rw [hm3, up_eq, if_pos rfl], fun i hi => absurd hi (Nat.not_lt_zero i)⟩, ⟨fun i hi => by rw [g 145 (by decide) (by decide)]; exact w1 i hi, fun i hi hk => by rw [g 144 (by decide) (by decide)]; exact w2 i hi hk⟩, ⟨s1, by rw [f 22 (by decide)]; exact s2, fun i hi => by rw [g 146 (by decide) (by decide), g 147 (by decide) (by decide), g 148 (by decide) (by decide)]; exact s3 i hi⟩, h8⟩, fun i hi => by rw [g i (by omega) (by omega), hm1, up_ne (by omega)], ?_⟩
  have j2 : j < 2 := hj
  have r23 := hK.2.2.2.2.2.2
  rw [ev_X8_again]
  simp only [e_X8_again_0, e_X8_again_1, e_X8_again_2, e_X8_again_5, e_X8_again_6, e_X8_again_7, e_X8_again_8, e_X8_again_12, e_X8_again_15, e_X8_again_16, e_X8_again_17, e_X8_again_18, e_X8_again_21, e_X8_again_22, e_X8_again_23, e_X8_again_26, e_X8_again_28, e_X8_again_29, e_X8_again_30_i, e_X8_again_30_r, e_X8_again_30_n, e_X8_again_32, e_X8_again_34, e_X8_again_37, e_X8_again_38, e_X8_again_41, e_X8_again_42, e_X8_again_43, e_X8_again_46, e_X8_again_48, e_X8_again_49, e_X8_again_50, e_X8_again_51, e_X8_again_52, e_X8_again_53, e_X8_again_54_i, e_X8_again_54_r, e_X8_again_54_n, e_X8_again_57, e_X8_again_60, e_X8_again_61, e_X8_again_62, e_X8_again_65, e_X8_again_66, e_X8_again_69, e_X8_again_71, e_X8_again_72, eq_self, nI10, not_false_eq_true, not_true_eq_false, is2_i, is2_r, is2_n, nI_add, pk_mul, Nat.reduceAdd, Nat.reduceMul, ← hm1, e_X8_again_9 (hE := s_X8_in), ei, bI_z, Bool.true_eq_false, if_true, m1_145, ml_145, j2, w1 j hj, hk]
  refine Eq.mpr (l2 _) ?_
  simp only [e_X8_again_0, e_X8_again_1, e_X8_again_2, e_X8_again_5, e_X8_again_6, e_X8_again_7, e_X8_again_8, e_X8_again_12, e_X8_again_15, e_X8_again_16, e_X8_again_17, e_X8_again_18, e_X8_again_21, e_X8_again_22, e_X8_again_23, e_X8_again_26, e_X8_again_28, e_X8_again_29, e_X8_again_30_i, e_X8_again_30_r, e_X8_again_30_n, e_X8_again_32, e_X8_again_34, e_X8_again_37, e_X8_again_38, e_X8_again_41, e_X8_again_42, e_X8_again_43, e_X8_again_46, e_X8_again_48, e_X8_again_49, e_X8_again_50, e_X8_again_51, e_X8_again_52, e_X8_again_53, e_X8_again_54_i, e_X8_again_54_r, e_X8_again_54_n, e_X8_again_57, e_X8_again_60, e_X8_again_61, e_X8_again_62, e_X8_again_65, e_X8_again_66, e_X8_again_69, e_X8_again_71, e_X8_again_72, eq_self, nI10, not_false_eq_true, not_true_eq_false, is2_i, is2_r, is2_n, nI_add, pk_mul, Nat.reduceAdd, Nat.reduceMul, m0_141, ml_141, show (23 : Nat) < 24 by decide, ← hm3, r23]
theorem s_X8_begin (hp : ptOk p) (hh : RG p x (m 141)) : ∃ m', RG p x (m' 142) ∧ FrS (fun i => i = 142) m m' ∧ Ev o d zX8_begin [.ref 133] (ai_w m lg) none (ai_w m' lg) := by
  have lp : ∀ (i c : Nat), c + i = 24 → ∀ r, Rn o d zX8_begin 2 [.ref 133, .int (nI c)] [] (ai_w (cpS m 141 0 142 0 c) lg) r = Rn o d zX8_begin 26 [.ref 133, .int (nI 24)] [] (ai_w (cpS m 141 0 142 0 24) lg) r := by
    intro i
    induction i with
    | zero =>
      intro c hc r
      have : c = 24 := by omega
      subst this
      rw [e_X8_begin_2]
      simp only [e_X8_begin_0, e_X8_begin_1_i, e_X8_begin_1_r, e_X8_begin_3, e_X8_begin_5, e_X8_begin_8, e_X8_begin_9, e_X8_begin_12, e_X8_begin_13, e_X8_begin_14, e_X8_begin_17, e_X8_begin_18, e_X8_begin_19, e_X8_begin_20_i, e_X8_begin_20_r, e_X8_begin_23, eq_self, nI10, not_false_eq_true, not_true_eq_false, is2_i, is2_r, is2_n, nI_add, pk_mul, Nat.reduceAdd, Nat.reduceMul, Int32.le_refl, if_true]
    | succ i ih =>
      intro c hc r
      have e1 : ¬ nI 24 ≤ nI c := nI_ge (by omega) (by omega)
      have i1 : c < 24 := by omega
      have st := cpS_s (m := m) (s := 141) (sp := 0) (t := 142) (tp := 0) (k := c)
      rw [Nat.zero_add] at st
      rw [e_X8_begin_2, ← ih (c + 1) (by omega) r]
      simp only [e_X8_begin_0, e_X8_begin_1_i, e_X8_begin_1_r, e_X8_begin_3, e_X8_begin_5, e_X8_begin_8, e_X8_begin_9, e_X8_begin_12, e_X8_begin_13, e_X8_begin_14, e_X8_begin_17, e_X8_begin_18, e_X8_begin_19, e_X8_begin_20_i, e_X8_begin_20_r, e_X8_begin_23, eq_self, nI10, not_false_eq_true, not_true_eq_false, is2_i, is2_r, is2_n, nI_add, pk_mul, Nat.reduceAdd, Nat.reduceMul, e1, if_false, m0_142, ml_142, m0_141, ml_141, i1, cpS_ne (show (141 : Nat) ≠ 142 by decide), st]
  have l2 := fun r => lp 24 0 (by omega) r
  rw [cpS_0] at l2
  refine ⟨cpS m 141 0 142 0 24, hh.cg hp (fun c hc => ?_), fun i hi => cpS_ne hi, ?_⟩
  · have := cpS_in (m := m) (s := 141) (sp := 0) (t := 142) (tp := 0) hc
    rw [Nat.zero_add] at this
    exact this
  · rw [ev_X8_begin]
    simp only [e_X8_begin_0, e_X8_begin_1_i, e_X8_begin_1_r, e_X8_begin_3, e_X8_begin_5, e_X8_begin_8, e_X8_begin_9, e_X8_begin_12, e_X8_begin_13, e_X8_begin_14, e_X8_begin_17, e_X8_begin_18, e_X8_begin_19, e_X8_begin_20_i, e_X8_begin_20_r, e_X8_begin_23, e_X8_begin_26, eq_self, nI10, not_false_eq_true, not_true_eq_false, is2_i, is2_r, is2_n, nI_add, pk_mul, Nat.reduceAdd, Nat.reduceMul]
    refine Eq.mpr (l2 _) ?_
    simp only [e_X8_begin_0, e_X8_begin_1_i, e_X8_begin_1_r, e_X8_begin_3, e_X8_begin_5, e_X8_begin_8, e_X8_begin_9, e_X8_begin_12, e_X8_begin_13, e_X8_begin_14, e_X8_begin_17, e_X8_begin_18, e_X8_begin_19, e_X8_begin_20_i, e_X8_begin_20_r, e_X8_begin_23, e_X8_begin_26, eq_self, nI10, not_false_eq_true, not_true_eq_false, is2_i, is2_r, is2_n, nI_add, pk_mul, Nat.reduceAdd, Nat.reduceMul]
theorem lp_X8_goNights {N : Nat} (hN : N < 2 ^ 31) : ∀ (j i : Nat) (m : Nat → Nat → Int32) (y : HS), i + j = N → RMp p m → m 133 28 = nI 15 → m 133 27 = nI 0 → RG p y (m 142) → y.2.2.2.2.2 + j ≤ 1000 → ∃ m', RG p (pNs p j y) (m' 142) ∧ FrS (fun i => i = 142) m m' ∧ ∀ r, Rn o (d + 6) zX8_goNights 10 [.ref 133, .int (nI N), .int (nI i)] [] (ai_w m lg) r = Rn o (d + 6) zX8_goNights 30 [.ref 133, .int (nI N), .int (nI N)] [] (ai_w m' lg) r := by
  intro j
  induction j with
  | zero =>
    intro i m y hk hp hC hE hh hng
    have : i = N := by omega
    subst this
    refine ⟨m, hh, FrS.rfl', fun r => ?_⟩
    rw [e_X8_goNights_10]
    simp only [e_X8_goNights_0, e_X8_goNights_4, e_X8_goNights_8, e_X8_goNights_9_i, e_X8_goNights_9_r, e_X8_goNights_9_n, e_X8_goNights_11, e_X8_goNights_12, e_X8_goNights_15, e_X8_goNights_16, e_X8_goNights_17, e_X8_goNights_23, e_X8_goNights_24_i, e_X8_goNights_24_r, e_X8_goNights_24_n, e_X8_goNights_27, eq_self, nI10, not_false_eq_true, not_true_eq_false, is2_i, is2_r, is2_n, nI_add, pk_mul, Nat.reduceAdd, Nat.reduceMul, Int32.le_refl, if_true]
  | succ j ih =>
    intro i m y hk hp hC hE hh hng
    have hn : ¬ nI N ≤ nI i := nI_ge (by omega) hN
    obtain ⟨m1, f1, f2, f3⟩ := s_X8_goNight (o := o) (d := d) (lg := lg) (Or.inr rfl) hp hC hE hh (by omega)
    obtain ⟨m', g1, g2, g3⟩ := ih (i + 1) m1 _ (by omega) (hp.frP (Or.inr rfl) f2) (by rw [f2 133 (by decide)]; exact hC) (by rw [f2 133 (by decide)]; exact hE) f1 (by rw [pNight_ng]; omega)
    refine ⟨m', g1, f2.trans g2, fun r => ?_⟩
    rw [e_X8_goNights_10, ← g3 r]
    simp only [e_X8_goNights_0, e_X8_goNights_4, e_X8_goNights_8, e_X8_goNights_9_i, e_X8_goNights_9_r, e_X8_goNights_9_n, e_X8_goNights_11, e_X8_goNights_12, e_X8_goNights_15, e_X8_goNights_16, e_X8_goNights_17, e_X8_goNights_23, e_X8_goNights_24_i, e_X8_goNights_24_r, e_X8_goNights_24_n, e_X8_goNights_27, eq_self, nI10, not_false_eq_true, not_true_eq_false, is2_i, is2_r, is2_n, nI_add, pk_mul, Nat.reduceAdd, Nat.reduceMul, hn, if_false, e_X8_goNights_20 (hE := f3)]
theorem s_X8_goNights {N : Nat} (hN : N < 2 ^ 31) (h : RM tx p x n A kp K so sd m lg) (hng : x.2.2.2.2.2 + N ≤ 1000) : ∃ m', RG p (pNs p N x) (m' 142) ∧ FrN m m' ∧ (m' 133 28 = nI 15 ∧ m' 133 27 = nI 0) ∧ Ev o (d + 7) zX8_goNights [.ref 133, .int (nI N)] (ai_w m lg) none (ai_w m' lg) := by
  have h1 := h.q (frPL (m := m))
  have r28 := pl28 (m := m)
  have r27 := pl27 (m := m)
  obtain ⟨m1, hm1⟩ : ∃ m1, m1 = ai_up (ai_up m 133 28 (nI 15)) 133 27 (nI 0) := ⟨_, rfl⟩
  have f1 : FrN m m1 := by rw [hm1]; exact frPL
  rw [← hm1] at h1 r28 r27
  obtain ⟨m2, b1, b2, b3⟩ := s_X8_begin (o := o) (d := d + 6) (lg := lg) h1.2.1.1 h1.2.2.1
  obtain ⟨m', g1, g2, g3⟩ := lp_X8_goNights (o := o) (d := d + 1) (lg := lg) hN N 0 m2 x (by omega) (h1.2.1.frP (Or.inr rfl) b2) (by rw [b2 133 (by decide)]; exact r28) (by rw [b2 133 (by decide)]; exact r27) b1 hng
  refine ⟨m', g1, (f1.trans (FrN.ofS b2)).trans (FrN.ofS g2), ⟨by rw [g2 133 (by decide), b2 133 (by decide)]; exact r28, by rw [g2 133 (by decide), b2 133 (by decide)]; exact r27⟩, ?_⟩
  rw [ev_X8_goNights]
  simp only [e_X8_goNights_0, e_X8_goNights_4, e_X8_goNights_8, e_X8_goNights_9_i, e_X8_goNights_9_r, e_X8_goNights_9_n, e_X8_goNights_11, e_X8_goNights_12, e_X8_goNights_15, e_X8_goNights_16, e_X8_goNights_17, e_X8_goNights_23, e_X8_goNights_24_i, e_X8_goNights_24_r, e_X8_goNights_24_n, e_X8_goNights_27, e_X8_goNights_30, eq_self, nI10, not_false_eq_true, not_true_eq_false, is2_i, is2_r, is2_n, nI_add, pk_mul, Nat.reduceAdd, Nat.reduceMul, e_X8_goNights_1 (hE := s_X8_plainly), ← hm1, e_X8_goNights_5 (hE := b3)]
  refine Eq.mpr (g3 _) ?_
  simp only [e_X8_goNights_0, e_X8_goNights_4, e_X8_goNights_8, e_X8_goNights_9_i, e_X8_goNights_9_r, e_X8_goNights_9_n, e_X8_goNights_11, e_X8_goNights_12, e_X8_goNights_15, e_X8_goNights_16, e_X8_goNights_17, e_X8_goNights_23, e_X8_goNights_24_i, e_X8_goNights_24_r, e_X8_goNights_24_n, e_X8_goNights_27, e_X8_goNights_30, eq_self, nI10, not_false_eq_true, not_true_eq_false, is2_i, is2_r, is2_n, nI_add, pk_mul, Nat.reduceAdd, Nat.reduceMul]
theorem s_X8_later (h : RM tx p x n A kp K so sd m lg) (hng : x.2.2.2.2.2 + 40 ≤ 1000) : ∃ m', RM tx p x n A kp K so sd m' lg ∧ FrK m m' ∧ Ev o (d + 20) zX8_later [.ref 133, .int k, .int k2] (ai_w m lg) (some (.int (aLater p x k k2))) (ai_w m' lg) := by
  have f := frT (m := m)
  have h' := h.q f
  obtain ⟨m1, hm1⟩ : ∃ m1, m1 = ai_up m 133 0 (nI 0) := ⟨_, rfl⟩
  rw [← hm1] at h' f
  have hp := h'.2.1
  have hD := hp.1.2.2.1
  have ei := in_z (k := k2) (n := 20) (v := 20) rfl (by decide)
  rcases sw_cases k p.2.2.2.2.1 (by omega) with ⟨dd, hd, rfl, hs, hx⟩ | ⟨hs, hx, hn⟩
  · have d24 : dd < 24 := by omega
    rcases sw_cases k2 21 (by decide) with ⟨N, hN, rfl, hs2, hx2⟩ | ⟨hs2, hx2, hn2⟩
    · have ea : aLater p x (nI dd) (nI N) = nI ((pNs p N x).1 dd) := by unfold aLater; rw [hs]; dsimp only; rw [hs2]
      obtain ⟨m2, b1, b2, b3, b4⟩ := s_X8_goNights (o := o) (d := d + 12) (N := N) (by omega) h' (by omega)
      rw [ea]
      refine ⟨m2, h'.q b2, f.k.trans b2.k, ?_⟩
      rw [ev_X8_later]
      simp only [e_X8_later_0, e_X8_later_1, e_X8_later_2, e_X8_later_5, e_X8_later_6, e_X8_later_10, e_X8_later_13, e_X8_later_14, e_X8_later_15, e_X8_later_16, e_X8_later_17, e_X8_later_18, e_X8_later_24, e_X8_later_27, e_X8_later_29, e_X8_later_30, e_X8_later_31, e_X8_later_35, e_X8_later_36, e_X8_later_39, e_X8_later_40, e_X8_later_41, eq_self, nI10, not_false_eq_true, not_true_eq_false, is2_i, is2_r, is2_n, nI_add, pk_mul, Nat.reduceAdd, Nat.reduceMul, ← hm1, e_X8_later_7 (hE := s_X8_noDream hp), e_X8_later_21 (hE := s_X8_in), ei, hx, hx2, Bool.not_true, bI_z, if_true, Bool.true_eq_false, e_X8_later_32 (hE := b4), m0_142, ml_142, d24, b1.2.1 dd hd]
    · have ea : aLater p x (nI dd) k2 = -2 := by unfold aLater; rw [hs]; dsimp only; rw [hs2]
      rw [ea]
      refine ⟨m1, h', f.k, ?_⟩
      rw [ev_X8_later]
      simp only [e_X8_later_0, e_X8_later_1, e_X8_later_2, e_X8_later_5, e_X8_later_6, e_X8_later_10, e_X8_later_13, e_X8_later_14, e_X8_later_15, e_X8_later_16, e_X8_later_17, e_X8_later_18, e_X8_later_24, e_X8_later_27, e_X8_later_29, e_X8_later_30, e_X8_later_31, e_X8_later_35, e_X8_later_36, e_X8_later_39, e_X8_later_40, e_X8_later_41, eq_self, nI10, not_false_eq_true, not_true_eq_false, is2_i, is2_r, is2_n, nI_add, pk_mul, Nat.reduceAdd, Nat.reduceMul, ← hm1, e_X8_later_7 (hE := s_X8_noDream hp), e_X8_later_21 (hE := s_X8_in), ei, hx, hx2, Bool.not_true, bI_z, if_true, if_false]
  · have ea : aLater p x k k2 = -1 := by unfold aLater; rw [hs]
    rw [ea]
    refine ⟨m1, h', f.k, ?_⟩
    rw [ev_X8_later]
    simp only [e_X8_later_0, e_X8_later_1, e_X8_later_2, e_X8_later_5, e_X8_later_6, e_X8_later_10, e_X8_later_13, e_X8_later_14, e_X8_later_15, e_X8_later_16, e_X8_later_17, e_X8_later_18, e_X8_later_24, e_X8_later_27, e_X8_later_29, e_X8_later_30, e_X8_later_31, e_X8_later_35, e_X8_later_36, e_X8_later_39, e_X8_later_40, e_X8_later_41, eq_self, nI10, not_false_eq_true, not_true_eq_false, is2_i, is2_r, is2_n, nI_add, pk_mul, Nat.reduceAdd, Nat.reduceMul, ← hm1, e_X8_later_7 (hE := s_X8_noDream hp), hx, Bool.not_false, bI_z, Bool.true_eq_false, if_false]
theorem s_X8_wakes (h : RM tx p x n A kp K so sd m lg) (hng : x.2.2.2.2.2 + 40 ≤ 1000) : ∃ m', RM tx p x n A kp K so sd m' lg ∧ FrK m m' ∧ Ev o (d + 20) zX8_wakes [.ref 133, .int k, .int k2] (ai_w m lg) (some (.int (aWakes p x k k2))) (ai_w m' lg) := by
  have f := frT (m := m)
  have h' := h.q f
  obtain ⟨m1, hm1⟩ : ∃ m1, m1 = ai_up m 133 0 (nI 0) := ⟨_, rfl⟩
  rw [← hm1] at h' f
  have hp := h'.2.1
  have hB := hp.1.2.1
  have ei := in_z (k := k2) (n := 20) (v := 20) rfl (by decide)
  rcases sw_cases k p.2.2.1 (by omega) with ⟨c, hc, rfl, hs, hx⟩ | ⟨hs, hx, hn⟩
  · have d24 : 19 + c < 24 := by omega
    rcases sw_cases k2 21 (by decide) with ⟨N, hN, rfl, hs2, hx2⟩ | ⟨hs2, hx2, hn2⟩
    · have ea : aWakes p x (nI c) (nI N) = (pNs p N x).2.2.2.2.1 c := by unfold aWakes; rw [hs]; dsimp only; rw [hs2]
      obtain ⟨m2, b1, b2, b3, b4⟩ := s_X8_goNights (o := o) (d := d + 12) (N := N) (by omega) h' (by omega)
      rw [ea]
      refine ⟨m2, h'.q b2, f.k.trans b2.k, ?_⟩
      rw [ev_X8_wakes]
      simp only [e_X8_wakes_0, e_X8_wakes_1, e_X8_wakes_2, e_X8_wakes_5, e_X8_wakes_6, e_X8_wakes_10, e_X8_wakes_13, e_X8_wakes_14, e_X8_wakes_15, e_X8_wakes_16, e_X8_wakes_17, e_X8_wakes_18, e_X8_wakes_24, e_X8_wakes_27, e_X8_wakes_29, e_X8_wakes_30, e_X8_wakes_31, e_X8_wakes_35, e_X8_wakes_36, e_X8_wakes_39, e_X8_wakes_41, e_X8_wakes_42, e_X8_wakes_43, e_X8_wakes_44, eq_self, nI10, not_false_eq_true, not_true_eq_false, is2_i, is2_r, is2_n, nI_add, pk_mul, Nat.reduceAdd, Nat.reduceMul, ← hm1, e_X8_wakes_7 (hE := s_X8_noBerth hp), e_X8_wakes_21 (hE := s_X8_in), ei, hx, hx2, Bool.not_true, bI_z, if_true, Bool.true_eq_false, e_X8_wakes_32 (hE := b4), m0_142, ml_142, d24, b1.2.2.2.2.2.1 c hc]
    · have ea : aWakes p x (nI c) k2 = -2 := by unfold aWakes; rw [hs]; dsimp only; rw [hs2]
      rw [ea]
      refine ⟨m1, h', f.k, ?_⟩
      rw [ev_X8_wakes]
      simp only [e_X8_wakes_0, e_X8_wakes_1, e_X8_wakes_2, e_X8_wakes_5, e_X8_wakes_6, e_X8_wakes_10, e_X8_wakes_13, e_X8_wakes_14, e_X8_wakes_15, e_X8_wakes_16, e_X8_wakes_17, e_X8_wakes_18, e_X8_wakes_24, e_X8_wakes_27, e_X8_wakes_29, e_X8_wakes_30, e_X8_wakes_31, e_X8_wakes_35, e_X8_wakes_36, e_X8_wakes_39, e_X8_wakes_41, e_X8_wakes_42, e_X8_wakes_43, e_X8_wakes_44, eq_self, nI10, not_false_eq_true, not_true_eq_false, is2_i, is2_r, is2_n, nI_add, pk_mul, Nat.reduceAdd, Nat.reduceMul, ← hm1, e_X8_wakes_7 (hE := s_X8_noBerth hp), e_X8_wakes_21 (hE := s_X8_in), ei, hx, hx2, Bool.not_true, bI_z, if_true, if_false]
  · have ea : aWakes p x k k2 = -1 := by unfold aWakes; rw [hs]
    rw [ea]
    refine ⟨m1, h', f.k, ?_⟩
    rw [ev_X8_wakes]
    simp only [e_X8_wakes_0, e_X8_wakes_1, e_X8_wakes_2, e_X8_wakes_5, e_X8_wakes_6, e_X8_wakes_10, e_X8_wakes_13, e_X8_wakes_14, e_X8_wakes_15, e_X8_wakes_16, e_X8_wakes_17, e_X8_wakes_18, e_X8_wakes_24, e_X8_wakes_27, e_X8_wakes_29, e_X8_wakes_30, e_X8_wakes_31, e_X8_wakes_35, e_X8_wakes_36, e_X8_wakes_39, e_X8_wakes_41, e_X8_wakes_42, e_X8_wakes_43, e_X8_wakes_44, eq_self, nI10, not_false_eq_true, not_true_eq_false, is2_i, is2_r, is2_n, nI_add, pk_mul, Nat.reduceAdd, Nat.reduceMul, ← hm1, e_X8_wakes_7 (hE := s_X8_noBerth hp), hx, Bool.not_false, bI_z, Bool.true_eq_false, if_false]
theorem s_X8_fitsThen {dd : Nat} (hp : RMp p m) (hh : RG p x (m 142)) (hE : m 133 27 = nI 0) (hd : dd < p.2.2.2.2.1) : Ev o (d + 2) zX8_fitsThen [.ref 133, .int (nI dd)] (ai_w m lg) (some (.int (nI (mk (pFit p x dd) p.2.2.1)))) (ai_w m lg) := by
  have hB := hp.1.2.1
  have hD := hp.1.2.2.1
  have ha : aiP 142 := Or.inr rfl
  have or0 : ∀ v : Int32, v ||| nI 0 = v := fun v => Int32.or_zero
  have d24 : 10 + dd < 24 := by omega
  have lp : ∀ j c, c + j = p.2.2.1 → Rn o (d + 2) zX8_fitsThen 4 [.ref 133, .int (nI dd), .int (nI (mk (pFit p x dd) c)), .int (nI c)] [] (ai_w m lg) (some (.int (nI (mk (pFit p x dd) p.2.2.1))), ai_w m lg) := by
    intro j
    induction j with
    | zero =>
      intro c hj
      have : c = p.2.2.1 := by omega
      subst this
      rw [e_X8_fitsThen_4]
      simp only [e_X8_fitsThen_0, e_X8_fitsThen_1_i, e_X8_fitsThen_1_r, e_X8_fitsThen_1_n, e_X8_fitsThen_2, e_X8_fitsThen_3_i, e_X8_fitsThen_3_r, e_X8_fitsThen_3_n, e_X8_fitsThen_5, e_X8_fitsThen_6, e_X8_fitsThen_9, e_X8_fitsThen_12, e_X8_fitsThen_13, e_X8_fitsThen_14, e_X8_fitsThen_15, e_X8_fitsThen_18, e_X8_fitsThen_19, e_X8_fitsThen_23, e_X8_fitsThen_26, e_X8_fitsThen_27, e_X8_fitsThen_28, e_X8_fitsThen_31, e_X8_fitsThen_35, e_X8_fitsThen_36, e_X8_fitsThen_39, e_X8_fitsThen_41, e_X8_fitsThen_42, e_X8_fitsThen_43, e_X8_fitsThen_44, e_X8_fitsThen_47, e_X8_fitsThen_48, e_X8_fitsThen_49, e_X8_fitsThen_50, e_X8_fitsThen_53, e_X8_fitsThen_54, e_X8_fitsThen_55_i, e_X8_fitsThen_55_r, e_X8_fitsThen_55_n, e_X8_fitsThen_56_i, e_X8_fitsThen_56_r, e_X8_fitsThen_56_n, e_X8_fitsThen_59, e_X8_fitsThen_62, e_X8_fitsThen_63, eq_self, nI10, not_false_eq_true, not_true_eq_false, is2_i, is2_r, is2_n, nI_add, pk_mul, Nat.reduceAdd, Nat.reduceMul, hp.2.2.1, Int32.le_refl, if_true]
    | succ j ih =>
      intro c hj
      have hlt : c < p.2.2.1 := by omega
      have e1 : ¬ nI p.2.2.1 ≤ nI c := nI_ge hlt (by omega)
      have := ih (c + 1) (by omega)
      have sw := s_X8_waterOf (o := o) (d := d) (lg := lg) hp hh ha hE (by decide) hlt
      have ew : mWater p x 0 c = pWater p x c := by unfold mWater pWater; rw [tE_0]
      rw [ew] at sw
      have w1 : pWater p x c ≤ 18 := by
        have := hh.1.2.2.1 c hlt
        have := pTide_le hp.1 x.2.2.2.2.2
        unfold pWater
        omega
      have w2 := (hh.1.2.1 dd hd).2
      have e2 : (nI (pWater p x c) < nI (x.2.2.1 dd)) = (pWater p x c < x.2.2.1 dd) := propext (nI_ltI (by omega) (by omega))
      rw [e_X8_fitsThen_4]
      simp only [e_X8_fitsThen_0, e_X8_fitsThen_1_i, e_X8_fitsThen_1_r, e_X8_fitsThen_1_n, e_X8_fitsThen_2, e_X8_fitsThen_3_i, e_X8_fitsThen_3_r, e_X8_fitsThen_3_n, e_X8_fitsThen_5, e_X8_fitsThen_6, e_X8_fitsThen_9, e_X8_fitsThen_12, e_X8_fitsThen_13, e_X8_fitsThen_14, e_X8_fitsThen_15, e_X8_fitsThen_18, e_X8_fitsThen_19, e_X8_fitsThen_23, e_X8_fitsThen_26, e_X8_fitsThen_27, e_X8_fitsThen_28, e_X8_fitsThen_31, e_X8_fitsThen_35, e_X8_fitsThen_36, e_X8_fitsThen_39, e_X8_fitsThen_41, e_X8_fitsThen_42, e_X8_fitsThen_43, e_X8_fitsThen_44, e_X8_fitsThen_47, e_X8_fitsThen_48, e_X8_fitsThen_49, e_X8_fitsThen_50, e_X8_fitsThen_53, e_X8_fitsThen_54, e_X8_fitsThen_55_i, e_X8_fitsThen_55_r, e_X8_fitsThen_55_n, e_X8_fitsThen_56_i, e_X8_fitsThen_56_r, e_X8_fitsThen_56_n, e_X8_fitsThen_59, e_X8_fitsThen_62, e_X8_fitsThen_63, eq_self, nI10, not_false_eq_true, not_true_eq_false, is2_i, is2_r, is2_n, nI_add, pk_mul, Nat.reduceAdd, Nat.reduceMul, hp.2.2.1, e1, if_false, e_X8_fitsThen_20 (hE := s_X8_suits hp hh ha hd hlt), bI_z, e_X8_fitsThen_32 (hE := sw), m0_142, ml_142, d24, hh.2.2.2.1 dd hd, e2, or_bit (mk_lt (pFit p x dd) c) (show c < 31 by omega), or0]
      rw [mk] at this
      cases q : pSuit p x dd c
      · rw [show pFit p x dd c = false by unfold pFit; rw [q]; rfl] at this
        rw [if_pos rfl]
        exact this
      · rw [if_neg (by decide)]
        by_cases q2 : pWater p x c < x.2.2.1 dd
        · rw [show pFit p x dd c = false by unfold pFit; rw [q]; simp; omega] at this
          rw [if_pos q2]
          exact this
        · rw [show pFit p x dd c = true by unfold pFit; rw [q]; simp; omega, if_pos rfl] at this
          rw [if_neg q2]
          exact this
  rw [ev_X8_fitsThen]
  simp only [e_X8_fitsThen_0, e_X8_fitsThen_1_i, e_X8_fitsThen_1_r, e_X8_fitsThen_1_n, e_X8_fitsThen_2, e_X8_fitsThen_3_i, e_X8_fitsThen_3_r, e_X8_fitsThen_3_n, e_X8_fitsThen_5, e_X8_fitsThen_6, e_X8_fitsThen_9, e_X8_fitsThen_12, e_X8_fitsThen_13, e_X8_fitsThen_14, e_X8_fitsThen_15, e_X8_fitsThen_18, e_X8_fitsThen_19, e_X8_fitsThen_23, e_X8_fitsThen_26, e_X8_fitsThen_27, e_X8_fitsThen_28, e_X8_fitsThen_31, e_X8_fitsThen_35, e_X8_fitsThen_36, e_X8_fitsThen_39, e_X8_fitsThen_41, e_X8_fitsThen_42, e_X8_fitsThen_43, e_X8_fitsThen_44, e_X8_fitsThen_47, e_X8_fitsThen_48, e_X8_fitsThen_49, e_X8_fitsThen_50, e_X8_fitsThen_53, e_X8_fitsThen_54, e_X8_fitsThen_55_i, e_X8_fitsThen_55_r, e_X8_fitsThen_55_n, e_X8_fitsThen_56_i, e_X8_fitsThen_56_r, e_X8_fitsThen_56_n, e_X8_fitsThen_59, e_X8_fitsThen_62, e_X8_fitsThen_63, eq_self, nI10, not_false_eq_true, not_true_eq_false, is2_i, is2_r, is2_n, nI_add, pk_mul, Nat.reduceAdd, Nat.reduceMul]
  exact lp p.2.2.1 0 (by omega)
theorem s_X8_fits (h : RM tx p x n A kp K so sd m lg) (hng : x.2.2.2.2.2 + 40 ≤ 1000) : ∃ m', RM tx p x n A kp K so sd m' lg ∧ FrK m m' ∧ Ev o (d + 20) zX8_fits [.ref 133, .int k, .int k2] (ai_w m lg) (some (.int (aFits p x k k2))) (ai_w m' lg) := by
  have f := frT (m := m)
  have h' := h.q f
  obtain ⟨m1, hm1⟩ : ∃ m1, m1 = ai_up m 133 0 (nI 0) := ⟨_, rfl⟩
  rw [← hm1] at h' f
  have hp := h'.2.1
  have hD := hp.1.2.2.1
  have ei := in_z (k := k2) (n := 20) (v := 20) rfl (by decide)
  rcases sw_cases k p.2.2.2.2.1 (by omega) with ⟨dd, hd, rfl, hs, hx⟩ | ⟨hs, hx, hn⟩
  · rcases sw_cases k2 21 (by decide) with ⟨N, hN, rfl, hs2, hx2⟩ | ⟨hs2, hx2, hn2⟩
    · have ea : aFits p x (nI dd) (nI N) = nI (mk (pFit p (pNs p N x) dd) p.2.2.1) := by unfold aFits; rw [hs]; dsimp only; rw [hs2]
      obtain ⟨m2, b1, b2, b3, b4⟩ := s_X8_goNights (o := o) (d := d + 12) (N := N) (by omega) h' (by omega)
      have h2 := h'.q b2
      rw [ea]
      refine ⟨m2, h2, f.k.trans b2.k, ?_⟩
      rw [ev_X8_fits]
      simp only [e_X8_fits_0, e_X8_fits_1, e_X8_fits_2, e_X8_fits_5, e_X8_fits_6, e_X8_fits_10, e_X8_fits_13, e_X8_fits_14, e_X8_fits_15, e_X8_fits_16, e_X8_fits_17, e_X8_fits_18, e_X8_fits_24, e_X8_fits_27, e_X8_fits_29, e_X8_fits_30, e_X8_fits_31, e_X8_fits_35, e_X8_fits_36, e_X8_fits_40, eq_self, nI10, not_false_eq_true, not_true_eq_false, is2_i, is2_r, is2_n, nI_add, pk_mul, Nat.reduceAdd, Nat.reduceMul, ← hm1, e_X8_fits_7 (hE := s_X8_noDream hp), e_X8_fits_21 (hE := s_X8_in), ei, hx, hx2, Bool.not_true, bI_z, if_true, Bool.true_eq_false, e_X8_fits_32 (hE := b4), e_X8_fits_37 (hE := s_X8_fitsThen h2.2.1 b1 b3.2 hd)]
    · have ea : aFits p x (nI dd) k2 = -2 := by unfold aFits; rw [hs]; dsimp only; rw [hs2]
      rw [ea]
      refine ⟨m1, h', f.k, ?_⟩
      rw [ev_X8_fits]
      simp only [e_X8_fits_0, e_X8_fits_1, e_X8_fits_2, e_X8_fits_5, e_X8_fits_6, e_X8_fits_10, e_X8_fits_13, e_X8_fits_14, e_X8_fits_15, e_X8_fits_16, e_X8_fits_17, e_X8_fits_18, e_X8_fits_24, e_X8_fits_27, e_X8_fits_29, e_X8_fits_30, e_X8_fits_31, e_X8_fits_35, e_X8_fits_36, e_X8_fits_40, eq_self, nI10, not_false_eq_true, not_true_eq_false, is2_i, is2_r, is2_n, nI_add, pk_mul, Nat.reduceAdd, Nat.reduceMul, ← hm1, e_X8_fits_7 (hE := s_X8_noDream hp), e_X8_fits_21 (hE := s_X8_in), ei, hx, hx2, Bool.not_true, bI_z, if_true, if_false]
  · have ea : aFits p x k k2 = -1 := by unfold aFits; rw [hs]
    rw [ea]
    refine ⟨m1, h', f.k, ?_⟩
    rw [ev_X8_fits]
    simp only [e_X8_fits_0, e_X8_fits_1, e_X8_fits_2, e_X8_fits_5, e_X8_fits_6, e_X8_fits_10, e_X8_fits_13, e_X8_fits_14, e_X8_fits_15, e_X8_fits_16, e_X8_fits_17, e_X8_fits_18, e_X8_fits_24, e_X8_fits_27, e_X8_fits_29, e_X8_fits_30, e_X8_fits_31, e_X8_fits_35, e_X8_fits_36, e_X8_fits_40, eq_self, nI10, not_false_eq_true, not_true_eq_false, is2_i, is2_r, is2_n, nI_add, pk_mul, Nat.reduceAdd, Nat.reduceMul, ← hm1, e_X8_fits_7 (hE := s_X8_noDream hp), hx, Bool.not_false, bI_z, Bool.true_eq_false, if_false]
theorem lp_X8_soonest {dd : Nat} (hd : dd < p.2.2.2.2.1) : ∀ (j i : Nat) (m : Nat → Nat → Int32) (y : HS), i + j = 21 → RMp p m → m 133 28 = nI 15 → m 133 27 = nI 0 → RG p y (m 142) → y.2.2.2.2.2 + j ≤ 1000 → ∃ m', FrS (fun i => i = 142) m m' ∧ Rn o (d + 20) zX8_soonest 36 [.ref 133, .int (nI dd), .int (nI i)] [] (ai_w m lg) (some (.int (pSoon p dd i j y)), ai_w m' lg) := by
  intro j
  induction j with
  | zero =>
    intro i m y hk hp hC hE hh hng
    have : i = 21 := by omega
    subst this
    refine ⟨m, FrS.rfl', ?_⟩
    have e1 : nI 20 < nI 21 := by decide
    rw [e_X8_soonest_36]
    simp only [e_X8_soonest_0, e_X8_soonest_1, e_X8_soonest_2, e_X8_soonest_5, e_X8_soonest_6, e_X8_soonest_10, e_X8_soonest_13, e_X8_soonest_14, e_X8_soonest_15, e_X8_soonest_16, e_X8_soonest_19, e_X8_soonest_20, e_X8_soonest_21, e_X8_soonest_23, e_X8_soonest_26, e_X8_soonest_28, e_X8_soonest_29, e_X8_soonest_30, e_X8_soonest_34, e_X8_soonest_35_i, e_X8_soonest_35_r, e_X8_soonest_35_n, e_X8_soonest_37, e_X8_soonest_39, e_X8_soonest_42, e_X8_soonest_43, e_X8_soonest_47, e_X8_soonest_50, e_X8_soonest_51, e_X8_soonest_52, e_X8_soonest_53, e_X8_soonest_54, e_X8_soonest_60, e_X8_soonest_61_i, e_X8_soonest_61_r, e_X8_soonest_61_n, e_X8_soonest_64, e_X8_soonest_67, e_X8_soonest_69, eq_self, nI10, not_false_eq_true, not_true_eq_false, is2_i, is2_r, is2_n, nI_add, pk_mul, Nat.reduceAdd, Nat.reduceMul, e1, if_true, pSoon]
  | succ j ih =>
    intro i m y hk hp hC hE hh hng
    have hB := hp.1.2.1
    have hM : mk (pFit p y dd) p.2.2.1 < 32 := Nat.lt_of_lt_of_le (mk_lt _ _) (Nat.pow_le_pow_right (by decide) (show p.2.2.1 ≤ 5 by omega))
    have e1 : ¬ nI 20 < nI i := nI_nlt (by omega) (by omega)
    have e2 := nI_9 (a := mk (pFit p y dd) p.2.2.1) (c := 0) (by omega) (by omega)
    by_cases h0 : mk (pFit p y dd) p.2.2.1 = 0
    · obtain ⟨m1, f1, f2, f3⟩ := s_X8_goNight (o := o) (d := d + 14) (lg := lg) (Or.inr rfl) hp hC hE hh (by omega)
      obtain ⟨m', g1, g2⟩ := ih (i + 1) m1 _ (by omega) (hp.frP (Or.inr rfl) f2) (by rw [f2 133 (by decide)]; exact hC) (by rw [f2 133 (by decide)]; exact hE) f1 (by rw [pNight_ng]; omega)
      refine ⟨m', f2.trans g1, ?_⟩
      rw [e_X8_soonest_36]
      simp only [e_X8_soonest_0, e_X8_soonest_1, e_X8_soonest_2, e_X8_soonest_5, e_X8_soonest_6, e_X8_soonest_10, e_X8_soonest_13, e_X8_soonest_14, e_X8_soonest_15, e_X8_soonest_16, e_X8_soonest_19, e_X8_soonest_20, e_X8_soonest_21, e_X8_soonest_23, e_X8_soonest_26, e_X8_soonest_28, e_X8_soonest_29, e_X8_soonest_30, e_X8_soonest_34, e_X8_soonest_35_i, e_X8_soonest_35_r, e_X8_soonest_35_n, e_X8_soonest_37, e_X8_soonest_39, e_X8_soonest_42, e_X8_soonest_43, e_X8_soonest_47, e_X8_soonest_50, e_X8_soonest_51, e_X8_soonest_52, e_X8_soonest_53, e_X8_soonest_54, e_X8_soonest_60, e_X8_soonest_61_i, e_X8_soonest_61_r, e_X8_soonest_61_n, e_X8_soonest_64, e_X8_soonest_67, e_X8_soonest_69, eq_self, nI10, not_false_eq_true, not_true_eq_false, is2_i, is2_r, is2_n, nI_add, pk_mul, Nat.reduceAdd, Nat.reduceMul, e1, if_false, e_X8_soonest_44 (hE := s_X8_fitsThen hp hh hE hd), e2, h0, if_true, e_X8_soonest_57 (hE := f3), pSoon]
      exact g2
    · refine ⟨m, FrS.rfl', ?_⟩
      rw [e_X8_soonest_36]
      simp only [e_X8_soonest_0, e_X8_soonest_1, e_X8_soonest_2, e_X8_soonest_5, e_X8_soonest_6, e_X8_soonest_10, e_X8_soonest_13, e_X8_soonest_14, e_X8_soonest_15, e_X8_soonest_16, e_X8_soonest_19, e_X8_soonest_20, e_X8_soonest_21, e_X8_soonest_23, e_X8_soonest_26, e_X8_soonest_28, e_X8_soonest_29, e_X8_soonest_30, e_X8_soonest_34, e_X8_soonest_35_i, e_X8_soonest_35_r, e_X8_soonest_35_n, e_X8_soonest_37, e_X8_soonest_39, e_X8_soonest_42, e_X8_soonest_43, e_X8_soonest_47, e_X8_soonest_50, e_X8_soonest_51, e_X8_soonest_52, e_X8_soonest_53, e_X8_soonest_54, e_X8_soonest_60, e_X8_soonest_61_i, e_X8_soonest_61_r, e_X8_soonest_61_n, e_X8_soonest_64, e_X8_soonest_67, e_X8_soonest_69, eq_self, nI10, not_false_eq_true, not_true_eq_false, is2_i, is2_r, is2_n, nI_add, pk_mul, Nat.reduceAdd, Nat.reduceMul, e1, if_false, e_X8_soonest_44 (hE := s_X8_fitsThen hp hh hE hd), e2, h0, pSoon]
theorem s_X8_soonest (h : RM tx p x n A kp K so sd m lg) (hng : x.2.2.2.2.2 + 40 ≤ 1000) : ∃ m', RM tx p x n A kp K so sd m' lg ∧ FrK m m' ∧ Ev o (d + 20) zX8_soonest [.ref 133, .int k] (ai_w m lg) (some (.int (aSoonest p x k))) (ai_w m' lg) := by
  have f := frT (m := m)
  have h' := h.q f
  obtain ⟨m1, hm1⟩ : ∃ m1, m1 = ai_up m 133 0 (nI 0) := ⟨_, rfl⟩
  rw [← hm1] at h' f
  have hp := h'.2.1
  have hh := h'.2.2.1
  have hD := hp.1.2.2.1
  rcases sw_cases k p.2.2.2.2.1 (by omega) with ⟨dd, hd, rfl, hs, hx⟩ | ⟨hs, hx, hn⟩
  · have d24 : dd < 24 := by omega
    have h9 := hg_p hp.1 hh hd
    have e9 := nI_9 (a := x.1 dd) (c := 9) (by omega) (by omega)
    by_cases q : x.1 dd = 9
    · have ea : aSoonest p x (nI dd) = -3 := by unfold aSoonest; rw [hs]; exact if_pos q
      rw [ea]
      refine ⟨m1, h', f.k, ?_⟩
      rw [ev_X8_soonest]
      simp only [e_X8_soonest_0, e_X8_soonest_1, e_X8_soonest_2, e_X8_soonest_5, e_X8_soonest_6, e_X8_soonest_10, e_X8_soonest_13, e_X8_soonest_14, e_X8_soonest_15, e_X8_soonest_16, e_X8_soonest_19, e_X8_soonest_20, e_X8_soonest_21, e_X8_soonest_23, e_X8_soonest_26, e_X8_soonest_28, e_X8_soonest_29, e_X8_soonest_30, e_X8_soonest_34, e_X8_soonest_35_i, e_X8_soonest_35_r, e_X8_soonest_35_n, e_X8_soonest_37, e_X8_soonest_39, e_X8_soonest_42, e_X8_soonest_43, e_X8_soonest_47, e_X8_soonest_50, e_X8_soonest_51, e_X8_soonest_52, e_X8_soonest_53, e_X8_soonest_54, e_X8_soonest_60, e_X8_soonest_61_i, e_X8_soonest_61_r, e_X8_soonest_61_n, e_X8_soonest_64, e_X8_soonest_67, e_X8_soonest_69, eq_self, nI10, not_false_eq_true, not_true_eq_false, is2_i, is2_r, is2_n, nI_add, pk_mul, Nat.reduceAdd, Nat.reduceMul, ← hm1, e_X8_soonest_7 (hE := s_X8_noDream hp), hx, Bool.not_true, bI_z, if_true, m0_141, ml_141, d24, hh.2.1 dd hd, q, if_false]
    · have ea : aSoonest p x (nI dd) = pSoon p dd 0 21 x := by unfold aSoonest; rw [hs]; exact if_neg q
      rw [ea]
      obtain ⟨m2, b1, b2, b3, b4⟩ := s_X8_goNights (o := o) (d := d + 12) (N := 0) (by omega) h' (by omega)
      have h2 := h'.q b2
      obtain ⟨m', g1, g2⟩ := lp_X8_soonest (o := o) (d := d) (lg := lg) hd 21 0 m2 x (by omega) h2.2.1 b3.1 b3.2 b1 (by omega)
      refine ⟨m', h2.q (FrN.ofS g1), f.k.trans (b2.k.trans (FrN.ofS g1).k), ?_⟩
      rw [ev_X8_soonest]
      simp only [e_X8_soonest_0, e_X8_soonest_1, e_X8_soonest_2, e_X8_soonest_5, e_X8_soonest_6, e_X8_soonest_10, e_X8_soonest_13, e_X8_soonest_14, e_X8_soonest_15, e_X8_soonest_16, e_X8_soonest_19, e_X8_soonest_20, e_X8_soonest_21, e_X8_soonest_23, e_X8_soonest_26, e_X8_soonest_28, e_X8_soonest_29, e_X8_soonest_30, e_X8_soonest_34, e_X8_soonest_35_i, e_X8_soonest_35_r, e_X8_soonest_35_n, e_X8_soonest_37, e_X8_soonest_39, e_X8_soonest_42, e_X8_soonest_43, e_X8_soonest_47, e_X8_soonest_50, e_X8_soonest_51, e_X8_soonest_52, e_X8_soonest_53, e_X8_soonest_54, e_X8_soonest_60, e_X8_soonest_61_i, e_X8_soonest_61_r, e_X8_soonest_61_n, e_X8_soonest_64, e_X8_soonest_67, e_X8_soonest_69, eq_self, nI10, not_false_eq_true, not_true_eq_false, is2_i, is2_r, is2_n, nI_add, pk_mul, Nat.reduceAdd, Nat.reduceMul, ← hm1, e_X8_soonest_7 (hE := s_X8_noDream hp), hx, Bool.not_true, bI_z, if_true, m0_141, ml_141, d24, hh.2.1 dd hd, e9, q, e_X8_soonest_31 (hE := b4)]
      exact g2
  · have ea : aSoonest p x k = -1 := by unfold aSoonest; rw [hs]
    rw [ea]
    refine ⟨m1, h', f.k, ?_⟩
    rw [ev_X8_soonest]
    simp only [e_X8_soonest_0, e_X8_soonest_1, e_X8_soonest_2, e_X8_soonest_5, e_X8_soonest_6, e_X8_soonest_10, e_X8_soonest_13, e_X8_soonest_14, e_X8_soonest_15, e_X8_soonest_16, e_X8_soonest_19, e_X8_soonest_20, e_X8_soonest_21, e_X8_soonest_23, e_X8_soonest_26, e_X8_soonest_28, e_X8_soonest_29, e_X8_soonest_30, e_X8_soonest_34, e_X8_soonest_35_i, e_X8_soonest_35_r, e_X8_soonest_35_n, e_X8_soonest_37, e_X8_soonest_39, e_X8_soonest_42, e_X8_soonest_43, e_X8_soonest_47, e_X8_soonest_50, e_X8_soonest_51, e_X8_soonest_52, e_X8_soonest_53, e_X8_soonest_54, e_X8_soonest_60, e_X8_soonest_61_i, e_X8_soonest_61_r, e_X8_soonest_61_n, e_X8_soonest_64, e_X8_soonest_67, e_X8_soonest_69, eq_self, nI10, not_false_eq_true, not_true_eq_false, is2_i, is2_r, is2_n, nI_add, pk_mul, Nat.reduceAdd, Nat.reduceMul, ← hm1, e_X8_soonest_7 (hE := s_X8_noDream hp), hx, Bool.not_false, bI_z, Bool.true_eq_false, if_false]
end P56
