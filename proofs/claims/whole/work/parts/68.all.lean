/-! THE LAW, WHOLE, in the small machine -/
def x0H : HS := (fun _ => 0, fun _ => nI 0, fun _ => 0, fun _ => 0, fun _ => nI 0, 0)
def p0T : PT := (0, fun _ => 0, 0, fun _ => 0, 0, fun _ => 0)
theorem JJ0 : JJ 0 cz_m cz_lg := by
  have no : ∀ {P : Nat → Prop}, ∀ i, i < 0 → P i := fun i hi => absurd hi (Nat.not_lt_zero i)
  have pk : ptOk p0T := ⟨by decide, by decide, by decide, no, no, no⟩
  have hk : hsOk p0T x0H := ⟨no, no, no, by decide⟩
  refine ⟨(0, fun _ => 0), p0T, x0H, 0, fun _ => x0H, fun _ => false, fun _ => x0H, (0, fun _ => 0, fun _ => 0, fun _ => false), 0, ⟨⟨by decide, by decide +kernel, no⟩, ⟨pk, by decide +kernel, by decide +kernel, by decide +kernel, no, no, no⟩, ⟨hk, no, no, no, no, no, by decide +kernel⟩, ⟨0, by decide, by decide +kernel, by decide, by decide +kernel, no⟩, ⟨by decide, by decide +kernel, no, no, no⟩, by decide +kernel, fun i hi hq => (by cases hq), by decide +kernel⟩, ⟨⟨by decide, by decide +kernel, no⟩, ⟨pk, by decide +kernel, by decide +kernel, by decide +kernel, no, no, no⟩, ⟨hk, no, no, no, no, no, by decide +kernel⟩, ⟨by decide, by decide +kernel, no⟩, ⟨by decide +kernel, fun i hi hq => (by cases hq)⟩, ⟨by decide, by decide +kernel, no⟩, by decide +kernel⟩, ⟨by decide, no, fun i hi hq => (by cases hq)⟩⟩
theorem law_all {o : ai_S} {d : Nat} (ho : oOk o) (hl : o.1 0 ≤ 256) : ∃ m' lg', Ev o (d + 21) zL_law [.ref ai_O] (0, 0, fun _ => (0, 0), fun _ _ => none, fun _ _ => 0, fun _ _ => 0) (some (.int (nI 1))) (ai_w m' lg') := by
  obtain ⟨m', lg', h⟩ := law_loop (d := d) ho hl 64 0 cz_m cz_lg (by omega) (by omega) JJ0
  refine ⟨m', lg', ?_⟩
  rw [ev_L_law, e_L_law_0 (n9 := 1) (s9 := 12) rfl rfl (by decide), e_L_law_3]
  change Rn _ _ _ _ _ _ (1, 12, cs_k, cs_rf, cs_m, cs_lg) _
  rw [e_L_law_4 (hE := c_X7_init (d := d + 17)), e_L_law_7_r, e_L_law_8 (n9 := 134) (s9 := 753) rfl rfl (by decide), e_L_law_11]
  change Rn _ _ _ _ _ _ (134, 753, cm_k, cm_rf, cm_m, cm_lg) _
  rw [e_L_law_12 (hE := c_X8_init (d := d + 19)), e_L_law_15_r, e_L_law_16, e_L_law_17_r]
  exact h
