/-! RUNS OF THE SMALL MACHINE, step by step, as equations -/
abbrev ai_S : Type := (Nat → Nat) × (Nat → Nat → Int32)
def Rn (o : ai_S) (d : Nat) (z : ai_Mi) (pc : Nat) (L st : List Value) (w : ai_W) (r : Option Value × ai_W) : Prop := ∃ n, ai_run o.1 o.2 n d z pc L st w = some r
/-- a method's whole run -/
def Ev (o : ai_S) (d : Nat) (z : ai_Mi) (As : List Value) (w : ai_W) (v : Option Value) (w' : ai_W) : Prop := Rn o d z 0 (ai_ent z.2.2.1 As) [] w (v, w')
theorem rn_of {o : ai_S} {d d' : Nat} {z z' : ai_Mi} {pc pc' : Nat} {L L' st st' : List Value} {w w' : ai_W} {r : Option Value × ai_W} (h : ∀ n, ai_run o.1 o.2 (n + 1) d z pc L st w = ai_run o.1 o.2 n d' z' pc' L' st' w') : Rn o d z pc L st w r = Rn o d' z' pc' L' st' w' r := by
  apply propext
  constructor
  · rintro ⟨n, hn⟩
    cases n with
    | zero => rw [ai_run] at hn; cases hn
    | succ n => exact ⟨n, by rw [← h]; exact hn⟩
  · rintro ⟨n, hn⟩
    exact ⟨n + 1, by rw [h]; exact hn⟩
theorem ai_B_A {ins : Instr} {len : Nat} {L st : List Value} {q : List Value × List Value} {own : String} (h : ai_B ins len L st = some q) : ai_A own ins len L st = none := by
  unfold ai_B at h
  split at h <;> first | rfl | cases h
theorem ai_J_A {ins : Instr} {len pc : Nat} {L st : List Value} {q : Nat × List Value} {own : String} (h : ai_J ins len pc st = some q) : ai_A own ins len L st = none ∧ ai_B ins len L st = none := by
  unfold ai_J at h
  split at h <;> first | exact ⟨rfl, rfl⟩ | cases h
theorem ai_M_A {o : ai_S} {y : MethodName} {ins : Instr} {len d pc : Nat} {L st : List Value} {w : ai_W} {q : List Value × ai_W} {own : String} (h : ai_M o.1 o.2 y ins len d st w = some q) : ai_A own ins len L st = none ∧ ai_B ins len L st = none ∧ ai_J ins len pc st = none := by
  unfold ai_M at h
  split at h <;> first | exact ⟨rfl, rfl, rfl⟩ | cases h
theorem ai_R_A {o : ai_S} {y : MethodName} {ret : Option FieldType} {ins : Instr} {len d pc : Nat} {L st : List Value} {w : ai_W} {q : Option Value} {own : String} (h : ai_R ret ins len st = some q) : ai_A own ins len L st = none ∧ ai_B ins len L st = none ∧ ai_J ins len pc st = none ∧ ai_M o.1 o.2 y ins len d st w = none := by
  unfold ai_R at h
  split at h <;> first | exact ⟨rfl, rfl, rfl, rfl⟩ | cases h
section RUN
variable {o : ai_S} {d : Nat} {z : ai_Mi} {pc : Nat} {L L' st st' : List Value} {w w' : ai_W} {r : Option Value × ai_W} {ins : Instr} {len : Nat}
theorem rn_A (hd : decode z.2.1 pc = .ok (ins, len)) (h : ai_A z.1.cls ins len L st = some st') : Rn o d z pc L st w r = Rn o d z (pc + len) L st' w r := rn_of fun n => by rw [ai_run, hd]; simp only [h]
theorem rn_B (hd : decode z.2.1 pc = .ok (ins, len)) (h : ai_B ins len L st = some (L', st')) : Rn o d z pc L st w r = Rn o d z (pc + len) L' st' w r := rn_of fun n => by rw [ai_run, hd]; simp only [ai_B_A h, h]
theorem rn_J {pc' : Nat} (hd : decode z.2.1 pc = .ok (ins, len)) (h : ai_J ins len pc st = some (pc', st')) : Rn o d z pc L st w r = Rn o d z pc' L st' w r := rn_of fun n => by rw [ai_run, hd]; simp only [(ai_J_A (L := L) (own := z.1.cls) h).1, (ai_J_A (L := L) (own := z.1.cls) h).2, h]
theorem rn_M (hd : decode z.2.1 pc = .ok (ins, len)) (h : ai_M o.1 o.2 z.1 ins len d st w = some (st', w')) : Rn o d z pc L st w r = Rn o d z (pc + len) L st' w' r := rn_of fun n => by
  obtain ⟨h1, h2, h3⟩ := ai_M_A (L := L) (own := z.1.cls) (pc := pc) h
  rw [ai_run, hd]; simp only [h1, h2, h3, h]
theorem rn_R {v : Option Value} (hd : decode z.2.1 pc = .ok (ins, len)) (h : ai_R z.2.2.2 ins len st = some v) : Rn o d z pc L st w r = ((v, w) = r) := by
  obtain ⟨h1, h2, h3, h4⟩ := ai_R_A (L := L) (own := z.1.cls) (pc := pc) (o := o) (y := z.1) (d := d) (w := w) h
  apply propext
  constructor
  · rintro ⟨n, hn⟩
    cases n with
    | zero => rw [ai_run] at hn; cases hn
    | succ n =>
      rw [ai_run, hd] at hn
      simp only [h1, h2, h3, h4, h] at hn
      exact Option.some.inj hn
  · rintro rfl
    exact ⟨1, by rw [ai_run, hd]; simp only [h1, h2, h3, h4, h]⟩
theorem ai_run_up : ∀ (n d : Nat) (z : ai_Mi) (pc : Nat) (L st : List Value) (w : ai_W) (r : Option Value × ai_W), ai_run o.1 o.2 n d z pc L st w = some r → ai_run o.1 o.2 (n + 1) d z pc L st w = some r := by
  intro n
  induction n with
  | zero => intro d z pc L st w r h; rw [ai_run] at h; cases h
  | succ n ih =>
    intro d z pc L st w r h
    rw [ai_run] at h ⊢
    split at h
    · cases h
    · rename_i ins len hd
      try rw [hd]
      try dsimp only
      split at h
      · rename_i st' hA
        try simp only [hA]
        exact ih _ _ _ _ _ _ _ h
      · rename_i hA
        try simp only [hA]
        split at h
        · rename_i L' st' hB
          try simp only [hB]
          exact ih _ _ _ _ _ _ _ h
        · rename_i hB
          try simp only [hB]
          split at h
          · rename_i pc' st' hJ
            try simp only [hJ]
            exact ih _ _ _ _ _ _ _ h
          · rename_i hJ
            try simp only [hJ]
            split at h
            · rename_i st' w' hM
              try simp only [hM]
              exact ih _ _ _ _ _ _ _ h
            · rename_i hM
              try simp only [hM]
              split at h
              · rename_i v hR
                try simp only [hR]
                exact h
              · rename_i hR
                try simp only [hR]
                split at h
                · rename_i zz As rest hC
                  try simp only [hC]
                  split at h
                  · cases h
                  · split at h
                    · rename_i v w1 hv
                      try simp only [ih _ _ _ _ _ _ _ hv]
                      exact ih _ _ _ _ _ _ _ h
                    · cases h
                · cases h
theorem ai_run_le {n n' : Nat} (hn : n ≤ n') (h : ai_run o.1 o.2 n d z pc L st w = some r) : ai_run o.1 o.2 n' d z pc L st w = some r := by
  obtain ⟨k, rfl⟩ := Nat.le.dest hn
  induction k with
  | zero => exact h
  | succ k ih => exact ai_run_up _ _ _ _ _ _ _ _ (ih (Nat.le_add_right _ _))
theorem ai_run_det {n n' : Nat} {r r' : Option Value × ai_W} (h : ai_run o.1 o.2 n d z pc L st w = some r) (h' : ai_run o.1 o.2 n' d z pc L st w = some r') : r = r' := by
  have a := ai_run_le (Nat.le_max_left n n') h
  have b := ai_run_le (Nat.le_max_right n n') h'
  exact Option.some.inj (a.symm.trans b)
theorem rn_C {zz : ai_Mi} {As rest : List Value} {v : Option Value} (hd : decode z.2.1 pc = .ok (ins, len)) (h0 : ai_A z.1.cls ins len L st = none ∧ ai_B ins len L st = none ∧ ai_J ins len pc st = none ∧ ai_M o.1 o.2 z.1 ins len (d + 1) st w = none ∧ ai_R z.2.2.2 ins len st = none) (hC : ai_C z.1 ins len st w = some (zz, As, rest)) (hE : Ev o d zz As w v w') : Rn o (d + 1) z pc L st w r = Rn o (d + 1) z (pc + 3) L (v.toList ++ rest) w' r := by
  obtain ⟨h1, h2, h3, h4, h5⟩ := h0
  obtain ⟨k, hk⟩ := hE
  apply propext
  constructor
  · rintro ⟨n, hn⟩
    cases n with
    | zero => rw [ai_run] at hn; cases hn
    | succ n =>
      rw [ai_run, hd] at hn
      simp only [h1, h2, h3, h4, h5, hC] at hn
      split at hn
      · rename_i v2 w2 hv
        have := ai_run_det hv hk
        cases this
        exact ⟨n, hn⟩
      · cases hn
  · rintro ⟨n, hn⟩
    refine ⟨max n k + 1, ?_⟩
    rw [ai_run, hd]
    simp only [h1, h2, h3, h4, h5, hC]
    rw [ai_run_le (Nat.le_max_right n k) hk]
    exact ai_run_le (Nat.le_max_left n k) hn
end RUN
