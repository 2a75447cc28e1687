/-! WHAT THE SMALL MACHINE ANSWERS, THE BIG ONE DOES -/
theorem ai_run_cases {oL : Nat → Nat} {ox : Nat → Nat → Int32} {n d pc : Nat} {y : MethodName × ByteArray × Nat × Option FieldType} {L st : List Value} {w w' : ai_W} {r : Option Value} (h : ai_run oL ox (n + 1) d y pc L st w = some (r, w')) : ∃ ins len, decode y.2.1 pc = .ok (ins, len) ∧
    ((∃ st', ai_A y.1.cls ins len L st = some st' ∧ ai_run oL ox n d y (pc + len) L st' w = some (r, w'))
    ∨ (∃ L' st', ai_B ins len L st = some (L', st') ∧ ai_run oL ox n d y (pc + len) L' st' w = some (r, w'))
    ∨ (∃ pc' st', ai_J ins len pc st = some (pc', st') ∧ ai_run oL ox n d y pc' L st' w = some (r, w'))
    ∨ (∃ st' w1, ai_M oL ox y.1 ins len d st w = some (st', w1) ∧ ai_run oL ox n d y (pc + len) L st' w1 = some (r, w'))
    ∨ (ai_R y.2.2.2 ins len st = some r ∧ w' = w)
    ∨ (∃ z As rest d' v w1, ai_C y.1 ins len st w = some (z, As, rest) ∧ d = d' + 1 ∧ ai_run oL ox n d' z 0 (ai_ent z.2.2.1 As) [] w = some (v, w1) ∧ ai_run oL ox n (d' + 1) y (pc + 3) L (v.toList ++ rest) w1 = some (r, w'))) := by
  rw [ai_run] at h
  split at h
  · cases h
  · rename_i ins len hd
    refine ⟨ins, len, hd, ?_⟩
    split at h
    · exact Or.inl ⟨_, by assumption, h⟩
    · split at h
      · exact Or.inr (Or.inl ⟨_, _, by assumption, h⟩)
      · split at h
        · exact Or.inr (Or.inr (Or.inl ⟨_, _, by assumption, h⟩))
        · split at h
          · exact Or.inr (Or.inr (Or.inr (Or.inl ⟨_, _, by assumption, h⟩)))
          · split at h
            · rename_i hr
              cases h
              exact Or.inr (Or.inr (Or.inr (Or.inr (Or.inl ⟨hr, rfl⟩))))
            · split at h
              · rename_i z As rest hC
                split at h
                · cases h
                · split at h
                  · rename_i v w1 hv
                    exact Or.inr (Or.inr (Or.inr (Or.inr (Or.inr ⟨z, As, rest, _, v, w1, hC, rfl, hv, h⟩))))
                  · cases h
              · cases h
def ai_pl (r : Option Value) : Prop := ∀ v ∈ r.toList, ∀ i, v ≠ .ref i
theorem ai_R_ok {ret : Option FieldType} {ins : Instr} {len : Nat} {st : List Value} {r : Option Value} (h : ai_R ret ins len st = some r) : len = 1 ∧ ((∃ v, ins = .ireturn ∧ st = [.int v] ∧ r = some (.int v) ∧ ∃ ty, ret = some ty ∧ narrow ty (.int v) = .int v) ∨ (∃ v, ins = .lreturn ∧ st = [.long v] ∧ r = some (.long v) ∧ ret = some .long) ∨ (ins = .return_ ∧ st = [] ∧ r = none ∧ ret = none)) := by
  unfold ai_R at h
  split at h
  · split at h
    · rename_i v
      split at h
      · rename_i hc
        cases h
        refine ⟨hc.1, Or.inl ⟨v, rfl, rfl, rfl, ?_⟩⟩
        rcases hc.2 with h1 | h1
        · exact ⟨_, h1, rfl⟩
        · exact ⟨_, h1.1, h1.2⟩
      · cases h
    · cases h
  · split at h
    · rename_i v
      split at h
      · rename_i hc
        cases h
        exact ⟨hc.1, Or.inr (Or.inl ⟨v, rfl, rfl, rfl, hc.2⟩)⟩
      · cases h
    · cases h
  · split at h
    · split at h
      · rename_i hc
        cases h
        exact ⟨hc.1, Or.inr (Or.inr ⟨rfl, rfl, rfl, hc.2⟩)⟩
      · cases h
    · cases h
  · cases h
theorem ai_R_pl {ret : Option FieldType} {ins : Instr} {len : Nat} {st : List Value} {r : Option Value} (h : ai_R ret ins len st = some r) : ai_pl r := by
  obtain ⟨-, h | h | h⟩ := ai_R_ok h
  · obtain ⟨v, -, -, rfl, -⟩ := h
    intro x hx i hi
    simp at hx
    subst hx
    cases hi
  · obtain ⟨v, -, -, rfl, -⟩ := h
    intro x hx i hi
    simp at hx
    subst hx
    cases hi
  · obtain ⟨-, -, rfl, -⟩ := h
    intro x hx
    simp at hx
theorem ai_run_mono {oL : Nat → Nat} {ox : Nat → Nat → Int32} : ∀ (n d pc : Nat) (y : MethodName × ByteArray × Nat × Option FieldType) (L st : List Value) (w w' : ai_W) (r : Option Value), ai_run oL ox n d y pc L st w = some (r, w') → w.1 ≤ w'.1 ∧ w.2.1 ≤ w'.2.1 ∧ ai_pl r := by
  intro n
  induction n with
  | zero => intro d pc y L st w w' r h; rw [ai_run] at h; cases h
  | succ n ih =>
    intro d pc y L st w w' r h
    obtain ⟨ins, len, hd, h | h | h | h | h | h⟩ := ai_run_cases h
    · obtain ⟨st', -, h⟩ := h
      exact ih _ _ _ _ _ _ _ _ h
    · obtain ⟨L', st', -, h⟩ := h
      exact ih _ _ _ _ _ _ _ _ h
    · obtain ⟨pc', st', -, h⟩ := h
      exact ih _ _ _ _ _ _ _ _ h
    · obtain ⟨st', w1, h1, h⟩ := h
      obtain ⟨a1, a2, -⟩ := ai_M_ok h1
      obtain ⟨b1, b2, b3⟩ := ih _ _ _ _ _ _ _ _ h
      exact ⟨Nat.le_trans a1 b1, Nat.le_trans a2 b2, b3⟩
    · obtain ⟨h1, rfl⟩ := h
      exact ⟨Nat.le_refl _, Nat.le_refl _, ai_R_pl h1⟩
    · obtain ⟨z, As, rest, d', v, w1, -, -, h1, h⟩ := h
      obtain ⟨a1, a2, -⟩ := ih _ _ _ _ _ _ _ _ h1
      obtain ⟨b1, b2, b3⟩ := ih _ _ _ _ _ _ _ _ h
      exact ⟨Nat.le_trans a1 b1, Nat.le_trans a2 b2, b3⟩
-- a method's entry
theorem ai_ent_len {n : Nat} {As : List Value} (h : (lg_sl As).length ≤ n) : (ai_ent n As).length = n := by
  have e : (As.flatMap fun v => if v.category = 2 then [v, Value.null] else [v]).length = (lg_sl As).length := by
    clear h
    induction As with
    | nil => rfl
    | cons a As ih =>
      unfold lg_sl at ih ⊢
      rw [List.flatMap_cons, List.flatMap_cons, List.length_append, List.length_append, ih]
      congr 1
      split <;> rfl
  unfold ai_ent
  rw [List.length_append, e, List.length_replicate]
  omega
theorem ai_ent_sl {ad : Nat → Nat} : ∀ (As : List Value) (i : Nat) (v : Value), (As.flatMap fun v => if v.category = 2 then [v, Value.null] else [v])[i]? = some v → v ≠ .null → (lg_sl (As.map (ai_cv ad)))[i]? = some (.val (ai_cv ad v)) := by
  intro As
  induction As with
  | nil => intro i v h; simp at h
  | cons a As ih =>
    intro i v h hn
    unfold lg_sl at ih ⊢
    rw [List.flatMap_cons] at h
    rw [List.map_cons, List.flatMap_cons, ai_cat]
    by_cases hc : a.category = 2
    · rw [if_pos hc] at h ⊢
      match i, h with
      | 0, h => simp at h; subst h; rfl
      | 1, h => simp at h; exact absurd h.symm hn
      | i + 2, h => exact ih i v h hn
    · rw [if_neg hc] at h ⊢
      match i, h with
      | 0, h => simp at h; subst h; rfl
      | i + 1, h => exact ih i v h hn
theorem ai_sl_len (ad : Nat → Nat) (As : List Value) : (lg_sl (As.map (ai_cv ad))).length = (lg_sl As).length := by
  induction As with
  | nil => rfl
  | cons a As ih =>
    unfold lg_sl at ih ⊢
    rw [List.map_cons, List.flatMap_cons, List.flatMap_cons, List.length_append, List.length_append, ih, ai_cat]
    congr 1
    split <;> rfl
theorem ai_ent_L {ad : Nat → Nat} {n : Nat} {As : List Value} (h : (lg_sl As).length ≤ n) : ai_L ad n (ai_ent n As) ((lg_sl (As.map (ai_cv ad)) ++ List.replicate (n - (lg_sl (As.map (ai_cv ad))).length) Slot.unset).toArray) := by
  have hl := lv_entry (As.map (ai_cv ad)) (n := n) (by rw [ai_sl_len]; exact h)
  refine ⟨ai_ent_len h, hl.1, hl.2.1, fun i v hi hv => ?_⟩
  rw [List.getElem?_toArray]
  unfold ai_ent at hi
  by_cases hlt : i < (As.flatMap fun v => if v.category = 2 then [v, Value.null] else [v]).length
  · rw [List.getElem?_append_left hlt] at hi
    have := ai_ent_sl (ad := ad) As i v hi hv
    rw [List.getElem?_append_left (List.getElem?_eq_some_iff.mp this).1]
    exact this
  · rw [List.getElem?_append_right (by omega)] at hi
    have := List.mem_of_getElem? hi
    rw [List.mem_replicate] at this
    exact absurd this.2 hv
theorem ai_ent_oks {n k : Nat} {As : List Value} (h : ai_oks k As) : ai_oks k (ai_ent n As) := by
  intro v hv
  unfold ai_ent at hv
  rcases List.mem_append.mp hv with h1 | h1
  · obtain ⟨a, ha, hb⟩ := List.mem_flatMap.mp h1
    split at hb
    · simp at hb
      rcases hb with rfl | rfl
      · exact h _ ha
      · exact ai_okN
    · simp at hb
      subst hb
      exact h _ ha
  · rw [(List.mem_replicate.mp h1).2]
    exact ai_okN
-- calls
theorem ai_pop_ok {n : Nat} {st As rest : List Value} (h : ai_pop n st = some (As, rest)) : st = As.reverse ++ rest ∧ As.length = n ∧ (rest.map fun v => v.category).sum ≤ 8 := by
  unfold ai_pop at h
  split at h
  · rename_i hc
    cases h
    refine ⟨by rw [List.reverse_reverse, List.take_append_drop], ?_, hc.2⟩
    rw [List.length_reverse, List.length_take]
    omega
  · cases h
theorem ai_popV_ok {n b : Nat} {st As rest : List Value} (h : ai_popV n st = some (b, As, rest)) : st = As.reverse ++ .ref b :: rest ∧ As.length = n ∧ (rest.map fun v => v.category).sum ≤ 8 := by
  unfold ai_popV at h
  split at h
  · rename_i As' b' rest' hp
    cases h
    obtain ⟨h1, h2, h3⟩ := ai_pop_ok hp
    refine ⟨h1, h2, ?_⟩
    simp only [List.map_cons, List.sum_cons] at h3
    omega
  · cases h
theorem ai_fine_ok {z : MethodName} {n : Nat} {mi : ByteArray × Nat × Option FieldType} (h : ai_fine z n mi = true) : z.cls ≠ "java/lang/invoke/MethodHandle" ∧ z.cls ≠ "java/lang/invoke/VarHandle" ∧ (parseMethodDescriptor z.desc).map (fun d => d.parameters.length) = some n ∧ Cond.initialized z.cls ∈ ai_tb ∧ plainFor z = true ∧ mi.2.1 ≤ 20 := of_decide_eq_true h
theorem ai_cV_ok {own : String} {idx n : Nat} {z : MethodName} {mi : ByteArray × Nat × Option FieldType} (h : ai_cV own idx = some (z, n, mi)) : ai_mlk own idx = some z ∧ ai_code z = some mi ∧ ai_fine z n mi = true ∧ Cond.instanceMethod z ∈ ai_tb ∧ Cond.selects z.cls z z ∈ ai_tb := by
  unfold ai_cV at h
  split at h
  · rename_i z' hz
    split at h
    · rename_i mi' hm
      split at h
      · rename_i hc
        cases h
        exact ⟨hz, hm, hc⟩
      · cases h
    · cases h
  · cases h
theorem ai_cS_ok {own : String} {idx n : Nat} {z : MethodName} {mi : ByteArray × Nat × Option FieldType} (h : ai_cS own idx = some (z, n, mi)) : ai_mlk own idx = some z ∧ ai_code z = some mi ∧ ai_fine z n mi = true ∧ Cond.static z ∈ ai_tb := by
  unfold ai_cS at h
  split at h
  · rename_i z' hz
    split at h
    · rename_i mi' hm
      split at h
      · rename_i hc
        cases h
        exact ⟨hz, hm, hc⟩
      · cases h
    · cases h
  · cases h
theorem ai_cI_ok {own : String} {idx n : Nat} {z : MethodName} {mi : ByteArray × Nat × Option FieldType} (h : ai_cI own idx = some (z, n, mi)) : ai_mlk own idx = some z ∧ ai_code z = some mi ∧ ai_fine z n mi = true ∧ z.name = "<init>" ∧ Cond.instanceMethod z ∈ ai_tb ∧ mi.2.2 = none := by
  unfold ai_cI at h
  split at h
  · rename_i z' hz
    split at h
    · rename_i mi' hm
      split at h
      · rename_i hc
        cases h
        exact ⟨hz, hm, hc⟩
      · cases h
    · cases h
  · cases h
theorem ai_cN_ok {own : String} {idx n : Nat} {z : MethodName} {mi : ByteArray × Nat × Option FieldType} (h : ai_cN own idx = some (z, n, mi)) : (∃ host, ai_nlk own idx = some (z, host)) ∧ ai_code z = some mi ∧ ai_fine z n mi = true ∧ z.name = "<init>" ∧ Cond.instanceMethod z ∈ ai_tb ∧ mi.2.2 = none := by
  unfold ai_cN at h
  split at h
  · rename_i z' hz
    split at h
    · rename_i mi' hm
      split at h
      · rename_i hc
        cases h
        exact ⟨⟨_, hz⟩, hm, hc⟩
      · cases h
    · cases h
  · cases h
/-- what a call leaves -/
def ai_Qc (sz : Nat) (oL : Nat → Nat) (ox : Nat → Nat → Int32) (ob : Nat → Nat) (D : va_G) (ad : Nat → Nat) (w : ai_W) (v : Option Value) (w' : ai_W) : Array Value → State → Outcome → State → Prop := fun _ st oc t => (∃ u : (Nat → Nat) × (Nat → ClassId), oc = .returned v ∧ (∀ i, i < w.1 → u.1 i = ad i) ∧ ai_I sz oL ox ob D u.1 u.2 w' t t.heap) ∧ va_F (fun q => sz ≤ q) st t
abbrev ai_ws (z : MethodName × ByteArray × Nat × Option FieldType) : List Cond := Cond.code z.1 z.2.1 z.2.2.1 z.2.2.2 :: ai_tb
abbrev ai_rm (d : Nat) (w w' : ai_W) : Room := { frames := d, cells := w'.1 - w.1, slots := w'.2.1 - w.2.1, locals := 40 * d }
section SIMC
variable {p : Program} {l : Launch} {e : Env} {R : Room} {s : State} {m : MethodId} {args : Array Value} {below : List Frame} {meth : Method} {c : Code} {H : Heap} {locs : List Loc} {cells slots : Nat} {Q : State → Prop}
variable {sz : Nat} {oL : Nat → Nat} {ox : Nat → Nat → Int32} {ob : Nat → Nat} {D : va_G} {ad : Nat → Nat} {tc : Nat → ClassId} {w w' : ai_W} {cc : ByteArray} {pc : Nat} {ls : Array Slot} {st st' : List Value}
theorem ai_call {a : Array Value} {v : Option Value} {mc ms : Nat} {st0 rest : List Value} (hI : ai_I sz oL ox ob D ad tc w s H) (hr : va_Run p l e R s m args below meth c H locs cells slots mc ms (F0 m pc ls st0) rest (ai_Qc sz oL ox ob D ad w v w' a) (fun q => sz ≤ q)) (hS : va_S (fun q => sz ≤ q) s.heap H locs)
    (kk : ∀ (ad' : Nat → Nat) (tc' : Nat → ClassId) (H1 : Heap) (locs1 : List Loc), (∀ i, i < w.1 → ad' i = ad i) → ai_I sz oL ox ob D ad' tc' w' s H1 → va_S (fun q => sz ≤ q) s.heap H1 locs1 → W p l e R s m args below meth c H1 locs1 (cells + mc) (slots + ms) Q (F0 m (pc + 3) ls (v.toList ++ rest))) : W p l e R s m args below meth c H locs cells slots Q (F0 m pc ls st0) := by
  intro T hT X
  obtain ⟨v', st₀, t, T', L, h0, X', hL, e1, e2, ⟨⟨u, hv, hu, hI'⟩, hz, hk⟩, st⟩ := hr T hT X
  cases hv
  rw [h0] at hz hk
  obtain ⟨t2, a1, b1⟩ := kk u.1 u.2 T'.heap (locs ++ L) hu (by rw [e1]; exact hI.back hI' (by rw [← e2]; exact X'.warmed.alike))
    ⟨Nat.le_trans hS.1 (by rw [e1]; exact hz), fun q h1 h2 => by rw [e1, hk q (Nat.lt_of_lt_of_le h1 hS.1) h2]; exact hS.2.1 q h1 h2, fun q hq => by
      rcases List.mem_append.mp hq with h | h
      · exact hS.2.2 q h
      · exact hL q h⟩ T' rfl X'
  exact ⟨t2, st t2 a1, b1⟩
theorem ai_ws_in {z : MethodName} {mi : ByteArray × Nat × Option FieldType} (h : ai_code z = some mi) : ∀ x ∈ ai_ws (z, mi), x ∈ ai_tb := fun x hx => by
  rcases List.mem_cons.mp hx with rfl | h1
  · exact ai_code_mem h
  · exact h1
/-- the four kinds of call, over the contract of what is called -/
theorem ai_C_run {y : MethodName} {z : MethodName × ByteArray × Nat × Option FieldType} {ins : Instr} {len d nL : Nat} {As rest : List Value} {v : Option Value} (hx : p.tables.exec = Jvm.exec) (hb : c.code = cc) (hml : c.maxLocals = nL) (hls : ls.size = nL) (hown : s.vm.findClass y.cls = some m.cls) (hts : ∀ w ∈ ai_tb, w.before args s = true) (hI : ai_I sz oL ox ob D ad tc w s H) (hS : va_S (fun q => sz ≤ q) s.heap H locs) (hd : d + 1 ≤ R.frames) (hdl : 40 * (d + 1) ≤ R.locals) (hdg : decode cc pc = .ok (ins, len)) (h : ai_C y ins len st w = some (z, As, rest)) (hc1 : cells + (w'.1 - w.1) ≤ R.cells) (hc2 : slots + (w'.2.1 - w.2.1) ≤ R.slots)
    (hM : ai_code z.1 = some z.2 → plainFor z.1 = true → (lg_sl As).length ≤ z.2.2.1 → ai_oks w.1 As → Met l z.1 (ai_ws z) (ai_rm d w w') (va_Pc (As.map (ai_cv ad)) (fun U => ai_I sz oL ox ob D ad tc w U U.heap)) (ai_Qc sz oL ox ob D ad w v w') (w'.1 - w.1) (w'.2.1 - w.2.1) (fun q => sz ≤ q)) (hs : ai_oks w.1 st) :
    ai_oks w.1 rest ∧ va_Run p l e R s m args below meth c H locs cells slots (w'.1 - w.1) (w'.2.1 - w.2.1) (F0 m pc ls (st.map (ai_cv ad))) (rest.map (ai_cv ad)) (ai_Qc sz oL ox ob D ad w v w' (As.map (ai_cv ad)).toArray) (fun q => sz ≤ q) := by
  have hblind : ∀ AA : List Value, FrameBlind (va_Pc AA (fun U => ai_I sz oL ox ob D ad tc w U U.heap)) := fun AA a U g mk q => ⟨q.1, q.2.blind⟩
  have hpre : ∀ (AA : List Value) (U : State), U.heap = H → s.WarmedH U.vm → va_Pc AA (fun U => ai_I sz oL ox ob D ad tc w U U.heap) AA.toArray U := fun AA U hU hW => ⟨rfl, hI.call hS hU hW⟩
  have hsplit : ∀ {A0 r0 : List Value} {b : Nat}, st = A0.reverse ++ .ref b :: r0 → ai_oks w.1 (.ref b :: A0) ∧ ai_oks w.1 r0 ∧ st.map (ai_cv ad) = (A0.map (ai_cv ad)).reverse ++ .ref (ad b) :: r0.map (ai_cv ad) := by
    intro A0 r0 b he
    refine ⟨fun x hx => hs x ?_, fun x hx => hs x ?_, ?_⟩
    · rw [he]
      rcases List.mem_cons.mp hx with rfl | h1
      · simp
      · simp [h1]
    · rw [he]; simp [hx]
    · rw [he, List.map_append, List.map_reverse]; rfl
  unfold ai_C at h
  split at h
  · split at h
    · rename_i i h0
      subst h0
      split at h
      · rename_i z' n mi hcV
        split at h
        · rename_i b A0 r0 hpop
          split at h
          · rename_i hc
            cases h
            obtain ⟨k1, k2, k3⟩ := ai_popV_ok hpop
            obtain ⟨g1, g2, g3, g4, g5⟩ := ai_cV_ok hcV
            obtain ⟨f1, f2, f3, f4, f5, f6⟩ := ai_fine_ok g3
            obtain ⟨s1, s2, s3⟩ := hsplit k1
            refine ⟨s2, ?_⟩
            have hMz := hM g2 f5 hc.2.2.2 s1
            rw [s3]
            obtain ⟨q, hq1, hq2⟩ := Option.map_eq_some_iff.mp hc.2.1
            obtain ⟨h1, h2, h3, h4, h5, h6, h7, h8⟩ := hI
            have hrecv := va_recv (a := ad b) (q0 := b) (ci := (w.2.2.1 b).1 - 3) h2.1 h3 hq1 (by rw [ai_cells_at hc.1, ai_en_o (c := (w.2.2.1 b).1 - 3) (by omega)])
            rw [hq2] at hrecv
            refine va_runV (As := A0.map (ai_cv ad)) (b := ad b) ⟨hx, hb, hml, hown, hts⟩ hMz (cwV n hts (ai_tb_in (fun x hx => ?_) (fun _ z => z)) rfl rfl rfl ⟨rfl, f1, f2, f3⟩ ⟨hd, ?_⟩) ⟨hblind _, hrecv, hpre _⟩ rfl (by rw [List.length_map]; exact k2) hls rfl (lv_room (ai_sum k3)) hdg ⟨hc1, hc2⟩
            · unfold wsV at hx
              simp only [List.cons_append, List.nil_append, List.mem_cons] at hx
              rcases hx with rfl | rfl | rfl | rfl | hx
              · exact ai_mlk_mem g1
              · exact g4
              · exact g5
              · exact f4
              · exact ai_ws_in g2 x (List.mem_cons.mpr hx)
            · show 8 + (mi.2.1 + 11) + 40 * d ≤ R.locals
              omega
          · cases h
        · cases h
      · cases h
    · cases h
  · split at h
    · rename_i i h0
      subst h0
      split at h
      · rename_i z' n mi hcS
        split at h
        · rename_i A0 r0 hpop
          split at h
          · rename_i hc
            cases h
            obtain ⟨k1, k2, k3⟩ := ai_pop_ok hpop
            obtain ⟨g1, g2, g3, g4⟩ := ai_cS_ok hcS
            obtain ⟨f1, f2, f3, f4, f5, f6⟩ := ai_fine_ok g3
            have s1 : ai_oks w.1 As := fun x hx => hs x (by rw [k1]; simp [hx])
            have s2 : ai_oks w.1 rest := fun x hx => hs x (by rw [k1]; simp [hx])
            have s3 : st.map (ai_cv ad) = (As.map (ai_cv ad)).reverse ++ rest.map (ai_cv ad) := by rw [k1, List.map_append, List.map_reverse]
            refine ⟨s2, ?_⟩
            have hMz := hM g2 f5 hc s1
            rw [s3]
            refine va_runS (As := As.map (ai_cv ad)) ⟨hx, hb, hml, hown, hts⟩ hMz (va_cwS n hts (ai_tb_in (fun x hx => ?_) (fun _ z => z)) rfl rfl rfl ⟨f1, f2, f3⟩ ⟨hd, ?_⟩) ⟨hblind _, hpre _⟩ rfl (by rw [List.length_map]; exact k2) hls rfl (lv_room (ai_sum k3)) hdg ⟨hc1, hc2⟩
            · unfold va_wsS at hx
              simp only [List.cons_append, List.nil_append, List.mem_cons] at hx
              rcases hx with rfl | rfl | rfl | hx
              · exact ai_mlk_mem g1
              · exact g4
              · exact f4
              · exact ai_ws_in g2 x (List.mem_cons.mpr hx)
            · show 8 + (mi.2.1 + 11) + 40 * d ≤ R.locals
              omega
          · cases h
        · cases h
      · cases h
    · cases h
  · split at h
    · rename_i i h0
      subst h0
      split at h
      · rename_i z' n mi hcI
        split at h
        · rename_i b A0 r0 hpop
          split at h
          · rename_i hc
            cases h
            obtain ⟨k1, k2, k3⟩ := ai_popV_ok hpop
            obtain ⟨g1, g2, g3, g4, g5, g6⟩ := ai_cI_ok hcI
            obtain ⟨f1, f2, f3, f4, f5, f6⟩ := ai_fine_ok g3
            obtain ⟨s1, s2, s3⟩ := hsplit k1
            refine ⟨s2, ?_⟩
            have hMz := hM g2 f5 hc s1
            rw [s3]
            obtain ⟨mb, mn, mr⟩ := mi
            dsimp only at g6
            subst g6
            refine va_runI (As := A0.map (ai_cv ad)) (b := ad b) ⟨hx, hb, hml, hown, hts⟩ hMz (cwI n hts (ai_tb_in (ai_ws_in g2) (fun _ z => z)) rfl rfl rfl (hts _ f4) (hts _ (ai_mlk_mem g1)) (hts _ g5) g4 ⟨f1, f2, f3⟩ ⟨hd, ?_⟩) ⟨hblind _, hpre _⟩ rfl (by rw [List.length_map]; exact k2) hls rfl (lv_room (ai_sum k3)) hdg ⟨hc1, hc2⟩
            show 8 + (mn + 11) + 40 * d ≤ R.locals
            have : mn ≤ 20 := f6
            omega
          · cases h
        · cases h
      · split at h
        · rename_i z' n mi hcN
          split at h
          · rename_i b A0 r0 hpop
            split at h
            · rename_i hc
              cases h
              obtain ⟨k1, k2, k3⟩ := ai_popV_ok hpop
              obtain ⟨⟨host, g1⟩, g2, g3, g4, g5, g6⟩ := ai_cN_ok hcN
              obtain ⟨f1, f2, f3, f4, f5, f6⟩ := ai_fine_ok g3
              obtain ⟨s1, s2, s3⟩ := hsplit k1
              refine ⟨s2, ?_⟩
              have hMz := hM g2 f5 hc s1
              rw [s3]
              obtain ⟨mb, mn, mr⟩ := mi
              dsimp only at g6
              subst g6
              refine va_runIN (As := A0.map (ai_cv ad)) (b := ad b) ⟨hx, hb, hml, hown, hts⟩ hMz ⟨va_cnB n hts (ai_tb_in (ai_ws_in g2) (fun _ z => z)) rfl rfl rfl (hI.2.2.2.2.2.1.2 _ _ _ _ (ai_nlk_mem g1)) (hts _ f4) ⟨f1, f2, f3⟩ ⟨hd, ?_⟩, g4, hts _ g5⟩ ⟨hblind _, hpre _⟩ rfl (by rw [List.length_map]; exact k2) hls rfl (lv_room (ai_sum k3)) hdg ⟨hc1, hc2⟩
              show 8 + (mn + 11) + 40 * d ≤ R.locals
              have : mn ≤ 20 := f6
              omega
            · cases h
          · cases h
        · cases h
    · cases h
  · cases h
end SIMC
