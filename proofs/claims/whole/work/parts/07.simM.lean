/-! the small machine's steps on the heap, on the big one -/
theorem ai_keep_ok {o : Option (List Value)} {w : ai_W} {q : List Value × ai_W} (h : ai_keep o w = some q) : o = some q.1 ∧ q.2 = w := by
  cases o with
  | none => cases h
  | some st => cases h; exact ⟨rfl, rfl⟩
theorem ai_get_ok {own : String} {idx : Nat} {st st' : List Value} {w : ai_W} (h : ai_get own idx st w = some st') : ∃ (i : Nat) (r : List Value) (q : Nat × Nat) (v : Value), st = .ref i :: r ∧ ai_fld own idx = some q ∧ i < w.1 ∧ (w.2.2.1 i).1 = q.1 + 3 ∧ st' = v :: r ∧ (∀ ad, ai_fv ad w q.1 i q.2 = ai_cv ad v) ∧ (ai_wf w → ai_okv w.1 v) := by
  unfold ai_get at h
  split at h
  · rename_i i r
    split at h
    · rename_i q hq
      split at h
      · rename_i hc
        split at h
        · rename_i ht
          cases h
          exact ⟨i, r, q, _, rfl, hq, hc.1, hc.2, rfl, fun ad => by simp [ai_fv, ht, ai_cv], fun _ => ai_okI⟩
        · rename_i ht
          split at h
          · rename_i ht2
            cases h
            exact ⟨i, r, q, _, rfl, hq, hc.1, hc.2, rfl, fun ad => by simp [ai_fv, ht2, ai_cv], fun _ => ai_okL⟩
          · rename_i ht2
            split at h
            · split at h
              · rename_i k hk
                cases h
                exact ⟨i, r, q, _, rfl, hq, hc.1, hc.2, rfl, fun ad => by simp [ai_fv, ht, ht2, hk, ai_cv, va_rf], fun hw j hj => by cases hj; exact Or.inl (hw.2 _ _ _ hc.1 hk)⟩
              · cases h
            · cases h
      · cases h
    · cases h
  · cases h
theorem ai_may_ok {y : MethodName} {ci k : Nat} {q : vw_C} (hq : ai_cl[ci]? = some q) (h : ai_may y ci k = true) : (q.2.1 k).2.2.2 = false ∨ (y.name = "<init>" ∧ (q.2.1 k).1 = y.cls) := by
  unfold ai_may at h
  rw [hq] at h
  exact of_decide_eq_true h
theorem ai_put_ok {y : MethodName} {idx : Nat} {st st' : List Value} {w w' : ai_W} (h : ai_put y idx st w = some (st', w')) : ∃ (i : Nat) (q : Nat × Nat) (v : Value), st = v :: .ref i :: st' ∧ ai_fld y.cls idx = some q ∧ i < w.1 ∧ (w.2.2.1 i).1 = q.1 + 3 ∧ ai_may y q.1 q.2 = true ∧ w'.1 = w.1 ∧ w'.2.1 = w.2.1 ∧ w'.2.2.1 = w.2.2.1 ∧ (∀ a, a ≠ i → w'.2.2.2.2.1 a = w.2.2.2.2.1 a ∧ w'.2.2.2.2.2 a = w.2.2.2.2.2 a ∧ w'.2.2.2.1 a = w.2.2.2.1 a) ∧ (∀ ad, ai_cv ad v = ai_fv ad w' q.1 i q.2) ∧ (∀ ad j, j ≠ q.2 → ai_fv ad w q.1 i j = ai_fv ad w' q.1 i j) ∧ narrow (ai_ty q.1 q.2) v = v ∧ (∀ ad, narrow (ai_ty q.1 q.2) (ai_cv ad v) = ai_cv ad v ∧ fits (ai_ty q.1 q.2) (ai_cv ad v) = true) ∧ (ai_wf w → ai_wf w') := by
  unfold ai_put at h
  split at h
  · rename_i x i r
    split at h
    · rename_i q hq
      split at h
      · rename_i hc
        obtain ⟨c1, c2, c3, c4⟩ := hc
        cases h
        refine ⟨i, q, .int x, rfl, hq, c1, c2, c3, rfl, rfl, rfl, fun a ha => ⟨by simp [ai_up, ha], rfl, rfl⟩, fun ad => by simp [ai_fv, c4, ai_cv, ai_up, upd], fun ad j hj => by simp [ai_fv, ai_up, upd, hj], by rw [c4]; rfl, fun ad => by rw [c4]; exact ⟨rfl, rfl⟩, fun hw => hw⟩
      · cases h
    · cases h
  · rename_i x i r
    split at h
    · rename_i q hq
      split at h
      · rename_i hc
        obtain ⟨c1, c2, c3, c4⟩ := hc
        cases h
        refine ⟨i, q, .long x, rfl, hq, c1, c2, c3, rfl, rfl, rfl, fun a ha => ⟨rfl, by simp [ai_upL, ha], rfl⟩, fun ad => by simp [ai_fv, c4, ai_cv, ai_upL, vp_updL], fun ad j hj => by simp [ai_fv, ai_upL, vp_updL, hj], by rw [c4]; rfl, fun ad => by rw [c4]; exact ⟨rfl, rfl⟩, fun hw => hw⟩
      · cases h
    · cases h
  · rename_i x i r
    split at h
    · rename_i q hq
      split at h
      · rename_i hc
        obtain ⟨c1, c0, c2, c3, c4⟩ := hc
        cases h
        have n1 : ai_ty q.1 q.2 ≠ .int := fun z => by rw [z] at c4; cases c4
        have n2 : ai_ty q.1 q.2 ≠ .long := fun z => by rw [z] at c4; cases c4
        have n3 : ∀ a, narrow (ai_ty q.1 q.2) (.ref a) = .ref a ∧ fits (ai_ty q.1 q.2) (.ref a) = true := fun a => by
          cases hty : ai_ty q.1 q.2 with
          | object C => exact ⟨rfl, rfl⟩
          | array C => exact ⟨rfl, rfl⟩
          | _ => rw [hty] at c4; cases c4
        refine ⟨i, q, .ref x, rfl, hq, c1, c2, c3, rfl, rfl, rfl, fun a ha => ⟨rfl, rfl, by simp [ai_upR, ha]⟩, fun ad => by simp [ai_fv, n1, n2, ai_cv, ai_upR, va_up, va_rf], fun ad j hj => by simp [ai_fv, ai_upR, va_up, hj], (n3 x).1, fun ad => n3 (ad x), fun hw => ⟨hw.1, fun a j k ha hk => ?_⟩⟩
        by_cases hai : a = i
        · subst hai
          by_cases hj : j = q.2
          · subst hj
            simp [ai_upR, va_up] at hk
            subst hk
            exact c0
          · simp [ai_upR, va_up, hj] at hk
            exact hw.2 _ _ _ ha hk
        · simp [ai_upR, hai] at hk
          exact hw.2 _ _ _ ha hk
      · cases h
    · cases h
  · cases h
section SIMM
variable {p : Program} {l : Launch} {e : Env} {R : Room} {s : State} {m : MethodId} {args : Array Value} {below : List Frame} {meth : Method} {c : Code} {H : Heap} {locs : List Loc} {cells slots : Nat} {Q : State → Prop}
variable {sz : Nat} {oL : Nat → Nat} {ox : Nat → Nat → Int32} {ob : Nat → Nat} {D : va_G} {ad : Nat → Nat} {tc : Nat → ClassId} {w w' : ai_W} {cc : ByteArray} {pc idx : Nat} {ls : Array Slot} {st st' : List Value} {y : MethodName}
theorem ai_get_W (hx : p.tables.exec = Jvm.exec) (hb : c.code = cc) (hown : s.vm.findClass y.cls = some m.cls) (hts : ∀ w ∈ ai_tb, w.before args s = true) (hI : ai_I sz oL ox ob D ad tc w s H) (hdg : decode cc pc = .ok (.getfield idx, 3)) (h : ai_get y.cls idx st w = some st')
    (k : W p l e R s m args below meth c H locs cells slots Q (F0 m (pc + 3) ls (st'.map (ai_cv ad)))) : W p l e R s m args below meth c H locs cells slots Q (F0 m pc ls (st.map (ai_cv ad))) := by
  obtain ⟨i, r, q, v, rfl, hq, hi, hk, rfl, hv, -⟩ := ai_get_ok h
  obtain ⟨cl, g1, g2, g3, g4⟩ := ai_fld_ok hq
  obtain ⟨C, T, N⟩ := cl
  obtain ⟨h1, h2, h3, h4, h5, h6, h7, h8⟩ := hI
  have hN : ai_N q.1 = N := by unfold ai_N; rw [g1]
  refine va_get (D := D) (ci := q.1) (v := ai_cv ad v) (fs := (List.range (ai_N q.1)).map (ai_fv ad w q.1 i)) (C := C) (T := T) (N := N) hx hb hts (ai_ClA g1).1 hown h2.1 h3 i ?_ g1 q.2 g2 (hts _ g4) (fun _ z => z) ?_ hdg k
  · rw [ai_cells_at hi, ai_en_o hk]
  · rw [hN, ai_range_at g2, hv ad]
theorem ai_put_W (hx : p.tables.exec = Jvm.exec) (hb : c.code = cc) (hown : s.vm.findClass y.cls = some m.cls) (hnm : meth.name = y.name) (hts : ∀ w ∈ ai_tb, w.before args s = true) (hI : ai_I sz oL ox ob D ad tc w s H) (hS : va_S (fun q => sz ≤ q) s.heap H locs) (hdg : decode cc pc = .ok (.putfield idx, 3)) (h : ai_put y idx st w = some (st', w'))
    (k : ∀ (H' : Heap) (locs' : List Loc), ai_I sz oL ox ob D ad tc w' s H' → va_S (fun q => sz ≤ q) s.heap H' locs' → W p l e R s m args below meth c H' locs' cells slots Q (F0 m (pc + 3) ls (st'.map (ai_cv ad)))) : W p l e R s m args below meth c H locs cells slots Q (F0 m pc ls (st.map (ai_cv ad))) := by
  obtain ⟨i, q, v, rfl, hq, hi, hk, hmay, e1, e2, e3, e4, e5, e6, -, e7, e8⟩ := ai_put_ok h
  obtain ⟨cl, g1, g2, g3, g4⟩ := ai_fld_ok hq
  have hmay := ai_may_ok g1 hmay
  obtain ⟨C, T, N⟩ := cl
  obtain ⟨h1, h2, h3, h4, h5, h6, h7, h8⟩ := hI
  have hN : ai_N q.1 = N := by unfold ai_N; rw [g1]
  obtain ⟨k1, k2, k3, k4⟩ := ai_ClA g1
  have he : (ai_cells ad tc w)[i]? = some (ad i, .inr (q.1, (List.range (ai_N q.1)).map (ai_fv ad w q.1 i))) := by rw [ai_cells_at hi, ai_en_o hk]
  have hset : (ai_cells ad tc w).set i (ad i, .inr (q.1, ((List.range (ai_N q.1)).map (ai_fv ad w q.1 i)).set q.2 (ai_cv ad v))) = ai_cells ad tc w' := by
    refine ai_cells_set e1 ?_ e3 e4
    rw [ai_en_o (by rw [e3]; exact hk)]
    rw [ai_range_set (e5 ad) (fun j _ hj => e6 ad j hj)]
  have kk : ∀ (H1 : Heap) (locs1 : List Loc), va_P D ai_cl ((ai_cells ad tc w).set i (ad i, .inr (q.1, ((List.range (ai_N q.1)).map (ai_fv ad w q.1 i)).set q.2 (ai_cv ad v)))) H1 → va_D (fun q => sz ≤ q) ((ai_cells ad tc w).set i (ad i, .inr (q.1, ((List.range (ai_N q.1)).map (ai_fv ad w q.1 i)).set q.2 (ai_cv ad v)))) → va_S (fun q => sz ≤ q) s.heap H1 locs1 → W p l e R s m args below meth c H1 locs1 cells slots Q (F0 m (pc + 3) ls (st'.map (ai_cv ad))) := by
    intro H1 locs1 p1 p2 p3
    rw [hset] at p1 p2
    exact k H1 locs1 ⟨h1, h2.same e1 e3, p1, p2, h5, h6, e8 h7, h8⟩ p3
  cases hf : (T q.2).2.2.2 with
  | false => exact va_put (D := D) (ci := q.1) (v := ai_cv ad v) (ty := ai_ty q.1 q.2) (C := C) (T := T) (N := N) hx hb hts k1 (ai_ty q.1) k2 k3 hown h2.1 h3 h4 hS i he g1 q.2 g2 (hts _ g4) (fun _ z => z) hf (k2 _ g2) (e7 ad).1 (e7 ad).2 (by rw [List.length_map, List.length_range, hN]; exact g2) hdg kk
  | true =>
    have hm : y.name = "<init>" ∧ (T q.2).1 = y.cls := by
      rcases hmay with hm | hm
      · exact absurd (hf.symm.trans hm) (by decide)
      · exact hm
    exact va_putF (D := D) (ci := q.1) (v := ai_cv ad v) (ty := ai_ty q.1 q.2) (C := C) (T := T) (N := N) hx hb hts k1 (ai_ty q.1) k2 k3 hown h2.1 h3 h4 hS i he g1 q.2 g2 (hts _ g4) (fun _ z => z) hf (by rw [hnm]; exact hm.1) hm.2 (k2 _ g2) (e7 ad).1 (e7 ad).2 (by rw [List.length_map, List.length_range, hN]; exact g2) hdg kk
-- arrays
theorem ai_ald_ok {k : Nat} (h : ai_ald k oL ox st w = some st') : ∃ (x : Int32) (i : Nat) (r : List Value) (v : Int32), st = .int x :: .ref i :: r ∧ st' = .int v :: r ∧ ((i < w.1 ∧ (w.2.2.1 i).1 = k ∧ vp_in x (w.2.2.1 i).2 ∧ v = w.2.2.2.2.1 i x.toNatClampNeg) ∨ (k = 0 ∧ ∃ j, j < 2 ∧ i = ai_O + j ∧ vp_in x (oL j) ∧ v = ox j x.toNatClampNeg)) := by
  unfold ai_ald at h
  split at h
  · rename_i x i r
    split at h
    · rename_i hi
      split at h
      · rename_i hc
        cases h
        exact ⟨x, i, r, _, rfl, rfl, Or.inl ⟨hi, hc.1, hc.2, rfl⟩⟩
      · cases h
    · split at h
      · rename_i hc
        cases h
        obtain ⟨c1, c2, c3, c4⟩ := hc
        exact ⟨x, i, r, _, rfl, rfl, Or.inr ⟨c1, i - ai_O, Nat.sub_lt_left_of_lt_add c2 c3, (Nat.add_sub_cancel' c2).symm, c4, rfl⟩⟩
      · cases h
  · cases h
theorem ai_iald_W (hx : p.tables.exec = Jvm.exec) (hb : c.code = cc) (hI : ai_I sz oL ox ob D ad tc w s H) (hS : va_S (fun q => sz ≤ q) s.heap H locs) (hdg : decode cc pc = .ok (.iaload, 1)) (h : ai_ald 0 oL ox st w = some st')
    (k : W p l e R s m args below meth c H locs cells slots Q (F0 m (pc + 1) ls (st'.map (ai_cv ad)))) : W p l e R s m args below meth c H locs cells slots Q (F0 m pc ls (st.map (ai_cv ad))) := by
  have hh := ai_ald_ok h
  clear h
  obtain ⟨x, i, r, v, rfl, rfl, h⟩ := hh
  obtain ⟨h1, h2, h3, h4, h5, h6, h7, h8⟩ := hI
  rcases h with ⟨hi, hk, hin, rfl⟩ | ⟨-, j, hj, rfl, hin, rfl⟩
  · refine va_iald hx hb (h2.K hi hk (by decide)) h3 i 0 (cA := tc i) (n := (w.2.2.1 i).2) (f := w.2.2.2.2.1 i) ?_ rfl hin hdg k
    rw [ai_cells_at hi, ai_en_i (by decide) hk]
  · obtain ⟨a1, a2, a3⟩ := h5.1 j hj
    have e : ai_cv ad (.ref (ai_O + j)) = .ref (ob j) := by simp only [ai_cv]; rw [h8 j hj]
    rw [List.map_cons, List.map_cons, e]
    obtain ⟨cell, b1, b2, b3, b4, b5, b6⟩ := a1
    have hlt : x.toNatClampNeg < oL j := Nat.not_le.mp fun q => hin (Or.inr q)
    exact W.iald (v := .int (ox j x.toNatClampNeg)) hx hb (by rw [hS.2.1 _ a2 a3]; exact b1) b2 b3 (fun q => hin (q.imp id (fun z => Nat.le_trans b4 z))) (b6 _ hlt) rfl rfl hdg k
theorem ai_zald_W (hx : p.tables.exec = Jvm.exec) (hb : c.code = cc) (hI : ai_I sz oL ox ob D ad tc w s H) (hdg : decode cc pc = .ok (.baload, 1)) (h : ai_ald 1 oL ox st w = some st')
    (k : W p l e R s m args below meth c H locs cells slots Q (F0 m (pc + 1) ls (st'.map (ai_cv ad)))) : W p l e R s m args below meth c H locs cells slots Q (F0 m pc ls (st.map (ai_cv ad))) := by
  have hh := ai_ald_ok h
  clear h
  obtain ⟨x, i, r, v, rfl, rfl, h⟩ := hh
  obtain ⟨h1, h2, h3, h4, h5, h6, h7, h8⟩ := hI
  rcases h with ⟨hi, hk, hin, rfl⟩ | ⟨h0, -⟩
  · refine va_zald hx hb (h2.K hi hk (by decide)) h3 i 0 (cA := tc i) (n := (w.2.2.1 i).2) (f := w.2.2.2.2.1 i) ?_ rfl hin hdg k
    rw [ai_cells_at hi, ai_en_i (by decide) hk]
  · cases h0
theorem ai_aldR_ok (h : ai_aldR st w = some st') : ∃ (x : Int32) (i : Nat) (r : List Value) (q : Nat), st = .int x :: .ref i :: r ∧ st' = .ref q :: r ∧ i < w.1 ∧ (w.2.2.1 i).1 = 2 ∧ vp_in x (w.2.2.1 i).2 ∧ w.2.2.2.1 i x.toNatClampNeg = some q := by
  unfold ai_aldR at h
  split at h
  · rename_i x i r
    split at h
    · rename_i hc
      split at h
      · rename_i q hq
        cases h
        exact ⟨x, i, r, q, rfl, rfl, hc.1, hc.2.1, hc.2.2, hq⟩
      · cases h
    · cases h
  · cases h
theorem ai_rald_W (hx : p.tables.exec = Jvm.exec) (hb : c.code = cc) (hI : ai_I sz oL ox ob D ad tc w s H) (hdg : decode cc pc = .ok (.aaload, 1)) (h : ai_aldR st w = some st')
    (k : W p l e R s m args below meth c H locs cells slots Q (F0 m (pc + 1) ls (st'.map (ai_cv ad)))) : W p l e R s m args below meth c H locs cells slots Q (F0 m pc ls (st.map (ai_cv ad))) := by
  obtain ⟨x, i, r, q, rfl, rfl, hi, hk, hin, hq⟩ := ai_aldR_ok h
  obtain ⟨h1, h2, h3, h4, h5, h6, h7, h8⟩ := hI
  refine va_aldq hx hb (h2.K hi hk (by decide)) h3 i 0 (cA := tc i) (C := RX2) (n := (w.2.2.1 i).2) (f := fun j => (w.2.2.2.1 i j).map ad) ?_ rfl hin hdg ?_
  · rw [ai_cells_at hi, ai_en_r hk]
  · rw [hq]
    exact k
theorem ai_ast_ok {k : Nat} {f : Int32 → Int32} (h : ai_ast k f st w = some (st', w')) : ∃ (v x : Int32) (i : Nat), st = .int v :: .int x :: .ref i :: st' ∧ i < w.1 ∧ (w.2.2.1 i).1 = k ∧ vp_in x (w.2.2.1 i).2 ∧ w' = (w.1, w.2.1, w.2.2.1, w.2.2.2.1, ai_up w.2.2.2.2.1 i x.toNatClampNeg (f v), w.2.2.2.2.2) := by
  unfold ai_ast at h
  split at h
  · rename_i v x i r
    split at h
    · rename_i hc
      cases h
      exact ⟨v, x, i, rfl, hc.1, hc.2.1, hc.2.2, rfl⟩
    · cases h
  · cases h
theorem ai_iast_W (hx : p.tables.exec = Jvm.exec) (hb : c.code = cc) (hI : ai_I sz oL ox ob D ad tc w s H) (hS : va_S (fun q => sz ≤ q) s.heap H locs) (hdg : decode cc pc = .ok (.iastore, 1)) (h : ai_ast 0 (fun x => x) st w = some (st', w'))
    (k : ∀ (H' : Heap) (locs' : List Loc), ai_I sz oL ox ob D ad tc w' s H' → va_S (fun q => sz ≤ q) s.heap H' locs' → W p l e R s m args below meth c H' locs' cells slots Q (F0 m (pc + 1) ls (st'.map (ai_cv ad)))) : W p l e R s m args below meth c H locs cells slots Q (F0 m pc ls (st.map (ai_cv ad))) := by
  obtain ⟨v, x, i, rfl, hi, hk, hin, rfl⟩ := ai_ast_ok h
  obtain ⟨h1, h2, h3, h4, h5, h6, h7, h8⟩ := hI
  refine va_iast hx hb (h2.K hi hk (by decide)) h3 h4 hS i 0 (cA := tc i) (n := (w.2.2.1 i).2) (f := w.2.2.2.2.1 i) ?_ rfl hin hdg (fun H1 locs1 p1 p2 p3 => ?_)
  · rw [ai_cells_at hi, ai_en_i (by decide) hk]
  · have hset : (ai_cells ad tc w).set i (ad i, .inl (tc i, (w.2.2.1 i).2, .inl (upd (w.2.2.2.2.1 i) x.toNatClampNeg v))) = ai_cells ad tc (w.1, w.2.1, w.2.2.1, w.2.2.2.1, ai_up w.2.2.2.2.1 i x.toNatClampNeg v, w.2.2.2.2.2) := ai_cells_set (w := w) rfl (by rw [ai_en_i (w := (w.1, w.2.1, w.2.2.1, w.2.2.2.1, ai_up w.2.2.2.2.1 i x.toNatClampNeg v, w.2.2.2.2.2)) (k := 0) (by decide) hk]; simp [ai_up]) rfl (fun a ha => ⟨by simp [ai_up, ha], rfl, rfl⟩)
    rw [hset] at p1 p2
    exact k H1 locs1 ⟨h1, h2.same rfl rfl, p1, p2, h5, h6, h7, h8⟩ p3
theorem ai_zast_W (hx : p.tables.exec = Jvm.exec) (hb : c.code = cc) (hI : ai_I sz oL ox ob D ad tc w s H) (hS : va_S (fun q => sz ≤ q) s.heap H locs) (hdg : decode cc pc = .ok (.bastore, 1)) (h : ai_ast 1 (fun x => vp_nar .boolean x) st w = some (st', w'))
    (k : ∀ (H' : Heap) (locs' : List Loc), ai_I sz oL ox ob D ad tc w' s H' → va_S (fun q => sz ≤ q) s.heap H' locs' → W p l e R s m args below meth c H' locs' cells slots Q (F0 m (pc + 1) ls (st'.map (ai_cv ad)))) : W p l e R s m args below meth c H locs cells slots Q (F0 m pc ls (st.map (ai_cv ad))) := by
  obtain ⟨v, x, i, rfl, hi, hk, hin, rfl⟩ := ai_ast_ok h
  obtain ⟨h1, h2, h3, h4, h5, h6, h7, h8⟩ := hI
  refine va_zast hx hb (h2.K hi hk (by decide)) h3 h4 hS i 0 (cA := tc i) (n := (w.2.2.1 i).2) (f := w.2.2.2.2.1 i) ?_ rfl hin hdg (fun H1 locs1 p1 p2 p3 => ?_)
  · rw [ai_cells_at hi, ai_en_i (by decide) hk]
  · have hset : (ai_cells ad tc w).set i (ad i, .inl (tc i, (w.2.2.1 i).2, .inl (upd (w.2.2.2.2.1 i) x.toNatClampNeg (vp_nar .boolean v)))) = ai_cells ad tc (w.1, w.2.1, w.2.2.1, w.2.2.2.1, ai_up w.2.2.2.2.1 i x.toNatClampNeg (vp_nar .boolean v), w.2.2.2.2.2) := ai_cells_set (w := w) rfl (by rw [ai_en_i (w := (w.1, w.2.1, w.2.2.1, w.2.2.2.1, ai_up w.2.2.2.2.1 i x.toNatClampNeg (vp_nar .boolean v), w.2.2.2.2.2)) (k := 1) (by decide) hk]; simp [ai_up]) rfl (fun a ha => ⟨by simp [ai_up, ha], rfl, rfl⟩)
    rw [hset] at p1 p2
    exact k H1 locs1 ⟨h1, h2.same rfl rfl, p1, p2, h5, h6, h7, h8⟩ p3
theorem ai_astR_ok (h : ai_astR st w = some (st', w')) : ∃ (v : Nat) (x : Int32) (i : Nat), st = .ref v :: .int x :: .ref i :: st' ∧ i < w.1 ∧ v < w.1 ∧ (w.2.2.1 v).1 = 5 ∧ (w.2.2.1 i).1 = 2 ∧ vp_in x (w.2.2.1 i).2 ∧ w' = (w.1, w.2.1, w.2.2.1, ai_upR w.2.2.2.1 i x.toNatClampNeg (some v), w.2.2.2.2.1, w.2.2.2.2.2) := by
  unfold ai_astR at h
  split at h
  · rename_i v x i r
    split at h
    · rename_i hc
      cases h
      exact ⟨v, x, i, rfl, hc.1, hc.2.1, hc.2.2.1, hc.2.2.2.1, hc.2.2.2.2, rfl⟩
    · cases h
  · cases h
theorem ai_wf_upR {i j v : Nat} (hw : ai_wf w) (hv : v < w.1) : ai_wf (w.1, w.2.1, w.2.2.1, ai_upR w.2.2.2.1 i j (some v), w.2.2.2.2.1, w.2.2.2.2.2) := by
  refine ⟨hw.1, fun a b k ha hk => ?_⟩
  by_cases hai : a = i
  · subst hai
    by_cases hj : b = j
    · subst hj
      simp [ai_upR, va_up] at hk
      subst hk
      exact hv
    · simp [ai_upR, va_up, hj] at hk
      exact hw.2 _ _ _ ha hk
  · simp [ai_upR, hai] at hk
    exact hw.2 _ _ _ ha hk
theorem ai_rast_W (hx : p.tables.exec = Jvm.exec) (hb : c.code = cc) (hI : ai_I sz oL ox ob D ad tc w s H) (hS : va_S (fun q => sz ≤ q) s.heap H locs) (hdg : decode cc pc = .ok (.aastore, 1)) (h : ai_astR st w = some (st', w'))
    (k : ∀ (H' : Heap) (locs' : List Loc), ai_I sz oL ox ob D ad tc w' s H' → va_S (fun q => sz ≤ q) s.heap H' locs' → W p l e R s m args below meth c H' locs' cells slots Q (F0 m (pc + 1) ls (st'.map (ai_cv ad)))) : W p l e R s m args below meth c H locs cells slots Q (F0 m pc ls (st.map (ai_cv ad))) := by
  obtain ⟨v, x, i, rfl, hi, hvn, hkv, hk, hin, rfl⟩ := ai_astR_ok h
  obtain ⟨h1, h2, h3, h4, h5, h6, h7, h8⟩ := hI
  refine va_astq hx hb (h2.K hi hk (by decide)) h3 h4 hS i 0 v 2 (cA := tc i) (r := (RX2, TX2, 7)) (vs := (List.range (ai_N 2)).map (ai_fv ad w 2 v)) (n := (w.2.2.1 i).2) (f := fun j => (w.2.2.2.1 i j).map ad) ?_ rfl ?_ rfl hin hdg (fun H1 locs1 p1 p2 p3 => ?_)
  · rw [ai_cells_at hi, ai_en_r hk]
  · rw [ai_cells_at hvn, ai_en_o hkv]
  · have hset : (ai_cells ad tc w).set i (ad i, .inl (tc i, (w.2.2.1 i).2, .inr (.inr (.inr (.inr (va_up (fun j => (w.2.2.2.1 i j).map ad) x.toNatClampNeg (some (ad v)))))))) = ai_cells ad tc (w.1, w.2.1, w.2.2.1, ai_upR w.2.2.2.1 i x.toNatClampNeg (some v), w.2.2.2.2.1, w.2.2.2.2.2) := ai_cells_set (w := w) rfl (by
      rw [ai_en_r (w := (w.1, w.2.1, w.2.2.1, ai_upR w.2.2.2.1 i x.toNatClampNeg (some v), w.2.2.2.2.1, w.2.2.2.2.2)) hk]
      have : (va_up (fun j => (w.2.2.2.1 i j).map ad) x.toNatClampNeg (some (ad v))) = fun j => (ai_upR w.2.2.2.1 i x.toNatClampNeg (some v) i j).map ad := by
        funext j
        by_cases hj : j = x.toNatClampNeg
        · simp [ai_upR, va_up, hj]
        · simp [ai_upR, va_up, hj]
      rw [this]) rfl (fun a ha => ⟨rfl, rfl, by simp [ai_upR, ha]⟩)
    rw [hset] at p1 p2
    exact k H1 locs1 ⟨h1, h2.same rfl rfl, p1, p2, h5, h6, ai_wf_upR h7 hvn, h8⟩ p3
end SIMM
