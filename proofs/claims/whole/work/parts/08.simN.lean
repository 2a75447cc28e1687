/-! the small machine: new cells, copies; all its heap steps in one row -/
theorem ai_news_ok {own : String} {idx : Nat} {st st' : List Value} {w w' : ai_W} (h : ai_news own idx st w = some (st', w')) : ∃ (ci : Nat) (q : vw_C), ai_cls own idx = some ci ∧ ai_cl[ci]? = some q ∧ w.1 < 1000000 ∧ st' = .ref w.1 :: st ∧ w' = ai_mk w (ci + 3) q.2.2 := by
  unfold ai_news at h
  split at h
  · rename_i ci hci
    split at h
    · rename_i q hq
      split at h
      · rename_i hn
        cases h
        exact ⟨ci, q, hci, hq, hn, rfl, rfl⟩
      · cases h
    · cases h
  · cases h
theorem ai_newa_ok {k : Nat} {ty : FieldType} {st st' : List Value} {w w' : ai_W} (h : ai_newa k ty st w = some (st', w')) : ∃ (x : Int32) (r : List Value), st = .int x :: r ∧ ¬ x < 0 ∧ x.toNatClampNeg ≤ 1000 ∧ Cond.arrayClass ty ∈ ai_tb ∧ w.1 < 1000000 ∧ st' = .ref w.1 :: r ∧ w' = ai_mk w k x.toNatClampNeg := by
  unfold ai_newa at h
  split at h
  · rename_i x r
    split at h
    · rename_i hc
      cases h
      exact ⟨x, r, rfl, hc.1, hc.2.1, hc.2.2.1, hc.2.2.2, rfl, rfl⟩
    · cases h
  · cases h
theorem ai_newR_ok {own : String} {idx : Nat} {st st' : List Value} {w w' : ai_W} (h : ai_newR own idx st w = some (st', w')) : ∃ (x : Int32) (r : List Value), st = .int x :: r ∧ ¬ x < 0 ∧ x.toNatClampNeg ≤ 1000 ∧ ai_clk own idx = some RX2 ∧ w.1 < 1000000 ∧ st' = .ref w.1 :: r ∧ w' = ai_mk w 2 x.toNatClampNeg := by
  unfold ai_newR at h
  split at h
  · rename_i x r
    split at h
    · rename_i hc
      cases h
      exact ⟨x, r, rfl, hc.1, hc.2.1, hc.2.2.1, hc.2.2.2, rfl, rfl⟩
    · cases h
  · cases h
theorem ai_wf_mk {w : ai_W} {k sl : Nat} (hw : ai_wf w) (hn : w.1 < 1000000) : ai_wf (ai_mk w k sl) := by
  refine ⟨hn, fun i j q hi hq => ?_⟩
  have hi' : i < w.1 + 1 := hi
  by_cases he : i = w.1
  · subst he
    simp [ai_mk, va_up] at hq
  · simp [ai_mk, va_up, he] at hq
    exact Nat.lt_succ_of_lt (hw.2 i j q (by omega) hq)
theorem ai_ty_def {c k : Nat} (h : ai_ty c k = .int ∨ ai_ty c k = .long ∨ ai_isRef (ai_ty c k) = true) : defaultValue (ai_ty c k) = if ai_ty c k = .int then .int 0 else if ai_ty c k = .long then .long 0 else .null := by
  rcases h with h | h | h
  · rw [h]; rfl
  · rw [h]; rfl
  · cases hty : ai_ty c k with
    | object C => rfl
    | array C => rfl
    | _ => rw [hty] at h; cases h
section SIMN
variable {p : Program} {l : Launch} {e : Env} {R : Room} {s : State} {m : MethodId} {args : Array Value} {below : List Frame} {meth : Method} {c : Code} {H : Heap} {locs : List Loc} {cells slots : Nat} {Q : State → Prop}
variable {sz : Nat} {oL : Nat → Nat} {ox : Nat → Nat → Int32} {ob : Nat → Nat} {D : va_G} {ad : Nat → Nat} {tc : Nat → ClassId} {w w' : ai_W} {cc : ByteArray} {pc idx : Nat} {ls : Array Slot} {st st' : List Value} {y : MethodName}
theorem ai_upO {q : Nat} (hn : w.1 < 1000000) (h8 : ∀ k, k < 2 → ad (ai_O + k) = ob k) : ∀ k, k < 2 → va_up ad w.1 q (ai_O + k) = ob k := by
  intro k hk
  have : ai_O + k ≠ w.1 := by
    have : ai_O = 1000000000 := rfl
    omega
  simp only [va_up, if_neg this]
  exact h8 k hk
theorem ai_new_st {q : Nat} {r : List Value} (hn : w.1 < 1000000) (hs : ai_oks w.1 r) (h8 : ∀ k, k < 2 → ad (ai_O + k) = ob k) : (Value.ref w.1 :: r).map (ai_cv (va_up ad w.1 q)) = .ref q :: r.map (ai_cv ad) := by
  rw [List.map_cons, ai_cvm (ad := ad) (ad' := va_up ad w.1 q) hs (fun i hi => by simp [va_up, Nat.ne_of_lt hi]) (fun k hk => by rw [ai_upO hn h8 k hk, h8 k hk])]
  simp [ai_cv, va_up]
theorem ai_news_W (hx : p.tables.exec = Jvm.exec) (hb : c.code = cc) (hown : s.vm.findClass y.cls = some m.cls) (hts : ∀ w ∈ ai_tb, w.before args s = true) (hI : ai_I sz oL ox ob D ad tc w s H) (hS : va_S (fun q => sz ≤ q) s.heap H locs) (hs : ai_oks w.1 st) (hdg : decode cc pc = .ok (.new idx, 3)) (h : ai_news y.cls idx st w = some (st', w')) (hc1 : cells + (w'.1 - w.1) ≤ R.cells) (hc2 : slots + (w'.2.1 - w.2.1) ≤ R.slots)
    (k : ∀ (H' : Heap) (locs' : List Loc) (ad' : Nat → Nat) (tc' : Nat → ClassId), (∀ i, i < w.1 → ad' i = ad i) → ai_I sz oL ox ob D ad' tc' w' s H' → va_S (fun q => sz ≤ q) s.heap H' locs' → W p l e R s m args below meth c H' locs' (cells + (w'.1 - w.1)) (slots + (w'.2.1 - w.2.1)) Q (F0 m (pc + 3) ls (st'.map (ai_cv ad')))) : W p l e R s m args below meth c H locs cells slots Q (F0 m pc ls (st.map (ai_cv ad))) := by
  obtain ⟨ci, q, hci, hq, hn, rfl, rfl⟩ := ai_news_ok h
  obtain ⟨q', g1, g2, g3, g4⟩ := ai_cls_ok hci
  have : q' = q := Option.some.inj (g1.symm.trans hq)
  subst this
  obtain ⟨k1, k2, k3, k4⟩ := ai_ClA hq
  obtain ⟨C, T, N⟩ := q'
  obtain ⟨h1, h2, h3, h4, h5, h6, h7, h8⟩ := hI
  have hN : ai_N ci = N := by unfold ai_N; rw [hq]
  have ec : (ai_mk w (ci + 3) N).1 - w.1 = 1 := by show w.1 + 1 - w.1 = 1; omega
  have es : (ai_mk w (ci + 3) N).2.1 - w.2.1 = N := by show w.2.1 + N - w.2.1 = N; omega
  simp only [ec, es] at hc1 hc2 k
  refine va_new (ci := ci) (fs := (List.range N).map (fun j => if ai_ty ci j = .int then Value.int 0 else if ai_ty ci j = .long then .long 0 else .null)) (C := C) (T := T) (N := N) hx hb hts k1 (ai_ty ci) k2 hown (hts _ g2) (hts _ g3) (hts _ g4) h2.1 h3 h4 hS (fun q hq => Nat.le_trans h1 hq) hq (fun j hj => ?_) hc1 hc2 hdg (fun q H1 p1 p2 p3 => ?_)
  · rw [ai_ty_def (k4 j hj)]
    unfold vp_V
    rw [List.getD_eq_getElem?_getD, ai_range_at hj]
    rfl
  · have hcell : ai_cells ad tc w ++ [(q, .inr (ci, (List.range N).map (fun j => if ai_ty ci j = .int then Value.int 0 else if ai_ty ci j = .long then .long 0 else .null)))] = ai_cells (va_up ad w.1 q) tc (ai_mk w (ci + 3) N) := by
      refine ai_cells_new h7 (fun _ _ => rfl) ?_
      rw [ai_en_o (c := ci) (by simp [ai_mk, va_up]), hN]
      congr 2
      refine List.map_congr_left (fun j _ => ?_)
      simp [ai_fv, ai_mk, va_up, va_rf]
    rw [hcell] at p1 p2
    have := k H1 _ (va_up ad w.1 q) tc (fun i hi => by simp [va_up, Nat.ne_of_lt hi]) ⟨h1, ⟨h2.1, fun i hi h3 => ?_⟩, p1, p2, h5, h6, ai_wf_mk h7 hn, ai_upO hn h8⟩ p3
    · rw [ai_new_st hn hs h8] at this
      exact this
    · have hi' : i < w.1 + 1 := hi
      by_cases he : i = w.1
      · subst he
        simp [ai_mk, va_up] at h3
        exact absurd h3 (by omega)
      · have e : (ai_mk w (ci + 3) N).2.2.1 i = w.2.2.1 i := by simp [ai_mk, va_up, he]
        rw [e] at h3 ⊢
        exact h2.2 i (by omega) h3
theorem ai_newa_W {kd : Nat} {ty : FieldType} {at0 : ArrayType} (hkd : kd < 2) (hty : ai_kt kd = ty) (hat : newarray.typeOf at0 = ty) (hcm : componentBytes ty ≤ 8) (hdf : defaultValue ty = .int 0) (hx : p.tables.exec = Jvm.exec) (hb : c.code = cc) (hts : ∀ w ∈ ai_tb, w.before args s = true) (hI : ai_I sz oL ox ob D ad tc w s H) (hS : va_S (fun q => sz ≤ q) s.heap H locs) (hs : ai_oks w.1 st) (hdg : decode cc pc = .ok (.newarray at0, 2)) (h : ai_newa kd ty st w = some (st', w')) (hc1 : cells + (w'.1 - w.1) ≤ R.cells) (hc2 : slots + (w'.2.1 - w.2.1) ≤ R.slots)
    (k : ∀ (H' : Heap) (locs' : List Loc) (ad' : Nat → Nat) (tc' : Nat → ClassId), (∀ i, i < w.1 → ad' i = ad i) → ai_I sz oL ox ob D ad' tc' w' s H' → va_S (fun q => sz ≤ q) s.heap H' locs' → W p l e R s m args below meth c H' locs' (cells + (w'.1 - w.1)) (slots + (w'.2.1 - w.2.1)) Q (F0 m (pc + 2) ls (st'.map (ai_cv ad')))) : W p l e R s m args below meth c H locs cells slots Q (F0 m pc ls (st.map (ai_cv ad))) := by
  obtain ⟨x, r, rfl, hx0, hx1, harr, hn, rfl, rfl⟩ := ai_newa_ok h
  obtain ⟨h1, h2, h3, h4, h5, h6, h7, h8⟩ := hI
  have ec : (ai_mk w kd x.toNatClampNeg).1 - w.1 = 1 := by show w.1 + 1 - w.1 = 1; omega
  have es : (ai_mk w kd x.toNatClampNeg).2.1 - w.2.1 = x.toNatClampNeg := by show w.2.1 + _ - w.2.1 = _; omega
  simp only [ec, es] at hc1 hc2 k
  refine va_newa (N' := x.toNatClampNeg) (a0 := (x.toNatClampNeg, .inl (fun _ => 0))) hx hb (by rw [hat]; exact hts _ harr) hat h2.1 h3 h4 hS (fun q hq => Nat.le_trans h1 hq) (fun cA => by rw [vp_cell_i, hdf]) hx0 rfl ?_ hc1 hc2 hdg (fun q cA H1 p0 p1 p2 p3 => ?_)
  · exact Nat.le_trans (Nat.mul_le_mul hx1 hcm) (by decide)
  · have hcell : ai_cells ad tc w ++ [(q, .inl (cA, x.toNatClampNeg, .inl (fun _ => 0)))] = ai_cells (va_up ad w.1 q) (va_up tc w.1 cA) (ai_mk w kd x.toNatClampNeg) := by
      refine ai_cells_new h7 (fun i hi => by simp [va_up, Nat.ne_of_lt hi]) ?_
      rw [ai_en_i (k := kd) hkd (by simp [ai_mk, va_up])]
      simp [ai_mk, va_up]
    rw [hcell] at p1 p2
    have := k H1 _ (va_up ad w.1 q) (va_up tc w.1 cA) (fun i hi => by simp [va_up, Nat.ne_of_lt hi]) ⟨h1, ⟨h2.1, fun i hi h3 => ?_⟩, p1, p2, h5, h6, ai_wf_mk h7 hn, ai_upO hn h8⟩ p3
    · rw [ai_new_st hn (ai_oks_t hs) h8] at this
      exact this
    · have hi' : i < w.1 + 1 := hi
      by_cases he : i = w.1
      · subst he
        have e : (ai_mk w kd x.toNatClampNeg).2.2.1 w.1 = (kd, x.toNatClampNeg) := by simp [ai_mk, va_up]
        rw [e]
        have := p0.2 0 (cA, ty) (by simp)
        simp only [va_up, if_pos, hty]
        exact this
      · have e : (ai_mk w kd x.toNatClampNeg).2.2.1 i = w.2.2.1 i := by simp [ai_mk, va_up, he]
        rw [e] at h3 ⊢
        simp only [va_up, if_neg he]
        exact h2.2 i (by omega) h3
theorem ai_newR_W (hx : p.tables.exec = Jvm.exec) (hb : c.code = cc) (hown : s.vm.findClass y.cls = some m.cls) (hts : ∀ w ∈ ai_tb, w.before args s = true) (hI : ai_I sz oL ox ob D ad tc w s H) (hS : va_S (fun q => sz ≤ q) s.heap H locs) (hs : ai_oks w.1 st) (hdg : decode cc pc = .ok (.anewarray idx, 3)) (h : ai_newR y.cls idx st w = some (st', w')) (hc1 : cells + (w'.1 - w.1) ≤ R.cells) (hc2 : slots + (w'.2.1 - w.2.1) ≤ R.slots)
    (k : ∀ (H' : Heap) (locs' : List Loc) (ad' : Nat → Nat) (tc' : Nat → ClassId), (∀ i, i < w.1 → ad' i = ad i) → ai_I sz oL ox ob D ad' tc' w' s H' → va_S (fun q => sz ≤ q) s.heap H' locs' → W p l e R s m args below meth c H' locs' (cells + (w'.1 - w.1)) (slots + (w'.2.1 - w.2.1)) Q (F0 m (pc + 3) ls (st'.map (ai_cv ad')))) : W p l e R s m args below meth c H locs cells slots Q (F0 m pc ls (st.map (ai_cv ad))) := by
  obtain ⟨x, r, rfl, hx0, hx1, hcl, hn, rfl, rfl⟩ := ai_newR_ok h
  obtain ⟨h1, h2, h3, h4, h5, h6, h7, h8⟩ := hI
  have ec : (ai_mk w 2 x.toNatClampNeg).1 - w.1 = 1 := by show w.1 + 1 - w.1 = 1; omega
  have es : (ai_mk w 2 x.toNatClampNeg).2.1 - w.2.1 = x.toNatClampNeg := by show w.2.1 + _ - w.2.1 = _; omega
  simp only [ec, es] at hc1 hc2 k
  refine va_newq (N' := x.toNatClampNeg) hx hb hown (hts _ (ai_clk_mem hcl)) h6.1 h2.1 h3 h4 hS (fun q hq => Nat.le_trans h1 hq) hx0 rfl (by omega) hc1 hc2 hdg (fun q cA H1 p0 p1 p2 p3 => ?_)
  have hcell : ai_cells ad tc w ++ [(q, .inl (cA, x.toNatClampNeg, .inr (.inr (.inr (.inr (fun _ => none))))))] = ai_cells (va_up ad w.1 q) (va_up tc w.1 cA) (ai_mk w 2 x.toNatClampNeg) := by
    refine ai_cells_new h7 (fun i hi => by simp [va_up, Nat.ne_of_lt hi]) ?_
    rw [ai_en_r (by simp [ai_mk, va_up])]
    simp [ai_mk, va_up]
  rw [hcell] at p1 p2
  have := k H1 _ (va_up ad w.1 q) (va_up tc w.1 cA) (fun i hi => by simp [va_up, Nat.ne_of_lt hi]) ⟨h1, ⟨h2.1, fun i hi h3 => ?_⟩, p1, p2, h5, h6, ai_wf_mk h7 hn, ai_upO hn h8⟩ p3
  · rw [ai_new_st hn (ai_oks_t hs) h8] at this
    exact this
  · have hi' : i < w.1 + 1 := hi
    by_cases he : i = w.1
    · subst he
      have e : (ai_mk w 2 x.toNatClampNeg).2.2.1 w.1 = (2, x.toNatClampNeg) := by simp [ai_mk, va_up]
      rw [e]
      have := p0.2 0 (cA, .object RX2) (by simp)
      simp only [va_up, if_pos]
      exact this
    · have e : (ai_mk w 2 x.toNatClampNeg).2.2.1 i = w.2.2.1 i := by simp [ai_mk, va_up, he]
      rw [e] at h3 ⊢
      simp only [va_up, if_neg he]
      exact h2.2 i (by omega) h3
theorem ai_cpy_ok (h : ai_cpy st w = some (st', w')) : ∃ (n dp sp : Int32) (a b : Nat), st = .int n :: .int dp :: .ref b :: .int sp :: .ref a :: st' ∧ a < w.1 ∧ b < w.1 ∧ (w.2.2.1 a).1 = 0 ∧ (w.2.2.1 b).1 = 0 ∧ ¬ sp < 0 ∧ ¬ dp < 0 ∧ ¬ n < 0 ∧ sp.toNatClampNeg + n.toNatClampNeg ≤ (w.2.2.1 a).2 ∧ dp.toNatClampNeg + n.toNatClampNeg ≤ (w.2.2.1 b).2 ∧ (st'.map fun v => v.category).sum ≤ 8 ∧ w' = (w.1, w.2.1, w.2.2.1, w.2.2.2.1, va_up w.2.2.2.2.1 b (va_cpy (w.2.2.2.2.1 a) (w.2.2.2.2.1 b) sp.toNatClampNeg dp.toNatClampNeg n.toNatClampNeg), w.2.2.2.2.2) := by
  unfold ai_cpy at h
  split at h
  · rename_i n dp b sp a r
    split at h
    · rename_i hc
      obtain ⟨c1, c2, c3, c4, c5, c6, c7, c8, c9, c10⟩ := hc
      cases h
      exact ⟨n, dp, sp, a, b, rfl, c1, c2, c3, c4, c5, c6, c7, c8, c9, c10, rfl⟩
    · cases h
  · cases h
theorem ai_sum {r : List Value} (h : (r.map fun v => v.category).sum ≤ 8) : ((r.map (ai_cv ad)).map fun v => v.category).sum ≤ 8 := by
  rw [List.map_map]
  have : ((fun v : Value => v.category) ∘ ai_cv ad) = fun v => v.category := by
    funext v
    exact ai_cat ad v
  rw [this]
  exact h
theorem ai_cpy_W {d nL : Nat} (hd0 : 0 < d) (hd : d ≤ R.frames) (hdl : 40 * d ≤ R.locals) (hml : c.maxLocals = ls.size) (hx : p.tables.exec = Jvm.exec) (hb : c.code = cc) (hown : s.vm.findClass y.cls = some m.cls) (hts : ∀ w ∈ ai_tb, w.before args s = true) (hl : ai_mlk y.cls idx = some arraycopyName) (hn1 : Cond.native arraycopyName ∈ ai_tb) (hn2 : Cond.static arraycopyName ∈ ai_tb) (hn3 : Cond.initialized "java/lang/System" ∈ ai_tb) (hI : ai_I sz oL ox ob D ad tc w s H) (hS : va_S (fun q => sz ≤ q) s.heap H locs) (hdg : decode cc pc = .ok (.invokestatic idx, 3)) (h : ai_cpy st w = some (st', w'))
    (k : ∀ (H' : Heap) (locs' : List Loc), ai_I sz oL ox ob D ad tc w' s H' → va_S (fun q => sz ≤ q) s.heap H' locs' → W p l e R s m args below meth c H' locs' cells slots Q (F0 m (pc + 3) ls (st'.map (ai_cv ad)))) : W p l e R s m args below meth c H locs cells slots Q (F0 m pc ls (st.map (ai_cv ad))) := by
  obtain ⟨n, dp, sp, a, b, rfl, c1, c2, c3, c4, c5, c6, c7, c8, c9, c10, rfl⟩ := ai_cpy_ok h
  obtain ⟨h1, h2, h3, h4, h5, h6, h7, h8⟩ := hI
  have hK2 : va_K D ai_cl [(tc a, .int), (tc b, .int)] s := (h2.K c1 c3 (by decide)).app (h2.K c2 c4 (by decide))
  have hsum := ai_sum (ad := ad) c10
  refine va_copyi (ty := .int) hx hb hml hown (hts _ (ai_mlk_mem hl)) (hts _ hn1) (hts _ hn2) (hts _ hn3) hK2 h3 h4 hS a b 0 1 (c0 := tc a) (c1 := tc b) (n0 := (w.2.2.1 a).2) (n1 := (w.2.2.1 b).2) (f := w.2.2.2.2.1 a) (g := w.2.2.2.2.1 b) ?_ ?_ rfl rfl rfl c5 c6 c7 c8 c9 (fun _ _ => rfl) (by omega) ?_ hdg (fun H1 locs1 p1 p2 p3 => ?_)
  · rw [ai_cells_at c1, ai_en_i (by decide) c3]
  · rw [ai_cells_at c2, ai_en_i (by decide) c4]
  · have e : nativeFrameWords "java/lang/System" "arraycopy" 5 = 7 := by decide
    rw [e]
    omega
  · have hset : (ai_cells ad tc w).set b (ad b, .inl (tc b, (w.2.2.1 b).2, .inl (va_cpy (w.2.2.2.2.1 a) (w.2.2.2.2.1 b) sp.toNatClampNeg dp.toNatClampNeg n.toNatClampNeg))) = ai_cells ad tc (w.1, w.2.1, w.2.2.1, w.2.2.2.1, va_up w.2.2.2.2.1 b (va_cpy (w.2.2.2.2.1 a) (w.2.2.2.2.1 b) sp.toNatClampNeg dp.toNatClampNeg n.toNatClampNeg), w.2.2.2.2.2) := ai_cells_set (w := w) rfl (by rw [ai_en_i (w := (w.1, w.2.1, w.2.2.1, w.2.2.2.1, va_up w.2.2.2.2.1 b (va_cpy (w.2.2.2.2.1 a) (w.2.2.2.2.1 b) sp.toNatClampNeg dp.toNatClampNeg n.toNatClampNeg), w.2.2.2.2.2)) (k := 0) (by decide) c4]; simp [va_up]) rfl (fun a ha => ⟨by simp [va_up, ha], rfl, rfl⟩)
    rw [hset] at p1 p2
    exact k H1 locs1 ⟨h1, h2.same rfl rfl, p1, p2, h5, h6, h7, h8⟩ p3
end SIMN
