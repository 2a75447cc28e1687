theorem ai_m2_ok {f : Int32 → Int32 → Int32} {st st' : List Value} {w w' : ai_W} (h : ai_m2 f st w = some (st', w')) : ∃ x y r, st = .int y :: .int x :: r ∧ st' = .int (f x y) :: r ∧ w' = w ∧ (r.map fun v => v.category).sum ≤ 8 := by
  unfold ai_m2 at h
  split at h
  · split at h
    · cases h; exact ⟨_, _, _, rfl, rfl, rfl, by assumption⟩
    · cases h
  · cases h
theorem ai_m1_ok {f : Int32 → Int32} {st st' : List Value} {w w' : ai_W} (h : ai_m1 f st w = some (st', w')) : ∃ x r, st = .int x :: r ∧ st' = .int (f x) :: r ∧ w' = w ∧ (r.map fun v => v.category).sum ≤ 8 := by
  unfold ai_m1 at h
  split at h
  · split at h
    · cases h; exact ⟨_, _, rfl, rfl, rfl, by assumption⟩
    · cases h
  · cases h
theorem ai_mth_ok {own : String} {idx len d : Nat} {st st' : List Value} {w w' : ai_W} (h : ai_mth own idx len d st w = some (st', w')) : len = 3 ∧ 0 < d ∧ Cond.initialized "java/lang/Math" ∈ ai_tb ∧
    ((ai_mlk own idx = some Lib.Math.max.name ∧ Cond.static Lib.Math.max.name ∈ ai_tb ∧ Cond.code Lib.Math.max.name Lib.Math.max.code 2 (some .int) ∈ ai_tb ∧ ai_m2 (fun x y => if x < y then y else x) st w = some (st', w'))
    ∨ (ai_mlk own idx = some Lib.Math.min.name ∧ Cond.static Lib.Math.min.name ∈ ai_tb ∧ Cond.code Lib.Math.min.name Lib.Math.min.code 2 (some .int) ∈ ai_tb ∧ ai_m2 (fun x y => if y < x then y else x) st w = some (st', w'))
    ∨ (ai_mlk own idx = some Lib.Math.abs.name ∧ Cond.static Lib.Math.abs.name ∈ ai_tb ∧ Cond.code Lib.Math.abs.name Lib.Math.abs.code 1 (some .int) ∈ ai_tb ∧ ai_m1 (fun x => if 0 ≤ x then x else 0 - x) st w = some (st', w'))) := by
  unfold ai_mth at h
  split at h
  · cases h
  · split at h
    · rename_i h0
      refine ⟨h0.1, h0.2.1, h0.2.2, ?_⟩
      split at h
      · rename_i h1; exact Or.inl ⟨h1.1, h1.2.1, h1.2.2, h⟩
      · split at h
        · rename_i h1; exact Or.inr (Or.inl ⟨h1.1, h1.2.1, h1.2.2, h⟩)
        · split at h
          · rename_i h1; exact Or.inr (Or.inr ⟨h1.1, h1.2.1, h1.2.2, h⟩)
          · cases h
    · cases h
theorem ai_mth_w {own : String} {idx len d : Nat} {st st' : List Value} {w w' : ai_W} (h : ai_mth own idx len d st w = some (st', w')) : w' = w ∧ ∀ n, ai_oks n st → ai_oks n st' := by
  obtain ⟨-, -, -, h | h | h⟩ := ai_mth_ok h
  · obtain ⟨-, -, -, h⟩ := h
    obtain ⟨x, y, r, rfl, rfl, rfl, -⟩ := ai_m2_ok h
    exact ⟨rfl, fun n hs => ai_oks_c ai_okI (ai_oks_t (ai_oks_t hs))⟩
  · obtain ⟨-, -, -, h⟩ := h
    obtain ⟨x, y, r, rfl, rfl, rfl, -⟩ := ai_m2_ok h
    exact ⟨rfl, fun n hs => ai_oks_c ai_okI (ai_oks_t (ai_oks_t hs))⟩
  · obtain ⟨-, -, -, h⟩ := h
    obtain ⟨x, r, rfl, rfl, rfl, -⟩ := ai_m1_ok h
    exact ⟨rfl, fun n hs => ai_oks_c ai_okI (ai_oks_t hs)⟩
theorem ai_M_ok {oL : Nat → Nat} {ox : Nat → Nat → Int32} {y : MethodName} {ins : Instr} {len d : Nat} {st st' : List Value} {w w' : ai_W} (h : ai_M oL ox y ins len d st w = some (st', w')) : w.1 ≤ w'.1 ∧ w.2.1 ≤ w'.2.1 ∧ (ai_wf w → ai_oks w.1 st → ai_oks w'.1 st') := by
  unfold ai_M at h
  split at h
  · split at h
    · obtain ⟨h1, h2⟩ := ai_keep_ok h
      cases h2
      obtain ⟨i, r, q, v, rfl, -, -, -, h3, -, h4⟩ := ai_get_ok h1
      cases h3
      exact ⟨Nat.le_refl _, Nat.le_refl _, fun hw hs => ai_oks_c (h4 hw) (ai_oks_t hs)⟩
    · cases h
  · split at h
    · obtain ⟨i, q, v, rfl, hq, hi, hk, hmay, e1, e2, e3, -⟩ := ai_put_ok h
      exact ⟨by omega, by omega, fun hw hs => by rw [e1]; exact ai_oks_t (ai_oks_t hs)⟩
    · cases h
  · split at h
    · obtain ⟨h1, h2⟩ := ai_keep_ok h
      cases h2
      obtain ⟨x, i, r, v, rfl, h3, -⟩ := ai_ald_ok h1
      cases h3
      exact ⟨Nat.le_refl _, Nat.le_refl _, fun hw hs => ai_oks_c ai_okI (ai_oks_t (ai_oks_t hs))⟩
    · cases h
  · split at h
    · obtain ⟨h1, h2⟩ := ai_keep_ok h
      cases h2
      obtain ⟨x, i, r, v, rfl, h3, -⟩ := ai_ald_ok h1
      cases h3
      exact ⟨Nat.le_refl _, Nat.le_refl _, fun hw hs => ai_oks_c ai_okI (ai_oks_t (ai_oks_t hs))⟩
    · cases h
  · split at h
    · obtain ⟨h1, h2⟩ := ai_keep_ok h
      cases h2
      obtain ⟨x, i, r, q, rfl, h3, hi, -, -, hq⟩ := ai_aldR_ok h1
      cases h3
      exact ⟨Nat.le_refl _, Nat.le_refl _, fun hw hs => ai_oks_c (fun j hj => by cases hj; exact Or.inl (hw.2 _ _ _ hi hq)) (ai_oks_t (ai_oks_t hs))⟩
    · cases h
  · split at h
    · obtain ⟨v, x, i, rfl, -, -, -, rfl⟩ := ai_ast_ok h
      exact ⟨Nat.le_refl _, Nat.le_refl _, fun hw hs => ai_oks_t (ai_oks_t (ai_oks_t hs))⟩
    · cases h
  · split at h
    · obtain ⟨v, x, i, rfl, -, -, -, rfl⟩ := ai_ast_ok h
      exact ⟨Nat.le_refl _, Nat.le_refl _, fun hw hs => ai_oks_t (ai_oks_t (ai_oks_t hs))⟩
    · cases h
  · split at h
    · obtain ⟨v, x, i, rfl, -, -, -, -, -, rfl⟩ := ai_astR_ok h
      exact ⟨Nat.le_refl _, Nat.le_refl _, fun hw hs => ai_oks_t (ai_oks_t (ai_oks_t hs))⟩
    · cases h
  · split at h
    · obtain ⟨ci, q, -, -, -, rfl, rfl⟩ := ai_news_ok h
      exact ⟨Nat.le_succ _, Nat.le_add_right _ _, fun hw hs => ai_oks_c (fun j hj => by cases hj; exact Or.inl (Nat.lt_succ_self _)) (hs.mono (Nat.le_succ _))⟩
    · cases h
  · split at h
    · split at h
      · obtain ⟨x, r, rfl, -, -, -, -, rfl, rfl⟩ := ai_newa_ok h
        exact ⟨Nat.le_succ _, Nat.le_add_right _ _, fun hw hs => ai_oks_c (fun j hj => by cases hj; exact Or.inl (Nat.lt_succ_self _)) ((ai_oks_t hs).mono (Nat.le_succ _))⟩
      · obtain ⟨x, r, rfl, -, -, -, -, rfl, rfl⟩ := ai_newa_ok h
        exact ⟨Nat.le_succ _, Nat.le_add_right _ _, fun hw hs => ai_oks_c (fun j hj => by cases hj; exact Or.inl (Nat.lt_succ_self _)) ((ai_oks_t hs).mono (Nat.le_succ _))⟩
      · cases h
    · cases h
  · split at h
    · obtain ⟨x, r, rfl, -, -, -, -, rfl, rfl⟩ := ai_newR_ok h
      exact ⟨Nat.le_succ _, Nat.le_add_right _ _, fun hw hs => ai_oks_c (fun j hj => by cases hj; exact Or.inl (Nat.lt_succ_self _)) ((ai_oks_t hs).mono (Nat.le_succ _))⟩
    · cases h
  · split at h
    · split at h
      · split at h
        · cases h
          exact ⟨Nat.le_refl _, Nat.le_refl _, fun hw hs => ai_oks_c ai_okI (ai_oks_t hs)⟩
        · cases h
      · cases h
    · cases h
  · split at h
    · cases h
      exact ⟨Nat.le_refl _, Nat.le_refl _, fun hw hs => ai_oks_c (fun j hj => by cases hj; exact Or.inr (Or.inr rfl)) hs⟩
    · cases h
  · split at h
    · obtain ⟨n, dp, sp, a, b, rfl, -, -, -, -, -, -, -, -, -, -, rfl⟩ := ai_cpy_ok h
      exact ⟨Nat.le_refl _, Nat.le_refl _, fun hw hs => ai_oks_t (ai_oks_t (ai_oks_t (ai_oks_t (ai_oks_t hs))))⟩
    · obtain ⟨rfl, h1⟩ := ai_mth_w h
      exact ⟨Nat.le_refl _, Nat.le_refl _, fun hw hs => h1 _ hs⟩
  · split at h
    · split at h
      · split at h
        · cases h
          exact ⟨Nat.le_refl _, Nat.le_refl _, fun hw hs => ai_oks_t hs⟩
        · cases h
      · cases h
    · cases h
  · cases h
section SIMO
variable {p : Program} {l : Launch} {e : Env} {R : Room} {s : State} {m : MethodId} {args : Array Value} {below : List Frame} {meth : Method} {c : Code} {H : Heap} {locs : List Loc} {cells slots : Nat} {Q : State → Prop}
variable {sz : Nat} {oL : Nat → Nat} {ox : Nat → Nat → Int32} {ob : Nat → Nat} {D : va_G} {ad : Nat → Nat} {tc : Nat → ClassId} {w w' : ai_W} {cc : ByteArray} {pc : Nat} {ls : Array Slot} {st st' : List Value} {y : MethodName}
theorem ai_M_W {ins : Instr} {len d : Nat} (hx : p.tables.exec = Jvm.exec) (hb : c.code = cc) (hml : c.maxLocals = ls.size) (hown : s.vm.findClass y.cls = some m.cls) (hnm : meth.name = y.name) (hts : ∀ w ∈ ai_tb, w.before args s = true) (hI : ai_I sz oL ox ob D ad tc w s H) (hS : va_S (fun q => sz ≤ q) s.heap H locs) (hs : ai_oks w.1 st) (hd : d ≤ R.frames) (hdl : 40 * d ≤ R.locals) (hdg : decode cc pc = .ok (ins, len)) (h : ai_M oL ox y ins len d st w = some (st', w')) (hc1 : cells + (w'.1 - w.1) ≤ R.cells) (hc2 : slots + (w'.2.1 - w.2.1) ≤ R.slots)
    (k : ∀ (H' : Heap) (locs' : List Loc) (ad' : Nat → Nat) (tc' : Nat → ClassId), (∀ i, i < w.1 → ad' i = ad i) → ai_I sz oL ox ob D ad' tc' w' s H' → va_S (fun q => sz ≤ q) s.heap H' locs' → W p l e R s m args below meth c H' locs' (cells + (w'.1 - w.1)) (slots + (w'.2.1 - w.2.1)) Q (F0 m (pc + len) ls (st'.map (ai_cv ad')))) : W p l e R s m args below meth c H locs cells slots Q (F0 m pc ls (st.map (ai_cv ad))) := by
  unfold ai_M at h
  split at h
  · split at h
    · rename_i h0
      subst h0
      obtain ⟨h1, h2⟩ := ai_keep_ok h
      cases h2
      simp only [Nat.sub_self, Nat.add_zero] at k
      exact ai_get_W hx hb hown hts hI hdg h1 (k _ _ _ _ (fun _ _ => rfl) hI hS)
    · cases h
  · split at h
    · rename_i h0
      subst h0
      have e : w'.1 = w.1 ∧ w'.2.1 = w.2.1 := by
        obtain ⟨i, q, v, rfl, hq, hi, hk, hmay, e1, e2, e3, -⟩ := ai_put_ok h
        exact ⟨e1, e2⟩
      simp only [e.1, e.2, Nat.sub_self, Nat.add_zero] at k
      exact ai_put_W hx hb hown hnm hts hI hS hdg h (fun H' locs' i1 i2 => k _ _ _ _ (fun _ _ => rfl) i1 i2)
    · cases h
  · split at h
    · rename_i h0
      subst h0
      obtain ⟨h1, h2⟩ := ai_keep_ok h
      cases h2
      simp only [Nat.sub_self, Nat.add_zero] at k
      exact ai_iald_W hx hb hI hS hdg h1 (k _ _ _ _ (fun _ _ => rfl) hI hS)
    · cases h
  · split at h
    · rename_i h0
      subst h0
      obtain ⟨h1, h2⟩ := ai_keep_ok h
      cases h2
      simp only [Nat.sub_self, Nat.add_zero] at k
      exact ai_zald_W hx hb hI hdg h1 (k _ _ _ _ (fun _ _ => rfl) hI hS)
    · cases h
  · split at h
    · rename_i h0
      subst h0
      obtain ⟨h1, h2⟩ := ai_keep_ok h
      cases h2
      simp only [Nat.sub_self, Nat.add_zero] at k
      exact ai_rald_W hx hb hI hdg h1 (k _ _ _ _ (fun _ _ => rfl) hI hS)
    · cases h
  · split at h
    · rename_i h0
      subst h0
      have e : w'.1 = w.1 ∧ w'.2.1 = w.2.1 := by
        obtain ⟨v, x, i, -, -, -, -, rfl⟩ := ai_ast_ok h
        exact ⟨rfl, rfl⟩
      simp only [e.1, e.2, Nat.sub_self, Nat.add_zero] at k
      exact ai_iast_W hx hb hI hS hdg h (fun H' locs' i1 i2 => k _ _ _ _ (fun _ _ => rfl) i1 i2)
    · cases h
  · split at h
    · rename_i h0
      subst h0
      have e : w'.1 = w.1 ∧ w'.2.1 = w.2.1 := by
        obtain ⟨v, x, i, -, -, -, -, rfl⟩ := ai_ast_ok h
        exact ⟨rfl, rfl⟩
      simp only [e.1, e.2, Nat.sub_self, Nat.add_zero] at k
      exact ai_zast_W hx hb hI hS hdg h (fun H' locs' i1 i2 => k _ _ _ _ (fun _ _ => rfl) i1 i2)
    · cases h
  · split at h
    · rename_i h0
      subst h0
      have e : w'.1 = w.1 ∧ w'.2.1 = w.2.1 := by
        obtain ⟨v, x, i, -, -, -, -, -, -, rfl⟩ := ai_astR_ok h
        exact ⟨rfl, rfl⟩
      simp only [e.1, e.2, Nat.sub_self, Nat.add_zero] at k
      exact ai_rast_W hx hb hI hS hdg h (fun H' locs' i1 i2 => k _ _ _ _ (fun _ _ => rfl) i1 i2)
    · cases h
  · split at h
    · rename_i h0
      subst h0
      exact ai_news_W hx hb hown hts hI hS hs hdg h hc1 hc2 k
    · cases h
  · split at h
    · rename_i h0
      subst h0
      split at h
      · exact ai_newa_W (kd := 0) (ty := .int) (by decide) rfl rfl (by decide) rfl hx hb hts hI hS hs hdg h hc1 hc2 k
      · exact ai_newa_W (kd := 1) (ty := .boolean) (by decide) rfl rfl (by decide) rfl hx hb hts hI hS hs hdg h hc1 hc2 k
      · cases h
    · cases h
  · split at h
    · rename_i h0
      subst h0
      exact ai_newR_W hx hb hown hts hI hS hs hdg h hc1 hc2 k
    · cases h
  · split at h
    · rename_i h0
      subst h0
      split at h
      · rename_i i r
        split at h
        · rename_i hi
          subst hi
          cases h
          simp only [Nat.sub_self, Nat.add_zero] at k
          obtain ⟨a1, a2, a3⟩ := hI.2.2.2.2.1.1 0 (by decide)
          have e : ai_cv ad (.ref ai_O) = .ref (ob 0) := by simp only [ai_cv]; rw [show ad ai_O = ob 0 from hI.2.2.2.2.2.2.2 0 (by decide)]
          rw [List.map_cons, e]
          obtain ⟨cell, b1, b2, b3, b4, b5, b6⟩ := a1
          exact W.alen (n := Int32.ofNat (oL 0)) hx hb (by rw [hS.2.1 _ a2 a3]; exact b1) b2 b5 rfl rfl hdg (k _ _ _ _ (fun _ _ => rfl) hI hS)
        · cases h
      · cases h
    · cases h
  · split at h
    · rename_i h0
      obtain ⟨rfl, hf⟩ := h0
      cases h
      simp only [Nat.sub_self, Nat.add_zero] at k
      have e : ai_cv ad (.ref (ai_O + 1)) = .ref (ob 1) := by simp only [ai_cv]; rw [hI.2.2.2.2.2.2.2 1 (by decide)]
      have kk := k _ _ _ _ (fun _ _ => rfl) hI hS
      rw [List.map_cons, e] at kk
      exact va_gets hx hb hI.2.2.2.2.1.2 hS hown (hts _ (ai_fl_mem hf)) (fun _ z => z) hdg kk
    · cases h
  · split at h
    · rename_i h0
      obtain ⟨rfl, hd0, g1, g2, g3, g4⟩ := h0
      have e : w'.1 = w.1 ∧ w'.2.1 = w.2.1 := by
        obtain ⟨n, dp, sp, a, b, -, -, -, -, -, -, -, -, -, -, -, rfl⟩ := ai_cpy_ok h
        exact ⟨rfl, rfl⟩
      simp only [e.1, e.2, Nat.sub_self, Nat.add_zero] at k
      exact ai_cpy_W (nL := 0) hd0 hd hdl hml hx hb hown hts g1 g2 g3 g4 hI hS hdg h (fun H' locs' i1 i2 => k _ _ _ _ (fun _ _ => rfl) i1 i2)
    · obtain ⟨hw, -⟩ := ai_mth_w h
      obtain ⟨hl3, hd0, g1, hh⟩ := ai_mth_ok h
      clear h
      subst hl3
      subst hw
      simp only [Nat.sub_self, Nat.add_zero] at k hc1 hc2
      have kk := k _ _ _ _ (fun _ _ => rfl) hI hS
      rcases hh with ⟨g2, g3, g4, h⟩ | ⟨g2, g3, g4, h⟩ | ⟨g2, g3, g4, h⟩
      · obtain ⟨x, y, r, rfl, rfl, -, hsum⟩ := ai_m2_ok h
        have := ai_sum (ad := ad) hsum
        exact va_mmax hx hb hml hown (hts _ (ai_mlk_mem g2)) (hts _ g3) (hts _ g1) (hts _ g4) (by omega) (by omega) hc1 hc2 hdg kk
      · obtain ⟨x, y, r, rfl, rfl, -, hsum⟩ := ai_m2_ok h
        have := ai_sum (ad := ad) hsum
        exact va_mmin hx hb hml hown (hts _ (ai_mlk_mem g2)) (hts _ g3) (hts _ g1) (hts _ g4) (by omega) (by omega) hc1 hc2 hdg kk
      · obtain ⟨x, r, rfl, rfl, -, hsum⟩ := ai_m1_ok h
        have := ai_sum (ad := ad) hsum
        exact va_mabs hx hb hml hown (hts _ (ai_mlk_mem g2)) (hts _ g3) (hts _ g1) (hts _ g4) (by omega) (by omega) hc1 hc2 hdg kk
  · split at h
    · rename_i h0
      obtain ⟨rfl, hd0, g1, g2, g3⟩ := h0
      split at h
      · split at h
        · rename_i i r hsum
          cases h
          simp only [Nat.sub_self, Nat.add_zero] at k
          have hr := lv_room (m := m) (pc := pc) (ls := ls) (rest := (Value.ref (ad i) :: st'.map (ai_cv ad))) (ai_sum (ad := ad) hsum)
          exact W.objInit (g := F0 m pc ls (Value.ref (ad i) :: st'.map (ai_cv ad))) hx hb hown (hts _ (ai_mlk_mem g1)) (hts _ g2) (hts _ g3) rfl hml.symm rfl hdg (by omega) (by omega) (k _ _ _ _ (fun _ _ => rfl) hI hS)
        · cases h
      · cases h
    · cases h
  · cases h
end SIMO
