/-! the world of the small machine, as cells of the big one's heap -/
def ai_N (c : Nat) : Nat := match ai_cl[c]? with
  | some q => q.2.2
  | none => 0
def ai_fv (ad : Nat → Nat) (w : ai_W) (c i j : Nat) : Value := if ai_ty c j = .int then .int (w.2.2.2.2.1 i j) else if ai_ty c j = .long then .long (w.2.2.2.2.2 i j) else va_rf ((w.2.2.2.1 i j).map ad)
def ai_en (ad : Nat → Nat) (tc : Nat → ClassId) (w : ai_W) (i : Nat) : va_E := match (w.2.2.1 i).1 with
  | 0 => .inl (tc i, (w.2.2.1 i).2, .inl (w.2.2.2.2.1 i))
  | 1 => .inl (tc i, (w.2.2.1 i).2, .inl (w.2.2.2.2.1 i))
  | 2 => .inl (tc i, (w.2.2.1 i).2, .inr (.inr (.inr (.inr (fun j => (w.2.2.2.1 i j).map ad)))))
  | c + 3 => .inr (c, (List.range (ai_N c)).map (ai_fv ad w c i))
def ai_cells (ad : Nat → Nat) (tc : Nat → ClassId) (w : ai_W) : va_W := (List.range w.1).map fun i => (ad i, ai_en ad tc w i)
theorem ai_range_at {α : Type} {N k : Nat} {f : Nat → α} (h : k < N) : ((List.range N).map f)[k]? = some (f k) := by
  rw [List.getElem?_map, List.getElem?_range h]
  rfl
theorem ai_range_set {α : Type} {N k : Nat} {f g : Nat → α} {x : α} (hx : x = g k) (h : ∀ j, j < N → j ≠ k → f j = g j) : ((List.range N).map f).set k x = (List.range N).map g := by
  subst hx
  apply List.ext_getElem?
  intro j
  rw [List.getElem?_set]
  by_cases hj : j < N
  · by_cases hk : k = j
    · subst hk
      rw [if_pos rfl, if_pos (by simpa using hj), ai_range_at hj]
    · rw [if_neg hk, ai_range_at hj, ai_range_at hj, h j hj (Ne.symm hk)]
  · have e1 : ((List.range N).map f)[j]? = none := by simp; omega
    have e2 : ((List.range N).map g)[j]? = none := by simp; omega
    rw [e1, e2]
    split
    · split
      · rename_i h1 h2
        simp at h2
        omega
      · rfl
    · rfl
theorem ai_cells_at {ad : Nat → Nat} {tc : Nat → ClassId} {w : ai_W} {i : Nat} (h : i < w.1) : (ai_cells ad tc w)[i]? = some (ad i, ai_en ad tc w i) := ai_range_at h
theorem ai_en_i {ad : Nat → Nat} {tc : Nat → ClassId} {w : ai_W} {i k : Nat} (hk : k < 2) (h : (w.2.2.1 i).1 = k) : ai_en ad tc w i = .inl (tc i, (w.2.2.1 i).2, .inl (w.2.2.2.2.1 i)) := by
  unfold ai_en
  rw [h]
  match k, hk with
  | 0, _ => rfl
  | 1, _ => rfl
theorem ai_en_r {ad : Nat → Nat} {tc : Nat → ClassId} {w : ai_W} {i : Nat} (h : (w.2.2.1 i).1 = 2) : ai_en ad tc w i = .inl (tc i, (w.2.2.1 i).2, .inr (.inr (.inr (.inr (fun j => (w.2.2.2.1 i j).map ad))))) := by
  unfold ai_en
  rw [h]
theorem ai_en_o {ad : Nat → Nat} {tc : Nat → ClassId} {w : ai_W} {i c : Nat} (h : (w.2.2.1 i).1 = c + 3) : ai_en ad tc w i = .inr (c, (List.range (ai_N c)).map (ai_fv ad w c i)) := by
  unfold ai_en
  rw [h]
/-- two worlds, two maps, alike at a cell -/
theorem ai_en_eq {ad ad' : Nat → Nat} {tc tc' : Nat → ClassId} {w w' : ai_W} {i : Nat} (hk : w'.2.2.1 i = w.2.2.1 i) (ht : tc' i = tc i) (hm : w'.2.2.2.2.1 i = w.2.2.2.2.1 i) (hl : w'.2.2.2.2.2 i = w.2.2.2.2.2 i) (hr : w'.2.2.2.1 i = w.2.2.2.1 i) (ha : ∀ j k, w.2.2.2.1 i j = some k → ad' k = ad k) : ai_en ad' tc' w' i = ai_en ad tc w i := by
  have hra : ∀ j, (w.2.2.2.1 i j).map ad' = (w.2.2.2.1 i j).map ad := by
    intro j
    cases hj : w.2.2.2.1 i j with
    | none => rfl
    | some k => simp [ha j k hj]
  have hf : ∀ c, ai_fv ad' w' c i = ai_fv ad w c i := by
    intro c
    funext j
    unfold ai_fv
    rw [hm, hl, hr, hra]
  unfold ai_en
  rw [hk]
  simp only [ht, hm, hr, hra, hf]
theorem ai_cells_set {ad : Nat → Nat} {tc : Nat → ClassId} {w w' : ai_W} {i : Nat} {E : va_E} (hn : w'.1 = w.1) (hE : E = ai_en ad tc w' i) (hk : w'.2.2.1 = w.2.2.1) (ho : ∀ a, a ≠ i → w'.2.2.2.2.1 a = w.2.2.2.2.1 a ∧ w'.2.2.2.2.2 a = w.2.2.2.2.2 a ∧ w'.2.2.2.1 a = w.2.2.2.1 a) : (ai_cells ad tc w).set i (ad i, E) = ai_cells ad tc w' := by
  subst hE
  unfold ai_cells
  rw [hn]
  refine ai_range_set rfl (fun j _ hj => ?_)
  rw [ai_en_eq (w' := w') (w := w) (ad' := ad) (ad := ad) (tc' := tc) (tc := tc) (by rw [hk]) rfl (ho j hj).1 (ho j hj).2.1 (ho j hj).2.2 (fun _ _ _ => rfl)]
def ai_wf (w : ai_W) : Prop := w.1 ≤ 1000000 ∧ ∀ i j k, i < w.1 → w.2.2.2.1 i j = some k → k < w.1
theorem ai_cells_new {ad : Nat → Nat} {tc tc' : Nat → ClassId} {w : ai_W} {q k sl : Nat} {E : va_E} (hw : ai_wf w) (ht : ∀ i, i < w.1 → tc' i = tc i) (hE : E = ai_en (va_up ad w.1 q) tc' (ai_mk w k sl) w.1) : ai_cells ad tc w ++ [(q, E)] = ai_cells (va_up ad w.1 q) tc' (ai_mk w k sl) := by
  subst hE
  unfold ai_cells
  rw [show (ai_mk w k sl).1 = w.1 + 1 from rfl, List.range_succ, List.map_append]
  congr 1
  · refine List.map_congr_left (fun i hi => ?_)
    have hi := List.mem_range.mp hi
    have hne : i ≠ w.1 := by omega
    rw [ai_en_eq (w' := ai_mk w k sl) (w := w) (ad' := va_up ad w.1 q) (ad := ad) (tc' := tc') (tc := tc) (by simp [ai_mk, va_up, hne]) (ht i hi) (by simp [ai_mk, va_up, hne]) (by simp [ai_mk, va_up, hne]) (by simp [ai_mk, va_up, hne]) (fun j k hj => by
      have := hw.2 i j k hi hj
      simp [va_up, Nat.ne_of_lt this])]
    simp [va_up, hne]
  · simp [va_up]
def ai_kt (k : Nat) : FieldType := match k with
  | 0 => .int
  | 1 => .boolean
  | _ => .object RX2
def ai_V (D : va_G) (tc : Nat → ClassId) (w : ai_W) (U : State) : Prop := va_K D ai_cl [] U ∧ ∀ i, i < w.1 → (w.2.2.1 i).1 < 3 → ArrOfT U (tc i) (ai_kt (w.2.2.1 i).1) ∧ va_RA U (tc i) (ai_kt (w.2.2.1 i).1)
/-- an int array that was there before: its first N places -/
def ai_X (b N : Nat) (xs : Nat → Int32) (U : State) (H : Heap) : Prop := ∃ cell : Cell, H[b]? = some cell ∧ U.isArrayOf cell .int ∧ cell.vm ≠ .unknown ∧ N ≤ cell.slots.size ∧ cell.slots.size.toInt32 = Int32.ofNat N ∧ ∀ j : Nat, j < N → cell.slots[j]? = some (.int (xs j))
theorem ai_X.kept {b N : Nat} {xs : Nat → Int32} {U : State} {H H1 : Heap} (h : ai_X b N xs U H) (hq : H1[b]? = H[b]?) : ai_X b N xs U H1 := by
  obtain ⟨cell, h1, h2⟩ := h
  exact ⟨cell, by rw [hq]; exact h1, h2⟩
theorem ai_X.moved {b N : Nat} {xs : Nat → Int32} {u U : State} {H : Heap} (hvm : u.vm.Alike U.vm) (h : ai_X b N xs u H) : ai_X b N xs U H := by
  obtain ⟨cell, h1, h2, h3⟩ := h
  exact ⟨cell, h1, State.isArrayOf_alike hvm h2, h3⟩
def ai_Old (A : Nat → Prop) (oL : Nat → Nat) (ox : Nat → Nat → Int32) (ob : Nat → Nat) (U : State) (H : Heap) : Prop := (∀ k, k < 2 → ai_X (ob k) (oL k) (ox k) U H ∧ ob k < H.size ∧ ¬ A (ob k)) ∧ va_Z "SleepHarbour" "FACTORIAL" "[I" (.ref (ob 1)) A U H
def ai_Nw (U : State) : Prop := va_AO RX2 U ∧ ∀ (own : String) (idx : Nat) (z : MethodName) (host : String), Cond.methodLinkNest own idx z host ∈ lw_tbl → va_Nw (.methodLinkNest own idx z host) U
/-- the heap H holds the world, in the body of a method that was entered at s -/
def ai_I (sz : Nat) (oL : Nat → Nat) (ox : Nat → Nat → Int32) (ob : Nat → Nat) (D : va_G) (ad : Nat → Nat) (tc : Nat → ClassId) (w : ai_W) (s : State) (H : Heap) : Prop :=
  sz ≤ s.heap.size ∧ ai_V D tc w s ∧ va_P D ai_cl (ai_cells ad tc w) H ∧ va_D (fun q => sz ≤ q) (ai_cells ad tc w) ∧ ai_Old (fun q => sz ≤ q) oL ox ob s s.heap ∧ ai_Nw s ∧ ai_wf w ∧ ∀ k, k < 2 → ad (ai_O + k) = ob k
theorem ai_V.moved {D : va_G} {tc : Nat → ClassId} {w : ai_W} {u U : State} (hvm : u.vm.Alike U.vm) (h : ai_V D tc w u) : ai_V D tc w U := ⟨va_K.moved hvm h.1, fun i hi hk => ⟨arrOfT_moved hvm (h.2 i hi hk).1, (h.2 i hi hk).2.moved hvm⟩⟩
theorem ai_V.K {D : va_G} {tc : Nat → ClassId} {w : ai_W} {s : State} {i k : Nat} (h : ai_V D tc w s) (hi : i < w.1) (hk : (w.2.2.1 i).1 = k) (hk3 : k < 3) : va_K D ai_cl [(tc i, ai_kt k)] s := by
  refine ⟨h.1.1, fun j q hj => ?_⟩
  match j, hj with
  | 0, hj =>
    cases hj
    subst hk
    exact h.2 i hi hk3
/-- the world is the same, but for a new heap, of the same shape -/
theorem ai_V.same {D : va_G} {tc : Nat → ClassId} {w w' : ai_W} {s : State} (h : ai_V D tc w s) (hn : w'.1 = w.1) (hk : w'.2.2.1 = w.2.2.1) : ai_V D tc w' s := ⟨h.1, fun i hi h3 => by rw [hk] at h3 ⊢; exact h.2 i (by omega) h3⟩
theorem ai_cvs {ad ad' : Nat → Nat} {n : Nat} {v : Value} (h : ai_okv n v) (ha : ∀ i, i < n → ad' i = ad i) (ho : ∀ k, k < 2 → ad' (ai_O + k) = ad (ai_O + k)) : ai_cv ad' v = ai_cv ad v := by
  cases v with
  | ref i =>
    rcases h i rfl with h | h | h
    · simp [ai_cv, ha i h]
    · subst h; simp only [ai_cv]; rw [show ad' ai_O = ad ai_O from ho 0 (by decide)]
    · subst h; simp only [ai_cv]; rw [show ad' (ai_O + 1) = ad (ai_O + 1) from ho 1 (by decide)]
  | _ => rfl
theorem ai_cvm {ad ad' : Nat → Nat} {n : Nat} {st : List Value} (h : ai_oks n st) (ha : ∀ i, i < n → ad' i = ad i) (ho : ∀ k, k < 2 → ad' (ai_O + k) = ad (ai_O + k)) : st.map (ai_cv ad') = st.map (ai_cv ad) := List.map_congr_left (fun v hv => ai_cvs (h v hv) ha ho)
theorem ai_L.to {ad ad' : Nat → Nat} {n nL : Nat} {L : List Value} {ls : Array Slot} (hl : ai_L ad nL L ls) (h : ai_oks n L) (ha : ∀ i, i < n → ad' i = ad i) (ho : ∀ k, k < 2 → ad' (ai_O + k) = ad (ai_O + k)) : ai_L ad' nL L ls := ⟨hl.1, hl.2.1, hl.2.2.1, fun i v hi hv => by rw [ai_cvs (h v (List.mem_of_getElem? hi)) ha ho]; exact hl.2.2.2 i v hi hv⟩
theorem ai_okv.mono {n n' : Nat} {v : Value} (h : ai_okv n v) (hn : n ≤ n') : ai_okv n' v := fun i hi => (h i hi).imp (fun z => Nat.lt_of_lt_of_le z hn) id
theorem ai_oks.mono {n n' : Nat} {st : List Value} (h : ai_oks n st) (hn : n ≤ n') : ai_oks n' st := fun v hv => (h v hv).mono hn
/-- the entry of a method that is called, in the heap as it is -/
theorem ai_I.call {sz : Nat} {oL : Nat → Nat} {ox : Nat → Nat → Int32} {ob : Nat → Nat} {D : va_G} {ad : Nat → Nat} {tc : Nat → ClassId} {w : ai_W} {s U : State} {H : Heap} {locs : List Loc} (h : ai_I sz oL ox ob D ad tc w s H) (hS : va_S (fun q => sz ≤ q) s.heap H locs) (hU : U.heap = H) (hW : s.WarmedH U.vm) : ai_I sz oL ox ob D ad tc w U U.heap := by
  obtain ⟨h1, h2, h3, h4, h5, h6, h7, h8⟩ := h
  refine ⟨by rw [hU]; exact Nat.le_trans h1 hS.1, h2.moved hW.alike, by rw [hU]; exact h3, h4, ⟨fun k hk => ?_, ?_⟩, ⟨h6.1.moved hW.alike, fun own idx z host hm => (h6.2 own idx z host hm).warmM hW⟩, h7, h8⟩
  · obtain ⟨a1, a2, a3⟩ := h5.1 k hk
    rw [hU]
    exact ⟨(a1.moved hW.alike).kept (hS.2.1 _ a2 a3), Nat.lt_of_lt_of_le a2 hS.1, a3⟩
  · rw [hU]
    exact (h5.2.moved hW.alike).kept (fun a ha hn => hS.2.1 a ha hn)
theorem ai_I.blind {sz : Nat} {oL : Nat → Nat} {ox : Nat → Nat → Int32} {ob : Nat → Nat} {D : va_G} {ad : Nat → Nat} {tc : Nat → ClassId} {w : ai_W} {U : State} {g : JFrame} {mk : MethodId} {a : Array Value} (h : ai_I sz oL ox ob D ad tc w U U.heap) : ai_I sz oL ox ob D ad tc w (U.calling g mk a) (U.calling g mk a).heap := by
  obtain ⟨h1, h2, h3, h4, h5, h6, h7, h8⟩ := h
  have hv : U.vm.Alike (U.calling g mk a).vm := Vm.Alike.refl U.vm
  refine ⟨h1, h2.moved hv, h3, h4, ⟨fun k hk => ⟨(h5.1 k hk).1.moved hv, (h5.1 k hk).2⟩, h5.2.moved hv⟩, ⟨h6.1.moved hv, fun own idx z host hm => (h6.2 own idx z host hm).same rfl rfl⟩, h7, h8⟩
/-- behind a call: what the method left, seen from the caller -/
theorem ai_I.back {sz : Nat} {oL : Nat → Nat} {ox : Nat → Nat → Int32} {ob : Nat → Nat} {D : va_G} {ad ad' : Nat → Nat} {tc tc' : Nat → ClassId} {w w' : ai_W} {s t : State} {H : Heap} (h : ai_I sz oL ox ob D ad tc w s H) (ht : ai_I sz oL ox ob D ad' tc' w' t t.heap) (hvm : s.vm.Alike t.vm) : ai_I sz oL ox ob D ad' tc' w' s t.heap :=
  ⟨h.1, ht.2.1.moved hvm.symm, ht.2.2.1, ht.2.2.2.1, h.2.2.2.2.1, h.2.2.2.2.2.1, ht.2.2.2.2.2.2.1, ht.2.2.2.2.2.2.2⟩
