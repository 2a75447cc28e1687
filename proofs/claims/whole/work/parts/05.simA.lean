/-! what the small machine's steps are on the big one: constants, locals, arithmetic, jumps -/
theorem ai_push_ok {len n : Nat} {v : Value} {st st' : List Value} (h : ai_push len n v st = some st') : len = n ∧ st' = v :: st := by
  unfold ai_push at h
  split at h
  · cases h; exact ⟨by assumption, rfl⟩
  · cases h
theorem ai_pushO_ok {len n : Nat} {v : Option Value} {st st' : List Value} (h : ai_pushO len n v st = some st') : ∃ x, v = some x ∧ len = n ∧ st' = x :: st := by
  cases v with
  | none => cases h
  | some x => exact ⟨x, rfl, ai_push_ok h⟩
theorem ai_ldi_ok {len n i : Nat} {L st st' : List Value} (h : ai_ldi len n L i st = some st') : len = n ∧ ∃ x, L[i]? = some (.int x) ∧ st' = .int x :: st := by
  unfold ai_ldi at h
  split at h
  · rename_i x hx
    obtain ⟨h1, h2⟩ := ai_push_ok h
    exact ⟨h1, x, hx, h2⟩
  · cases h
theorem ai_ldl_ok {len n i : Nat} {L st st' : List Value} (h : ai_ldl len n L i st = some st') : len = n ∧ ∃ x, L[i]? = some (.long x) ∧ st' = .long x :: st := by
  unfold ai_ldl at h
  split at h
  · rename_i x hx
    obtain ⟨h1, h2⟩ := ai_push_ok h
    exact ⟨h1, x, hx, h2⟩
  · cases h
theorem ai_lda_ok {len n i : Nat} {L st st' : List Value} (h : ai_lda len n L i st = some st') : len = n ∧ ∃ x, L[i]? = some (.ref x) ∧ st' = .ref x :: st := by
  unfold ai_lda at h
  split at h
  · rename_i x hx
    obtain ⟨h1, h2⟩ := ai_push_ok h
    exact ⟨h1, x, hx, h2⟩
  · cases h
theorem ai_un_ok {len : Nat} {f : Int32 → Value} {st st' : List Value} (h : ai_un len f st = some st') : len = 1 ∧ ∃ x r, st = .int x :: r ∧ st' = f x :: r := by
  unfold ai_un at h
  split at h
  · obtain ⟨h1, h2⟩ := ai_push_ok h
    exact ⟨h1, _, _, rfl, h2⟩
  · cases h
theorem ai_unL_ok {len : Nat} {f : Int64 → Value} {st st' : List Value} (h : ai_unL len f st = some st') : len = 1 ∧ ∃ x r, st = .long x :: r ∧ st' = f x :: r := by
  unfold ai_unL at h
  split at h
  · obtain ⟨h1, h2⟩ := ai_push_ok h
    exact ⟨h1, _, _, rfl, h2⟩
  · cases h
theorem ai_bin_ok {len : Nat} {f : Int32 → Int32 → Int32} {st st' : List Value} (h : ai_bin len f st = some st') : len = 1 ∧ ∃ x y r, st = .int y :: .int x :: r ∧ st' = .int (f x y) :: r := by
  unfold ai_bin at h
  split at h
  · obtain ⟨h1, h2⟩ := ai_push_ok h
    exact ⟨h1, _, _, _, rfl, h2⟩
  · cases h
theorem ai_binZ_ok {len : Nat} {f : Int32 → Int32 → Int32} {st st' : List Value} (h : ai_binZ len f st = some st') : len = 1 ∧ ∃ x y r, ¬ y = 0 ∧ st = .int y :: .int x :: r ∧ st' = .int (f x y) :: r := by
  unfold ai_binZ at h
  split at h
  · split at h
    · cases h
    · obtain ⟨h1, h2⟩ := ai_push_ok h
      exact ⟨h1, _, _, _, by assumption, rfl, h2⟩
  · cases h
theorem ai_binL_ok {len : Nat} {f : Int64 → Int64 → Value} {st st' : List Value} (h : ai_binL len f st = some st') : len = 1 ∧ ∃ x y r, st = .long y :: .long x :: r ∧ st' = f x y :: r := by
  unfold ai_binL at h
  split at h
  · obtain ⟨h1, h2⟩ := ai_push_ok h
    exact ⟨h1, _, _, _, rfl, h2⟩
  · cases h
theorem ai_binLZ_ok {len : Nat} {f : Int64 → Int64 → Int64} {st st' : List Value} (h : ai_binLZ len f st = some st') : len = 1 ∧ ∃ x y r, ¬ y = 0 ∧ st = .long y :: .long x :: r ∧ st' = .long (f x y) :: r := by
  unfold ai_binLZ at h
  split at h
  · split at h
    · cases h
    · obtain ⟨h1, h2⟩ := ai_push_ok h
      exact ⟨h1, _, _, _, by assumption, rfl, h2⟩
  · cases h
theorem ai_shL_ok {len : Nat} {f : Int64 → Int32 → Int64} {st st' : List Value} (h : ai_shL len f st = some st') : len = 1 ∧ ∃ x y r, st = .int y :: .long x :: r ∧ st' = .long (f x y) :: r := by
  unfold ai_shL at h
  split at h
  · obtain ⟨h1, h2⟩ := ai_push_ok h
    exact ⟨h1, _, _, _, rfl, h2⟩
  · cases h
/-- a value names a cell of the world, or one of the two arrays that were there before, if it names one -/
def ai_okv (n : Nat) (v : Value) : Prop := ∀ i, v = .ref i → i < n ∨ i = ai_O ∨ i = ai_O + 1
def ai_oks (n : Nat) (st : List Value) : Prop := ∀ v ∈ st, ai_okv n v
theorem ai_okI {n : Nat} {x : Int32} : ai_okv n (.int x) := fun i h => by cases h
theorem ai_okL {n : Nat} {x : Int64} : ai_okv n (.long x) := fun i h => by cases h
theorem ai_okN {n : Nat} : ai_okv n .null := fun i h => by cases h
theorem ai_oks_c {n : Nat} {v : Value} {st : List Value} (h1 : ai_okv n v) (h2 : ai_oks n st) : ai_oks n (v :: st) := fun u hu => by
  rcases List.mem_cons.mp hu with rfl | h
  · exact h1
  · exact h2 u h
theorem ai_oks_t {n : Nat} {v : Value} {st : List Value} (h : ai_oks n (v :: st)) : ai_oks n st := fun u hu => h u (List.mem_cons_of_mem _ hu)
theorem ai_oks_h {n : Nat} {v : Value} {st : List Value} (h : ai_oks n (v :: st)) : ai_okv n v := h v List.mem_cons_self
theorem ai_oks_n {n : Nat} : ai_oks n [] := fun _ h => by cases h
theorem ai_oks_at {n i : Nat} {v : Value} {L : List Value} (h : ai_oks n L) (hi : L[i]? = some v) : ai_okv n v := h v (List.mem_of_getElem? hi)
theorem ai_oks_set {n i : Nat} {v : Value} {L : List Value} (h : ai_oks n L) (hv : ai_okv n v) : ai_oks n (L.set i v) := fun u hu => by
  rcases List.mem_or_eq_of_mem_set hu with h1 | rfl
  · exact h u h1
  · exact hv
theorem ai_A_ok {own : String} {ins : Instr} {len n : Nat} {L st st' : List Value} (h : ai_A own ins len L st = some st') (hL : ai_oks n L) (hs : ai_oks n st) : ai_oks n st' := by
  unfold ai_A at h
  split at h
  all_goals first
    | (obtain ⟨x, hx, -, rfl⟩ := ai_pushO_ok h; rw [Option.map_eq_some_iff] at hx; obtain ⟨z, -, rfl⟩ := hx; exact ai_oks_c (fun i h => by cases h) hs)
    | (obtain ⟨-, rfl⟩ := ai_push_ok h; exact ai_oks_c (fun i h => by cases h) hs)
    | (obtain ⟨-, x, hx, rfl⟩ := ai_ldi_ok h; exact ai_oks_c ai_okI hs)
    | (obtain ⟨-, x, hx, rfl⟩ := ai_ldl_ok h; exact ai_oks_c ai_okL hs)
    | (obtain ⟨-, x, hx, rfl⟩ := ai_lda_ok h; exact ai_oks_c (ai_oks_at hL hx) hs)
    | (obtain ⟨-, x, y, r, rfl, rfl⟩ := ai_bin_ok h; exact ai_oks_c ai_okI (ai_oks_t (ai_oks_t hs)))
    | (obtain ⟨-, x, y, r, -, rfl, rfl⟩ := ai_binZ_ok h; exact ai_oks_c ai_okI (ai_oks_t (ai_oks_t hs)))
    | (obtain ⟨-, x, y, r, rfl, rfl⟩ := ai_binL_ok h; first | exact ai_oks_c ai_okL (ai_oks_t (ai_oks_t hs)) | exact ai_oks_c ai_okI (ai_oks_t (ai_oks_t hs)))
    | (obtain ⟨-, x, y, r, -, rfl, rfl⟩ := ai_binLZ_ok h; exact ai_oks_c ai_okL (ai_oks_t (ai_oks_t hs)))
    | (obtain ⟨-, x, y, r, rfl, rfl⟩ := ai_shL_ok h; exact ai_oks_c ai_okL (ai_oks_t (ai_oks_t hs)))
    | (obtain ⟨-, x, r, rfl, rfl⟩ := ai_un_ok h; first | exact ai_oks_c ai_okI (ai_oks_t hs) | exact ai_oks_c ai_okL (ai_oks_t hs))
    | (obtain ⟨-, x, r, rfl, rfl⟩ := ai_unL_ok h; exact ai_oks_c ai_okI (ai_oks_t hs))
    | skip
  · split at h
    · split at h
      · obtain ⟨-, rfl⟩ := ai_push_ok h
        exact ai_oks_c (ai_oks_h hs) hs
      · cases h
    · cases h
  · split at h
    · split at h
      · obtain ⟨-, rfl⟩ := ai_push_ok h
        exact ai_oks_c (ai_oks_h hs) (ai_oks_c (ai_oks_h (ai_oks_t hs)) hs)
      · cases h
    · cases h
  · split at h
    · split at h
      · cases h
        exact ai_oks_t hs
      · cases h
    · cases h
  · cases h
/-- the locals: what is known of each (null: nothing is) -/
def ai_L (ad : Nat → Nat) (nL : Nat) (L : List Value) (ls : Array Slot) : Prop := L.length = nL ∧ ls.size = nL ∧ lv_wf ls ∧ ∀ (i : Nat) (v : Value), L[i]? = some v → v ≠ .null → ls[i]? = some (.val (ai_cv ad v))
theorem ai_cat (ad : Nat → Nat) (v : Value) : (ai_cv ad v).category = v.category := by cases v <;> rfl
section SIMA
variable {p : Program} {l : Launch} {e : Env} {R : Room} {s : State} {m : MethodId} {args : Array Value} {below : List Frame} {meth : Method} {c : Code} {H : Heap} {locs : List Loc} {cells slots : Nat} {Q : State → Prop}
set_option maxHeartbeats 4000000 in
theorem ai_A_W {own : String} {cc : ByteArray} {ins : Instr} {len pc nL : Nat} {L st st' : List Value} {ad : Nat → Nat} {ls : Array Slot} (hx : p.tables.exec = Jvm.exec) (hb : c.code = cc) (hown : s.vm.findClass own = some m.cls) (hts : ∀ w ∈ ai_tb, w.before args s = true) (hdg : decode cc pc = .ok (ins, len)) (h : ai_A own ins len L st = some st') (hl : ai_L ad nL L ls)
    (k : W p l e R s m args below meth c H locs cells slots Q (F0 m (pc + len) ls (st'.map (ai_cv ad)))) : W p l e R s m args below meth c H locs cells slots Q (F0 m pc ls (st.map (ai_cv ad))) := by
  have hat : ∀ {i : Nat} {v : Value}, L[i]? = some v → v ≠ .null → ls[i]? = some (.val (ai_cv ad v)) := fun h1 h2 => hl.2.2.2 _ _ h1 h2
  unfold ai_A at h
  split at h
  · obtain ⟨rfl, rfl⟩ := ai_push_ok h; exact lv_iconst hx hb hdg rfl k
  · obtain ⟨rfl, rfl⟩ := ai_push_ok h; exact lv_bipush hx hb hdg rfl k
  · obtain ⟨rfl, rfl⟩ := ai_push_ok h; exact lv_sipush hx hb hdg rfl k
  · obtain ⟨rfl, rfl⟩ := ai_push_ok h; exact lv_lconst hx hb hdg rfl k
  · obtain ⟨x, hv, rfl, rfl⟩ := ai_pushO_ok h
    rw [Option.map_eq_some_iff] at hv
    obtain ⟨z, hc, rfl⟩ := hv
    exact lv_ldcw hx hb hown (hts _ (ai_cst_mem hc)) hdg k
  · obtain ⟨x, hv, rfl, rfl⟩ := ai_pushO_ok h
    rw [Option.map_eq_some_iff] at hv
    obtain ⟨z, hc, rfl⟩ := hv
    exact lv_ldc2 hx hb hown (hts _ (ai_cstL_mem hc)) hdg k
  · obtain ⟨rfl, x, hx1, rfl⟩ := ai_ldi_ok h; exact lv_iload hx hb hdg (hat hx1 (by simp)) k
  · obtain ⟨rfl, x, hx1, rfl⟩ := ai_ldi_ok h; exact lv_iload_n hx hb hdg rfl (hat hx1 (by simp)) k
  · obtain ⟨rfl, x, hx1, rfl⟩ := ai_ldl_ok h; exact lv_lload hx hb hdg (hat hx1 (by simp)) k
  · obtain ⟨rfl, x, hx1, rfl⟩ := ai_ldl_ok h; exact lv_lload_n hx hb hdg rfl (hat hx1 (by simp)) k
  · obtain ⟨rfl, x, hx1, rfl⟩ := ai_lda_ok h; exact lv_aload hx hb hdg (hat hx1 (by simp)) k
  · obtain ⟨rfl, x, hx1, rfl⟩ := ai_lda_ok h; exact lv_aload_n hx hb hdg rfl (hat hx1 (by simp)) k
  · obtain ⟨rfl, x, y, r, rfl, rfl⟩ := ai_bin_ok h; exact lv_iadd hx hb hdg k
  · obtain ⟨rfl, x, y, r, rfl, rfl⟩ := ai_bin_ok h; exact lv_isub hx hb hdg k
  · obtain ⟨rfl, x, y, r, rfl, rfl⟩ := ai_bin_ok h; exact lv_imul hx hb hdg k
  · obtain ⟨rfl, x, y, r, rfl, rfl⟩ := ai_bin_ok h; exact lv_iand hx hb hdg k
  · obtain ⟨rfl, x, y, r, rfl, rfl⟩ := ai_bin_ok h; exact lv_ior hx hb hdg k
  · obtain ⟨rfl, x, y, r, rfl, rfl⟩ := ai_bin_ok h; exact lv_ixor hx hb hdg k
  · obtain ⟨rfl, x, y, r, rfl, rfl⟩ := ai_bin_ok h; exact lv_ishl hx hb hdg k
  · obtain ⟨rfl, x, y, r, rfl, rfl⟩ := ai_bin_ok h; exact lv_ishr hx hb hdg k
  · obtain ⟨rfl, x, y, r, rfl, rfl⟩ := ai_bin_ok h; exact lv_iushr hx hb hdg rfl k
  · obtain ⟨rfl, x, y, r, hy, rfl, rfl⟩ := ai_binZ_ok h; exact lv_idiv hx hb hdg hy k
  · obtain ⟨rfl, x, y, r, hy, rfl, rfl⟩ := ai_binZ_ok h; exact lv_irem hx hb hdg hy k
  · obtain ⟨rfl, x, r, rfl, rfl⟩ := ai_un_ok h; exact lv_ineg hx hb hdg k
  · obtain ⟨rfl, x, r, rfl, rfl⟩ := ai_un_ok h; exact lv_i2l hx hb hdg rfl k
  · obtain ⟨rfl, x, r, rfl, rfl⟩ := ai_unL_ok h; exact lv_l2i hx hb hdg rfl k
  · obtain ⟨rfl, x, y, r, rfl, rfl⟩ := ai_binL_ok h; exact lv_ladd hx hb hdg k
  · obtain ⟨rfl, x, y, r, rfl, rfl⟩ := ai_binL_ok h; exact lv_lsub hx hb hdg k
  · obtain ⟨rfl, x, y, r, rfl, rfl⟩ := ai_binL_ok h; exact lv_lmul hx hb hdg k
  · obtain ⟨rfl, x, y, r, rfl, rfl⟩ := ai_binL_ok h; exact lv_land hx hb hdg k
  · obtain ⟨rfl, x, y, r, rfl, rfl⟩ := ai_binL_ok h; exact lv_lor hx hb hdg k
  · obtain ⟨rfl, x, y, r, rfl, rfl⟩ := ai_binL_ok h; exact W.lcmp hx hb hdg k
  · obtain ⟨rfl, x, y, r, hy, rfl, rfl⟩ := ai_binLZ_ok h; exact lv_ldiv hx hb hdg hy k
  · obtain ⟨rfl, x, y, r, hy, rfl, rfl⟩ := ai_binLZ_ok h; exact lv_lrem hx hb hdg hy k
  · obtain ⟨rfl, x, y, r, rfl, rfl⟩ := ai_shL_ok h; exact lv_lshl hx hb hdg rfl k
  · obtain ⟨rfl, x, y, r, rfl, rfl⟩ := ai_shL_ok h; exact lv_lushr hx hb hdg rfl k
  · split at h
    · split at h
      · rename_i hc
        obtain ⟨rfl, rfl⟩ := ai_push_ok h
        exact lv_dup hx hb hdg (by rw [ai_cat]; exact hc) k
      · cases h
    · cases h
  · split at h
    · split at h
      · rename_i hc
        obtain ⟨rfl, rfl⟩ := ai_push_ok h
        exact lv_dup2_11 hx hb hdg (by rw [ai_cat]; exact hc.1) (by rw [ai_cat]; exact hc.2) k
      · cases h
    · cases h
  · split at h
    · split at h
      · rename_i hc
        obtain ⟨h1, rfl⟩ := hc
        cases h
        exact lv_pop hx hb hdg (by rw [ai_cat]; exact h1) k
      · cases h
    · cases h
  · cases h
-- locals are set
def ai_lv (ad : Nat → Nat) (L : List Value) : List (Nat × Value) := (List.range L.length).filterMap fun (j : Nat) => match L[j]? with
  | some Value.null => none
  | some v => some (j, ai_cv ad v)
  | none => none
theorem ai_lv_mem {ad : Nat → Nat} {L : List Value} {j : Nat} {v : Value} (h : L[j]? = some v) (hn : v ≠ .null) : (j, ai_cv ad v) ∈ ai_lv ad L := by
  refine List.mem_filterMap.mpr ⟨j, List.mem_range.mpr (List.getElem?_eq_some_iff.mp h).1, ?_⟩
  rw [h]
  cases v <;> first | rfl | exact absurd rfl hn
theorem ai_lv_has {ad : Nat → Nat} {nL : Nat} {L : List Value} {ls : Array Slot} (h : ai_L ad nL L ls) : lv_has ls nL (ai_lv ad L) := by
  refine ⟨h.2.1, h.2.2.1, fun q hq => ?_⟩
  obtain ⟨j, -, hj⟩ := List.mem_filterMap.mp hq
  split at hj
  · cases hj
  · rename_i v hv1 hv2
    cases hj
    exact h.2.2.2 j v hv2 (fun z => hv1 z)
  · cases hj
theorem ai_cat2 {v : Value} : (ai_is2 (some v) = false) → ¬ v.category = 2 := by cases v <;> simp [ai_is2, Value.category]
theorem ai_L_set1 {ad : Nat → Nat} {nL i : Nat} {L : List Value} {ls' : Array Slot} {v : Value} (hn : L.length = nL) (hi : i < L.length) (h2 : i = 0 ∨ ai_is2 L[i - 1]? = false) (h : lv_has ls' nL ((i, ai_cv ad v) :: (ai_lv ad L).filter (fun q => !(q.1 == i) && !(q.1 + 1 == i && q.2.category == 2)))) : ai_L ad nL (L.set i v) ls' := by
  refine ⟨by rw [List.length_set]; exact hn, h.1, h.2.1, fun j u hj hu => ?_⟩
  by_cases hij : j = i
  · subst hij
    rw [List.getElem?_set_self hi] at hj
    cases hj
    exact h.2.2 _ List.mem_cons_self
  · rw [List.getElem?_set_ne (Ne.symm hij)] at hj
    refine h.2.2 (j, ai_cv ad u) (List.mem_cons_of_mem _ (List.mem_filter.mpr ⟨ai_lv_mem hj hu, ?_⟩))
    have e1 : (j == i) = false := by simp [hij]
    simp only [e1, ai_cat]
    by_cases hj1 : j + 1 = i
    · subst hj1
      have := ai_cat2 (v := u) (by rw [← hj]; rcases h2 with h2 | h2
                                   · omega
                                   · simpa using h2)
      simp [this]
    · simp [hj1]
theorem ai_L_set2 {ad : Nat → Nat} {nL i : Nat} {L : List Value} {ls' : Array Slot} {v : Value} (hn : L.length = nL) (hi : i + 1 < L.length) (h2 : i = 0 ∨ ai_is2 L[i - 1]? = false) (h : lv_has ls' nL ((i, ai_cv ad v) :: (ai_lv ad L).filter (fun q => !(q.1 == i) && (!(q.1 == i + 1) && !(q.1 + 1 == i && q.2.category == 2))))) : ai_L ad nL ((L.set i v).set (i + 1) .null) ls' := by
  refine ⟨by rw [List.length_set, List.length_set]; exact hn, h.1, h.2.1, fun j u hj hu => ?_⟩
  by_cases hj2 : j = i + 1
  · subst hj2
    rw [List.getElem?_set_self (by rw [List.length_set]; exact hi)] at hj
    cases hj
    exact absurd rfl hu
  · rw [List.getElem?_set_ne (Ne.symm hj2)] at hj
    by_cases hij : j = i
    · subst hij
      rw [List.getElem?_set_self (by omega)] at hj
      cases hj
      exact h.2.2 _ List.mem_cons_self
    · rw [List.getElem?_set_ne (Ne.symm hij)] at hj
      refine h.2.2 (j, ai_cv ad u) (List.mem_cons_of_mem _ (List.mem_filter.mpr ⟨ai_lv_mem hj hu, ?_⟩))
      have e1 : (j == i) = false := by simp [hij]
      have e2 : (j == i + 1) = false := by simp [hj2]
      simp only [e1, e2, ai_cat]
      by_cases hj1 : j + 1 = i
      · subst hj1
        have := ai_cat2 (v := u) (by rw [← hj]; rcases h2 with h2 | h2
                                     · omega
                                     · simpa using h2)
        simp [this]
      · simp [hj1]
theorem ai_sti_ok {len n i : Nat} {L st : List Value} {q : List Value × List Value} (h : ai_sti len n L i st = some q) : len = n ∧ i < L.length ∧ (i = 0 ∨ ai_is2 L[i - 1]? = false) ∧ ∃ x, st = .int x :: q.2 ∧ q.1 = L.set i (.int x) := by
  unfold ai_sti at h
  split at h
  · split at h
    · rename_i hc
      cases h
      exact ⟨hc.1, hc.2.1, hc.2.2, _, rfl, rfl⟩
    · cases h
  · cases h
theorem ai_sta_ok {len n i : Nat} {L st : List Value} {q : List Value × List Value} (h : ai_sta len n L i st = some q) : len = n ∧ i < L.length ∧ (i = 0 ∨ ai_is2 L[i - 1]? = false) ∧ ∃ x, st = .ref x :: q.2 ∧ q.1 = L.set i (.ref x) := by
  unfold ai_sta at h
  split at h
  · split at h
    · rename_i hc
      cases h
      exact ⟨hc.1, hc.2.1, hc.2.2, _, rfl, rfl⟩
    · cases h
  · cases h
theorem ai_stl_ok {len n i : Nat} {L st : List Value} {q : List Value × List Value} (h : ai_stl len n L i st = some q) : len = n ∧ i + 1 < L.length ∧ (i = 0 ∨ ai_is2 L[i - 1]? = false) ∧ ∃ x, st = .long x :: q.2 ∧ q.1 = (L.set i (.long x)).set (i + 1) .null := by
  unfold ai_stl at h
  split at h
  · split at h
    · rename_i hc
      cases h
      exact ⟨hc.1, hc.2.1, hc.2.2, _, rfl, rfl⟩
    · cases h
  · cases h
theorem ai_B_ok {ins : Instr} {len n : Nat} {L st L' st' : List Value} (h : ai_B ins len L st = some (L', st')) (hL : ai_oks n L) (hs : ai_oks n st) : ai_oks n L' ∧ ai_oks n st' := by
  unfold ai_B at h
  split at h
  all_goals first
    | (obtain ⟨-, -, -, x, rfl, rfl⟩ := ai_sti_ok h; exact ⟨ai_oks_set hL ai_okI, ai_oks_t hs⟩)
    | (obtain ⟨-, -, -, x, rfl, rfl⟩ := ai_stl_ok h; exact ⟨ai_oks_set (ai_oks_set hL ai_okL) ai_okN, ai_oks_t hs⟩)
    | (obtain ⟨-, -, -, x, rfl, rfl⟩ := ai_sta_ok h; exact ⟨ai_oks_set hL (ai_oks_h hs), ai_oks_t hs⟩)
    | skip
  · split at h
    · obtain ⟨-, -, -, x, h1, rfl⟩ := ai_sti_ok h
      cases h1
      exact ⟨ai_oks_set hL ai_okI, hs⟩
    · cases h
  · cases h
theorem ai_B_W {cc : ByteArray} {ins : Instr} {len pc nL : Nat} {L st L' st' : List Value} {ad : Nat → Nat} {ls : Array Slot} (hx : p.tables.exec = Jvm.exec) (hb : c.code = cc) (hdg : decode cc pc = .ok (ins, len)) (h : ai_B ins len L st = some (L', st')) (hl : ai_L ad nL L ls)
    (k : ∀ ls' : Array Slot, ai_L ad nL L' ls' → W p l e R s m args below meth c H locs cells slots Q (F0 m (pc + len) ls' (st'.map (ai_cv ad)))) : W p l e R s m args below meth c H locs cells slots Q (F0 m pc ls (st.map (ai_cv ad))) := by
  have hh := ai_lv_has hl
  have hlen := hl.1
  unfold ai_B at h
  split at h
  · obtain ⟨rfl, h1, h2, x, rfl, rfl⟩ := ai_sti_ok h; exact lv_istore hx hb hdg hh (by omega) rfl (fun ls' hl' => k ls' (ai_L_set1 (v := .int x) hlen h1 h2 hl'))
  · obtain ⟨rfl, h1, h2, x, rfl, rfl⟩ := ai_sti_ok h; exact lv_istore_n hx hb hdg rfl hh (by omega) rfl (fun ls' hl' => k ls' (ai_L_set1 (v := .int x) hlen h1 h2 hl'))
  · obtain ⟨rfl, h1, h2, x, rfl, rfl⟩ := ai_stl_ok h; exact lv_lstore hx hb hdg hh (by omega) rfl (fun ls' hl' => k ls' (ai_L_set2 (v := .long x) hlen h1 h2 hl'))
  · obtain ⟨rfl, h1, h2, x, rfl, rfl⟩ := ai_stl_ok h; exact lv_lstore_n hx hb hdg rfl hh (by omega) rfl (fun ls' hl' => k ls' (ai_L_set2 (v := .long x) hlen h1 h2 hl'))
  · obtain ⟨rfl, h1, h2, x, rfl, rfl⟩ := ai_sta_ok h; exact lv_astore hx hb hdg hh (by omega) rfl (fun ls' hl' => k ls' (ai_L_set1 (v := .ref x) hlen h1 h2 hl'))
  · obtain ⟨rfl, h1, h2, x, rfl, rfl⟩ := ai_sta_ok h; exact lv_astore_n hx hb hdg rfl hh (by omega) rfl (fun ls' hl' => k ls' (ai_L_set1 (v := .ref x) hlen h1 h2 hl'))
  · split at h
    · rename_i i n x hxi
      obtain ⟨rfl, h1, h2, y, h3, rfl⟩ := ai_sti_ok h
      cases h3
      obtain ⟨kk, hkk⟩ := List.getElem?_of_mem (ai_lv_mem (ad := ad) hxi (by simp))
      exact lv_iinc hx hb hdg hh hkk rfl (by omega) rfl (fun ls' hl' => k ls' (ai_L_set1 (v := .int _) hlen h1 h2 hl'))
    · cases h
  · cases h
-- jumps
theorem ai_tg_ok {pc pc' : Nat} {off : Int} {st st' : List Value} (h : ai_tg pc off st = some (pc', st')) : (pc : Int) + off = (pc' : Int) ∧ st' = st := by
  unfold ai_tg at h
  split at h
  · cases h
    exact ⟨by omega, rfl⟩
  · cases h
theorem ai_br_ok {b : Prop} {i : Decidable b} {len pc pc' : Nat} {off : Int} {st st' : List Value} (h : ai_br b i len pc off st = some (pc', st')) : len = 3 ∧ st' = st ∧ ∃ t : Nat, (pc : Int) + off = (t : Int) ∧ (b → pc' = t) ∧ (¬ b → pc' = pc + 3) := by
  unfold ai_br at h
  split at h
  · rename_i h0
    refine ⟨h0.1, ?_⟩
    split at h
    · rename_i hb
      cases h
      exact ⟨rfl, _, by omega, fun _ => rfl, fun z => absurd hb z⟩
    · rename_i hb
      cases h
      exact ⟨rfl, ((pc : Int) + off).toNat, by omega, fun z => absurd z hb, fun _ => rfl⟩
  · cases h
theorem ai_J_ok {ins : Instr} {len n pc pc' : Nat} {st st' : List Value} (h : ai_J ins len pc st = some (pc', st')) (hs : ai_oks n st) : ai_oks n st' := by
  unfold ai_J at h
  split at h
  · split at h
    · obtain ⟨-, rfl⟩ := ai_tg_ok h; exact hs
    · cases h
  · split at h
    · unfold ai_cmp at h
      split at h <;> (obtain ⟨-, rfl, -⟩ := ai_br_ok h; exact ai_oks_t hs)
    · cases h
  · split at h
    · unfold ai_cmp at h
      split at h <;> (obtain ⟨-, rfl, -⟩ := ai_br_ok h; exact ai_oks_t (ai_oks_t hs))
    · cases h
  · split at h
    · split at h
      · obtain ⟨-, rfl⟩ := ai_tg_ok h; exact ai_oks_t hs
      · split at h
        · obtain ⟨-, rfl⟩ := ai_tg_ok h; exact ai_oks_t hs
        · cases h
    · cases h
  · split at h
    · split at h
      · obtain ⟨-, rfl⟩ := ai_tg_ok h; exact ai_oks_t hs
      · cases h
    · cases h
  · cases h
theorem ai_J_W {cc : ByteArray} {ins : Instr} {len pc pc' : Nat} {st st' : List Value} {ad : Nat → Nat} {ls : Array Slot} (hx : p.tables.exec = Jvm.exec) (hb : c.code = cc) (hdg : decode cc pc = .ok (ins, len)) (h : ai_J ins len pc st = some (pc', st'))
    (k : W p l e R s m args below meth c H locs cells slots Q (F0 m pc' ls (st'.map (ai_cv ad)))) : W p l e R s m args below meth c H locs cells slots Q (F0 m pc ls (st.map (ai_cv ad))) := by
  unfold ai_J at h
  split at h
  · split at h
    · rename_i h0
      subst h0
      obtain ⟨h1, rfl⟩ := ai_tg_ok h
      exact lv_goto hx hb hdg h1 k
    · cases h
  · split at h
    · unfold ai_cmp at h
      split at h
      all_goals (obtain ⟨rfl, rfl, t, ht, h1, h2⟩ := ai_br_ok h)
      · exact lv_if_eq hx hb hdg ht (fun z => by rw [← h1 z]; exact k) (fun z => by rw [← h2 z]; exact k)
      · exact lv_if_ne hx hb hdg ht (fun z => by rw [← h1 z]; exact k) (fun z => by rw [← h2 (fun y => y z)]; exact k)
      · exact lv_if_lt hx hb hdg ht (fun z => by rw [← h1 z]; exact k) (fun z => by rw [← h2 z]; exact k)
      · exact lv_if_ge hx hb hdg ht (fun z => by rw [← h1 z]; exact k) (fun z => by rw [← h2 z]; exact k)
      · exact lv_if_gt hx hb hdg ht (fun z => by rw [← h1 z]; exact k) (fun z => by rw [← h2 z]; exact k)
      · exact lv_if_le hx hb hdg ht (fun z => by rw [← h1 z]; exact k) (fun z => by rw [← h2 z]; exact k)
    · cases h
  · split at h
    · unfold ai_cmp at h
      split at h
      all_goals (obtain ⟨rfl, rfl, t, ht, h1, h2⟩ := ai_br_ok h)
      · exact lv_icmp_eq hx hb hdg ht (fun z => by rw [← h1 z]; exact k) (fun z => by rw [← h2 z]; exact k)
      · exact lv_icmp_ne hx hb hdg ht (fun z => by rw [← h1 z]; exact k) (fun z => by rw [← h2 (fun y => y z)]; exact k)
      · exact lv_icmp_lt hx hb hdg ht (fun z => by rw [← h1 z]; exact k) (fun z => by rw [← h2 z]; exact k)
      · exact lv_icmp_ge hx hb hdg ht (fun z => by rw [← h1 z]; exact k) (fun z => by rw [← h2 z]; exact k)
      · exact lv_icmp_gt hx hb hdg ht (fun z => by rw [← h1 z]; exact k) (fun z => by rw [← h2 z]; exact k)
      · exact lv_icmp_le hx hb hdg ht (fun z => by rw [← h1 z]; exact k) (fun z => by rw [← h2 z]; exact k)
    · cases h
  · split at h
    · split at h
      · rename_i h0
        obtain ⟨h1, rfl⟩ := ai_tg_ok h
        exact lv_tableOut hx hb hdg h0 h1 k
      · rename_i h0
        split at h
        · rename_i off ho
          obtain ⟨h1, rfl⟩ := ai_tg_ok h
          exact lv_tableIn hx hb hdg (fun z => h0 (Or.inl z)) (fun z => h0 (Or.inr z)) ho h1 k
        · cases h
    · cases h
  · split at h
    · split at h
      · rename_i h0
        obtain ⟨h1, rfl⟩ := ai_tg_ok h
        exact lv_lookup hx hb hdg h0 rfl h1 k
      · cases h
    · cases h
  · cases h
end SIMA
