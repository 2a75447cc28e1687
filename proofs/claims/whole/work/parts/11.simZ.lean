/-! THE SIMULATION: by the small machine's fuel -/
theorem ai_C_len {y : MethodName} {ins : Instr} {len : Nat} {st : List Value} {w : ai_W} {q : (MethodName × ByteArray × Nat × Option FieldType) × List Value × List Value} (h : ai_C y ins len st w = some q) : len = 3 := by
  unfold ai_C at h
  split at h <;> first | (split at h; (assumption); (cases h)) | cases h
set_option maxHeartbeats 4000000 in
theorem ai_sim (l : Launch) (sz : Nat) (oL : Nat → Nat) (ox : Nat → Nat → Int32) (ob : Nat → Nat) (D : va_G) : ∀ (n d : Nat) (y : MethodName × ByteArray × Nat × Option FieldType) (pc : Nat) (L st : List Value) (w w' : ai_W) (r : Option Value), ai_run oL ox n d y pc L st w = some (r, w') →
    ∀ {p : Program} {e : Env} {R : Room} {s : State} {m : MethodId} {args : Array Value} {below : List Frame} {meth : Method} {c : Code} {H : Heap} {locs : List Loc} {cells slots : Nat} {Q : State → Prop} {ad : Nat → Nat} {tc : Nat → ClassId} {ls : Array Slot},
    p.tables.exec = Jvm.exec → c.code = y.2.1 → c.maxLocals = y.2.2.1 → s.vm.findClass y.1.cls = some m.cls → meth.name = y.1.name → (∀ w ∈ ai_tb, w.before args s = true) →
    ai_I sz oL ox ob D ad tc w s H → va_S (fun q => sz ≤ q) s.heap H locs → ai_L ad y.2.2.1 L ls → ai_oks w.1 L → ai_oks w.1 st → d ≤ R.frames → 40 * d ≤ R.locals → cells + (w'.1 - w.1) ≤ R.cells → slots + (w'.2.1 - w.2.1) ≤ R.slots →
    (∀ (pc' : Nat) (ls' : Array Slot) (H' : Heap) (locs' : List Loc) (ad' : Nat → Nat) (tc' : Nat → ClassId) (ins : Instr) (len : Nat) (st' : List Value), decode y.2.1 pc' = .ok (ins, len) → ai_R y.2.2.2 ins len st' = some r → (∀ i, i < w.1 → ad' i = ad i) → ai_I sz oL ox ob D ad' tc' w' s H' → va_S (fun q => sz ≤ q) s.heap H' locs' → W p l e R s m args below meth c H' locs' (cells + (w'.1 - w.1)) (slots + (w'.2.1 - w.2.1)) Q (F0 m pc' ls' (st'.map (ai_cv ad')))) →
    W p l e R s m args below meth c H locs cells slots Q (F0 m pc ls (st.map (ai_cv ad))) := by
  intro n
  induction n with
  | zero => intro d y pc L st w w' r h; rw [ai_run] at h; cases h
  | succ n ih =>
    intro d y pc L st w w' r h p e R s m args below meth c H locs cells slots Q ad tc ls hx hb hml hown hnm hts hI hS hl hoL hos hd hdl hc1 hc2 kr
    have hml' : c.maxLocals = ls.size := hml.trans hl.2.1.symm
    obtain ⟨ins, len, hdg, h | h | h | h | h | h⟩ := ai_run_cases h
    · obtain ⟨st', hA, h⟩ := h
      exact ai_A_W hx hb hown hts hdg hA hl (ih _ _ _ _ _ _ _ _ h hx hb hml hown hnm hts hI hS hl hoL (ai_A_ok hA hoL hos) hd hdl hc1 hc2 kr)
    · obtain ⟨L', st', hB, h⟩ := h
      obtain ⟨o1, o2⟩ := ai_B_ok hB hoL hos
      exact ai_B_W hx hb hdg hB hl (fun ls' hl' => ih _ _ _ _ _ _ _ _ h hx hb hml hown hnm hts hI hS hl' o1 o2 hd hdl hc1 hc2 kr)
    · obtain ⟨pc', st', hJ, h⟩ := h
      exact ai_J_W hx hb hdg hJ (ih _ _ _ _ _ _ _ _ h hx hb hml hown hnm hts hI hS hl hoL (ai_J_ok hJ hos) hd hdl hc1 hc2 kr)
    · obtain ⟨st', w1, hM, h⟩ := h
      obtain ⟨m1, m2, m3⟩ := ai_M_ok hM
      obtain ⟨b1, b2, -⟩ := ai_run_mono _ _ _ _ _ _ _ _ _ h
      refine ai_M_W hx hb hml' hown hnm hts hI hS hos hd hdl hdg hM (by omega) (by omega) (fun H' locs' ad' tc' ha hI' hS' => ?_)
      have ho : ∀ k, k < 2 → ad' (ai_O + k) = ad (ai_O + k) := fun k hk => by rw [hI.2.2.2.2.2.2.2 k hk, hI'.2.2.2.2.2.2.2 k hk]
      refine ih _ _ _ _ _ _ _ _ h hx hb hml hown hnm hts hI' hS' (hl.to hoL ha ho) (hoL.mono m1) (m3 hI.2.2.2.2.2.2.1 hos) hd hdl (by omega) (by omega) (fun pc' ls' H2 locs2 ad2 tc2 ins2 len2 st2 d2 r2 ha2 hI2 hS2 => ?_)
      have e1 : cells + (w1.1 - w.1) + (w'.1 - w1.1) = cells + (w'.1 - w.1) := by omega
      have e2 : slots + (w1.2.1 - w.2.1) + (w'.2.1 - w1.2.1) = slots + (w'.2.1 - w.2.1) := by omega
      rw [e1, e2]
      exact kr pc' ls' H2 locs2 ad2 tc2 ins2 len2 st2 d2 r2 (fun i hi => by rw [ha2 i (by omega), ha i hi]) hI2 hS2
    · obtain ⟨hR, rfl⟩ := h
      have := kr pc ls H locs ad tc ins len st hdg hR (fun _ _ => rfl) hI hS
      simp only [Nat.sub_self, Nat.add_zero] at this
      exact this
    · obtain ⟨z, As, rest, d', v, w1, hC, rfl, hv, h⟩ := h
      have hlen := ai_C_len hC
      subst hlen
      obtain ⟨m1, m2, mpl⟩ := ai_run_mono _ _ _ _ _ _ _ _ _ hv
      obtain ⟨b1, b2, -⟩ := ai_run_mono _ _ _ _ _ _ _ _ _ h
      obtain ⟨hor, hrun⟩ := ai_C_run (p := p) (l := l) (e := e) (R := R) (s := s) (m := m) (args := args) (below := below) (meth := meth) (c := c) (H := H) (locs := locs) (cells := cells) (slots := slots) (ls := ls) (w' := w1) (v := v) hx hb hml hl.2.1 hown hts hI hS hd hdl hdg hC (by omega) (by omega) (fun hcode hplain hfit hoA => by
        refine va_MetF (cc := z.2.1) (maxL := z.2.2.1) (ret := z.2.2.2) hplain rfl ?_
        intro p e s m args below meth c s₁ B hml hv0
        obtain ⟨rfl, hI0⟩ := hv0
        have hts := atoms_spec (ws := ai_ws z) B.pre
        have hlocks := B.notSynchronized
        rw [lg_entry_eq]
        refine ih d' z 0 (ai_ent z.2.2.1 As) [] w w1 v hv (cells := 0) (slots := 0) B.exec B.bytes hml (findClass_of_methodNamed B.named) (name_of_methodNamed B.named B.method).1 (fun x hx => hts x (List.mem_cons_of_mem _ hx)) hI0 va_S.rf (ai_ent_L hfit) (ai_ent_oks hoA) ai_oks_n (Nat.le_refl d') (Nat.le_refl _) (by rw [Nat.zero_add]; exact Nat.le_refl _) (by rw [Nat.zero_add]; exact Nat.le_refl _) ?_
        intro pc' ls' H' locs' ad' tc' ins len st' hdg' hR ha hI' hS'
        have hR2 := ai_R_ok hR
        clear hR
        obtain ⟨rfl, hR⟩ := hR2
        rw [Nat.zero_add, Nat.zero_add]
        have hq : ∀ t : State, t.heap = H' → s.WarmedH t.vm → ai_Qc sz oL ox ob D ad w v w1 (As.map (ai_cv ad)).toArray s (.returned v) t := fun t ht hW => ⟨⟨(ad', tc'), rfl, ha, hI'.call hS' ht hW⟩, hS'.F ht⟩
        rcases hR with ⟨x, rfl, rfl, rfl, ty, hty, hnar⟩ | ⟨x, rfl, rfl, rfl, hty⟩ | ⟨rfl, rfl, rfl, hty⟩
        · exact W.zret B.exec B.bytes (B.returns.trans hty) hnar hq hS'.2.2 hdg'
        · exact W.lret B.exec B.bytes (B.returns.trans hty) hq hS'.2.2 hdg'
        · exact W.vret B.exec B.bytes (B.returns.trans hty) hq hS'.2.2 hdg') hos
      refine ai_call hI hrun hS (fun ad' tc' H1 locs1 ha hI' hS' => ?_)
      have ho : ∀ k, k < 2 → ad' (ai_O + k) = ad (ai_O + k) := fun k hk => by rw [hI.2.2.2.2.2.2.2 k hk, hI'.2.2.2.2.2.2.2 k hk]
      have est : v.toList ++ rest.map (ai_cv ad) = (v.toList ++ rest).map (ai_cv ad') := by
        rw [List.map_append, ai_cvm hor ha ho]
        congr 1
        cases v with
        | none => rfl
        | some x =>
          have := mpl x (by simp)
          cases x <;> first | rfl | exact absurd rfl (this _)
      rw [est]
      refine ih _ _ _ _ _ _ _ _ h hx hb hml hown hnm hts hI' hS' (hl.to hoL ha ho) (hoL.mono m1) (fun x hx => ?_) hd hdl (by omega) (by omega) (fun pc' ls' H2 locs2 ad2 tc2 ins2 len2 st2 d2 r2 ha2 hI2 hS2 => ?_)
      · rcases List.mem_append.mp hx with h1 | h1
        · intro i hi
          exact absurd hi (mpl x h1 i)
        · exact (hor.mono m1) x h1
      · have e1 : cells + (w1.1 - w.1) + (w'.1 - w1.1) = cells + (w'.1 - w.1) := by omega
        have e2 : slots + (w1.2.1 - w.2.1) + (w'.2.1 - w1.2.1) = slots + (w'.2.1 - w.2.1) := by omega
        rw [e1, e2]
        exact kr pc' ls' H2 locs2 ad2 tc2 ins2 len2 st2 d2 r2 (fun i hi => by rw [ha2 i (by omega), ha i hi]) hI2 hS2
