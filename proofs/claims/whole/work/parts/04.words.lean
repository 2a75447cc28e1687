theorem ai_tb_ok : ∀ w ∈ ai_tb, w ∈ lw_tbl ∧ goodWord w = true := fun w h => List.mem_filter.mp h
theorem ai_tb_in {ws : List Cond} {big : List Cond} (hs : ∀ w ∈ ws, w ∈ ai_tb) (hb : ∀ w ∈ ai_tb, w ∈ big) : GoodIn big ws := fun w h => ⟨hb w (hs w h), good_of_word (ai_tb_ok w (hs w h)).2⟩
-- what the searches find
theorem ai_fl_mem {own : String} {idx : Nat} {r n d : String} (h : ai_fl own idx = some (r, n, d)) : Cond.fieldLink own idx r n d ∈ ai_tb := by
  obtain ⟨w, hw, h1⟩ := List.exists_of_findSome?_eq_some h
  clear h
  split at h1
  · split at h1
    · rename_i hc
      obtain ⟨rfl, rfl⟩ := hc
      cases h1
      exact hw
    · cases h1
  · cases h1
theorem ai_cst_mem {own : String} {idx : Nat} {v : Int32} (h : ai_cst own idx = some v) : Cond.constant own idx v ∈ ai_tb := by
  obtain ⟨w, hw, h1⟩ := List.exists_of_findSome?_eq_some h
  clear h
  split at h1
  · split at h1
    · rename_i hc
      obtain ⟨rfl, rfl⟩ := hc
      cases h1
      exact hw
    · cases h1
  · cases h1
theorem ai_cstL_mem {own : String} {idx : Nat} {v : Int64} (h : ai_cstL own idx = some v) : Cond.constantLong own idx v ∈ ai_tb := by
  obtain ⟨w, hw, h1⟩ := List.exists_of_findSome?_eq_some h
  clear h
  split at h1
  · split at h1
    · rename_i hc
      obtain ⟨rfl, rfl⟩ := hc
      cases h1
      exact hw
    · cases h1
  · cases h1
theorem ai_clk_mem {own : String} {idx : Nat} {v : String} (h : ai_clk own idx = some v) : Cond.classLink own idx v ∈ ai_tb := by
  obtain ⟨w, hw, h1⟩ := List.exists_of_findSome?_eq_some h
  clear h
  split at h1
  · split at h1
    · rename_i hc
      obtain ⟨rfl, rfl⟩ := hc
      cases h1
      exact hw
    · cases h1
  · cases h1
theorem ai_mlk_mem {own : String} {idx : Nat} {v : MethodName} (h : ai_mlk own idx = some v) : Cond.methodLink own idx v ∈ ai_tb := by
  obtain ⟨w, hw, h1⟩ := List.exists_of_findSome?_eq_some h
  clear h
  split at h1
  · split at h1
    · rename_i hc
      obtain ⟨rfl, rfl⟩ := hc
      cases h1
      exact hw
    · cases h1
  · cases h1
theorem ai_nlk_mem {own : String} {idx : Nat} {v : MethodName × String} (h : ai_nlk own idx = some v) : Cond.methodLinkNest own idx v.1 v.2 ∈ lw_tbl := by
  obtain ⟨w, hw, h1⟩ := List.exists_of_findSome?_eq_some h
  clear h
  split at h1
  · split at h1
    · rename_i hc
      obtain ⟨rfl, rfl⟩ := hc
      cases h1
      exact hw
    · cases h1
  · cases h1
theorem ai_code_mem {y : MethodName} {mi : ByteArray × Nat × Option FieldType} (h : ai_code y = some mi) : Cond.code y mi.1 mi.2.1 mi.2.2 ∈ ai_tb := by
  obtain ⟨w, hw, h1⟩ := List.exists_of_findSome?_eq_some h
  clear h
  split at h1
  · split at h1
    · rename_i hc
      subst hc
      cases h1
      exact hw
    · cases h1
  · cases h1
theorem ai_slot_ok {r n d : String} {q : Nat × Nat} (h : ai_slot r n d = some q) : ∃ c : vw_C, ai_cl[q.1]? = some c ∧ q.2 < c.2.2 ∧ c.1 = r ∧ (c.2.1 q.2).1 = r ∧ (c.2.1 q.2).2.1 = n ∧ (c.2.1 q.2).2.2.1 = d := by
  obtain ⟨ci, -, h⟩ := List.exists_of_findSome?_eq_some h
  split at h
  · rename_i c hc
    split at h
    · rename_i hr
      obtain ⟨k, hk, h⟩ := List.exists_of_findSome?_eq_some h
      split at h
      · rename_i he
        cases h
        exact ⟨c, hc, List.mem_range.mp hk, hr, he.2.2, he.1, he.2.1⟩
      · cases h
    · cases h
  · cases h
theorem ai_fld_ok {own : String} {idx : Nat} {q : Nat × Nat} (h : ai_fld own idx = some q) : ∃ c : vw_C, ai_cl[q.1]? = some c ∧ q.2 < c.2.2 ∧ c.1 = (c.2.1 q.2).1 ∧ Cond.fieldLink own idx (c.2.1 q.2).1 (c.2.1 q.2).2.1 (c.2.1 q.2).2.2.1 ∈ ai_tb := by
  unfold ai_fld at h
  split at h
  · rename_i q0 hq
    obtain ⟨r, n, d⟩ := q0
    obtain ⟨c, h1, h2, h3, h4, h5, h6⟩ := ai_slot_ok h
    refine ⟨c, h1, h2, by rw [h3, h4], ?_⟩
    rw [h4, h5, h6]
    exact ai_fl_mem hq
  · cases h
theorem ai_cls_ok {own : String} {idx ci : Nat} (h : ai_cls own idx = some ci) : ∃ c : vw_C, ai_cl[ci]? = some c ∧ Cond.classLink own idx c.1 ∈ ai_tb ∧ Cond.instantiable c.1 c.2.2 ∈ ai_tb ∧ Cond.initialized c.1 ∈ ai_tb := by
  unfold ai_cls at h
  split at h
  · rename_i C hC
    obtain ⟨ci', -, h⟩ := List.exists_of_findSome?_eq_some h
    split at h
    · rename_i c hc
      split at h
      · rename_i he
        cases h
        obtain ⟨e, h2, h3⟩ := he
        subst e
        exact ⟨c, hc, ai_clk_mem hC, h2, h3⟩
      · cases h
    · cases h
  · cases h
-- what holds of every class of the table: its words, its types, its names
def ai_Cl (q : vw_C) (c : Nat) : Prop := (∀ w ∈ u_ws q.1 q.2.1 q.2.2, w ∈ ai_tb) ∧ (∀ k, k < q.2.2 → parseFieldDescriptor (q.2.1 k).2.2.1 = some (ai_ty c k)) ∧ (∀ a, a < q.2.2 → ∀ b, b < q.2.2 → a ≠ b → (q.2.1 a).2.1 ≠ (q.2.1 b).2.1) ∧ ∀ k, k < q.2.2 → (ai_ty c k = .int ∨ ai_ty c k = .long ∨ ai_isRef (ai_ty c k) = true)
theorem ai_Cl0 : ai_Cl (RX0, TX0, 3) 0 := ⟨by decide +kernel, tyX0_ok, nmX0, by decide +kernel⟩
theorem ai_Cl1 : ai_Cl (RX1, TX1, 2) 1 := ⟨by decide +kernel, tyX1_ok, nmX1, by decide +kernel⟩
theorem ai_Cl2 : ai_Cl (RX2, TX2, 7) 2 := ⟨by decide +kernel, tyX2_ok, nmX2, by decide +kernel⟩
theorem ai_Cl3 : ai_Cl (RX3, TX3, 5) 3 := ⟨by decide +kernel, tyX3_ok, nmX3, by decide +kernel⟩
theorem ai_Cl4 : ai_Cl (RX4, TX4, 4) 4 := ⟨by decide +kernel, tyX4_ok, nmX4, by decide +kernel⟩
theorem ai_Cl5 : ai_Cl (RX5, TX5, 2) 5 := ⟨by decide +kernel, tyX5_ok, nmX5, by decide +kernel⟩
theorem ai_Cl6 : ai_Cl (RX6, TX6, 10) 6 := ⟨by decide +kernel, tyX6_ok, nmX6, by decide +kernel⟩
theorem ai_Cl7 : ai_Cl (RX7, TX7, 12) 7 := ⟨by decide +kernel, tyX7_ok, nmX7, by decide +kernel⟩
theorem ai_Cl8 : ai_Cl (RX8, TX8, 37) 8 := ⟨by decide +kernel, tyX8_ok, nmX8, by decide +kernel⟩
theorem ai_ClA {c : Nat} {q : vw_C} (h : ai_cl[c]? = some q) : ai_Cl q c := by
  match c, h with
  | 0, h => cases h; exact ai_Cl0
  | 1, h => cases h; exact ai_Cl1
  | 2, h => cases h; exact ai_Cl2
  | 3, h => cases h; exact ai_Cl3
  | 4, h => cases h; exact ai_Cl4
  | 5, h => cases h; exact ai_Cl5
  | 6, h => cases h; exact ai_Cl6
  | 7, h => cases h; exact ai_Cl7
  | 8, h => cases h; exact ai_Cl8
  | c + 9, h => simp [ai_cl] at h
theorem ai_t1 : ai_fld RX2 31 = some (2, 0) := by decide +kernel
theorem ai_t2 : ai_code yX2_dreamsAt = some (cX2_dreamsAt, 4, some .int) := by decide +kernel
theorem ai_t3 : ai_cV RX2 56 = some (yX2_dreamsAt, 1, cX2_dreamsAt, 4, some .int) := by decide +kernel
