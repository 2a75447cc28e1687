/-! PLAN: all ways, one by one; the search that leaves some out finds the same -/
theorem cn_mono {f g : Nat → Bool} : ∀ {n}, (∀ i, i < n → f i = true → g i = true) → cn f n ≤ cn g n := by
  intro n
  induction n with
  | zero => intro _; exact Nat.le_refl 0
  | succ n ih =>
    intro h
    have h1 := ih (fun i hi => h i (by omega))
    have h2 := h n (by omega)
    unfold cn
    cases hf : f n
    · cases g n <;> simp <;> omega
    · rw [h2 hf]; simp; omega
theorem cn_one {f g : Nat → Bool} {dd : Nat} (hf : f dd = true) (hg : g dd = false) (ho : ∀ i, i ≠ dd → f i = g i) : ∀ n, dd < n → cn f n = cn g n + 1 := by
  intro n
  induction n with
  | zero => intro h; omega
  | succ n ih =>
    intro h
    unfold cn
    by_cases hn : n = dd
    · subst hn
      rw [hf, hg, cn_congr (f := f) (g := g) (fun i hi => ho i (by omega))]
      simp
    · rw [ih (by omega), ho n hn]
      omega
theorem cn_not (f : Nat → Bool) : ∀ n, cn f n + cn (fun i => !f i) n = n := by
  intro n
  induction n with
  | zero => rfl
  | succ n ih =>
    unfold cn
    cases f n <;> simp <;> omega
theorem sumN_mono {f g : Nat → Nat} : ∀ {n}, (∀ i, i < n → f i ≤ g i) → sumN f n ≤ sumN g n := by
  intro n
  induction n with
  | zero => intro _; exact Nat.le_refl 0
  | succ n ih =>
    intro h
    have h1 := ih (fun i hi => h i (by omega))
    have h2 := h n (by omega)
    rw [sumN, sumN]
    omega
/-- how many are dreamt -/
def plV (p : PT) (C : Nat) (z : HS) : Int := (sumN (plC p C z) p.2.2.1 : Int)
theorem plV_cn (p : PT) (C : Nat) (z : HS) : plV p C z = (cn (gsD p z C 0) p.2.2.2.2.1 : Int) := by
  unfold plV
  rw [gs_cn]
  congr 1
  refine sumN_congr (fun c hc => ?_)
  unfold plC
  rw [tE_0]
theorem pWeigh_eq (p : PT) (C : Nat) (x : HS) (bg : Nat) (s : Int × Nat) : pWeigh p C x bg s = if s.1 < plV p C x then (plV p C x, bg) else s := rfl
def fuLoop (p : PT) (C : Nat) (x : HS) (dd : Nat) (f : Nat → (Int × Nat) → (Int × Nat)) : Nat → Nat → (Int × Nat) → (Int × Nat)
  | _, 0, s => s
  | c, k + 1, s => fuLoop p C x dd f (c + 1) k (if mCan p x C dd c = true then f c s else s)
/-- all ways that begin so -/
def fullS (p : PT) (C : Nat) : Nat → Nat → Nat → HS → (Int × Nat) → (Int × Nat)
  | 0, _, bg, y, s => pWeigh p C y bg s
  | k + 1, dd, bg, y, s => if y.1 dd = 8 then
      fuLoop p C y dd (fun c s => fullS p C k (dd + 1) (10 * bg + c + 1) (va_up y.1 dd c, y.2) s) 0 p.2.2.1 (fullS p C k (dd + 1) (10 * bg) y s)
      else fullS p C k (dd + 1) bg y s
/-- z is one of the ways that begin so -/
def Comp (p : PT) (C : Nat) : Nat → Nat → HS → HS → Prop
  | 0, _, y, z => z = y
  | k + 1, dd, y, z => if y.1 dd = 8 then (Comp p C k (dd + 1) y z ∨ ∃ c, c < p.2.2.1 ∧ mCan p y C dd c = true ∧ Comp p C k (dd + 1) (va_up y.1 dd c, y.2) z)
      else Comp p C k (dd + 1) y z
section P61
variable {p : PT} {C : Nat}
theorem Comp_2 : ∀ {k dd : Nat} {y z : HS}, Comp p C k dd y z → z.2 = y.2 := by
  intro k
  induction k with
  | zero => intro dd y z h; rw [Comp] at h; rw [h]
  | succ k ih =>
    intro dd y z h
    rw [Comp] at h
    by_cases h8 : y.1 dd = 8
    · rw [if_pos h8] at h
      rcases h with h | ⟨c, _, _, h⟩
      · exact ih h
      · have := ih h
        exact this
    · rw [if_neg h8] at h
      exact ih h
theorem Comp_1 : ∀ {k dd : Nat} {y z : HS}, Comp p C k dd y z → ∀ d, z.1 d = y.1 d ∨ (dd ≤ d ∧ y.1 d = 8) := by
  intro k
  induction k with
  | zero => intro dd y z h d; rw [Comp] at h; rw [h]; exact Or.inl rfl
  | succ k ih =>
    intro dd y z h d
    rw [Comp] at h
    by_cases h8 : y.1 dd = 8
    · rw [if_pos h8] at h
      rcases h with h | ⟨c, _, _, h⟩
      · rcases ih h d with q | q
        · exact Or.inl q
        · exact Or.inr ⟨by omega, q.2⟩
      · by_cases hd : d = dd
        · subst hd; exact Or.inr ⟨Nat.le_refl _, h8⟩
        · have e : (va_up y.1 dd c, y.2).1 d = y.1 d := by simp [va_up, hd]
          rcases ih h d with q | q
          · rw [e] at q; exact Or.inl q
          · rw [e] at q; exact Or.inr ⟨by omega, q.2⟩
    · rw [if_neg h8] at h
      rcases ih h d with q | q
      · exact Or.inl q
      · exact Or.inr ⟨by omega, q.2⟩
theorem mCan_iff {x : HS} {dd c : Nat} : mCan p x C dd c = true ↔ C / 2 ^ c % 2 = 1 ∧ pSuit p x dd c = true ∧ cn (atP x c) p.2.2.2.2.1 < pCap p c := by
  unfold mCan pCan
  simp
/-- one of those berthed is left instead -/
theorem Comp_off (hB : p.2.2.1 ≤ 4) {dd : Nat} : ∀ {k e : Nat} {y z : HS}, dd < e → Comp p C k e y z → Comp p C k e (va_up y.1 dd 8, y.2) (va_up z.1 dd 8, z.2) := by
  intro k
  induction k with
  | zero => intro e y z _ h; rw [Comp] at h ⊢; rw [h]
  | succ k ih =>
    intro e y z he h
    have ee : (va_up y.1 dd 8, y.2).1 e = y.1 e := by
      have : ¬ e = dd := by omega
      simp [va_up, this]
    rw [Comp] at h ⊢
    rw [ee]
    by_cases h8 : y.1 e = 8
    · rw [if_pos h8] at h ⊢
      rcases h with h | ⟨c, h1, h2, h3⟩
      · exact Or.inl (ih (by omega) h)
      · refine Or.inr ⟨c, h1, ?_, ?_⟩
        · obtain ⟨q1, q2, q3⟩ := mCan_iff.mp h2
          refine mCan_iff.mpr ⟨q1, q2, Nat.lt_of_le_of_lt (cn_mono (fun i _ hi => ?_)) q3⟩
          have hi2 : (va_up y.1 dd 8, y.2).1 i = c := of_decide_eq_true hi
          simp only [va_up] at hi2
          by_cases hid : i = dd
          · rw [if_pos hid] at hi2
            omega
          · rw [if_neg hid] at hi2
            exact decide_eq_true hi2
        · have := ih (show dd < e + 1 by omega) h3
          have ec : (va_up (va_up y.1 dd 8, y.2).1 e c, (va_up y.1 dd 8, y.2).2) = (va_up (va_up y.1 e c, y.2).1 dd 8, (va_up y.1 e c, y.2).2) := by
            refine Prod.ext ?_ rfl
            funext t
            simp only [va_up]
            by_cases t1 : t = e
            · have : ¬ t = dd := by omega
              rw [if_pos t1, if_neg this, if_pos t1]
            · rw [if_neg t1, if_neg t1]
          rw [ec]
          exact this
    · rw [if_neg h8] at h ⊢
      exact ih (by omega) h
/-- who grounds at once helps nobody -/
theorem deep_off {z : HS} {dd c c' t : Nat} (hc' : c' < 8) : ∀ n, dDeep p z c' t n ≤ dDeep p (va_up z.1 dd 8, z.2) c' t n := by
  intro n
  induction n with
  | zero => exact Nat.le_refl _
  | succ n ih =>
    rw [dDeep, dDeep]
    by_cases hn : n = dd
    · have e : ¬ (va_up z.1 dd 8, z.2).1 n = c' := by simp [va_up, hn]; omega
      have e2 : ¬ ((va_up z.1 dd 8, z.2).1 n = c' ∧ ¬ (va_up z.1 dd 8, z.2).2.2.1 n ≤ dDeep p (va_up z.1 dd 8, z.2) c' t n + t ∧ p.2.2.2.2.2 n = 3) := fun q => e q.1
      rw [if_neg e2]
      split <;> omega
    · have e : (va_up z.1 dd 8, z.2).1 n = z.1 n := by simp [va_up, hn]
      rw [e]
      by_cases q : z.1 n = c' ∧ ¬ (va_up z.1 dd 8, z.2).2.2.1 n ≤ dDeep p (va_up z.1 dd 8, z.2) c' t n + t ∧ p.2.2.2.2.2 n = 3
      · have q' : z.1 n = c' ∧ ¬ z.2.2.1 n ≤ dDeep p z c' t n + t ∧ p.2.2.2.2.2 n = 3 := ⟨q.1, fun w => q.2.1 (Nat.le_trans w (by omega)), q.2.2⟩
        rw [if_pos q, if_pos q']
        omega
      · rw [if_neg q]
        split <;> omega
theorem deep_le {z : HS} {c t : Nat} : ∀ n, dDeep p z c t n ≤ z.2.2.2.1 c := by
  intro n
  induction n with
  | zero => exact Nat.le_refl _
  | succ n ih =>
    rw [dDeep]
    split <;> omega
theorem val_off (hB : p.2.2.1 ≤ 4) {z : HS} {dd c : Nat} (hz : z.1 dd = c) (hw : ¬ z.2.2.1 dd ≤ pWater p z c) : plV p C z ≤ plV p C (va_up z.1 dd 8, z.2) := by
  unfold plV
  have : sumN (plC p C z) p.2.2.1 ≤ sumN (plC p C (va_up z.1 dd 8, z.2)) p.2.2.1 := by
    refine sumN_mono (fun c' hc' => ?_)
    unfold plC
    split
    · refine cn_mono (fun n _ hn => ?_)
      obtain ⟨q1, q2⟩ := (dSl_iff p z c' _ n).mp hn
      have dn := deep_off (p := p) (z := z) (dd := dd) (c := c) (t := pTide p z.2.2.2.2.2) (show c' < 8 by omega) n
      by_cases hnd : n = dd
      · exfalso
        subst hnd
        rw [hz] at q1
        subst q1
        have := deep_le (p := p) (z := z) (c := c) (t := pTide p z.2.2.2.2.2) n
        apply hw
        unfold pWater
        omega
      · refine (dSl_iff p _ c' _ n).mpr ⟨?_, ?_⟩
        · simp only [va_up]
          rw [if_neg hnd]
          exact q1
        · show z.2.2.1 n ≤ dDeep p (va_up z.1 dd 8, z.2) c' (pTide p z.2.2.2.2.2) n + pTide p z.2.2.2.2.2
          omega
    · exact Nat.le_refl 0
  omega
-- loops
theorem fu_mono {x : HS} {dd : Nat} {f : Nat → (Int × Nat) → (Int × Nat)} (hf : ∀ c s, s.1 ≤ (f c s).1) : ∀ j c s, s.1 ≤ (fuLoop p C x dd f c j s).1 := by
  intro j
  induction j with
  | zero => intro c s; exact Int.le_refl _
  | succ j ih =>
    intro c s
    rw [fuLoop]
    refine Int.le_trans ?_ (ih _ _)
    split
    · exact hf c s
    · exact Int.le_refl _
theorem fu_has {x : HS} {dd c' : Nat} {v : Int} {f : Nat → (Int × Nat) → (Int × Nat)} (hf : ∀ c s, s.1 ≤ (f c s).1) (hm : mCan p x C dd c' = true) (hv : ∀ s, v ≤ (f c' s).1) : ∀ j c s, c ≤ c' → c' < c + j → v ≤ (fuLoop p C x dd f c j s).1 := by
  intro j
  induction j with
  | zero => intro c s h1 h2; omega
  | succ j ih =>
    intro c s h1 h2
    rw [fuLoop]
    by_cases hc : c = c'
    · subst hc
      rw [if_pos hm]
      exact Int.le_trans (hv s) (fu_mono hf _ _ _)
    · exact ih _ _ (by omega) (by omega)
theorem fu_id {x : HS} {dd : Nat} {s : Int × Nat} {f : Nat → (Int × Nat) → (Int × Nat)} : ∀ j c, (∀ c', c ≤ c' → c' < c + j → mCan p x C dd c' = true → f c' s = s) → fuLoop p C x dd f c j s = s := by
  intro j
  induction j with
  | zero => intro c _; rfl
  | succ j ih =>
    intro c h
    rw [fuLoop]
    have : (if mCan p x C dd c = true then f c s else s) = s := by
      split
      · exact h c (Nat.le_refl _) (by omega) (by assumption)
      · rfl
    rw [this]
    exact ih (c + 1) (fun c' h1 h2 => h c' (by omega) (by omega))
theorem full_mono : ∀ k dd bg (y : HS) s, s.1 ≤ (fullS p C k dd bg y s).1 := by
  intro k
  induction k with
  | zero =>
    intro dd bg y s
    rw [fullS, pWeigh_eq]
    split
    · simp only; omega
    · exact Int.le_refl _
  | succ k ih =>
    intro dd bg y s
    rw [fullS]
    split
    · exact Int.le_trans (ih _ _ _ _) (fu_mono (fun c s => ih _ _ _ _) _ _ _)
    · exact ih _ _ _ _
theorem full_has : ∀ k dd bg (y z : HS) s, Comp p C k dd y z → plV p C z ≤ (fullS p C k dd bg y s).1 := by
  intro k
  induction k with
  | zero =>
    intro dd bg y z s h
    rw [Comp] at h
    subst h
    rw [fullS, pWeigh_eq]
    split
    · exact Int.le_refl _
    · omega
  | succ k ih =>
    intro dd bg y z s h
    rw [Comp] at h
    rw [fullS]
    by_cases h8 : y.1 dd = 8
    · rw [if_pos h8] at h ⊢
      rcases h with h | ⟨c, h1, h2, h3⟩
      · exact Int.le_trans (ih _ _ _ _ _ h) (fu_mono (fun c s => full_mono _ _ _ _ _) _ _ _)
      · exact fu_has (f := fun c s => fullS p C k (dd + 1) (10 * bg + c + 1) (va_up y.1 dd c, y.2) s) (fun c s => full_mono _ _ _ _ _) h2 (fun s => ih _ _ _ _ _ h3) p.2.2.1 0 _ (Nat.zero_le _) (by omega)
    · rw [if_neg h8] at h ⊢
      exact ih _ _ _ _ _ h
theorem full_id : ∀ k dd bg (y : HS) s, (∀ z, Comp p C k dd y z → plV p C z ≤ s.1) → fullS p C k dd bg y s = s := by
  intro k
  induction k with
  | zero =>
    intro dd bg y s h
    have := h y rfl
    rw [fullS, pWeigh_eq, if_neg (by omega)]
  | succ k ih =>
    intro dd bg y s h
    rw [fullS]
    by_cases h8 : y.1 dd = 8
    · rw [if_pos h8, ih _ _ _ _ (fun z hz => h z (by rw [Comp, if_pos h8]; exact Or.inl hz))]
      exact fu_id _ _ (fun c _ hc hm => ih _ _ _ _ (fun z hz => h z (by rw [Comp, if_pos h8]; exact Or.inr ⟨c, by omega, hm, hz⟩)))
    · rw [if_neg h8]
      exact ih _ _ _ _ (fun z hz => h z (by rw [Comp, if_neg h8]; exact hz))
/-- who may still be dreamt -/
def upB (p : PT) (dd : Nat) (y : HS) : Nat := cn (fun d => decide (y.1 d ≠ 9 ∧ ¬ (d < dd ∧ y.1 d = 8))) p.2.2.2.2.1
theorem val_up (hB : p.2.2.1 ≤ 4) {k dd : Nat} {y z : HS} (h : Comp p C k dd y z) : plV p C z ≤ (upB p dd y : Int) := by
  rw [plV_cn]
  have : cn (gsD p z C 0) p.2.2.2.2.1 ≤ upB p dd y := by
    unfold upB
    refine cn_mono (fun d _ hd => ?_)
    have hz := ((gsD_iff p z C 0 d).mp hd).1.1
    refine decide_eq_true ?_
    rcases Comp_1 h d with q | q
    · rw [← q]; omega
    · rw [q.2]; omega
  omega
theorem up_left {dd : Nat} {y : HS} (hd : dd < p.2.2.2.2.1) (h8 : y.1 dd = 8) : upB p dd y = upB p (dd + 1) y + 1 := by
  unfold upB
  refine cn_one (dd := dd) ?_ ?_ (fun i hi => ?_) _ hd
  · exact decide_eq_true (by rw [h8]; omega)
  · exact decide_eq_false (by rw [h8]; omega)
  · refine decide_eq_decide.mpr ?_
    constructor
    · rintro ⟨a, b⟩; exact ⟨a, by omega⟩
    · rintro ⟨a, b⟩; exact ⟨a, by omega⟩
theorem up_in {dd c : Nat} {y : HS} (h8 : y.1 dd = 8) (hc : c < 8) : upB p (dd + 1) (va_up y.1 dd c, y.2) = upB p dd y := by
  unfold upB
  refine cn_congr (fun i _ => decide_eq_decide.mpr ?_)
  simp only [va_up]
  by_cases hi : i = dd
  · rw [if_pos hi, hi, h8]; omega
  · rw [if_neg hi]; omega
theorem up_other {dd : Nat} {y : HS} (h8 : ¬ y.1 dd = 8) : upB p (dd + 1) y = upB p dd y := by
  unfold upB
  refine cn_congr (fun i _ => decide_eq_decide.mpr ?_)
  by_cases hi : i = dd
  · rw [hi]; omega
  · omega
theorem worth_can {x : HS} {dd c : Nat} (h : pWorth p C x dd c = true) : mCan p x C dd c = true := by
  unfold pWorth at h
  unfold mCan
  simp at h
  simp [h]
theorem worth_not {x : HS} {dd c : Nat} (h : pWorth p C x dd c = false) (hm : mCan p x C dd c = true) : ¬ x.2.2.1 dd ≤ pWater p x c := by
  unfold pWorth at h
  unfold mCan at hm
  intro z
  simp at hm
  simp [hm, z] at h
theorem loop_eq {x : HS} {dd : Nat} {f g : Nat → (Int × Nat) → (Int × Nat)} (Q : (Int × Nat) → Prop) (hQ : ∀ c s, Q s → Q (g c s)) (h1 : ∀ c s, c < p.2.2.1 → f c s = g c s) (h2 : ∀ c s, c < p.2.2.1 → mCan p x C dd c = true → pWorth p C x dd c = false → Q s → g c s = s) : ∀ j c s, c + j = p.2.2.1 → Q s → plLoop p C x dd f c j s = fuLoop p C x dd g c j s := by
  intro j
  induction j with
  | zero => intro c s _ _; rfl
  | succ j ih =>
    intro c s hj hs
    rw [plLoop, fuLoop]
    cases hw : pWorth p C x dd c
    · rw [if_neg (by decide)]
      by_cases hm : mCan p x C dd c = true
      · rw [if_pos hm, h2 c s (by omega) hm hw hs]
        exact ih _ _ (by omega) hs
      · rw [if_neg hm]
        exact ih _ _ (by omega) hs
    · rw [if_pos rfl, if_pos (worth_can hw), h1 c s (by omega)]
      exact ih _ _ (by omega) (hQ c s hs)
theorem cho_full (hB : p.2.2.1 ≤ 4) : ∀ k dd bg (y : HS) s (h : Int), dd + k = p.2.2.2.2.1 → h = (upB p dd y : Int) → pCho p C k dd bg h y s = fullS p C k dd bg y s := by
  intro k
  induction k with
  | zero =>
    intro dd bg y s h hk hh
    rw [pCho, fullS]
    split
    · have := val_up (C := C) hB (k := 0) (dd := dd) (y := y) (z := y) rfl
      rw [pWeigh_eq, if_neg (by omega)]
    · rfl
  | succ k ih =>
    intro dd bg y s h hk hh
    rw [pCho]
    by_cases hs : h ≤ s.1
    · rw [if_pos hs]
      exact (full_id _ _ _ _ _ (fun z hz => by have := val_up hB hz; omega)).symm
    · rw [if_neg hs, fullS]
      by_cases h8 : y.1 dd = 8
      · rw [if_pos h8, if_pos h8, ih (dd + 1) (10 * bg) y s (h - 1) (by omega) (by have := up_left (p := p) (show dd < p.2.2.2.2.1 by omega) h8; omega)]
        refine loop_eq (fun s => ∀ z, Comp p C k (dd + 1) y z → plV p C z ≤ s.1) ?_ ?_ ?_ _ _ _ (by omega) ?_
        · intro c s hQ z hz
          exact Int.le_trans (hQ z hz) (full_mono _ _ _ _ _)
        · intro c s hc
          exact ih _ _ _ _ _ (by omega) (by rw [up_in h8 (by omega)]; exact hh)
        · intro c s hc hm hw hQ
          refine full_id _ _ _ _ _ (fun z hz => ?_)
          have z2 := Comp_2 hz
          have z1 : z.1 dd = c := by
            rcases Comp_1 hz dd with q | q
            · rw [q]; simp [va_up]
            · omega
          have cz := Comp_off hB (show dd < dd + 1 by omega) hz
          have ey : (va_up (va_up y.1 dd c, y.2).1 dd 8, (va_up y.1 dd c, y.2).2) = y := by
            refine Prod.ext ?_ rfl
            funext t
            simp only [va_up]
            by_cases ht : t = dd
            · rw [if_pos ht, ht, h8]
            · rw [if_neg ht, if_neg ht]
          rw [ey] at cz
          have hw' := worth_not hw hm
          have wz : ¬ z.2.2.1 dd ≤ pWater p z c := by
            unfold pWater at hw' ⊢
            rw [z2]
            exact hw'
          exact Int.le_trans (val_off hB z1 wz) (hQ _ cz)
        · intro z hz
          exact full_has _ _ _ _ _ _ hz
      · rw [if_neg h8, if_neg h8]
        exact ih _ _ _ _ _ (by omega) (by rw [up_other h8]; exact hh)
theorem plan_full (hB : p.2.2.1 ≤ 4) (x : HS) : pPlan p C x = fullS p C p.2.2.2.2.1 0 0 x (-9, 0) := by
  unfold pPlan
  refine cho_full hB _ _ _ _ _ _ (by omega) ?_
  have := cn_not (atP x 9) p.2.2.2.2.1
  have e : upB p 0 x = cn (fun i => !atP x 9 i) p.2.2.2.2.1 := by
    unfold upB
    refine cn_congr (fun i _ => ?_)
    unfold atP
    by_cases h : x.1 i = 9
    · simp [h]
    · simp [h]
  rw [e]
  omega
end P61
