/-! PLAN: ways by numbers -/
def fpR (f : Nat → (Int × Nat) → (Int × Nat)) : Nat → Nat → (Int × Nat) → (Int × Nat)
  | _, 0, s => s
  | a, n + 1, s => fpR f (a + 1) n (f a s)
theorem fpR_add (f : Nat → (Int × Nat) → (Int × Nat)) : ∀ n m a s, fpR f a (n + m) s = fpR f (a + n) m (fpR f a n s) := by
  intro n
  induction n with
  | zero => intro m a s; rw [Nat.zero_add]; rfl
  | succ n ih =>
    intro m a s
    rw [show n + 1 + m = (n + m) + 1 by omega, fpR, fpR, ih, show a + 1 + n = a + (n + 1) by omega]
theorem fpR_congr {f g : Nat → (Int × Nat) → (Int × Nat)} : ∀ n a s, (∀ N, a ≤ N → N < a + n → ∀ s, f N s = g N s) → fpR f a n s = fpR g a n s := by
  intro n
  induction n with
  | zero => intro a s _; rfl
  | succ n ih =>
    intro a s h
    rw [fpR, fpR, h a (by omega) (by omega), ih (a + 1) _ (fun N h1 h2 => h N (by omega) (by omega))]
theorem fpR_id : ∀ n a s, fpR (fun _ s => s) a n s = s := by
  intro n
  induction n with
  | zero => intro a s; rfl
  | succ n ih => intro a s; rw [fpR]; exact ih _ _
/-- the way of a number: how many dreams to go, which is next, how many lie off still, the way so far, the trial -/
def bbW (p : PT) (C N : Nat) : Nat → Nat → Nat → Nat → HS → Option (Nat × HS)
  | 0, _, _, way, y => some (way, y)
  | k + 1, dd, l, way, y => if y.1 dd = 8 then
      (if N / 5 ^ (l - 1) % 5 = 0 then bbW p C N k (dd + 1) (l - 1) (10 * way) y
       else if N / 5 ^ (l - 1) % 5 - 1 < p.2.2.1 ∧ mCan p y C dd (N / 5 ^ (l - 1) % 5 - 1) = true then bbW p C N k (dd + 1) (l - 1) (10 * way + N / 5 ^ (l - 1) % 5) (va_up y.1 dd (N / 5 ^ (l - 1) % 5 - 1), y.2)
       else none)
      else bbW p C N k (dd + 1) l way y
def bbS (p : PT) (C : Nat) (o : Option (Nat × HS)) (s : Int × Nat) : Int × Nat := match o with
  | some (w, z) => pWeigh p C z w s
  | none => s
/-- how many lie off from dd on -/
def offs (y : HS) : Nat → Nat → Nat
  | 0, _ => 0
  | k + 1, dd => (if y.1 dd = 8 then 1 else 0) + offs y k (dd + 1)
theorem offs_congr {y z : HS} : ∀ k dd, (∀ d, dd ≤ d → y.1 d = z.1 d) → offs y k dd = offs z k dd := by
  intro k
  induction k with
  | zero => intro dd _; rfl
  | succ k ih =>
    intro dd h
    rw [offs, offs, h dd (Nat.le_refl _), ih (dd + 1) (fun d hd => h d (by omega))]
theorem offs_le (y : HS) : ∀ k dd, offs y k dd ≤ k := by
  intro k
  induction k with
  | zero => intro dd; exact Nat.le_refl 0
  | succ k ih =>
    intro dd
    have := ih (dd + 1)
    rw [offs]
    split <;> omega
theorem offs_cn (x : HS) : ∀ k dd, cn (atP x 8) (dd + k) = cn (atP x 8) dd + offs x k dd := by
  intro k
  induction k with
  | zero => intro dd; rfl
  | succ k ih =>
    intro dd
    rw [show dd + (k + 1) = (dd + 1) + k by omega, ih (dd + 1), offs, cn]
    have : (if atP x 8 dd = true then 1 else 0) = (if x.1 dd = 8 then 1 else 0) := by
      unfold atP
      by_cases h : x.1 dd = 8
      · simp [h]
      · simp [h]
    rw [this]
    omega
theorem dig5 {a N g P : Nat} (hP : 0 < P) (ha : a % (P * 5) = 0) (hg : g < 5) (h1 : a + g * P ≤ N) (h2 : N < a + g * P + P) : N / P % 5 = g := by
  obtain ⟨M, hM⟩ : ∃ M, a = P * 5 * M := ⟨a / (P * 5), by have := Nat.div_add_mod a (P * 5); omega⟩
  have : N / P = 5 * M + g := by
    refine Nat.div_eq_of_lt_le ?_ ?_
    · have : (5 * M + g) * P = P * 5 * M + g * P := by rw [Nat.add_mul, Nat.mul_comm (5 * M) P, Nat.mul_assoc]
      omega
    · have : (5 * M + g + 1) * P = P * 5 * M + g * P + P := by rw [Nat.add_mul, Nat.add_mul, Nat.mul_comm (5 * M) P, Nat.mul_assoc, Nat.one_mul]
      omega
  rw [this]
  omega
theorem mod5 {a g P : Nat} (ha : a % (P * 5) = 0) : (a + g * P) % P = 0 := by
  rw [Nat.add_mul_mod_self_right]
  obtain ⟨M, hM⟩ : ∃ M, a = P * 5 * M := ⟨a / (P * 5), by have := Nat.div_add_mod a (P * 5); omega⟩
  rw [hM, Nat.mul_assoc, Nat.mul_mod_right]
theorem fu_4 {p : PT} {C : Nat} {x : HS} {dd : Nat} (f : Nat → (Int × Nat) → (Int × Nat)) (hB : p.2.2.1 ≤ 4) (s : Int × Nat) (T : Nat → (Int × Nat) → (Int × Nat)) (hT : ∀ c s, T c s = if c < p.2.2.1 ∧ mCan p x C dd c = true then f c s else s) : fuLoop p C x dd f 0 p.2.2.1 s = T 3 (T 2 (T 1 (T 0 s))) := by
  have hin : ∀ c, c < p.2.2.1 → ∀ s, T c s = if mCan p x C dd c = true then f c s else s := by
    intro c hc s
    rw [hT]
    by_cases hm : mCan p x C dd c = true
    · rw [if_pos ⟨hc, hm⟩, if_pos hm]
    · rw [if_neg (fun z => hm z.2), if_neg hm]
  have hout : ∀ c, ¬ c < p.2.2.1 → ∀ s, T c s = s := fun c hc s => by rw [hT, if_neg (fun z => hc z.1)]
  generalize hb : p.2.2.1 = B at *
  rcases (show B = 0 ∨ B = 1 ∨ B = 2 ∨ B = 3 ∨ B = 4 by omega) with rfl | rfl | rfl | rfl | rfl
  · rw [hout 3 (by decide), hout 2 (by decide), hout 1 (by decide), hout 0 (by decide)]; rfl
  · rw [hout 3 (by decide), hout 2 (by decide), hout 1 (by decide), hin 0 (by decide)]; rfl
  · rw [hout 3 (by decide), hout 2 (by decide), hin 1 (by decide), hin 0 (by decide)]; rfl
  · rw [hout 3 (by decide), hin 2 (by decide), hin 1 (by decide), hin 0 (by decide)]; rfl
  · rw [hin 3 (by decide), hin 2 (by decide), hin 1 (by decide), hin 0 (by decide)]; rfl
theorem fold_full {p : PT} {C : Nat} (hB : p.2.2.1 ≤ 4) : ∀ k dd l way (y : HS) a s, l = offs y k dd → a % 5 ^ l = 0 → fpR (fun N s => bbS p C (bbW p C N k dd l way y) s) a (5 ^ l) s = fullS p C k dd way y s := by
  intro k
  induction k with
  | zero =>
    intro dd l way y a s hl ha
    rw [offs] at hl
    subst hl
    rfl
  | succ k ih =>
    intro dd l way y a s hl ha
    rw [offs] at hl
    rw [fullS]
    by_cases h8 : y.1 dd = 8
    · rw [if_pos h8] at hl ⊢
      obtain ⟨l', rfl⟩ : ∃ l', l = l' + 1 := ⟨offs y k (dd + 1), by omega⟩
      have hl' : l' = offs y k (dd + 1) := by omega
      have hP : 0 < 5 ^ l' := Nat.pow_pos (by decide)
      rw [Nat.pow_succ] at ha
      obtain ⟨P, hPe⟩ : ∃ P, P = 5 ^ l' := ⟨_, rfl⟩
      have seg : ∀ g s, g < 5 → fpR (fun N s => bbS p C (bbW p C N (k + 1) dd (l' + 1) way y) s) (a + g * 5 ^ l') (5 ^ l') s = if g = 0 then fullS p C k (dd + 1) (10 * way) y s else if g - 1 < p.2.2.1 ∧ mCan p y C dd (g - 1) = true then fullS p C k (dd + 1) (10 * way + g) (va_up y.1 dd (g - 1), y.2) s else s := by
        intro g s hg
        have hmod : (a + g * 5 ^ l') % 5 ^ l' = 0 := mod5 ha
        by_cases g0 : g = 0
        · rw [if_pos g0, ← ih (dd + 1) l' (10 * way) y (a + g * 5 ^ l') s hl' hmod]
          refine fpR_congr _ _ _ (fun N h1 h2 s => ?_)
          have dg := dig5 hP ha hg h1 h2
          rw [bbW, if_pos h8, Nat.add_sub_cancel, dg, if_pos g0]
        · rw [if_neg g0]
          by_cases hc : g - 1 < p.2.2.1 ∧ mCan p y C dd (g - 1) = true
          · rw [if_pos hc, ← ih (dd + 1) l' (10 * way + g) (va_up y.1 dd (g - 1), y.2) (a + g * 5 ^ l') s (by
              rw [hl']
              refine offs_congr _ _ (fun d hd => ?_)
              have : ¬ d = dd := by omega
              simp [va_up, this]) hmod]
            refine fpR_congr _ _ _ (fun N h1 h2 s => ?_)
            have dg := dig5 hP ha hg h1 h2
            rw [bbW, if_pos h8, Nat.add_sub_cancel, dg, if_neg g0, if_pos hc]
          · rw [if_neg hc]
            refine Eq.trans (fpR_congr (g := fun _ s => s) _ _ _ (fun N h1 h2 s => ?_)) (fpR_id (5 ^ l') (a + g * 5 ^ l') s)
            have dg := dig5 hP ha hg h1 h2
            rw [bbW, if_pos h8, Nat.add_sub_cancel, dg, if_neg g0, if_neg hc]
            rfl
      rw [show 5 ^ (l' + 1) = 5 ^ l' + (5 ^ l' + (5 ^ l' + (5 ^ l' + 5 ^ l'))) by rw [Nat.pow_succ]; omega, fpR_add, fpR_add, fpR_add, fpR_add]
      rw [show a + 5 ^ l' + 5 ^ l' + 5 ^ l' + 5 ^ l' = a + 4 * 5 ^ l' by omega, show a + 5 ^ l' + 5 ^ l' + 5 ^ l' = a + 3 * 5 ^ l' by omega, show a + 5 ^ l' + 5 ^ l' = a + 2 * 5 ^ l' by omega]
      have s0 := seg 0 s (by decide)
      rw [if_pos rfl, show a + 0 * 5 ^ l' = a by omega] at s0
      rw [s0]
      have s1 := fun s => seg 1 s (by decide)
      rw [Nat.one_mul] at s1
      rw [s1, seg 2 _ (by decide), seg 3 _ (by decide), seg 4 _ (by decide)]
      exact (fu_4 (fun c s => fullS p C k (dd + 1) (10 * way + c + 1) (va_up y.1 dd c, y.2) s) hB _ (fun c s => if c < p.2.2.1 ∧ mCan p y C dd c = true then fullS p C k (dd + 1) (10 * way + c + 1) (va_up y.1 dd c, y.2) s else s) (fun c s => rfl)).symm
    · rw [if_neg h8, Nat.zero_add] at hl
      rw [if_neg h8, ← ih (dd + 1) l way y a s hl ha]
      refine fpR_congr _ _ _ (fun N h1 h2 s => ?_)
      rw [bbW, if_neg h8]
theorem plan_fold {p : PT} {C : Nat} {x : HS} (hB : p.2.2.1 ≤ 4) : fpR (fun N s => bbS p C (bbW p C N p.2.2.2.2.1 0 (cn (atP x 8) p.2.2.2.2.1) 0 x) s) 0 (5 ^ cn (atP x 8) p.2.2.2.2.1) (-9, 0) = pPlan p C x := by
  rw [plan_full hB]
  refine fold_full hB _ _ _ _ _ _ _ ?_ (Nat.zero_mod _)
  have := offs_cn x p.2.2.2.2.1 0
  rw [Nat.zero_add] at this
  rw [this]
  exact Nat.zero_add _
/-- berths that are not there don't matter -/
theorem plan_C {p : PT} {C C' : Nat} (hC : ∀ c, c < p.2.2.1 → C / 2 ^ c % 2 = C' / 2 ^ c % 2) (x : HS) : pPlan p C x = pPlan p C' x := by
  have hV : ∀ (y : HS) bg s, pWeigh p C y bg s = pWeigh p C' y bg s := by
    intro y bg s
    have : plV p C y = plV p C' y := by
      unfold plV
      congr 1
      refine sumN_congr (fun c hc => ?_)
      unfold plC
      rw [hC c hc]
    rw [pWeigh_eq, pWeigh_eq, this]
  have hL : ∀ (y : HS) dd (f g : Nat → (Int × Nat) → (Int × Nat)), (∀ c s, f c s = g c s) → ∀ j c s, c + j = p.2.2.1 → plLoop p C y dd f c j s = plLoop p C' y dd g c j s := by
    intro y dd f g hfg j
    induction j with
    | zero => intro c s _; rfl
    | succ j ih =>
      intro c s hj
      have : pWorth p C y dd c = pWorth p C' y dd c := by unfold pWorth; rw [hC c (by omega)]
      rw [plLoop, plLoop, this, hfg]
      exact ih _ _ (by omega)
  have key : ∀ k dd bg h (y : HS) s, pCho p C k dd bg h y s = pCho p C' k dd bg h y s := by
    intro k
    induction k with
    | zero => intro dd bg h y s; rw [pCho, pCho, hV]
    | succ k ih =>
      intro dd bg h y s
      rw [pCho, pCho, ih, ih, hL y dd _ _ (fun c s => ih _ _ _ _ _) _ _ _ (by omega)]
  unfold pPlan
  exact key _ _ _ _ _ _
theorem all_C : ∀ B, B ≤ 4 → ∀ c, c < B → 15 / 2 ^ c % 2 = (2 ^ B - 1) / 2 ^ c % 2 := by decide +kernel
