/-! A night by dreams, a night by berths: one closed form -/
theorem va_us {α : Type} (f : Nat → α) (n : Nat) : va_up f n (f n) = f := by
  funext a
  simp only [va_up]
  split
  · rename_i h; rw [h]
  · rfl
theorem itN_of {f : Nat → HS → HS} {S : Nat → HS} {N : Nat} (h : ∀ n, n < N → f n (S n) = S (n + 1)) : ∀ k n, n + k ≤ N → itN f n k (S n) = S (n + k) := by
  intro k
  induction k with
  | zero => intro n _; rfl
  | succ k ih =>
    intro n hn
    rw [itN, h n (by omega), ih (n + 1) (by omega)]
    congr 1
    omega
/-- the tide in a berth, if it fails in some -/
def tE (p : PT) (x : HS) (E c : Nat) : Nat := if E / 2 ^ c % 2 = 1 then 0 else pTide p x.2.2.2.2.2
def gsD (p : PT) (x : HS) (C E : Nat) (d : Nat) : Bool := decide (x.1 d < p.2.2.1 ∧ C / 2 ^ (x.1 d) % 2 = 1) && dSl p x (x.1 d) (tE p x E (x.1 d)) d
def grD (p : PT) (x : HS) (c t : Nat) (d : Nat) : Bool := decide (x.1 d = c) && !dSl p x c t d
/-- behind n dreams -/
def gsC (p : PT) (x : HS) (C E n : Nat) : HS := (fun d => if d < n ∧ gsD p x C E d = true then 9 else x.1 d, x.2.1, x.2.2.1, fun c => if c < p.2.2.1 ∧ C / 2 ^ c % 2 = 1 then dDeep p x c (tE p x E c) n else x.2.2.2.1 c, fun c => if c < p.2.2.1 ∧ C / 2 ^ c % 2 = 1 then x.2.2.2.2.1 c + nI (cn (grD p x c (tE p x E c)) n) else x.2.2.2.2.1 c, x.2.2.2.2.2)
theorem add_nI0 (a : Int32) : a + nI 0 = a := Int32.add_zero a
theorem gsC_0 (p : PT) (x : HS) (C E : Nat) : gsC p x C E 0 = x := by
  unfold gsC
  refine Prod.ext ?_ (Prod.ext rfl (Prod.ext rfl (Prod.ext ?_ (Prod.ext ?_ rfl))))
  · funext d; simp
  · funext c; simp [dDeep]
  · funext c
    simp only [cn, add_nI0, ite_self]
/-- one dream goes to sleep -/
def gsStep (p : PT) (C E n : Nat) (y : HS) : HS := if y.1 n < p.2.2.1 ∧ C / 2 ^ (y.1 n) % 2 = 1 then
    (if y.2.2.1 n ≤ y.2.2.2.1 (y.1 n) + tE p y E (y.1 n) then (va_up y.1 n 9, y.2)
     else (y.1, y.2.1, y.2.2.1, va_up y.2.2.2.1 (y.1 n) (if p.2.2.2.2.2 n = 3 then y.2.2.2.1 (y.1 n) - 1 else y.2.2.2.1 (y.1 n)), va_up y.2.2.2.2.1 (y.1 n) (y.2.2.2.2.1 (y.1 n) + nI 1), y.2.2.2.2.2))
  else y
theorem gsC_at (p : PT) (x : HS) (C E n : Nat) : (gsC p x C E n).1 n = x.1 n := by
  show (if n < n ∧ gsD p x C E n = true then 9 else x.1 n) = x.1 n
  rw [if_neg (fun z => Nat.lt_irrefl n z.1)]
theorem gsC_de (p : PT) (x : HS) (C E n c : Nat) (h : c < p.2.2.1 ∧ C / 2 ^ c % 2 = 1) : (gsC p x C E n).2.2.2.1 c = dDeep p x c (tE p x E c) n := if_pos h
theorem gsC_wo (p : PT) (x : HS) (C E n c : Nat) (h : c < p.2.2.1 ∧ C / 2 ^ c % 2 = 1) : (gsC p x C E n).2.2.2.2.1 c = x.2.2.2.2.1 c + nI (cn (grD p x c (tE p x E c)) n) := if_pos h
theorem gsD_iff (p : PT) (x : HS) (C E n : Nat) : gsD p x C E n = true ↔ (x.1 n < p.2.2.1 ∧ C / 2 ^ (x.1 n) % 2 = 1) ∧ x.2.2.1 n ≤ dDeep p x (x.1 n) (tE p x E (x.1 n)) n + tE p x E (x.1 n) := by
  unfold gsD dSl
  simp
theorem gsC_s (p : PT) (x : HS) (C E n : Nat) : gsStep p C E n (gsC p x C E n) = gsC p x C E (n + 1) := by
  unfold gsStep
  rw [gsC_at]
  have eT : tE p (gsC p x C E n) E (x.1 n) = tE p x E (x.1 n) := rfl
  have eR : (gsC p x C E n).2.2.1 n = x.2.2.1 n := rfl
  rw [eT, eR]
  have keep : ∀ c, c ≠ x.1 n → dDeep p x c (tE p x E c) (n + 1) = dDeep p x c (tE p x E c) n ∧ cn (grD p x c (tE p x E c)) (n + 1) = cn (grD p x c (tE p x E c)) n := by
    intro c hc
    constructor
    · rw [dDeep, if_neg (fun z => hc z.1.symm)]
    · rw [cn, show grD p x c (tE p x E c) n = false by unfold grD; simp [Ne.symm hc]]; rfl
  by_cases h : x.1 n < p.2.2.1 ∧ C / 2 ^ (x.1 n) % 2 = 1
  · rw [if_pos h, gsC_de _ _ _ _ _ _ h, gsC_wo _ _ _ _ _ _ h]
    by_cases h2 : x.2.2.1 n ≤ dDeep p x (x.1 n) (tE p x E (x.1 n)) n + tE p x E (x.1 n)
    · rw [if_pos h2]
      have hD : gsD p x C E n = true := (gsD_iff _ _ _ _ _).mpr ⟨h, h2⟩
      have own : dDeep p x (x.1 n) (tE p x E (x.1 n)) (n + 1) = dDeep p x (x.1 n) (tE p x E (x.1 n)) n ∧ cn (grD p x (x.1 n) (tE p x E (x.1 n))) (n + 1) = cn (grD p x (x.1 n) (tE p x E (x.1 n))) n := by
        constructor
        · rw [dDeep, if_neg (fun z => z.2.1 h2)]
        · rw [cn, show grD p x (x.1 n) (tE p x E (x.1 n)) n = false by unfold grD dSl; simp [h2]]; rfl
      have all : ∀ c, dDeep p x c (tE p x E c) (n + 1) = dDeep p x c (tE p x E c) n ∧ cn (grD p x c (tE p x E c)) (n + 1) = cn (grD p x c (tE p x E c)) n := by
        intro c
        by_cases hc : c = x.1 n
        · subst hc; exact own
        · exact keep c hc
      refine Prod.ext ?_ (Prod.ext rfl (Prod.ext rfl (Prod.ext ?_ (Prod.ext ?_ rfl))))
      · funext d
        show va_up (gsC p x C E n).1 n 9 d = if d < n + 1 ∧ gsD p x C E d = true then 9 else x.1 d
        simp only [va_up]
        by_cases hd : d = n
        · subst hd; rw [if_pos rfl, if_pos ⟨by omega, hD⟩]
        · rw [if_neg hd]
          show (if d < n ∧ gsD p x C E d = true then 9 else x.1 d) = _
          have : d < n + 1 ↔ d < n := by omega
          simp only [this]
      · funext c
        show (if c < p.2.2.1 ∧ C / 2 ^ c % 2 = 1 then dDeep p x c (tE p x E c) n else x.2.2.2.1 c) = if c < p.2.2.1 ∧ C / 2 ^ c % 2 = 1 then dDeep p x c (tE p x E c) (n + 1) else x.2.2.2.1 c
        rw [(all c).1]
      · funext c
        show (if c < p.2.2.1 ∧ C / 2 ^ c % 2 = 1 then x.2.2.2.2.1 c + nI (cn (grD p x c (tE p x E c)) n) else x.2.2.2.2.1 c) = if c < p.2.2.1 ∧ C / 2 ^ c % 2 = 1 then x.2.2.2.2.1 c + nI (cn (grD p x c (tE p x E c)) (n + 1)) else x.2.2.2.2.1 c
        rw [(all c).2]
    · rw [if_neg h2]
      have hD : ¬ gsD p x C E n = true := fun z => h2 ((gsD_iff _ _ _ _ _).mp z).2
      have e1 : dDeep p x (x.1 n) (tE p x E (x.1 n)) (n + 1) = if p.2.2.2.2.2 n = 3 then dDeep p x (x.1 n) (tE p x E (x.1 n)) n - 1 else dDeep p x (x.1 n) (tE p x E (x.1 n)) n := by
        rw [dDeep]
        by_cases h3 : p.2.2.2.2.2 n = 3
        · rw [if_pos ⟨rfl, h2, h3⟩, if_pos h3]
        · rw [if_neg (fun z => h3 z.2.2), if_neg h3]
      have e2 : cn (grD p x (x.1 n) (tE p x E (x.1 n))) (n + 1) = cn (grD p x (x.1 n) (tE p x E (x.1 n))) n + 1 := by
        rw [cn, show grD p x (x.1 n) (tE p x E (x.1 n)) n = true by unfold grD dSl; simp [Nat.not_le.mp h2]]; rfl
      refine Prod.ext ?_ (Prod.ext rfl (Prod.ext rfl (Prod.ext ?_ (Prod.ext ?_ rfl))))
      · funext d
        show (if d < n ∧ gsD p x C E d = true then 9 else x.1 d) = if d < n + 1 ∧ gsD p x C E d = true then 9 else x.1 d
        by_cases hd : d = n
        · subst hd; rw [if_neg (fun z => hD z.2), if_neg (fun z => hD z.2)]
        · have : d < n + 1 ↔ d < n := by omega
          simp only [this]
      · funext c
        show va_up (gsC p x C E n).2.2.2.1 (x.1 n) (if p.2.2.2.2.2 n = 3 then dDeep p x (x.1 n) (tE p x E (x.1 n)) n - 1 else dDeep p x (x.1 n) (tE p x E (x.1 n)) n) c = if c < p.2.2.1 ∧ C / 2 ^ c % 2 = 1 then dDeep p x c (tE p x E c) (n + 1) else x.2.2.2.1 c
        simp only [va_up]
        by_cases hc : c = x.1 n
        · subst hc
          rw [if_pos rfl, if_pos h, e1]
        · rw [if_neg hc]
          show (if c < p.2.2.1 ∧ C / 2 ^ c % 2 = 1 then dDeep p x c (tE p x E c) n else x.2.2.2.1 c) = _
          rw [(keep c hc).1]
      · funext c
        show va_up (gsC p x C E n).2.2.2.2.1 (x.1 n) (x.2.2.2.2.1 (x.1 n) + nI (cn (grD p x (x.1 n) (tE p x E (x.1 n))) n) + nI 1) c = if c < p.2.2.1 ∧ C / 2 ^ c % 2 = 1 then x.2.2.2.2.1 c + nI (cn (grD p x c (tE p x E c)) (n + 1)) else x.2.2.2.2.1 c
        simp only [va_up]
        by_cases hc : c = x.1 n
        · subst hc
          rw [if_pos rfl, if_pos h, e2, Int32.add_assoc, nI_add]
        · rw [if_neg hc]
          show (if c < p.2.2.1 ∧ C / 2 ^ c % 2 = 1 then x.2.2.2.2.1 c + nI (cn (grD p x c (tE p x E c)) n) else x.2.2.2.2.1 c) = _
          rw [(keep c hc).2]
  · rw [if_neg h]
    have hD : ¬ gsD p x C E n = true := fun z => h ((gsD_iff _ _ _ _ _).mp z).1
    refine Prod.ext ?_ (Prod.ext rfl (Prod.ext rfl (Prod.ext ?_ (Prod.ext ?_ rfl))))
    · funext d
      show (if d < n ∧ gsD p x C E d = true then 9 else x.1 d) = if d < n + 1 ∧ gsD p x C E d = true then 9 else x.1 d
      by_cases hd : d = n
      · subst hd; rw [if_neg (fun z => hD z.2), if_neg (fun z => hD z.2)]
      · have : d < n + 1 ↔ d < n := by omega
        simp only [this]
    · funext c
      show (if c < p.2.2.1 ∧ C / 2 ^ c % 2 = 1 then dDeep p x c (tE p x E c) n else x.2.2.2.1 c) = if c < p.2.2.1 ∧ C / 2 ^ c % 2 = 1 then dDeep p x c (tE p x E c) (n + 1) else x.2.2.2.1 c
      by_cases hc : c < p.2.2.1 ∧ C / 2 ^ c % 2 = 1
      · rw [if_pos hc, if_pos hc, (keep c (fun z => h (z ▸ hc))).1]
      · rw [if_neg hc, if_neg hc]
    · funext c
      show (if c < p.2.2.1 ∧ C / 2 ^ c % 2 = 1 then x.2.2.2.2.1 c + nI (cn (grD p x c (tE p x E c)) n) else x.2.2.2.2.1 c) = if c < p.2.2.1 ∧ C / 2 ^ c % 2 = 1 then x.2.2.2.2.1 c + nI (cn (grD p x c (tE p x E c)) (n + 1)) else x.2.2.2.2.1 c
      by_cases hc : c < p.2.2.1 ∧ C / 2 ^ c % 2 = 1
      · rw [if_pos hc, if_pos hc, (keep c (fun z => h (z ▸ hc))).2]
      · rw [if_neg hc, if_neg hc]
-- by berths
def slC (p : PT) (y : HS) (c t n : Nat) : HS := (fun d => if d < n ∧ dSl p y c t d = true then 9 else y.1 d, y.2.1, y.2.2.1, va_up y.2.2.2.1 c (dDeep p y c t n), va_up y.2.2.2.2.1 c (y.2.2.2.2.1 c + nI (cn (grD p y c t) n)), y.2.2.2.2.2)
theorem slC_0 (p : PT) (y : HS) (c t : Nat) : slC p y c t 0 = y := by
  unfold slC
  refine Prod.ext ?_ (Prod.ext rfl (Prod.ext rfl (Prod.ext ?_ (Prod.ext ?_ rfl))))
  · funext d; simp
  · exact va_us _ _
  · simp only [cn, add_nI0]; exact va_us _ _
theorem dSl_iff (p : PT) (y : HS) (c t n : Nat) : dSl p y c t n = true ↔ y.1 n = c ∧ y.2.2.1 n ≤ dDeep p y c t n + t := by unfold dSl; simp
theorem slC_s (p : PT) (y : HS) (c t n : Nat) : slStep p c (dSl p y c t) n (slC p y c t n) = slC p y c t (n + 1) := by
  have eP : (slC p y c t n).1 n = y.1 n := by
    show (if n < n ∧ dSl p y c t n = true then 9 else y.1 n) = y.1 n
    rw [if_neg (fun z => Nat.lt_irrefl n z.1)]
  have same : ¬ dSl p y c t n = true → (fun d => if d < n ∧ dSl p y c t d = true then 9 else y.1 d) = fun d => if d < n + 1 ∧ dSl p y c t d = true then 9 else y.1 d := by
    intro hD
    funext d
    by_cases hd : d = n
    · subst hd; rw [if_neg (fun z => hD z.2), if_neg (fun z => hD z.2)]
    · have : d < n + 1 ↔ d < n := by omega
      simp only [this]
  unfold slStep
  rw [eP]
  by_cases h : y.1 n = c
  · rw [if_pos h]
    by_cases h2 : dSl p y c t n = true
    · rw [if_pos h2]
      have h2' := ((dSl_iff _ _ _ _ _).mp h2).2
      refine Prod.ext ?_ (Prod.ext rfl (Prod.ext rfl (Prod.ext ?_ (Prod.ext ?_ rfl))))
      · funext d
        show va_up (slC p y c t n).1 n 9 d = if d < n + 1 ∧ dSl p y c t d = true then 9 else y.1 d
        simp only [va_up]
        by_cases hd : d = n
        · subst hd; rw [if_pos rfl, if_pos ⟨by omega, h2⟩]
        · rw [if_neg hd]
          show (if d < n ∧ dSl p y c t d = true then 9 else y.1 d) = _
          have : d < n + 1 ↔ d < n := by omega
          simp only [this]
      · show va_up y.2.2.2.1 c (dDeep p y c t n) = va_up y.2.2.2.1 c (dDeep p y c t (n + 1))
        rw [dDeep, if_neg (fun z => z.2.1 h2')]
      · show va_up y.2.2.2.2.1 c _ = va_up y.2.2.2.2.1 c (y.2.2.2.2.1 c + nI (cn (grD p y c t) (n + 1)))
        rw [cn, show grD p y c t n = false by unfold grD; rw [h2]; simp]
        rfl
    · rw [if_neg h2]
      have h2' : ¬ y.2.2.1 n ≤ dDeep p y c t n + t := fun z => h2 ((dSl_iff _ _ _ _ _).mpr ⟨h, z⟩)
      have cc : (slC p y c t n).2.2.2.1 c = dDeep p y c t n := by show va_up _ c _ c = _; simp [va_up]
      have cw : (slC p y c t n).2.2.2.2.1 c = y.2.2.2.2.1 c + nI (cn (grD p y c t) n) := by show va_up _ c _ c = _; simp [va_up]
      have uu : ∀ {α : Type} (f : Nat → α) (a b : α), va_up (va_up f c a) c b = va_up f c b := fun f a b => by funext i; simp only [va_up]; split <;> rfl
      refine Prod.ext (same h2) (Prod.ext rfl (Prod.ext rfl (Prod.ext ?_ (Prod.ext ?_ rfl))))
      · show va_up (va_up y.2.2.2.1 c (dDeep p y c t n)) c (if p.2.2.2.2.2 n = 3 then (slC p y c t n).2.2.2.1 c - 1 else (slC p y c t n).2.2.2.1 c) = va_up y.2.2.2.1 c (dDeep p y c t (n + 1))
        rw [uu, cc]
        refine congrArg (va_up y.2.2.2.1 c) ?_
        rw [dDeep]
        by_cases h3 : p.2.2.2.2.2 n = 3
        · rw [if_pos h3, if_pos ⟨h, h2', h3⟩]
        · rw [if_neg h3, if_neg (fun z => h3 z.2.2)]
      · show va_up (va_up y.2.2.2.2.1 c (y.2.2.2.2.1 c + nI (cn (grD p y c t) n))) c ((slC p y c t n).2.2.2.2.1 c + nI 1) = va_up y.2.2.2.2.1 c (y.2.2.2.2.1 c + nI (cn (grD p y c t) (n + 1)))
        rw [uu, cw, cn, show grD p y c t n = true by unfold grD; simp [h, h2], Int32.add_assoc, nI_add]
        rfl
  · rw [if_neg h]
    have h2 : ¬ dSl p y c t n = true := fun z => h ((dSl_iff _ _ _ _ _).mp z).1
    refine Prod.ext (same h2) (Prod.ext rfl (Prod.ext rfl (Prod.ext ?_ (Prod.ext ?_ rfl))))
    · show va_up y.2.2.2.1 c (dDeep p y c t n) = va_up y.2.2.2.1 c (dDeep p y c t (n + 1))
      rw [dDeep, if_neg (fun z => h z.1)]
    · show va_up y.2.2.2.2.1 c _ = va_up y.2.2.2.2.1 c (y.2.2.2.2.1 c + nI (cn (grD p y c t) (n + 1)))
      rw [cn, show grD p y c t n = false by unfold grD; simp [h]]
      rfl
theorem ns_eq (p : PT) (t c : Nat) (y : HS) : nsStep p t c y = slC p y c t p.2.2.2.2.1 := by
  unfold nsStep
  have := itN_of (S := slC p y c t) (N := p.2.2.2.2.1) (f := slStep p c (dSl p y c t)) (fun n _ => slC_s p y c t n) p.2.2.2.2.1 0 (by omega)
  rw [slC_0, Nat.zero_add] at this
  exact this
def nsC (p : PT) (x : HS) (t c : Nat) : HS := (fun d => if x.1 d < c ∧ d < p.2.2.2.2.1 ∧ dSl p x (x.1 d) t d = true then 9 else x.1 d, x.2.1, x.2.2.1, fun b => if b < c then dDeep p x b t p.2.2.2.2.1 else x.2.2.2.1 b, fun b => if b < c then x.2.2.2.2.1 b + nI (cn (grD p x b t) p.2.2.2.2.1) else x.2.2.2.2.1 b, x.2.2.2.2.2)
theorem nsC_at {p : PT} {x : HS} {t c d : Nat} (hc : c ≠ 9) : (nsC p x t c).1 d = c ↔ x.1 d = c := by
  show (if x.1 d < c ∧ d < p.2.2.2.2.1 ∧ dSl p x (x.1 d) t d = true then 9 else x.1 d) = c ↔ _
  split
  · rename_i h
    constructor
    · intro z; omega
    · intro z; omega
  · rfl
theorem nsC_dp {p : PT} {x : HS} {t c : Nat} (hc : c ≠ 9) : ∀ n, dDeep p (nsC p x t c) c t n = dDeep p x c t n := by
  intro n
  induction n with
  | zero =>
    show (if c < c then dDeep p x c t p.2.2.2.2.1 else x.2.2.2.1 c) = x.2.2.2.1 c
    rw [if_neg (Nat.lt_irrefl c)]
  | succ n ih =>
    rw [dDeep, dDeep, ih]
    simp only [nsC_at hc]
    rfl
theorem nsC_sl {p : PT} {x : HS} {t c : Nat} (hc : c ≠ 9) : dSl p (nsC p x t c) c t = dSl p x c t := by
  funext n
  unfold dSl
  rw [nsC_dp hc]
  simp only [nsC_at hc]
  rfl
theorem nsC_gr {p : PT} {x : HS} {t c : Nat} (hc : c ≠ 9) : grD p (nsC p x t c) c t = grD p x c t := by
  funext n
  unfold grD
  rw [nsC_sl hc]
  simp only [nsC_at hc]
theorem nsC_s {p : PT} {x : HS} {t c : Nat} (hc : c ≠ 9) : nsStep p t c (nsC p x t c) = nsC p x t (c + 1) := by
  rw [ns_eq]
  unfold slC
  rw [nsC_sl hc, nsC_dp hc, nsC_gr hc]
  refine Prod.ext ?_ (Prod.ext rfl (Prod.ext rfl (Prod.ext ?_ (Prod.ext ?_ rfl))))
  · funext d
    show (if d < p.2.2.2.2.1 ∧ dSl p x c t d = true then 9 else (if x.1 d < c ∧ d < p.2.2.2.2.1 ∧ dSl p x (x.1 d) t d = true then 9 else x.1 d)) = if x.1 d < c + 1 ∧ d < p.2.2.2.2.1 ∧ dSl p x (x.1 d) t d = true then 9 else x.1 d
    by_cases h : x.1 d = c
    · rw [h]
      have n1 : ¬ c < c := Nat.lt_irrefl c
      have n2 : c < c + 1 := Nat.lt_succ_self c
      simp [n1, n2]
    · have hs : ¬ dSl p x c t d = true := fun z => h ((dSl_iff _ _ _ _ _).mp z).1
      have : x.1 d < c + 1 ↔ x.1 d < c := by omega
      rw [if_neg (fun z => hs z.2)]; simp only [this]
  · funext b
    show va_up (fun b => if b < c then dDeep p x b t p.2.2.2.2.1 else x.2.2.2.1 b) c (dDeep p x c t p.2.2.2.2.1) b = if b < c + 1 then dDeep p x b t p.2.2.2.2.1 else x.2.2.2.1 b
    simp only [va_up]
    by_cases h : b = c
    · subst h; rw [if_pos rfl, if_pos (Nat.lt_succ_self b)]
    · have : b < c + 1 ↔ b < c := by omega
      rw [if_neg h]; simp only [this]
  · funext b
    show va_up (fun b => if b < c then x.2.2.2.2.1 b + nI (cn (grD p x b t) p.2.2.2.2.1) else x.2.2.2.2.1 b) c ((if c < c then x.2.2.2.2.1 c + nI (cn (grD p x c t) p.2.2.2.2.1) else x.2.2.2.2.1 c) + nI (cn (grD p x c t) p.2.2.2.2.1)) b = if b < c + 1 then x.2.2.2.2.1 b + nI (cn (grD p x b t) p.2.2.2.2.1) else x.2.2.2.2.1 b
    simp only [va_up]
    by_cases h : b = c
    · subst h; rw [if_pos rfl, if_pos (Nat.lt_succ_self b), if_neg (Nat.lt_irrefl b)]
    · have : b < c + 1 ↔ b < c := by omega
      rw [if_neg h]; simp only [this]
theorem nsC_0 (p : PT) (x : HS) (t : Nat) : nsC p x t 0 = x := by
  unfold nsC
  refine Prod.ext ?_ (Prod.ext rfl (Prod.ext rfl (Prod.ext ?_ (Prod.ext ?_ rfl))))
  · funext d; simp
  · funext d; simp
  · funext d; simp
theorem all15 : ∀ c, c < 4 → 15 / 2 ^ c % 2 = 1 := by decide
theorem tE_0 (p : PT) (x : HS) (c : Nat) : tE p x 0 c = pTide p x.2.2.2.2.2 := by
  unfold tE
  rw [Nat.zero_div]
  rfl
theorem sleep_eq {p : PT} {x : HS} (hp : ptOk p) : itN (nsStep p (pTide p x.2.2.2.2.2)) 0 p.2.2.1 x = gsC p x 15 0 p.2.2.2.2.1 := by
  have hB := hp.2.1
  have := itN_of (S := nsC p x (pTide p x.2.2.2.2.2)) (N := p.2.2.1) (f := nsStep p (pTide p x.2.2.2.2.2)) (fun n hn => nsC_s (by omega)) p.2.2.1 0 (by omega)
  rw [nsC_0, Nat.zero_add] at this
  rw [this]
  refine Prod.ext ?_ (Prod.ext rfl (Prod.ext rfl (Prod.ext ?_ (Prod.ext ?_ rfl))))
  · funext d
    show (if x.1 d < p.2.2.1 ∧ d < p.2.2.2.2.1 ∧ dSl p x (x.1 d) (pTide p x.2.2.2.2.2) d = true then 9 else x.1 d) = if d < p.2.2.2.2.1 ∧ gsD p x 15 0 d = true then 9 else x.1 d
    unfold gsD
    rw [tE_0]
    by_cases h : x.1 d < p.2.2.1
    · have := all15 (x.1 d) (by omega)
      simp [h, this]
    · simp [h]
  · funext c
    show (if c < p.2.2.1 then dDeep p x c (pTide p x.2.2.2.2.2) p.2.2.2.2.1 else x.2.2.2.1 c) = if c < p.2.2.1 ∧ 15 / 2 ^ c % 2 = 1 then dDeep p x c (tE p x 0 c) p.2.2.2.2.1 else x.2.2.2.1 c
    rw [tE_0]
    by_cases h : c < p.2.2.1
    · rw [if_pos h, if_pos ⟨h, all15 c (by omega)⟩]
    · rw [if_neg h, if_neg (fun z => h z.1)]
  · funext c
    show (if c < p.2.2.1 then x.2.2.2.2.1 c + nI (cn (grD p x c (pTide p x.2.2.2.2.2)) p.2.2.2.2.1) else x.2.2.2.2.1 c) = if c < p.2.2.1 ∧ 15 / 2 ^ c % 2 = 1 then x.2.2.2.2.1 c + nI (cn (grD p x c (tE p x 0 c)) p.2.2.2.2.1) else x.2.2.2.2.1 c
    rw [tE_0]
    by_cases h : c < p.2.2.1
    · rw [if_pos h, if_pos ⟨h, all15 c (by omega)⟩]
    · rw [if_neg h, if_neg (fun z => h z.1)]
-- how many
theorem sumN_add (f g : Nat → Nat) : ∀ n, sumN (fun c => f c + g c) n = sumN f n + sumN g n := by
  intro n
  induction n with
  | zero => rfl
  | succ n ih => rw [sumN, sumN, sumN, ih]; omega
theorem sumN_congr {f g : Nat → Nat} : ∀ {n}, (∀ c, c < n → f c = g c) → sumN f n = sumN g n := by
  intro n
  induction n with
  | zero => intro _; rfl
  | succ n ih => intro h; rw [sumN, sumN, ih (fun c hc => h c (by omega)), h n (by omega)]
theorem sumN_zero {f : Nat → Nat} : ∀ {n}, (∀ c, c < n → f c = 0) → sumN f n = 0 := by
  intro n
  induction n with
  | zero => intro _; rfl
  | succ n ih => intro h; rw [sumN, ih (fun c hc => h c (by omega)), h n (by omega)]
theorem sumN_one {f : Nat → Nat} {v : Nat} (hf : ∀ c, c ≠ v → f c = 0) : ∀ n, sumN f n = if v < n then f v else 0 := by
  intro n
  induction n with
  | zero => simp [sumN]
  | succ n ih =>
    rw [sumN, ih]
    by_cases h : n = v
    · subst h
      rw [if_neg (Nat.lt_irrefl n), if_pos (Nat.lt_succ_self n), Nat.zero_add]
    · rw [hf n h]
      have : v < n + 1 ↔ v < n := by omega
      simp only [this, Nat.add_zero]
theorem gs_cn (p : PT) (x : HS) (C E : Nat) : ∀ n, cn (gsD p x C E) n = sumN (fun c => if C / 2 ^ c % 2 = 1 then cn (dSl p x c (tE p x E c)) n else 0) p.2.2.1 := by
  intro n
  induction n with
  | zero =>
    rw [sumN_zero]
    · rfl
    · intro c _
      show (if _ then 0 else 0) = 0
      split <;> rfl
  | succ n ih =>
    rw [cn, ih]
    have e : (fun c => if C / 2 ^ c % 2 = 1 then cn (dSl p x c (tE p x E c)) (n + 1) else 0) = fun c => (if C / 2 ^ c % 2 = 1 then cn (dSl p x c (tE p x E c)) n else 0) + (if C / 2 ^ c % 2 = 1 ∧ dSl p x c (tE p x E c) n = true then 1 else 0) := by
      funext c
      by_cases h : C / 2 ^ c % 2 = 1
      · rw [if_pos h, if_pos h, cn]
        by_cases h2 : dSl p x c (tE p x E c) n = true
        · rw [if_pos h2, if_pos ⟨h, h2⟩]
        · rw [if_neg h2, if_neg (fun z => h2 z.2)]
      · rw [if_neg h, if_neg h, if_neg (fun z => h z.1)]
    rw [e, sumN_add, sumN_one (f := fun c => if C / 2 ^ c % 2 = 1 ∧ dSl p x c (tE p x E c) n = true then 1 else 0) (v := x.1 n) (fun c hc => if_neg (fun z => hc (((dSl_iff _ _ _ _ _).mp z.2).1).symm))]
    congr 1
    by_cases h : gsD p x C E n = true
    · have h' := (gsD_iff _ _ _ _ _).mp h
      rw [if_pos h, if_pos h'.1.1, if_pos ⟨h'.1.2, (dSl_iff _ _ _ _ _).mpr ⟨rfl, h'.2⟩⟩]
    · rw [if_neg h]
      by_cases h1 : x.1 n < p.2.2.1
      · rw [if_pos h1, if_neg (fun z => h ((gsD_iff _ _ _ _ _).mpr ⟨⟨h1, z.1⟩, ((dSl_iff _ _ _ _ _).mp z.2).2⟩))]
      · rw [if_neg h1]
theorem cnt_eq {p : PT} {x : HS} (hp : ptOk p) : pCnt p x = cn (gsD p x 15 0) p.2.2.2.2.1 := by
  have hB := hp.2.1
  have key : ∀ k c, c + k = p.2.2.1 → nsCnt p (pTide p x.2.2.2.2.2) c k (nsC p x (pTide p x.2.2.2.2.2) c) + sumN (fun c => cn (dSl p x c (pTide p x.2.2.2.2.2)) p.2.2.2.2.1) c = sumN (fun c => cn (dSl p x c (pTide p x.2.2.2.2.2)) p.2.2.2.2.1) p.2.2.1 := by
    intro k
    induction k with
    | zero =>
      intro c hc
      have : c = p.2.2.1 := by omega
      subst this
      rw [nsCnt, Nat.zero_add]
    | succ k ih =>
      intro c hc
      have := ih (c + 1) (by omega)
      rw [sumN] at this
      rw [nsCnt, nsC_sl (by omega), nsC_s (by omega)]
      omega
  have := key p.2.2.1 0 (by omega)
  rw [nsC_0, sumN, Nat.add_zero] at this
  unfold pCnt
  rw [this, gs_cn]
  refine sumN_congr (fun c hc => ?_)
  rw [if_pos (all15 c (by omega)), tE_0]
