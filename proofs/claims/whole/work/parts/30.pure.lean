/-! WHAT THE CELLS MEAN: a port (what is told), a harbour; runs of Told's and Harbour's small methods -/
def bI (b : Bool) : Int32 := if b = true then nI 1 else nI 0
theorem bI_t : bI true = nI 1 := rfl
theorem bI_f : bI false = nI 0 := rfl
theorem nI10 : ¬ nI 1 = nI 0 := by decide
theorem bI_z {b : Bool} : (bI b = nI 0) = (b = false) := by cases b <;> simp [bI, nI10]
theorem nar_b {b : Bool} : narrow .boolean (.int (bI b)) = .int (bI b) := by cases b <;> decide
theorem nar_1 : narrow .boolean (.int (nI 1)) = .int (nI 1) := by decide
theorem nar_0 : narrow .boolean (.int (nI 0)) = .int (nI 0) := by decide
/-- a port: tides, their values, berths, their kinds, dreams, their kinds -/
abbrev PT : Type := Nat × (Nat → Nat) × Nat × (Nat → Nat) × Nat × (Nat → Nat)
/-- a harbour: where each dream is, how long it has lain off, draughts, depths, who woke, the night -/
abbrev HS : Type := (Nat → Nat) × (Nat → Int32) × (Nat → Nat) × (Nat → Nat) × (Nat → Int32) × Nat
def ptOk (p : PT) : Prop := p.1 ≤ 4 ∧ p.2.2.1 ≤ 4 ∧ p.2.2.2.2.1 ≤ 5 ∧ (∀ t, t < p.1 → p.2.1 t ≤ 9) ∧ (∀ b, b < p.2.2.1 → p.2.2.2.1 b ≤ 3) ∧ ∀ d, d < p.2.2.2.2.1 → p.2.2.2.2.2 d ≤ 3
def RT (p : PT) (m : Nat → Nat → Int32) : Prop := ptOk p ∧ m 3 5 = nI p.1 ∧ m 3 6 = nI p.2.2.1 ∧ m 3 7 = nI p.2.2.2.2.1 ∧ (∀ t, t < p.1 → m 4 t = nI (p.2.1 t)) ∧ (∀ b, b < p.2.2.1 → m 6 b = nI (p.2.2.2.1 b)) ∧ ∀ d, d < p.2.2.2.2.1 → m 8 d = nI (p.2.2.2.2.2 d)
def hsOk (p : PT) (x : HS) : Prop := (∀ d, d < p.2.2.2.2.1 → (x.1 d < p.2.2.1 ∨ x.1 d = 8 ∨ x.1 d = 9)) ∧ (∀ d, d < p.2.2.2.2.1 → 1 ≤ x.2.2.1 d ∧ x.2.2.1 d ≤ 9) ∧ (∀ b, b < p.2.2.1 → x.2.2.2.1 b ≤ 9) ∧ x.2.2.2.2.2 ≤ 1000
def RH (p : PT) (x : HS) (m : Nat → Nat → Int32) (b : Nat) : Prop := hsOk p x ∧ (∀ d, d < p.2.2.2.2.1 → m (b + 1) d = nI (x.1 d)) ∧ (∀ d, d < p.2.2.2.2.1 → m (b + 2) d = x.2.1 d) ∧ (∀ d, d < p.2.2.2.2.1 → m (b + 3) d = nI (x.2.2.1 d)) ∧ (∀ c, c < p.2.2.1 → m (b + 4) c = nI (x.2.2.2.1 c)) ∧ (∀ c, c < p.2.2.1 → m (b + 5) c = x.2.2.2.2.1 c) ∧ m b 6 = nI x.2.2.2.2.2
def pTide (p : PT) (n : Nat) : Nat := if p.1 = 0 then 0 else p.2.1 (n % p.1)
/-- bits of the places below n where f holds -/
def mk (f : Nat → Bool) : Nat → Nat
  | 0 => 0
  | n + 1 => mk f n + (if f n = true then 2 ^ n else 0)
theorem mk_lt (f : Nat → Bool) (n : Nat) : mk f n < 2 ^ n := by
  induction n with
  | zero => exact Nat.one_pos
  | succ n ih =>
    unfold mk
    rw [Nat.pow_succ]
    split <;> omega
theorem fa_or (a b : Nat) : nI a ||| nI b = nI (a ||| b) := by
  apply Int32.toBitVec_inj.1
  show BitVec.ofNat 32 a ||| BitVec.ofNat 32 b = BitVec.ofNat 32 (a ||| b)
  apply BitVec.eq_of_getLsbD_eq
  intro i hi
  simp [hi]
theorem fa_xor (a b : Nat) : nI a ^^^ nI b = nI (a ^^^ b) := by
  apply Int32.toBitVec_inj.1
  show BitVec.ofNat 32 a ^^^ BitVec.ofNat 32 b = BitVec.ofNat 32 (a ^^^ b)
  apply BitVec.eq_of_getLsbD_eq
  intro i hi
  simp [hi]
theorem or_bit {M n : Nat} (hM : M < 2 ^ n) (hn : n < 31) : nI M ||| (nI 1 <<< (nI n &&& 31)) = nI (M + 2 ^ n) := by
  have h1 : nI 1 <<< (nI n &&& 31) = nI (1 * 2 ^ n) := pk_shlN (nI n &&& 31) n (by
    have : ∀ n, n < 32 → ((nI n &&& 31).toBitVec.smod 32).toNat = n := by decide
    exact this n (by omega)) (by
    have : 2 ^ n < 2 ^ 32 := Nat.pow_lt_pow_right (by decide) (by omega)
    omega)
  rw [h1, Nat.one_mul]
  have e : M ||| 2 ^ n = M + 2 ^ n := by
    have := Nat.two_pow_add_eq_or_of_lt (i := n) hM 1
    rw [Nat.mul_one] at this
    rw [Nat.or_comm, ← this, Nat.add_comm]
  rw [← e]
  exact fa_or M (2 ^ n)
section P30
variable {o : ai_S} {d : Nat} {m : Nat → Nat → Int32} {lg : Nat → Nat → Int64} {p : PT} {x : HS} {b t : Nat} {k : Int32}
theorem s_X6_hasBerth (hT : ai_T t) : Ev o d zX6_hasBerth [.ref t, .int k] (ai_w m lg) (some (.int (bI (decide (¬ k < nI 0 ∧ k < m t 6))))) (ai_w m lg) := by
  rw [ev_X6_hasBerth]
  simp only [e_X6_hasBerth_0, e_X6_hasBerth_1, e_X6_hasBerth_4, e_X6_hasBerth_5, e_X6_hasBerth_6, e_X6_hasBerth_9, e_X6_hasBerth_12, e_X6_hasBerth_13, e_X6_hasBerth_16, e_X6_hasBerth_17, eq_self, nI10, not_false_eq_true, not_true_eq_false, is2_i, is2_r, is2_n, nI_add, pk_mul, Nat.reduceAdd, Nat.reduceMul, hT, nar_0, nar_1]
  by_cases h1 : k < nI 0
  · simp [h1, bI]
  · by_cases h2 : m t 6 ≤ k
    · have : ¬ k < m t 6 := by simpa [Int32.not_lt] using h2
      simp [h1, h2, this, bI]
    · have : k < m t 6 := by simpa [Int32.not_le] using h2
      simp [h1, h2, this, bI]
theorem s_X6_hasDream (hT : ai_T t) : Ev o d zX6_hasDream [.ref t, .int k] (ai_w m lg) (some (.int (bI (decide (¬ k < nI 0 ∧ k < m t 7))))) (ai_w m lg) := by
  rw [ev_X6_hasDream]
  simp only [e_X6_hasDream_0, e_X6_hasDream_1, e_X6_hasDream_4, e_X6_hasDream_5, e_X6_hasDream_6, e_X6_hasDream_9, e_X6_hasDream_12, e_X6_hasDream_13, e_X6_hasDream_16, e_X6_hasDream_17, eq_self, nI10, not_false_eq_true, not_true_eq_false, is2_i, is2_r, is2_n, nI_add, pk_mul, Nat.reduceAdd, Nat.reduceMul, hT, nar_0, nar_1]
  by_cases h1 : k < nI 0
  · simp [h1, bI]
  · by_cases h2 : m t 7 ≤ k
    · have : ¬ k < m t 7 := by simpa [Int32.not_lt] using h2
      simp [h1, h2, this, bI]
    · have : k < m t 7 := by simpa [Int32.not_le] using h2
      simp [h1, h2, this, bI]
theorem s_floorMod {w : ai_W} {a c : Nat} (ha : a < 2 ^ 31) (hc : c < 2 ^ 31) (h0 : 0 < c) : Ev o d zJ9_floorMod_7cf53 [.int (nI a), .int (nI c)] w (some (.int (nI (a % c)))) w := by
  have hne : ¬ nI c = 0 := fun z => by
    have := (nI_eq hc (by omega)).mp (show nI c = nI 0 from z)
    omega
  have hx : nI 0 ≤ nI (a ^^^ c) := nI_le (Nat.zero_le _) (Nat.xor_lt_two_pow ha hc)
  rw [ev_J9_floorMod_7cf53]
  simp only [e_J9_floorMod_7cf53_0, e_J9_floorMod_7cf53_1, e_J9_floorMod_7cf53_2, e_J9_floorMod_7cf53_3_i, e_J9_floorMod_7cf53_3_r, e_J9_floorMod_7cf53_3_n, e_J9_floorMod_7cf53_4, e_J9_floorMod_7cf53_5, e_J9_floorMod_7cf53_6, e_J9_floorMod_7cf53_7, e_J9_floorMod_7cf53_10, e_J9_floorMod_7cf53_11, e_J9_floorMod_7cf53_14, e_J9_floorMod_7cf53_15, e_J9_floorMod_7cf53_16, e_J9_floorMod_7cf53_17, e_J9_floorMod_7cf53_18, e_J9_floorMod_7cf53_19, eq_self, nI10, not_false_eq_true, not_true_eq_false, is2_i, is2_r, is2_n, nI_add, pk_mul, Nat.reduceAdd, Nat.reduceMul, hne, pk_rem (a := a) (d := c) ha h0 hc, fa_xor, hx, if_true]
theorem s_X6_tideOn (hp : RT p m) {n : Nat} (hn : n < 2 ^ 31) : Ev o (d + 1) zX6_tideOn [.ref 3, .int (nI n)] (ai_w m lg) (some (.int (nI (pTide p n)))) (ai_w m lg) := by
  obtain ⟨hk, h5, h6, h7, ht, hb, hd⟩ := hp
  have hT4 := hk.1
  rw [ev_X6_tideOn]
  by_cases h0 : p.1 = 0
  · simp only [e_X6_tideOn_0, e_X6_tideOn_1, e_X6_tideOn_4, e_X6_tideOn_7, e_X6_tideOn_8, e_X6_tideOn_11, e_X6_tideOn_12, e_X6_tideOn_15, e_X6_tideOn_16, e_X6_tideOn_17, e_X6_tideOn_23, e_X6_tideOn_24, eq_self, nI10, not_false_eq_true, not_true_eq_false, is2_i, is2_r, is2_n, nI_add, pk_mul, Nat.reduceAdd, Nat.reduceMul, ai_T3, h5, h0, pTide]
    simp
  · have hne : ¬ nI p.1 = nI 0 := fun z => h0 ((nI_eq (by omega) (by omega)).mp z)
    have hne' : ¬ nI p.1 = 0 := hne
    have hlt : n % p.1 < p.1 := Nat.mod_lt _ (by omega)
    have hl4 : n % p.1 < ai_len 4 := by
      have : ai_len 4 = 4 := tL1 ai_T3
      omega
    have ha4 : ai_a0 4 = true := tA1 ai_T3
    simp only [e_X6_tideOn_0, e_X6_tideOn_1, e_X6_tideOn_4, e_X6_tideOn_7, e_X6_tideOn_8, e_X6_tideOn_11, e_X6_tideOn_12, e_X6_tideOn_15, e_X6_tideOn_16, e_X6_tideOn_17, e_X6_tideOn_23, e_X6_tideOn_24, eq_self, nI10, not_false_eq_true, not_true_eq_false, is2_i, is2_r, is2_n, nI_add, pk_mul, Nat.reduceAdd, Nat.reduceMul, ai_T3, h5, hne', e_X6_tideOn_20 (hE := s_floorMod (c := p.1) hn (by omega) (by omega)), hl4, ha4, ht _ hlt, pTide, h0]
    simp [hne]
end P30
