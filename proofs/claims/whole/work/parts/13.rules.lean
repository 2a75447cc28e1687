/-! rules of runs, an instruction each; conditions are left to be met -/
section RULES
variable {o : ai_S} {d : Nat} {z : ai_Mi} {pc : Nat} {L st : List Value} {w : ai_W} {r : Option Value × ai_W} {x y v : Int32} {i j k idx ci tgt : Nat} {off : Int}
theorem rn_int {ins : Instr} {len : Nat} {v' : Int32} (hd : decode z.2.1 pc = .ok (ins, len)) (h : ai_A z.1.cls ins len L st = some (.int v' :: st)) (hv : v' = v) : Rn o d z pc L st w r = Rn o d z (pc + len) L (.int v :: st) w r := by subst hv; exact rn_A hd h
theorem rn_idiv (hd : decode z.2.1 pc = .ok (.idiv, 1)) (h : ¬ y = 0) : Rn o d z pc L (.int y :: .int x :: st) w r = Rn o d z (pc + 1) L (.int (x / y) :: st) w r := rn_A hd (by simp [ai_A, ai_binZ, ai_push, h])
theorem rn_irem (hd : decode z.2.1 pc = .ok (.irem, 1)) (h : ¬ y = 0) : Rn o d z pc L (.int y :: .int x :: st) w r = Rn o d z (pc + 1) L (.int (x - x / y * y) :: st) w r := rn_A hd (by simp [ai_A, ai_binZ, ai_push, h])
theorem rn_ldiv {x y : Int64} (hd : decode z.2.1 pc = .ok (.ldiv, 1)) (h : ¬ y = 0) : Rn o d z pc L (.long y :: .long x :: st) w r = Rn o d z (pc + 1) L (.long (x / y) :: st) w r := rn_A hd (by simp [ai_A, ai_binLZ, ai_push, h])
theorem rn_lrem {x y : Int64} (hd : decode z.2.1 pc = .ok (.lrem, 1)) (h : ¬ y = 0) : Rn o d z pc L (.long y :: .long x :: st) w r = Rn o d z (pc + 1) L (.long (x - x / y * y) :: st) w r := rn_A hd (by simp [ai_A, ai_binLZ, ai_push, h])
theorem rn_ldc {c : Int32} (hd : decode z.2.1 pc = .ok (.ldc_w idx, 3)) (h : ai_cst z.1.cls idx = some c) : Rn o d z pc L st w r = Rn o d z (pc + 3) L (.int c :: st) w r := rn_A hd (by simp [ai_A, ai_pushO, ai_push, h])
theorem rn_ldc2 {c : Int64} (hd : decode z.2.1 pc = .ok (.ldc2_w idx, 3)) (h : ai_cstL z.1.cls idx = some c) : Rn o d z pc L st w r = Rn o d z (pc + 3) L (.long c :: st) w r := rn_A hd (by simp [ai_A, ai_pushO, ai_push, h])
-- locals
theorem rn_sti0 {ins : Instr} {len i : Nat} (hd : decode z.2.1 pc = .ok (ins, len)) (h : ai_B ins len L (.int x :: st) = ai_sti len len L i (.int x :: st)) (hi : i < L.length) (h2 : i = 0 ∨ ai_is2 L[i - 1]? = false) : Rn o d z pc L (.int x :: st) w r = Rn o d z (pc + len) (L.set i (.int x)) st w r := rn_B hd (by rw [h]; unfold ai_sti; dsimp only; rw [if_pos ⟨rfl, hi, h2⟩])
theorem rn_stl0 {ins : Instr} {len i : Nat} {x : Int64} (hd : decode z.2.1 pc = .ok (ins, len)) (h : ai_B ins len L (.long x :: st) = ai_stl len len L i (.long x :: st)) (hi : i + 1 < L.length) (h2 : i = 0 ∨ ai_is2 L[i - 1]? = false) : Rn o d z pc L (.long x :: st) w r = Rn o d z (pc + len) ((L.set i (.long x)).set (i + 1) .null) st w r := rn_B hd (by rw [h]; unfold ai_stl; dsimp only; rw [if_pos ⟨rfl, hi, h2⟩])
theorem rn_sta0 {ins : Instr} {len i a : Nat} (hd : decode z.2.1 pc = .ok (ins, len)) (h : ai_B ins len L (.ref a :: st) = ai_sta len len L i (.ref a :: st)) (hi : i < L.length) (h2 : i = 0 ∨ ai_is2 L[i - 1]? = false) : Rn o d z pc L (.ref a :: st) w r = Rn o d z (pc + len) (L.set i (.ref a)) st w r := rn_B hd (by rw [h]; unfold ai_sta; dsimp only; rw [if_pos ⟨rfl, hi, h2⟩])
theorem rn_iinc {n : Int} {c : Int32} {i : Nat} (hd : decode z.2.1 pc = .ok (.iinc i n, 3)) (hl : L[i]? = some (.int x)) (hc : Int32.ofInt n = c) (hi : i < L.length) (h2 : i = 0 ∨ ai_is2 L[i - 1]? = false) : Rn o d z pc L st w r = Rn o d z (pc + 3) (L.set i (.int (x + c))) st w r := rn_B hd (by subst hc; unfold ai_B; simp only [hl]; unfold ai_sti; dsimp only; rw [if_pos ⟨rfl, hi, h2⟩])
theorem is2_i : ai_is2 (some (.int x)) = false := rfl
theorem is2_r {a : Nat} : ai_is2 (some (.ref a)) = false := rfl
theorem is2_n : ai_is2 (some .null) = false := rfl
-- jumps
theorem rn_goto (hd : decode z.2.1 pc = .ok (.goto off, 3)) (ht : (pc : Int) + off = (tgt : Int)) : Rn o d z pc L st w r = Rn o d z tgt L st w r := rn_J hd (by simp [ai_J, ai_tg, ht])
theorem ai_br_eq {b : Prop} {hb : Decidable b} {pc tgt : Nat} {off : Int} {st : List Value} (ht : (pc : Int) + off = (tgt : Int)) : ai_br b hb 3 pc off st = if b then some (tgt, st) else some (pc + 3, st) := by
  unfold ai_br
  rw [if_pos ⟨rfl, by omega⟩]
  have : ((pc : Int) + off).toNat = tgt := by omega
  rw [this]
theorem rn_br {ins : Instr} {b : Prop} {hb : Decidable b} {st' : List Value} (hd : decode z.2.1 pc = .ok (ins, 3)) (h : ai_J ins 3 pc st = ai_br b hb 3 pc off st') (ht : (pc : Int) + off = (tgt : Int)) : Rn o d z pc L st w r = if b then Rn o d z tgt L st' w r else Rn o d z (pc + 3) L st' w r := by
  rw [ai_br_eq ht] at h
  by_cases hc : b
  · rw [if_pos hc] at h ⊢; exact rn_J hd h
  · rw [if_neg hc] at h ⊢; exact rn_J hd h
theorem rn_tsw {df lo hi : Int} {offs : Array Int} {len : Nat} (hd : decode z.2.1 pc = .ok (.tableswitch df lo hi offs, len)) (h1 : ¬ x.toInt < lo) (h2 : ¬ hi < x.toInt) (ho : offs[(x.toInt - lo).toNat]? = some off) (ht : (pc : Int) + off = (tgt : Int)) : Rn o d z pc L (.int x :: st) w r = Rn o d z tgt L st w r := rn_J hd (by
  unfold ai_J
  dsimp only
  rw [if_neg (fun z => z.elim h1 h2), ho]
  dsimp only
  unfold ai_tg
  rw [if_pos (by omega), show ((pc : Int) + off).toNat = tgt by omega])
theorem rn_tswD {df lo hi : Int} {offs : Array Int} {len : Nat} (hd : decode z.2.1 pc = .ok (.tableswitch df lo hi offs, len)) (h1 : x.toInt < lo ∨ hi < x.toInt) (ht : (pc : Int) + df = (tgt : Int)) : Rn o d z pc L (.int x :: st) w r = Rn o d z tgt L st w r := rn_J hd (by
  unfold ai_J
  dsimp only
  rw [if_pos h1]
  unfold ai_tg
  rw [if_pos (by omega), show ((pc : Int) + df).toNat = tgt by omega])
theorem rn_lsw {df : Int} {ps : Array (Int × Int)} {len : Nat} (hd : decode z.2.1 pc = .ok (.lookupswitch df ps, len)) (h0 : (ps.toList.zip (ps.toList.drop 1)).all (fun (a, next) => a.1 < next.1) = true) (ho : Op.lookupswitch.offset ps.toList df x.toInt = off) (ht : (pc : Int) + off = (tgt : Int)) : Rn o d z pc L (.int x :: st) w r = Rn o d z tgt L st w r := rn_J hd (by
  unfold ai_J
  dsimp only
  rw [if_pos h0, ho]
  unfold ai_tg
  rw [if_pos (by omega), show ((pc : Int) + off).toNat = tgt by omega])
-- the heap, of any shape
variable {n sl : Nat} {κ : Nat → Nat × Nat} {rf : Nat → Nat → Option Nat} {m : Nat → Nat → Int32} {lg : Nat → Nat → Int64}
theorem rg_getI (hd : decode z.2.1 pc = .ok (.getfield idx, 3)) (hf : ai_fld z.1.cls idx = some (ci, k)) (ht : ai_ty ci k = .int) (hi : i < n ∧ (κ i).1 = ci + 3) : Rn o d z pc L (.ref i :: st) (n, sl, κ, rf, m, lg) r = Rn o d z (pc + 3) L (.int (m i k) :: st) (n, sl, κ, rf, m, lg) r := rn_M hd (by simp [ai_M, ai_get, ai_keep, hf, ht, hi])
theorem rg_getL (hd : decode z.2.1 pc = .ok (.getfield idx, 3)) (hf : ai_fld z.1.cls idx = some (ci, k)) (ht : ai_ty ci k = .long) (hi : i < n ∧ (κ i).1 = ci + 3) : Rn o d z pc L (.ref i :: st) (n, sl, κ, rf, m, lg) r = Rn o d z (pc + 3) L (.long (lg i k) :: st) (n, sl, κ, rf, m, lg) r := rn_M hd (by simp [ai_M, ai_get, ai_keep, hf, ht, hi])
theorem rg_getR (hd : decode z.2.1 pc = .ok (.getfield idx, 3)) (hf : ai_fld z.1.cls idx = some (ci, k)) (ht : ai_isRef (ai_ty ci k) = true) (hi : i < n ∧ (κ i).1 = ci + 3) (hq : rf i k = some j) : Rn o d z pc L (.ref i :: st) (n, sl, κ, rf, m, lg) r = Rn o d z (pc + 3) L (.ref j :: st) (n, sl, κ, rf, m, lg) r := rn_M hd (by
  have n1 : ai_ty ci k ≠ .int := fun z => by rw [z] at ht; cases ht
  have n2 : ai_ty ci k ≠ .long := fun z => by rw [z] at ht; cases ht
  simp [ai_M, ai_get, ai_keep, hf, ht, hi, n1, n2, hq])
theorem rg_putI (hd : decode z.2.1 pc = .ok (.putfield idx, 3)) (hf : ai_fld z.1.cls idx = some (ci, k)) (ht : ai_ty ci k = .int) (hm : ai_may z.1 ci k = true) (hi : i < n ∧ (κ i).1 = ci + 3) : Rn o d z pc L (.int x :: .ref i :: st) (n, sl, κ, rf, m, lg) r = Rn o d z (pc + 3) L st (n, sl, κ, rf, ai_up m i k x, lg) r := rn_M hd (by simp [ai_M, ai_put, hf, ht, hi, hm])
theorem rg_putL {x : Int64} (hd : decode z.2.1 pc = .ok (.putfield idx, 3)) (hf : ai_fld z.1.cls idx = some (ci, k)) (ht : ai_ty ci k = .long) (hm : ai_may z.1 ci k = true) (hi : i < n ∧ (κ i).1 = ci + 3) : Rn o d z pc L (.long x :: .ref i :: st) (n, sl, κ, rf, m, lg) r = Rn o d z (pc + 3) L st (n, sl, κ, rf, m, ai_upL lg i k x) r := rn_M hd (by simp [ai_M, ai_put, hf, ht, hi, hm])
theorem rg_putR {a : Nat} (hd : decode z.2.1 pc = .ok (.putfield idx, 3)) (hf : ai_fld z.1.cls idx = some (ci, k)) (ht : ai_isRef (ai_ty ci k) = true) (hm : ai_may z.1 ci k = true) (hi : i < n ∧ a < n ∧ (κ i).1 = ci + 3) : Rn o d z pc L (.ref a :: .ref i :: st) (n, sl, κ, rf, m, lg) r = Rn o d z (pc + 3) L st (n, sl, κ, ai_upR rf i k (some a), m, lg) r := rn_M hd (by simp [ai_M, ai_put, hf, ht, hi, hm])
theorem rg_new {q : vw_C} (hd : decode z.2.1 pc = .ok (.new idx, 3)) (hc : ai_cls z.1.cls idx = some ci) (hq : ai_cl[ci]? = some q) (hn : n < 1000000) : Rn o d z pc L st (n, sl, κ, rf, m, lg) r = Rn o d z (pc + 3) L (.ref n :: st) (n + 1, sl + q.2.2, va_up κ n (ci + 3, q.2.2), va_up rf n (fun _ => none), va_up m n (fun _ => 0), va_up lg n (fun _ => 0)) r := rn_M hd (by simp [ai_M, ai_news, hc, hq, hn, ai_mk])
theorem rg_newI (hd : decode z.2.1 pc = .ok (.newarray .int, 2)) (hc : Cond.arrayClass .int ∈ ai_tb) (hj : j ≤ 1000) (hn : n < 1000000) : Rn o d z pc L (.int (nI j) :: st) (n, sl, κ, rf, m, lg) r = Rn o d z (pc + 2) L (.ref n :: st) (n + 1, sl + j, va_up κ n (0, j), va_up rf n (fun _ => none), va_up m n (fun _ => 0), va_up lg n (fun _ => 0)) r := rn_M hd (by
  have h1 : ¬ nI j < 0 := nI_pos (by omega)
  have h2 := nI_clamp (n := j) (by omega)
  simp only [ai_M, ai_newa, h1, h2, hc, hn, hj, ai_mk, if_pos, not_false_eq_true, and_self])
theorem rg_newZ (hd : decode z.2.1 pc = .ok (.newarray .boolean, 2)) (hc : Cond.arrayClass .boolean ∈ ai_tb) (hj : j ≤ 1000) (hn : n < 1000000) : Rn o d z pc L (.int (nI j) :: st) (n, sl, κ, rf, m, lg) r = Rn o d z (pc + 2) L (.ref n :: st) (n + 1, sl + j, va_up κ n (1, j), va_up rf n (fun _ => none), va_up m n (fun _ => 0), va_up lg n (fun _ => 0)) r := rn_M hd (by
  have h1 : ¬ nI j < 0 := nI_pos (by omega)
  have h2 := nI_clamp (n := j) (by omega)
  simp only [ai_M, ai_newa, h1, h2, hc, hn, hj, ai_mk, if_pos, not_false_eq_true, and_self])
theorem rg_newR (hd : decode z.2.1 pc = .ok (.anewarray idx, 3)) (hc : ai_clk z.1.cls idx = some RX2) (hj : j ≤ 1000) (hn : n < 1000000) : Rn o d z pc L (.int (nI j) :: st) (n, sl, κ, rf, m, lg) r = Rn o d z (pc + 3) L (.ref n :: st) (n + 1, sl + j, va_up κ n (2, j), va_up rf n (fun _ => none), va_up m n (fun _ => 0), va_up lg n (fun _ => 0)) r := rn_M hd (by
  have h1 : ¬ nI j < 0 := nI_pos (by omega)
  have h2 := nI_clamp (n := j) (by omega)
  simp only [ai_M, ai_newR, h1, h2, hc, hn, hj, ai_mk, if_pos, not_false_eq_true, and_self])
theorem rg_aastore {a : Nat} (hd : decode z.2.1 pc = .ok (.aastore, 1)) (hi : i < n ∧ a < n ∧ (κ a).1 = 5 ∧ (κ i).1 = 2) (hj : j < (κ i).2) (hj2 : j < 1000) : Rn o d z pc L (.ref a :: .int (nI j) :: .ref i :: st) (n, sl, κ, rf, m, lg) r = Rn o d z (pc + 1) L st (n, sl, κ, ai_upR rf i j (some a), m, lg) r := rn_M hd (by
  have h1 : ¬ nI j < 0 := nI_pos (by omega)
  have h2 := nI_clamp (n := j) (by omega)
  have h3 : ¬ (κ i).2 ≤ j := by omega
  simp [ai_M, ai_astR, h1, h2, h3, hi])
theorem rn_objInit {a : Nat} (hd : decode z.2.1 pc = .ok (.invokespecial idx, 3)) (hc : ai_mlk z.1.cls idx = some Lib.objectInit) (h1 : Cond.instanceMethod Lib.objectInit ∈ ai_tb) (h2 : Cond.code Lib.objectInit ⟨#[0xb1]⟩ 1 none ∈ ai_tb) (hs : (st.map fun v => v.category).sum ≤ 8) : Rn o (d + 1) z pc L (.ref a :: st) w r = Rn o (d + 1) z (pc + 3) L st w r := rn_M hd (by simp only [ai_M, hc, h1, h2, hs, if_pos, Nat.zero_lt_succ, and_self])
-- calls
theorem rn_cV {n b ci : Nat} {zz : ai_Mi} {As rest : List Value} {v : Option Value} {w' : ai_W} (hd : decode z.2.1 pc = .ok (.invokevirtual idx, 3)) (hc : ai_cV z.1.cls idx = some (zz.1, n, zz.2)) (hp : ai_popV n st = some (b, As, rest)) (hcl : ai_cl[ci]?.map (fun q => q.1) = some zz.1.cls) (hlen : (lg_sl (.ref b :: As)).length ≤ zz.2.2.1) (hk : b < w.1 ∧ (w.2.2.1 b).1 = ci + 3) (hE : Ev o d zz (.ref b :: As) w v w') : Rn o (d + 1) z pc L st w r = Rn o (d + 1) z (pc + 3) L (v.toList ++ rest) w' r := by
  refine rn_C (zz := zz) hd ⟨rfl, rfl, rfl, rfl, rfl⟩ ?_ hE
  unfold ai_C
  simp only [if_pos, hc, hp]
  rw [if_pos ⟨hk.1, by rw [hk.2]; exact hcl, by omega, hlen⟩]
theorem rn_cS {n : Nat} {zz : ai_Mi} {As rest : List Value} {v : Option Value} {w' : ai_W} (hd : decode z.2.1 pc = .ok (.invokestatic idx, 3)) (hne : ai_mlk z.1.cls idx ≠ some arraycopyName) (hnm : ai_isM z.1.cls idx = false) (hc : ai_cS z.1.cls idx = some (zz.1, n, zz.2)) (hp : ai_pop n st = some (As, rest)) (hlen : (lg_sl As).length ≤ zz.2.2.1) (hE : Ev o d zz As w v w') : Rn o (d + 1) z pc L st w r = Rn o (d + 1) z (pc + 3) L (v.toList ++ rest) w' r := by
  refine rn_C (zz := zz) hd ⟨rfl, rfl, rfl, by simp [ai_M, hne, ai_mth, hnm], rfl⟩ ?_ hE
  unfold ai_C
  simp only [if_pos, hc, hp]
  rw [if_pos hlen]
theorem rn_max (hd : decode z.2.1 pc = .ok (.invokestatic idx, 3)) (hne : ai_mlk z.1.cls idx ≠ some arraycopyName) (h1 : ai_mlk z.1.cls idx = some Lib.Math.max.name) (hm : ai_isM z.1.cls idx = true) (h2 : Cond.initialized "java/lang/Math" ∈ ai_tb ∧ Cond.static Lib.Math.max.name ∈ ai_tb ∧ Cond.code Lib.Math.max.name Lib.Math.max.code 2 (some .int) ∈ ai_tb) (hs : (st.map fun v => v.category).sum ≤ 8) : Rn o (d + 1) z pc L (.int y :: .int x :: st) w r = Rn o (d + 1) z (pc + 3) L (.int (if x < y then y else x) :: st) w r := rn_M hd (by
  unfold ai_M
  dsimp only
  rw [if_neg (fun q => hne q.2.2.1)]
  unfold ai_mth
  rw [if_neg (by rw [hm]; decide), if_pos ⟨rfl, Nat.succ_pos _, h2.1⟩, if_pos ⟨h1, h2.2.1, h2.2.2⟩]
  unfold ai_m2
  dsimp only
  rw [if_pos hs])
theorem rn_min (hd : decode z.2.1 pc = .ok (.invokestatic idx, 3)) (hne : ai_mlk z.1.cls idx ≠ some arraycopyName) (h0 : ai_mlk z.1.cls idx ≠ some Lib.Math.max.name) (h1 : ai_mlk z.1.cls idx = some Lib.Math.min.name) (hm : ai_isM z.1.cls idx = true) (h2 : Cond.initialized "java/lang/Math" ∈ ai_tb ∧ Cond.static Lib.Math.min.name ∈ ai_tb ∧ Cond.code Lib.Math.min.name Lib.Math.min.code 2 (some .int) ∈ ai_tb) (hs : (st.map fun v => v.category).sum ≤ 8) : Rn o (d + 1) z pc L (.int y :: .int x :: st) w r = Rn o (d + 1) z (pc + 3) L (.int (if y < x then y else x) :: st) w r := rn_M hd (by
  unfold ai_M
  dsimp only
  rw [if_neg (fun q => hne q.2.2.1)]
  unfold ai_mth
  rw [if_neg (by rw [hm]; decide), if_pos ⟨rfl, Nat.succ_pos _, h2.1⟩, if_neg (fun q => h0 q.1), if_pos ⟨h1, h2.2.1, h2.2.2⟩]
  unfold ai_m2
  dsimp only
  rw [if_pos hs])
theorem rn_abs (hd : decode z.2.1 pc = .ok (.invokestatic idx, 3)) (hne : ai_mlk z.1.cls idx ≠ some arraycopyName) (h0 : ai_mlk z.1.cls idx ≠ some Lib.Math.max.name) (h00 : ai_mlk z.1.cls idx ≠ some Lib.Math.min.name) (h1 : ai_mlk z.1.cls idx = some Lib.Math.abs.name) (hm : ai_isM z.1.cls idx = true) (h2 : Cond.initialized "java/lang/Math" ∈ ai_tb ∧ Cond.static Lib.Math.abs.name ∈ ai_tb ∧ Cond.code Lib.Math.abs.name Lib.Math.abs.code 1 (some .int) ∈ ai_tb) (hs : (st.map fun v => v.category).sum ≤ 8) : Rn o (d + 1) z pc L (.int x :: st) w r = Rn o (d + 1) z (pc + 3) L (.int (if 0 ≤ x then x else 0 - x) :: st) w r := rn_M hd (by
  unfold ai_M
  dsimp only
  rw [if_neg (fun q => hne q.2.2.1)]
  unfold ai_mth
  rw [if_neg (by rw [hm]; decide), if_pos ⟨rfl, Nat.succ_pos _, h2.1⟩, if_neg (fun q => h0 q.1), if_neg (fun q => h00 q.1), if_pos ⟨h1, h2.2.1, h2.2.2⟩]
  unfold ai_m1
  dsimp only
  rw [if_pos hs])
theorem rn_cI {n b : Nat} {zz : ai_Mi} {As rest : List Value} {v : Option Value} {w' : ai_W} (hd : decode z.2.1 pc = .ok (.invokespecial idx, 3)) (hne : ai_mlk z.1.cls idx ≠ some Lib.objectInit) (hc : ai_cI z.1.cls idx = some (zz.1, n, zz.2)) (hp : ai_popV n st = some (b, As, rest)) (hlen : (lg_sl (.ref b :: As)).length ≤ zz.2.2.1) (hE : Ev o d zz (.ref b :: As) w v w') : Rn o (d + 1) z pc L st w r = Rn o (d + 1) z (pc + 3) L (v.toList ++ rest) w' r := by
  refine rn_C (zz := zz) hd ⟨rfl, rfl, rfl, by simp [ai_M, hne], rfl⟩ ?_ hE
  unfold ai_C
  simp only [if_pos, hc, hp]
  rw [if_pos hlen]
theorem rn_cN {n b : Nat} {zz : ai_Mi} {As rest : List Value} {v : Option Value} {w' : ai_W} (hd : decode z.2.1 pc = .ok (.invokespecial idx, 3)) (hne : ai_mlk z.1.cls idx ≠ some Lib.objectInit) (hc0 : ai_cI z.1.cls idx = none) (hc : ai_cN z.1.cls idx = some (zz.1, n, zz.2)) (hp : ai_popV n st = some (b, As, rest)) (hlen : (lg_sl (.ref b :: As)).length ≤ zz.2.2.1) (hE : Ev o d zz (.ref b :: As) w v w') : Rn o (d + 1) z pc L st w r = Rn o (d + 1) z (pc + 3) L (v.toList ++ rest) w' r := by
  refine rn_C (zz := zz) hd ⟨rfl, rfl, rfl, by simp [ai_M, hne], rfl⟩ ?_ hE
  unfold ai_C
  simp only [if_pos, hc0, hc, hp]
  rw [if_pos hlen]
end RULES
