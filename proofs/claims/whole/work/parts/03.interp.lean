/-! THE MACHINE IN SMALL: an interpreter of the bytecode over a small picture of the heap; what it answers, the machine does (part 05) -/
/-- the world: how many cells, how many slots they took, kind and length of each (0 ints, 1 booleans, 2 Harbours, c + 3: object of class c), references, ints, longs -/
abbrev ai_W : Type := Nat × Nat × (Nat → Nat × Nat) × (Nat → Nat → Option Nat) × (Nat → Nat → Int32) × (Nat → Nat → Int64)
abbrev ai_cl : List vw_C := [(RX0, TX0, 3), (RX1, TX1, 2), (RX2, TX2, 7), (RX3, TX3, 5), (RX4, TX4, 4), (RX5, TX5, 2), (RX6, TX6, 10), (RX7, TX7, 12), (RX8, TX8, 37)]
def ai_ty (c k : Nat) : FieldType := match c with
  | 0 => tyX0 k
  | 1 => tyX1 k
  | 2 => tyX2 k
  | 3 => tyX3 k
  | 4 => tyX4 k
  | 5 => tyX5 k
  | 6 => tyX6 k
  | 7 => tyX7 k
  | _ => tyX8 k
/-- the words that hold in every state that the law comes to -/
def ai_tb : List Cond := lw_tbl.filter goodWord
/-- where arrays that were there before are named from -/
abbrev ai_O : Nat := 1000000000
def ai_cv (ad : Nat → Nat) (v : Value) : Value := match v with
  | .ref i => .ref (ad i)
  | v => v
-- words
def ai_fl (own : String) (idx : Nat) : Option (String × String × String) := ai_tb.findSome? fun w => match w with
  | .fieldLink o i r n d => if i = idx ∧ o = own then some (r, n, d) else none
  | _ => none
def ai_slot (r n d : String) : Option (Nat × Nat) := (List.range 9).findSome? fun ci => match ai_cl[ci]? with
  | some q => if q.1 = r then (List.range q.2.2).findSome? (fun k => if (q.2.1 k).2.1 = n ∧ (q.2.1 k).2.2.1 = d ∧ (q.2.1 k).1 = r then some (ci, k) else none) else none
  | none => none
/-- the field that an entry names: number of its class, its slot -/
def ai_fld (own : String) (idx : Nat) : Option (Nat × Nat) := match ai_fl own idx with
  | some q => ai_slot q.1 q.2.1 q.2.2
  | none => none
def ai_cst (own : String) (idx : Nat) : Option Int32 := ai_tb.findSome? fun w => match w with
  | .constant o i v => if i = idx ∧ o = own then some v else none
  | _ => none
def ai_cstL (own : String) (idx : Nat) : Option Int64 := ai_tb.findSome? fun w => match w with
  | .constantLong o i v => if i = idx ∧ o = own then some v else none
  | _ => none
def ai_clk (own : String) (idx : Nat) : Option String := ai_tb.findSome? fun w => match w with
  | .classLink o i v => if i = idx ∧ o = own then some v else none
  | _ => none
def ai_mlk (own : String) (idx : Nat) : Option MethodName := ai_tb.findSome? fun w => match w with
  | .methodLink o i v => if i = idx ∧ o = own then some v else none
  | _ => none
def ai_nlk (own : String) (idx : Nat) : Option (MethodName × String) := lw_tbl.findSome? fun w => match w with
  | .methodLinkNest o i v h => if i = idx ∧ o = own then some (v, h) else none
  | _ => none
def ai_code (y : MethodName) : Option (ByteArray × Nat × Option FieldType) := ai_tb.findSome? fun w => match w with
  | .code x b n r => if x = y then some (b, n, r) else none
  | _ => none
/-- the class that an entry names, by its number, if it can be made -/
def ai_cls (own : String) (idx : Nat) : Option Nat := match ai_clk own idx with
  | some C => (List.range 9).findSome? fun ci => match ai_cl[ci]? with
    | some q => if q.1 = C ∧ Cond.instantiable C q.2.2 ∈ ai_tb ∧ Cond.initialized C ∈ ai_tb then some ci else none
    | none => none
  | none => none
-- steps that touch neither locals nor heap
def ai_push (len n : Nat) (v : Value) (st : List Value) : Option (List Value) := if len = n then some (v :: st) else none
def ai_pushO (len n : Nat) (v : Option Value) (st : List Value) : Option (List Value) := match v with
  | some x => ai_push len n x st
  | none => none
def ai_ldi (len n : Nat) (L : List Value) (i : Nat) (st : List Value) : Option (List Value) := match L[i]? with
  | some (.int x) => ai_push len n (.int x) st
  | _ => none
def ai_ldl (len n : Nat) (L : List Value) (i : Nat) (st : List Value) : Option (List Value) := match L[i]? with
  | some (.long x) => ai_push len n (.long x) st
  | _ => none
def ai_lda (len n : Nat) (L : List Value) (i : Nat) (st : List Value) : Option (List Value) := match L[i]? with
  | some (.ref x) => ai_push len n (.ref x) st
  | _ => none
def ai_un (len : Nat) (f : Int32 → Value) (st : List Value) : Option (List Value) := match st with
  | .int x :: r => ai_push len 1 (f x) r
  | _ => none
def ai_unL (len : Nat) (f : Int64 → Value) (st : List Value) : Option (List Value) := match st with
  | .long x :: r => ai_push len 1 (f x) r
  | _ => none
def ai_bin (len : Nat) (f : Int32 → Int32 → Int32) (st : List Value) : Option (List Value) := match st with
  | .int y :: .int x :: r => ai_push len 1 (.int (f x y)) r
  | _ => none
def ai_binZ (len : Nat) (f : Int32 → Int32 → Int32) (st : List Value) : Option (List Value) := match st with
  | .int y :: .int x :: r => if y = 0 then none else ai_push len 1 (.int (f x y)) r
  | _ => none
def ai_binL (len : Nat) (f : Int64 → Int64 → Value) (st : List Value) : Option (List Value) := match st with
  | .long y :: .long x :: r => ai_push len 1 (f x y) r
  | _ => none
def ai_binLZ (len : Nat) (f : Int64 → Int64 → Int64) (st : List Value) : Option (List Value) := match st with
  | .long y :: .long x :: r => if y = 0 then none else ai_push len 1 (.long (f x y)) r
  | _ => none
def ai_shL (len : Nat) (f : Int64 → Int32 → Int64) (st : List Value) : Option (List Value) := match st with
  | .int y :: .long x :: r => ai_push len 1 (.long (f x y)) r
  | _ => none
def ai_A (own : String) (ins : Instr) (len : Nat) (L st : List Value) : Option (List Value) := match ins with
  | .iconst n => ai_push len 1 (.int (Int32.ofInt n)) st
  | .bipush n => ai_push len 2 (.int (Int8.ofInt n).toInt32) st
  | .sipush n => ai_push len 3 (.int (Int16.ofInt n).toInt32) st
  | .lconst n => ai_push len 1 (.long (Int64.ofNat n.val)) st
  | .ldc_w i => ai_pushO len 3 ((ai_cst own i).map Value.int) st
  | .ldc2_w i => ai_pushO len 3 ((ai_cstL own i).map Value.long) st
  | .iload i => ai_ldi len 2 L i st
  | .iload_n i => ai_ldi len 1 L i.val st
  | .lload i => ai_ldl len 2 L i st
  | .lload_n i => ai_ldl len 1 L i.val st
  | .aload i => ai_lda len 2 L i st
  | .aload_n i => ai_lda len 1 L i.val st
  | .iadd => ai_bin len (fun x y => x + y) st
  | .isub => ai_bin len (fun x y => x - y) st
  | .imul => ai_bin len (fun x y => x * y) st
  | .iand => ai_bin len (fun x y => x &&& y) st
  | .ior => ai_bin len (fun x y => x ||| y) st
  | .ixor => ai_bin len (fun x y => x ^^^ y) st
  | .ishl => ai_bin len (fun x y => x <<< (y &&& 31)) st
  | .ishr => ai_bin len (fun x y => x >>> (y &&& 31)) st
  | .iushr => ai_bin len (fun x y => (x.toUInt32 >>> (y.toUInt32 &&& Int32.toUInt32 31)).toInt32) st
  | .idiv => ai_binZ len (fun x y => x / y) st
  | .irem => ai_binZ len (fun x y => x - x / y * y) st
  | .ineg => ai_un len (fun x => .int (-x)) st
  | .i2l => ai_un len (fun x => .long x.toInt64) st
  | .l2i => ai_unL len (fun x => .int x.toInt32) st
  | .ladd => ai_binL len (fun x y => .long (x + y)) st
  | .lsub => ai_binL len (fun x y => .long (x - y)) st
  | .lmul => ai_binL len (fun x y => .long (x * y)) st
  | .land => ai_binL len (fun x y => .long (x &&& y)) st
  | .lor => ai_binL len (fun x y => .long (x ||| y)) st
  | .lcmp => ai_binL len (fun x y => .int (lg_cmp x y)) st
  | .ldiv => ai_binLZ len (fun x y => x / y) st
  | .lrem => ai_binLZ len (fun x y => x - x / y * y) st
  | .lshl => ai_shL len (fun x y => x <<< (y.toInt64 &&& 63)) st
  | .lushr => ai_shL len (fun x y => (x.toUInt64 >>> (y.toInt64.toUInt64 &&& Int64.toUInt64 63)).toInt64) st
  | .dup => match st with
    | a :: r => if a.category = 1 then ai_push len 1 a (a :: r) else none
    | _ => none
  | .dup2 => match st with
    | a :: b :: r => if a.category = 1 ∧ b.category = 1 then ai_push len 1 a (b :: a :: b :: r) else none
    | _ => none
  | .pop => match st with
    | a :: r => if a.category = 1 ∧ len = 1 then some r else none
    | _ => none
  | _ => none
-- steps that set a local
def ai_is2 (v : Option Value) : Bool := match v with
  | some (.long _) => true
  | some (.double _) => true
  | _ => false
def ai_sti (len n : Nat) (L : List Value) (i : Nat) (st : List Value) : Option (List Value × List Value) := match st with
  | .int x :: r => if len = n ∧ i < L.length ∧ (i = 0 ∨ ai_is2 L[i - 1]? = false) then some (L.set i (.int x), r) else none
  | _ => none
def ai_sta (len n : Nat) (L : List Value) (i : Nat) (st : List Value) : Option (List Value × List Value) := match st with
  | .ref x :: r => if len = n ∧ i < L.length ∧ (i = 0 ∨ ai_is2 L[i - 1]? = false) then some (L.set i (.ref x), r) else none
  | _ => none
def ai_stl (len n : Nat) (L : List Value) (i : Nat) (st : List Value) : Option (List Value × List Value) := match st with
  | .long x :: r => if len = n ∧ i + 1 < L.length ∧ (i = 0 ∨ ai_is2 L[i - 1]? = false) then some ((L.set i (.long x)).set (i + 1) .null, r) else none
  | _ => none
def ai_B (ins : Instr) (len : Nat) (L st : List Value) : Option (List Value × List Value) := match ins with
  | .istore i => ai_sti len 2 L i st
  | .istore_n i => ai_sti len 1 L i.val st
  | .lstore i => ai_stl len 2 L i st
  | .lstore_n i => ai_stl len 1 L i.val st
  | .astore i => ai_sta len 2 L i st
  | .astore_n i => ai_sta len 1 L i.val st
  | .iinc i n => match L[i]? with
    | some (.int x) => ai_sti len 3 L i (.int (x + Int32.ofInt n) :: st)
    | _ => none
  | _ => none
-- jumps
def ai_tg (pc : Nat) (off : Int) (st : List Value) : Option (Nat × List Value) := if 0 ≤ (pc : Int) + off then some (((pc : Int) + off).toNat, st) else none
def ai_br (b : Prop) (i : Decidable b) (len pc : Nat) (off : Int) (st : List Value) : Option (Nat × List Value) := if len = 3 ∧ 0 ≤ (pc : Int) + off then (if b then some (((pc : Int) + off).toNat, st) else some (pc + 3, st)) else none
def ai_cmp (c : ClassFile.Cond) (len pc : Nat) (off : Int) (x y : Int32) (st : List Value) : Option (Nat × List Value) := match c with
  | .eq => ai_br (x = y) inferInstance len pc off st
  | .ne => ai_br (¬ x = y) inferInstance len pc off st
  | .lt => ai_br (x < y) inferInstance len pc off st
  | .ge => ai_br (y ≤ x) inferInstance len pc off st
  | .gt => ai_br (y < x) inferInstance len pc off st
  | .le => ai_br (x ≤ y) inferInstance len pc off st
def ai_J (ins : Instr) (len pc : Nat) (st : List Value) : Option (Nat × List Value) := match ins with
  | .goto off => if len = 3 then ai_tg pc off st else none
  | .ifCond c off => match st with
    | .int x :: r => ai_cmp c len pc off x 0 r
    | _ => none
  | .if_icmp c off => match st with
    | .int y :: .int x :: r => ai_cmp c len pc off x y r
    | _ => none
  | .tableswitch d lo hi offs => match st with
    | .int x :: r => if x.toInt < lo ∨ hi < x.toInt then ai_tg pc d r else match offs[(x.toInt - lo).toNat]? with
      | some off => ai_tg pc off r
      | none => none
    | _ => none
  | .lookupswitch d ps => match st with
    | .int x :: r => if (ps.toList.zip (ps.toList.drop 1)).all (fun (a, next) => a.1 < next.1) = true then ai_tg pc (Op.lookupswitch.offset ps.toList d x.toInt) r else none
    | _ => none
  | _ => none
-- steps on the heap
def ai_up (f : Nat → Nat → Int32) (i j : Nat) (v : Int32) : Nat → Nat → Int32 := fun a => if a = i then upd (f a) j v else f a
def ai_upL (f : Nat → Nat → Int64) (i j : Nat) (v : Int64) : Nat → Nat → Int64 := fun a => if a = i then vp_updL (f a) j v else f a
def ai_upR (f : Nat → Nat → Option Nat) (i j : Nat) (v : Option Nat) : Nat → Nat → Option Nat := fun a => if a = i then va_up (f a) j v else f a
/-- a new cell of a kind, with its slots -/
def ai_mk (w : ai_W) (k sl : Nat) : ai_W := (w.1 + 1, w.2.1 + sl, va_up w.2.2.1 w.1 (k, sl), va_up w.2.2.2.1 w.1 (fun _ => none), va_up w.2.2.2.2.1 w.1 (fun _ => 0), va_up w.2.2.2.2.2 w.1 (fun _ => 0))
def ai_isRef (t : FieldType) : Bool := match t with
  | .object _ => true
  | .array _ => true
  | _ => false
def ai_get (own : String) (idx : Nat) (st : List Value) (w : ai_W) : Option (List Value) := match st with
  | .ref i :: r => match ai_fld own idx with
    | some q => if i < w.1 ∧ (w.2.2.1 i).1 = q.1 + 3 then
        (if ai_ty q.1 q.2 = .int then some (.int (w.2.2.2.2.1 i q.2) :: r)
        else if ai_ty q.1 q.2 = .long then some (.long (w.2.2.2.2.2 i q.2) :: r)
        else if ai_isRef (ai_ty q.1 q.2) = true then (match w.2.2.2.1 i q.2 with
          | some k => some (.ref k :: r)
          | none => none)
        else none) else none
    | none => none
  | _ => none
/-- may a field be written here: it isn't final, or this is its class's constructor -/
def ai_may (y : MethodName) (ci k : Nat) : Bool := match ai_cl[ci]? with
  | some q => decide ((q.2.1 k).2.2.2 = false ∨ (y.name = "<init>" ∧ (q.2.1 k).1 = y.cls))
  | none => false
def ai_put (y : MethodName) (idx : Nat) (st : List Value) (w : ai_W) : Option (List Value × ai_W) := match st with
  | .int x :: .ref i :: r => match ai_fld y.cls idx with
    | some q => if i < w.1 ∧ (w.2.2.1 i).1 = q.1 + 3 ∧ ai_may y q.1 q.2 = true ∧ ai_ty q.1 q.2 = .int then some (r, w.1, w.2.1, w.2.2.1, w.2.2.2.1, ai_up w.2.2.2.2.1 i q.2 x, w.2.2.2.2.2) else none
    | none => none
  | .long x :: .ref i :: r => match ai_fld y.cls idx with
    | some q => if i < w.1 ∧ (w.2.2.1 i).1 = q.1 + 3 ∧ ai_may y q.1 q.2 = true ∧ ai_ty q.1 q.2 = .long then some (r, w.1, w.2.1, w.2.2.1, w.2.2.2.1, w.2.2.2.2.1, ai_upL w.2.2.2.2.2 i q.2 x) else none
    | none => none
  | .ref x :: .ref i :: r => match ai_fld y.cls idx with
    | some q => if i < w.1 ∧ x < w.1 ∧ (w.2.2.1 i).1 = q.1 + 3 ∧ ai_may y q.1 q.2 = true ∧ ai_isRef (ai_ty q.1 q.2) = true then some (r, w.1, w.2.1, w.2.2.1, ai_upR w.2.2.2.1 i q.2 (some x), w.2.2.2.2.1, w.2.2.2.2.2) else none
    | none => none
  | _ => none
def ai_ald (k : Nat) (oL : Nat → Nat) (ox : Nat → Nat → Int32) (st : List Value) (w : ai_W) : Option (List Value) := match st with
  | .int x :: .ref i :: r => if i < w.1 then (if (w.2.2.1 i).1 = k ∧ ¬ (x < 0 ∨ (w.2.2.1 i).2 ≤ x.toNatClampNeg) then some (.int (w.2.2.2.2.1 i x.toNatClampNeg) :: r) else none)
      else if k = 0 ∧ ai_O ≤ i ∧ i < ai_O + 2 ∧ ¬ (x < 0 ∨ oL (i - ai_O) ≤ x.toNatClampNeg) then some (.int (ox (i - ai_O) x.toNatClampNeg) :: r) else none
  | _ => none
def ai_aldR (st : List Value) (w : ai_W) : Option (List Value) := match st with
  | .int x :: .ref i :: r => if i < w.1 ∧ (w.2.2.1 i).1 = 2 ∧ ¬ (x < 0 ∨ (w.2.2.1 i).2 ≤ x.toNatClampNeg) then (match w.2.2.2.1 i x.toNatClampNeg with
      | some k => some (.ref k :: r)
      | none => none) else none
  | _ => none
def ai_ast (k : Nat) (f : Int32 → Int32) (st : List Value) (w : ai_W) : Option (List Value × ai_W) := match st with
  | .int v :: .int x :: .ref i :: r => if i < w.1 ∧ (w.2.2.1 i).1 = k ∧ ¬ (x < 0 ∨ (w.2.2.1 i).2 ≤ x.toNatClampNeg) then some (r, w.1, w.2.1, w.2.2.1, w.2.2.2.1, ai_up w.2.2.2.2.1 i x.toNatClampNeg (f v), w.2.2.2.2.2) else none
  | _ => none
def ai_astR (st : List Value) (w : ai_W) : Option (List Value × ai_W) := match st with
  | .ref v :: .int x :: .ref i :: r => if i < w.1 ∧ v < w.1 ∧ (w.2.2.1 v).1 = 5 ∧ (w.2.2.1 i).1 = 2 ∧ ¬ (x < 0 ∨ (w.2.2.1 i).2 ≤ x.toNatClampNeg) then some (r, w.1, w.2.1, w.2.2.1, ai_upR w.2.2.2.1 i x.toNatClampNeg (some v), w.2.2.2.2.1, w.2.2.2.2.2) else none
  | _ => none
def ai_news (own : String) (idx : Nat) (st : List Value) (w : ai_W) : Option (List Value × ai_W) := match ai_cls own idx with
  | some ci => match ai_cl[ci]? with
    | some q => if w.1 < 1000000 then some (.ref w.1 :: st, ai_mk w (ci + 3) q.2.2) else none
    | none => none
  | none => none
def ai_newa (k : Nat) (ty : FieldType) (st : List Value) (w : ai_W) : Option (List Value × ai_W) := match st with
  | .int x :: r => if ¬ x < 0 ∧ x.toNatClampNeg ≤ 1000 ∧ Cond.arrayClass ty ∈ ai_tb ∧ w.1 < 1000000 then some (.ref w.1 :: r, ai_mk w k x.toNatClampNeg) else none
  | _ => none
def ai_newR (own : String) (idx : Nat) (st : List Value) (w : ai_W) : Option (List Value × ai_W) := match st with
  | .int x :: r => if ¬ x < 0 ∧ x.toNatClampNeg ≤ 1000 ∧ ai_clk own idx = some RX2 ∧ w.1 < 1000000 then some (.ref w.1 :: r, ai_mk w 2 x.toNatClampNeg) else none
  | _ => none
def ai_cpy (st : List Value) (w : ai_W) : Option (List Value × ai_W) := match st with
  | .int n :: .int dp :: .ref b :: .int sp :: .ref a :: r =>
    if a < w.1 ∧ b < w.1 ∧ (w.2.2.1 a).1 = 0 ∧ (w.2.2.1 b).1 = 0 ∧ ¬ sp < 0 ∧ ¬ dp < 0 ∧ ¬ n < 0 ∧ sp.toNatClampNeg + n.toNatClampNeg ≤ (w.2.2.1 a).2 ∧ dp.toNatClampNeg + n.toNatClampNeg ≤ (w.2.2.1 b).2 ∧ (r.map fun v => v.category).sum ≤ 8 then
      some (r, w.1, w.2.1, w.2.2.1, w.2.2.2.1, va_up w.2.2.2.2.1 b (va_cpy (w.2.2.2.2.1 a) (w.2.2.2.2.1 b) sp.toNatClampNeg dp.toNatClampNeg n.toNatClampNeg), w.2.2.2.2.2) else none
  | _ => none
/-- Math's own three, which the machine runs by itself -/
def ai_isM (own : String) (idx : Nat) : Bool := match ai_mlk own idx with
  | some z => decide (z = Lib.Math.max.name ∨ z = Lib.Math.min.name ∨ z = Lib.Math.abs.name)
  | none => false
def ai_m2 (f : Int32 → Int32 → Int32) (st : List Value) (w : ai_W) : Option (List Value × ai_W) := match st with
  | .int y :: .int x :: r => if (r.map fun v => v.category).sum ≤ 8 then some (.int (f x y) :: r, w) else none
  | _ => none
def ai_m1 (f : Int32 → Int32) (st : List Value) (w : ai_W) : Option (List Value × ai_W) := match st with
  | .int x :: r => if (r.map fun v => v.category).sum ≤ 8 then some (.int (f x) :: r, w) else none
  | _ => none
def ai_mth (own : String) (idx len d : Nat) (st : List Value) (w : ai_W) : Option (List Value × ai_W) := if ai_isM own idx = false then none else
  if len = 3 ∧ 0 < d ∧ Cond.initialized "java/lang/Math" ∈ ai_tb then
    (if ai_mlk own idx = some Lib.Math.max.name ∧ Cond.static Lib.Math.max.name ∈ ai_tb ∧ Cond.code Lib.Math.max.name Lib.Math.max.code 2 (some .int) ∈ ai_tb then ai_m2 (fun x y => if x < y then y else x) st w
    else if ai_mlk own idx = some Lib.Math.min.name ∧ Cond.static Lib.Math.min.name ∈ ai_tb ∧ Cond.code Lib.Math.min.name Lib.Math.min.code 2 (some .int) ∈ ai_tb then ai_m2 (fun x y => if y < x then y else x) st w
    else if ai_mlk own idx = some Lib.Math.abs.name ∧ Cond.static Lib.Math.abs.name ∈ ai_tb ∧ Cond.code Lib.Math.abs.name Lib.Math.abs.code 1 (some .int) ∈ ai_tb then ai_m1 (fun x => if 0 ≤ x then x else 0 - x) st w
    else none) else none
def ai_keep (o : Option (List Value)) (w : ai_W) : Option (List Value × ai_W) := match o with
  | some st => some (st, w)
  | none => none
/-- d: frames that are left -/
def ai_M (oL : Nat → Nat) (ox : Nat → Nat → Int32) (y : MethodName) (ins : Instr) (len d : Nat) (st : List Value) (w : ai_W) : Option (List Value × ai_W) := match ins with
  | .getfield i => if len = 3 then ai_keep (ai_get y.cls i st w) w else none
  | .putfield i => if len = 3 then ai_put y i st w else none
  | .iaload => if len = 1 then ai_keep (ai_ald 0 oL ox st w) w else none
  | .baload => if len = 1 then ai_keep (ai_ald 1 oL ox st w) w else none
  | .aaload => if len = 1 then ai_keep (ai_aldR st w) w else none
  | .iastore => if len = 1 then ai_ast 0 (fun x => x) st w else none
  | .bastore => if len = 1 then ai_ast 1 (fun x => vp_nar .boolean x) st w else none
  | .aastore => if len = 1 then ai_astR st w else none
  | .new i => if len = 3 then ai_news y.cls i st w else none
  | .newarray t => if len = 2 then (match t with
    | .int => ai_newa 0 .int st w
    | .boolean => ai_newa 1 .boolean st w
    | _ => none) else none
  | .anewarray i => if len = 3 then ai_newR y.cls i st w else none
  | .arraylength => if len = 1 then (match st with
    | .ref i :: r => if i = ai_O then some (.int (Int32.ofNat (oL 0)) :: r, w) else none
    | _ => none) else none
  | .getstatic i => if len = 3 ∧ ai_fl y.cls i = some ("SleepHarbour", "FACTORIAL", "[I") then some (.ref (ai_O + 1) :: st, w) else none
  | .invokestatic i => if len = 3 ∧ 0 < d ∧ ai_mlk y.cls i = some arraycopyName ∧ Cond.native arraycopyName ∈ ai_tb ∧ Cond.static arraycopyName ∈ ai_tb ∧ Cond.initialized "java/lang/System" ∈ ai_tb then ai_cpy st w else ai_mth y.cls i len d st w
  | .invokespecial i => if len = 3 ∧ 0 < d ∧ ai_mlk y.cls i = some Lib.objectInit ∧ Cond.instanceMethod Lib.objectInit ∈ ai_tb ∧ Cond.code Lib.objectInit ⟨#[0xb1]⟩ 1 none ∈ ai_tb then (match st with
    | .ref _ :: r => if (r.map fun v => v.category).sum ≤ 8 then some (r, w) else none
    | _ => none) else none
  | _ => none
-- returns
def ai_R (ret : Option FieldType) (ins : Instr) (len : Nat) (st : List Value) : Option (Option Value) := match ins with
  | .ireturn => match st with
    | [.int v] => if len = 1 ∧ ((ret = some .int) ∨ (ret = some .boolean ∧ narrow .boolean (.int v) = .int v)) then some (some (.int v)) else none
    | _ => none
  | .lreturn => match st with
    | [.long v] => if len = 1 ∧ ret = some .long then some (some (.long v)) else none
    | _ => none
  | .return_ => match st with
    | [] => if len = 1 ∧ ret = none then some none else none
    | _ => none
  | _ => none
-- calls: what stands of a method: its code, and what the machine asks of it
abbrev ai_Mi : Type := MethodName × ByteArray × Nat × Option FieldType
def ai_fine (z : MethodName) (n : Nat) (mi : ByteArray × Nat × Option FieldType) : Bool :=
  decide (z.cls ≠ "java/lang/invoke/MethodHandle" ∧ z.cls ≠ "java/lang/invoke/VarHandle" ∧ (parseMethodDescriptor z.desc).map (fun d => d.parameters.length) = some n ∧ Cond.initialized z.cls ∈ ai_tb ∧ plainFor z = true ∧ mi.2.1 ≤ 20)
def ai_np (z : MethodName) : Nat := match parseMethodDescriptor z.desc with
  | some d => d.parameters.length
  | none => 0
/-- a virtual call, by its entry: the method, how many arguments it takes -/
def ai_cV (own : String) (idx : Nat) : Option (MethodName × Nat × ByteArray × Nat × Option FieldType) := match ai_mlk own idx with
  | some z => match ai_code z with
    | some mi => if ai_fine z (ai_np z) mi = true ∧ Cond.instanceMethod z ∈ ai_tb ∧ Cond.selects z.cls z z ∈ ai_tb then some (z, ai_np z, mi) else none
    | none => none
  | none => none
def ai_cS (own : String) (idx : Nat) : Option (MethodName × Nat × ByteArray × Nat × Option FieldType) := match ai_mlk own idx with
  | some z => match ai_code z with
    | some mi => if ai_fine z (ai_np z) mi = true ∧ Cond.static z ∈ ai_tb then some (z, ai_np z, mi) else none
    | none => none
  | none => none
def ai_cI (own : String) (idx : Nat) : Option (MethodName × Nat × ByteArray × Nat × Option FieldType) := match ai_mlk own idx with
  | some z => match ai_code z with
    | some mi => if ai_fine z (ai_np z) mi = true ∧ z.name = "<init>" ∧ Cond.instanceMethod z ∈ ai_tb ∧ mi.2.2 = none then some (z, ai_np z, mi) else none
    | none => none
  | none => none
def ai_cN (own : String) (idx : Nat) : Option (MethodName × Nat × ByteArray × Nat × Option FieldType) := match ai_nlk own idx with
  | some q => match ai_code q.1 with
    | some mi => if ai_fine q.1 (ai_np q.1) mi = true ∧ q.1.name = "<init>" ∧ Cond.instanceMethod q.1 ∈ ai_tb ∧ mi.2.2 = none then some (q.1, ai_np q.1, mi) else none
    | none => none
  | none => none
/-- the arguments (first one first) and what is below them -/
def ai_pop (n : Nat) (st : List Value) : Option (List Value × List Value) := if n ≤ st.length ∧ ((st.drop n).map fun v => v.category).sum ≤ 8 then some ((st.take n).reverse, st.drop n) else none
def ai_popV (n : Nat) (st : List Value) : Option (Nat × List Value × List Value) := match ai_pop n st with
  | some (As, .ref b :: rest) => some (b, As, rest)
  | _ => none
/-- a call: the method, its code, all its arguments, what is below -/
def ai_C (y : MethodName) (ins : Instr) (len : Nat) (st : List Value) (w : ai_W) : Option ((MethodName × ByteArray × Nat × Option FieldType) × List Value × List Value) := match ins with
  | .invokevirtual i => if len = 3 then (match ai_cV y.cls i with
    | some (z, n, mi) => (match ai_popV n st with
      | some (b, As, rest) => if b < w.1 ∧ ai_cl[(w.2.2.1 b).1 - 3]?.map (fun q => q.1) = some z.cls ∧ 3 ≤ (w.2.2.1 b).1 ∧ (lg_sl (Value.ref b :: As)).length ≤ mi.2.1 then some ((z, mi), .ref b :: As, rest) else none
      | none => none)
    | none => none) else none
  | .invokestatic i => if len = 3 then (match ai_cS y.cls i with
    | some (z, n, mi) => (match ai_pop n st with
      | some (As, rest) => if (lg_sl As).length ≤ mi.2.1 then some ((z, mi), As, rest) else none
      | none => none)
    | none => none) else none
  | .invokespecial i => if len = 3 then (match ai_cI y.cls i with
    | some (z, n, mi) => (match ai_popV n st with
      | some (b, As, rest) => if (lg_sl (Value.ref b :: As)).length ≤ mi.2.1 then some ((z, mi), .ref b :: As, rest) else none
      | none => none)
    | none => match ai_cN y.cls i with
      | some (z, n, mi) => (match ai_popV n st with
        | some (b, As, rest) => if (lg_sl (Value.ref b :: As)).length ≤ mi.2.1 then some ((z, mi), .ref b :: As, rest) else none
        | none => none)
      | none => none) else none
  | _ => none
/-- a method's locals at its entry -/
def ai_ent (n : Nat) (As : List Value) : List Value := (As.flatMap fun v => if v.category = 2 then [v, Value.null] else [v]) ++ List.replicate (n - (lg_sl As).length) Value.null
def ai_run (oL : Nat → Nat) (ox : Nat → Nat → Int32) : Nat → Nat → MethodName × ByteArray × Nat × Option FieldType → Nat → List Value → List Value → ai_W → Option (Option Value × ai_W)
  | 0, _, _, _, _, _, _ => none
  | n + 1, d, y, pc, L, st, w => match decode y.2.1 pc with
    | .error _ => none
    | .ok (ins, len) => match ai_A y.1.cls ins len L st with
      | some st' => ai_run oL ox n d y (pc + len) L st' w
      | none => match ai_B ins len L st with
        | some (L', st') => ai_run oL ox n d y (pc + len) L' st' w
        | none => match ai_J ins len pc st with
          | some (pc', st') => ai_run oL ox n d y pc' L st' w
          | none => match ai_M oL ox y.1 ins len d st w with
            | some (st', w') => ai_run oL ox n d y (pc + len) L st' w'
            | none => match ai_R y.2.2.2 ins len st with
              | some r => some (r, w)
              | none => match ai_C y.1 ins len st w with
                | some (z, As, rest) => match d with
                  | 0 => none
                  | d' + 1 => match ai_run oL ox n d' z 0 (ai_ent z.2.2.1 As) [] w with
                    | some (v, w') => ai_run oL ox n (d' + 1) y (pc + 3) L (v.toList ++ rest) w'
                    | none => none
                | none => none
