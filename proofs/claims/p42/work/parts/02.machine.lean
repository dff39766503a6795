/-! THE SMALL MACHINE: cells in a list, references are places in it; a program is tables -/
abbrev e_C : Type := (Bool × List Int32) ⊕ (Nat × List Value)
def e_cv (ad : Nat → Nat) (v : Value) : Value := match v with
  | .ref k => .ref (ad k)
  | .int x => .int x
  | .long x => .long x
  | .float x => .float x
  | .double x => .double x
  | .null => .null
  | .retAddr x => .retAddr x
def e_sz (c : e_C) : Nat := match c with
  | .inl a => a.2.length
  | .inr o => o.2.length
def e_sl (mem : List e_C) : Nat := (mem.map e_sz).sum
abbrev e_Pg : Type := (Nat → Nat → Option (Instr × Nat)) × (Nat → MethodName × ByteArray × Nat × Option FieldType) × (Nat → Nat → Option (Nat × Nat × FieldType × Bool)) × (Nat → Nat → Option (Nat × Nat × Nat × Bool)) × (Nat → Nat → Option (Nat × List Value)) × (Nat → Nat → Option Value) × (Nat → Nat × Nat × Bool) × Nat × (Nat → Option (List Int32))
/-- the instruction at a place -/
abbrev e_code (P : e_Pg) : Nat → Nat → Option (Instr × Nat) := P.1
/-- a method: name, bytes, locals, what it returns -/
abbrev e_mth (P : e_Pg) : Nat → MethodName × ByteArray × Nat × Option FieldType := P.2.1
/-- a field by its pool number: class, place, type, may not be put here -/
abbrev e_fld (P : e_Pg) : Nat → Nat → Option (Nat × Nat × FieldType × Bool) := P.2.2.1
/-- a callee by its pool number: method (0: Object's constructor), parameters, class (99: static), nest mate -/
abbrev e_cal (P : e_Pg) : Nat → Nat → Option (Nat × Nat × Nat × Bool) := P.2.2.2.1
/-- a class by its pool number, with a new object's fields -/
abbrev e_new (P : e_Pg) : Nat → Nat → Option (Nat × List Value) := P.2.2.2.2.1
/-- a constant -/
abbrev e_con (P : e_Pg) : Nat → Nat → Option Value := P.2.2.2.2.2.1
/-- frames, locals, is it a constructor -/
abbrev e_rmo (P : e_Pg) : Nat → Nat × Nat × Bool := P.2.2.2.2.2.2.1
/-- how many cells may only be read -/
abbrev e_ro (P : e_Pg) : Nat := P.2.2.2.2.2.2.2.1
/-- the bytes of a text, by its place -/
abbrev e_txt (P : e_Pg) : Nat → Option (List Int32) := P.2.2.2.2.2.2.2.2
def e_get : List (Nat × Value) → Nat → Option Value
  | [], _ => none
  | q :: r, i => bif q.1 == i then some q.2 else e_get r i
def e_put1 (lv : List (Nat × Value)) (i : Nat) (v : Value) : List (Nat × Value) := (i, v) :: lv.filter (fun q => !(q.1 == i) && !(q.1 + 1 == i && q.2.category == 2))
def e_put2 (lv : List (Nat × Value)) (i : Nat) (v : Value) : List (Nat × Value) := (i, v) :: lv.filter (fun q => !(q.1 == i) && (!(q.1 == i + 1) && !(q.1 + 1 == i && q.2.category == 2)))
abbrev e_F : Type := Nat × List (Nat × Value) × List Value × List e_C
def e_tgt (pc : Nat) (off : Int) : Option Nat := match (pc : Int) + off with
  | .ofNat t => some t
  | .negSucc _ => none
def e_fit (ty : FieldType) (v : Value) : Bool := match ty, v with
  | .int, .int _ => true
  | .boolean, .int x => decide (x = 0) || decide (x = 1)
  | .long, .long _ => true
  | .object _, .ref _ => true
  | .array _, .ref _ => true
  | _, _ => false
def e_len (i : Instr) : Nat := match i with
  | .aload _ | .astore _ | .bipush _ | .iload _ | .istore _ | .ldc _ | .lload _ | .lstore _ | .newarray _ => 2
  | .getfield _ | .putfield _ | .goto _ | .if_icmp _ _ | .ifCond _ _ | .iinc _ _ | .invokespecial _ | .invokestatic _ | .invokevirtual _ | .ldc_w _ | .ldc2_w _ | .new _ | .sipush _ => 3
  | .tableswitch _ _ _ _ => 0
  | _ => 1
def e_jmp (pc : Nat) (off : Int) (lv : List (Nat × Value)) (st : List Value) (mem : List e_C) : Option e_F := match e_tgt pc off with
  | some t => some (t, lv, st, mem)
  | none => none
def e_if (b : Bool) (pc : Nat) (off : Int) (lv : List (Nat × Value)) (st : List Value) (mem : List e_C) : Option e_F := match e_tgt pc off with
  | some t => bif b then some (t, lv, st, mem) else some (pc + 3, lv, st, mem)
  | none => none
def e_c1 (c : ClassFile.Cond) (x : Int32) : Bool := match c with
  | .eq => decide (x = 0)
  | .ne => !decide (x = 0)
  | .lt => decide (x < 0)
  | .ge => decide (0 ≤ x)
  | .gt => decide (0 < x)
  | .le => decide (x ≤ 0)
def e_c2 (c : ClassFile.Cond) (x y : Int32) : Bool := match c with
  | .eq => decide (x = y)
  | .ne => !decide (x = y)
  | .lt => decide (x < y)
  | .ge => decide (y ≤ x)
  | .gt => decide (y < x)
  | .le => decide (x ≤ y)
section EOPS
variable (pc : Nat) (lv : List (Nat × Value)) (st : List Value) (mem : List e_C)
def e_iload (i : Nat) : Option e_F := match e_get lv i with
  | some (.int x) => some (pc, lv, .int x :: st, mem)
  | _ => none
def e_lload (i : Nat) : Option e_F := match e_get lv i with
  | some (.long x) => some (pc, lv, .long x :: st, mem)
  | _ => none
def e_aload (i : Nat) : Option e_F := match e_get lv i with
  | some (.ref x) => some (pc, lv, .ref x :: st, mem)
  | _ => none
def e_istore (nL i : Nat) : Option e_F := match st with
  | .int x :: r => bif Nat.blt i nL then some (pc, e_put1 lv i (.int x), r, mem) else none
  | _ => none
def e_lstore (nL i : Nat) : Option e_F := match st with
  | .long x :: r => bif Nat.blt (i + 1) nL then some (pc, e_put2 lv i (.long x), r, mem) else none
  | _ => none
def e_astore (nL i : Nat) : Option e_F := match st with
  | .ref x :: r => bif Nat.blt i nL then some (pc, e_put1 lv i (.ref x), r, mem) else none
  | _ => none
def e_iinc (nL i : Nat) (n : Int) : Option e_F := match e_get lv i with
  | some (.int x) => bif Nat.blt i nL then some (pc, e_put1 lv i (.int (x + Int32.ofInt n)), st, mem) else none
  | _ => none
def e_i1 (f : Int32 → Int32) : Option e_F := match st with
  | .int x :: r => some (pc, lv, .int (f x) :: r, mem)
  | _ => none
def e_i2l : Option e_F := match st with
  | .int x :: r => some (pc, lv, .long x.toInt64 :: r, mem)
  | _ => none
def e_i2 (f : Int32 → Int32 → Int32) : Option e_F := match st with
  | .int y :: .int x :: r => some (pc, lv, .int (f x y) :: r, mem)
  | _ => none
def e_i2z (f : Int32 → Int32 → Int32) : Option e_F := match st with
  | .int y :: .int x :: r => bif decide (y = 0) then none else some (pc, lv, .int (f x y) :: r, mem)
  | _ => none
def e_l2 (f : Int64 → Int64 → Int64) : Option e_F := match st with
  | .long y :: .long x :: r => some (pc, lv, .long (f x y) :: r, mem)
  | _ => none
def e_l2z (f : Int64 → Int64 → Int64) : Option e_F := match st with
  | .long y :: .long x :: r => bif decide (y = 0) then none else some (pc, lv, .long (f x y) :: r, mem)
  | _ => none
def e_lcmp : Option e_F := match st with
  | .long y :: .long x :: r => some (pc, lv, .int (lg_cmp x y) :: r, mem)
  | _ => none
def e_dup : Option e_F := match st with
  | v :: r => bif v.category == 1 then some (pc, lv, v :: v :: r, mem) else none
  | _ => none
def e_pop : Option e_F := match st with
  | v :: r => bif v.category == 1 then some (pc, lv, r, mem) else none
  | _ => none
def e_pop2 : Option e_F := match st with
  | v :: r => bif v.category == 2 then some (pc, lv, r, mem) else none
  | _ => none
def e_dup2 : Option e_F := match st with
  | v :: w :: r => bif v.category == 1 && w.category == 1 then some (pc, lv, v :: w :: v :: w :: r, mem) else none
  | _ => none
def e_alen : Option e_F := match st with
  | .ref q :: r => match mem[q]? with
    | some (.inl a) => some (pc, lv, .int (Int32.ofNat a.2.length) :: r, mem)
    | _ => none
  | _ => none
def e_ald (z : Bool) : Option e_F := match st with
  | .int j :: .ref q :: r => match mem[q]? with
    | some (.inl a) => bif a.1 == z && !decide (j < 0) then (match a.2[j.toNatClampNeg]? with
      | some x => some (pc, lv, .int x :: r, mem)
      | none => none) else none
    | _ => none
  | _ => none
def e_ast (ro : Nat) (z : Bool) : Option e_F := match st with
  | .int x :: .int j :: .ref q :: r => match mem[q]? with
    | some (.inl a) => bif a.1 == z && (!decide (j < 0) && (Nat.blt j.toNatClampNeg a.2.length && (Nat.ble ro q && (!z || e_fit .boolean (.int x))))) then some (pc, lv, r, mem.set q (.inl (a.1, a.2.set j.toNatClampNeg x))) else none
    | _ => none
  | _ => none
def e_getf (x : Option (Nat × Nat × FieldType × Bool)) : Option e_F := match x, st with
  | some f, .ref q :: r => match mem[q]? with
    | some (.inr o) => bif o.1 == f.1 then (match o.2[f.2.1]? with
      | some v => some (pc, lv, v :: r, mem)
      | none => none) else none
    | _ => none
  | _, _ => none
def e_putf (ro : Nat) (x : Option (Nat × Nat × FieldType × Bool)) : Option e_F := match x, st with
  | some f, v :: .ref q :: r => match mem[q]? with
    | some (.inr o) => bif o.1 == f.1 && (Nat.blt f.2.1 o.2.length && (e_fit f.2.2.1 v && (!f.2.2.2 && Nat.ble ro q))) then some (pc, lv, r, mem.set q (.inr (o.1, o.2.set f.2.1 v))) else none
    | _ => none
  | _, _ => none
def e_low (st : List Value) : Bool := Nat.ble (st.map fun v => v.category).sum 8
def e_wr {α : Type} : List α → Nat → List α → List α
  | [], _, ys => ys
  | x :: l, i, ys => e_wr l (i + 1) (ys.set i x)
/-- System.arraycopy between rows of ints -/
def e_acp (ro : Nat) : Option e_F := match st with
  | .int n :: .int dp :: .ref q1 :: .int sp :: .ref q0 :: r => match mem[q0]?, mem[q1]? with
    | some (.inl a), some (.inl b) => bif !a.1 && (!b.1 && (!decide (sp < 0) && (!decide (dp < 0) && (!decide (n < 0) && (Nat.ble (sp.toNatClampNeg + n.toNatClampNeg) a.2.length && (Nat.ble (dp.toNatClampNeg + n.toNatClampNeg) b.2.length && (Nat.ble ro q1 && e_low r))))))) then some (pc, lv, r, mem.set q1 (.inl (b.1, e_wr ((a.2.drop sp.toNatClampNeg).take n.toNatClampNeg) dp.toNatClampNeg b.2))) else none
    | _, _ => none
  | _ => none
/-- Math.min of two ints -/
def e_min : Option e_F := match st with
  | .int y :: .int x :: r => bif e_low r then some (pc, lv, .int (if y < x then y else x) :: r, mem) else none
  | _ => none
/-- Math.max of two ints -/
def e_max : Option e_F := match st with
  | .int y :: .int x :: r => bif e_low r then some (pc, lv, .int (if x < y then y else x) :: r, mem) else none
  | _ => none
def e_newo (x : Option (Nat × List Value)) : Option e_F := match x with
  | some o => some (pc, lv, .ref mem.length :: st, mem ++ [.inr o])
  | none => none
def e_newa (z : Bool) : Option e_F := match st with
  | .int n :: r => bif !decide (n < 0) && decide (n ≤ 65535) then some (pc, lv, .ref mem.length :: r, mem ++ [.inl (z, List.replicate n.toNatClampNeg 0)]) else none
  | _ => none
def e_ldi (x : Option Value) : Option e_F := match x with
  | some (.int v) => some (pc, lv, .int v :: st, mem)
  | some (.ref q) => some (pc, lv, .ref q :: st, mem)
  | _ => none
def e_ldw (x : Option Value) : Option e_F := match x with
  | some (.int v) => some (pc, lv, .int v :: st, mem)
  | _ => none
def e_ldl (x : Option Value) : Option e_F := match x with
  | some (.long v) => some (pc, lv, .long v :: st, mem)
  | _ => none
def e_tsw (pc0 : Nat) (d lo hi : Int) (offs : Array Int) : Option e_F := match st with
  | .int x :: r => bif decide (x.toInt < lo) || decide (hi < x.toInt) then e_jmp pc0 d lv r mem else (match offs.toList[(x.toInt - lo).toNat]? with
    | some o => e_jmp pc0 o lv r mem
    | none => none)
  | _ => none
end EOPS
/-- one instruction that neither calls nor returns -/
def e_step (P : e_Pg) (k : Nat) (i : Instr) (pc : Nat) (lv : List (Nat × Value)) (st : List Value) (mem : List e_C) : Option e_F := match i with
  | .aload n => e_aload (pc + 2) lv st mem n
  | .aload_n n => e_aload (pc + 1) lv st mem n.val
  | .arraylength => e_alen (pc + 1) lv st mem
  | .astore n => e_astore (pc + 2) lv st mem (e_mth P k).2.2.1 n
  | .astore_n n => e_astore (pc + 1) lv st mem (e_mth P k).2.2.1 n.val
  | .baload => e_ald (pc + 1) lv st mem true
  | .bastore => e_ast (pc + 1) lv st mem (e_ro P) true
  | .bipush n => some (pc + 2, lv, .int (Int8.ofInt n).toInt32 :: st, mem)
  | .dup => e_dup (pc + 1) lv st mem
  | .dup2 => e_dup2 (pc + 1) lv st mem
  | .getfield n => e_getf (pc + 3) lv st mem (e_fld P k n)
  | .goto o => e_jmp pc o lv st mem
  | .i2b => e_i1 (pc + 1) lv st mem (fun x => x.toInt8.toInt32)
  | .i2l => e_i2l (pc + 1) lv st mem
  | .i2s => e_i1 (pc + 1) lv st mem (fun x => x.toInt16.toInt32)
  | .iadd => e_i2 (pc + 1) lv st mem (fun x y => x + y)
  | .iaload => e_ald (pc + 1) lv st mem false
  | .iand => e_i2 (pc + 1) lv st mem (fun x y => x &&& y)
  | .iastore => e_ast (pc + 1) lv st mem (e_ro P) false
  | .iconst n => some (pc + 1, lv, .int (Int32.ofInt n) :: st, mem)
  | .idiv => e_i2z (pc + 1) lv st mem (fun x y => x / y)
  | .if_icmp c o => match st with
    | .int y :: .int x :: r => e_if (e_c2 c x y) pc o lv r mem
    | _ => none
  | .ifCond c o => match st with
    | .int x :: r => e_if (e_c1 c x) pc o lv r mem
    | _ => none
  | .iinc n d => e_iinc (pc + 3) lv st mem (e_mth P k).2.2.1 n d
  | .iload n => e_iload (pc + 2) lv st mem n
  | .iload_n n => e_iload (pc + 1) lv st mem n.val
  | .imul => e_i2 (pc + 1) lv st mem (fun x y => x * y)
  | .ior => e_i2 (pc + 1) lv st mem (fun x y => x ||| y)
  | .irem => e_i2z (pc + 1) lv st mem (fun x y => x - x / y * y)
  | .ishl => e_i2 (pc + 1) lv st mem (fun x y => x <<< (y &&& 31))
  | .ishr => e_i2 (pc + 1) lv st mem (fun x y => x >>> (y &&& 31))
  | .istore n => e_istore (pc + 2) lv st mem (e_mth P k).2.2.1 n
  | .istore_n n => e_istore (pc + 1) lv st mem (e_mth P k).2.2.1 n.val
  | .isub => e_i2 (pc + 1) lv st mem (fun x y => x - y)
  | .iushr => e_i2 (pc + 1) lv st mem (fun x y => (x.toUInt32 >>> (y.toUInt32 &&& Int32.toUInt32 31)).toInt32)
  | .ixor => e_i2 (pc + 1) lv st mem (fun x y => x ^^^ y)
  | .ladd => e_l2 (pc + 1) lv st mem (fun x y => x + y)
  | .lcmp => e_lcmp (pc + 1) lv st mem
  | .lconst n => some (pc + 1, lv, .long (Int64.ofNat n.val) :: st, mem)
  | .ldc n => e_ldi (pc + 2) lv st mem (e_con P k n)
  | .ldc_w n => e_ldw (pc + 3) lv st mem (e_con P k n)
  | .ldc2_w n => e_ldl (pc + 3) lv st mem (e_con P k n)
  | .ldiv => e_l2z (pc + 1) lv st mem (fun x y => x / y)
  | .lload n => e_lload (pc + 2) lv st mem n
  | .lload_n n => e_lload (pc + 1) lv st mem n.val
  | .lmul => e_l2 (pc + 1) lv st mem (fun x y => x * y)
  | .lrem => e_l2z (pc + 1) lv st mem (fun x y => x - x / y * y)
  | .lstore n => e_lstore (pc + 2) lv st mem (e_mth P k).2.2.1 n
  | .lstore_n n => e_lstore (pc + 1) lv st mem (e_mth P k).2.2.1 n.val
  | .new n => e_newo (pc + 3) lv st mem (e_new P k n)
  | .newarray t => match t with
    | .int => e_newa (pc + 2) lv st mem false
    | .boolean => e_newa (pc + 2) lv st mem true
    | _ => none
  | .pop => e_pop (pc + 1) lv st mem
  | .pop2 => e_pop2 (pc + 1) lv st mem
  | .putfield n => e_putf (pc + 3) lv st mem (e_ro P) (e_fld P k n)
  | .sipush n => some (pc + 3, lv, .int (Int16.ofInt n).toInt32 :: st, mem)
  | .tableswitch d lo hi offs => e_tsw lv st mem pc d lo hi offs
  | _ => none
abbrev e_R : Type := Nat → Nat → List (Nat × Value) → List Value → List e_C → Option (Option Value × List e_C)
/-- a return: its value, as the method's type has it -/
def e_ret (ty : Option FieldType) (i : Instr) (st : List Value) : Option (Option Value) := match i, ty, st with
  | .ireturn, some .int, [.int x] => some (some (.int x))
  | .ireturn, some .boolean, [.int x] => bif e_fit .boolean (.int x) then some (some (.int x)) else none
  | .lreturn, some .long, [.long x] => some (some (.long x))
  | .areturn, some (.object _), [.ref x] => some (some (.ref x))
  | .return_, none, [] => some none
  | _, _, _ => none
def e_room (P : e_Pg) (k j : Nat) (vs : List Value) : Bool := Nat.ble (vs.map fun v => v.category).sum (e_mth P j).2.2.1 && (Nat.ble ((e_rmo P j).1 + 1) (e_rmo P k).1 && Nat.ble (8 + ((e_mth P j).2.2.1 + 11) + (e_rmo P j).2.1) (e_rmo P k).2.1)
/-- behind a call -/
def e_aft (rc : e_R) (k pc : Nat) (lv : List (Nat × Value)) (rest : List Value) (x : Option (Option Value × List e_C)) : Option (Option Value × List e_C) := match x with
  | some y => rc k pc lv (y.1.toList ++ rest) y.2
  | none => none
/-- length() and charAt() of a text -/
def e_sb (P : e_Pg) (k cd : Nat) (st : List Value) : Option (Int32 × List Value) := match st with
  | .ref q :: rest => match e_txt P q with
    | some b => bif cd == 95 && (e_low rest && (Nat.ble 4 (e_rmo P k).1 && Nat.ble 85 (e_rmo P k).2.1)) then some (Int32.ofNat b.length, rest) else none
    | none => none
  | .int j :: .ref q :: rest => match e_txt P q with
    | some b => match b[j.toNatClampNeg]? with
      | some x => bif cd == 94 && (!decide (j < 0) && (e_low rest && (Nat.ble 4 (e_rmo P k).1 && Nat.ble 85 (e_rmo P k).2.1))) then some (x, rest) else none
      | none => none
    | none => none
  | _ => none
def e_sgo (P : e_Pg) (rc : e_R) (k pc : Nat) (lv : List (Nat × Value)) (st : List Value) (mem : List e_C) (sp : Bool) (cd : Nat) : Option (Option Value × List e_C) := bif sp then none else (match e_sb P k cd st with
  | some r => rc k (pc + 3) lv (.int r.1 :: r.2) mem
  | none => none)
def e_inv (P : e_Pg) (rc : e_R) (k pc : Nat) (lv : List (Nat × Value)) (st : List Value) (mem : List e_C) (sp : Bool) (i : Nat) : Option (Option Value × List e_C) := match e_cal P k i with
  | none => none
  | some f => match st.drop f.2.1 with
    | .ref q :: rest => bif f.1 == 0 then (bif sp && (f.2.1 == 0 && (f.2.2.1 == 0 && (e_low rest && (Nat.ble 1 (e_rmo P k).1 && Nat.ble 20 (e_rmo P k).2.1)))) then rc k (pc + 3) lv rest mem else e_sgo P rc k pc lv st mem sp f.2.2.1) else
        match mem[q]? with
        | some (.inr o) => bif o.1 == f.2.2.1 && (!(f.2.2.1 == 99) && (e_low rest && (e_room P k f.1 (.ref q :: (st.take f.2.1).reverse) && (sp == (e_rmo P f.1).2.2)))) then e_aft rc k (pc + 3) lv rest (rc f.1 0 (lv_args 0 (.ref q :: (st.take f.2.1).reverse)) [] mem) else none
        | _ => none
    | _ => none
def e_go (rc : e_R) (k : Nat) (x : Option e_F) : Option (Option Value × List e_C) := match x with
  | some f => rc k f.1 f.2.1 f.2.2.1 f.2.2.2
  | none => none
/-- what is built in: its number, and the room that it takes -/
def e_bli (P : e_Pg) (k cd : Nat) (pc : Nat) (lv : List (Nat × Value)) (st : List Value) (mem : List e_C) : Option e_F := bif Nat.ble 1 (e_rmo P k).1 && Nat.ble 26 (e_rmo P k).2.1 then (bif cd == 98 then e_acp (pc + 3) lv st mem (e_ro P) else bif cd == 97 then e_min (pc + 3) lv st mem else bif cd == 96 then e_max (pc + 3) lv st mem else none) else none
def e_ivs (P : e_Pg) (rc : e_R) (k pc : Nat) (lv : List (Nat × Value)) (st : List Value) (mem : List e_C) (i : Nat) : Option (Option Value × List e_C) := match e_cal P k i with
  | none => none
  | some f => bif f.1 == 0 then e_go rc k (e_bli P k f.2.2.1 pc lv st mem) else (bif Nat.ble f.2.1 st.length && (e_low (st.drop f.2.1) && (e_room P k f.1 (st.take f.2.1).reverse && f.2.2.1 == 99)) then e_aft rc k (pc + 3) lv (st.drop f.2.1) (rc f.1 0 (lv_args 0 (st.take f.2.1).reverse) [] mem) else none)
def e_rt (mem : List e_C) (x : Option (Option Value)) : Option (Option Value × List e_C) := match x with
  | some r => some (r, mem)
  | none => none
def e_one (P : e_Pg) (rc : e_R) (k pc : Nat) (lv : List (Nat × Value)) (st : List Value) (mem : List e_C) (i : Instr) : Option (Option Value × List e_C) := match i with
  | .invokevirtual n => e_inv P rc k pc lv st mem false n
  | .invokespecial n => e_inv P rc k pc lv st mem true n
  | .invokestatic n => e_ivs P rc k pc lv st mem n
  | .ireturn => e_rt mem (e_ret (e_mth P k).2.2.2 .ireturn st)
  | .lreturn => e_rt mem (e_ret (e_mth P k).2.2.2 .lreturn st)
  | .areturn => e_rt mem (e_ret (e_mth P k).2.2.2 .areturn st)
  | .return_ => e_rt mem (e_ret (e_mth P k).2.2.2 .return_ st)
  | i => e_go rc k (e_step P k i pc lv st mem)
def e_body (P : e_Pg) (rc : e_R) (k pc : Nat) (lv : List (Nat × Value)) (st : List Value) (mem : List e_C) : Option (Option Value × List e_C) := match e_code P k pc with
  | some x => bif x.2 == e_len x.1 || e_len x.1 == 0 then e_one P rc k pc lv st mem x.1 else none
  | none => none
/-- n steps at most: what the method answers, and the cells then -/
noncomputable def e_run (P : e_Pg) (n : Nat) : e_R := Nat.rec (motive := fun _ => e_R) (fun _ _ _ _ _ => none) (fun _ rc => e_body P rc) n
theorem e_run_succ (P : e_Pg) (n : Nat) : e_run P (n + 1) = e_body P (e_run P n) := rfl
theorem e_run_zero (P : e_Pg) : e_run P 0 = fun _ _ _ _ _ => none := rfl
