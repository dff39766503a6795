section
/-! THE SMALL MACHINE: cells in a list, references are places in it; a program is tables -/
abbrev e_C : Type := (Bool × List Int32) ⊕ (Nat × List Value)
def e_cv (ad : Nat → Nat) (v : Value) : Value := match v with
  | .ref k => .ref (ad k)
  | .int x => .int x
  | .long x => .long x
  | .float x => .float x
  | .double x => .double x
  | .null => .null
  | .retAddr x => .retAddr x
def e_sz (c : e_C) : Nat := match c with
  | .inl a => a.2.length
  | .inr o => o.2.length
def e_sl (mem : List e_C) : Nat := (mem.map e_sz).sum
abbrev e_Pg : Type := (Nat → Nat → Option (Instr × Nat)) × (Nat → MethodName × ByteArray × Nat × Option FieldType) × (Nat → Nat → Option (Nat × Nat × FieldType × Bool)) × (Nat → Nat → Option (Nat × Nat × Nat × Bool)) × (Nat → Nat → Option (Nat × List Value)) × (Nat → Nat → Option Value) × (Nat → Nat × Nat × Bool) × Nat × (Nat → Option (List Int32))
/-- the instruction at a place -/
abbrev e_code (P : e_Pg) : Nat → Nat → Option (Instr × Nat) := P.1
/-- a method: name, bytes, locals, what it returns -/
abbrev e_mth (P : e_Pg) : Nat → MethodName × ByteArray × Nat × Option FieldType := P.2.1
/-- a field by its pool number: class, place, type, may not be put here -/
abbrev e_fld (P : e_Pg) : Nat → Nat → Option (Nat × Nat × FieldType × Bool) := P.2.2.1
/-- a callee by its pool number: method (0: Object's constructor), parameters, class (99: static), nest mate -/
abbrev e_cal (P : e_Pg) : Nat → Nat → Option (Nat × Nat × Nat × Bool) := P.2.2.2.1
/-- a class by its pool number, with a new object's fields -/
abbrev e_new (P : e_Pg) : Nat → Nat → Option (Nat × List Value) := P.2.2.2.2.1
/-- a constant -/
abbrev e_con (P : e_Pg) : Nat → Nat → Option Value := P.2.2.2.2.2.1
/-- frames, locals, is it a constructor -/
abbrev e_rmo (P : e_Pg) : Nat → Nat × Nat × Bool := P.2.2.2.2.2.2.1
/-- how many cells may only be read -/
abbrev e_ro (P : e_Pg) : Nat := P.2.2.2.2.2.2.2.1
/-- the bytes of a text, by its place -/
abbrev e_txt (P : e_Pg) : Nat → Option (List Int32) := P.2.2.2.2.2.2.2.2
def e_get : List (Nat × Value) → Nat → Option Value
  | [], _ => none
  | q :: r, i => bif q.1 == i then some q.2 else e_get r i
def e_put1 (lv : List (Nat × Value)) (i : Nat) (v : Value) : List (Nat × Value) := (i, v) :: lv.filter (fun q => !(q.1 == i) && !(q.1 + 1 == i && q.2.category == 2))
def e_put2 (lv : List (Nat × Value)) (i : Nat) (v : Value) : List (Nat × Value) := (i, v) :: lv.filter (fun q => !(q.1 == i) && (!(q.1 == i + 1) && !(q.1 + 1 == i && q.2.category == 2)))
abbrev e_F : Type := Nat × List (Nat × Value) × List Value × List e_C
def e_tgt (pc : Nat) (off : Int) : Option Nat := match (pc : Int) + off with
  | .ofNat t => some t
  | .negSucc _ => none
def e_fit (ty : FieldType) (v : Value) : Bool := match ty, v with
  | .int, .int _ => true
  | .boolean, .int x => decide (x = 0) || decide (x = 1)
  | .long, .long _ => true
  | .object _, .ref _ => true
  | .array _, .ref _ => true
  | _, _ => false
def e_len (i : Instr) : Nat := match i with
  | .aload _ | .astore _ | .bipush _ | .iload _ | .istore _ | .ldc _ | .lload _ | .lstore _ | .newarray _ => 2
  | .getfield _ | .putfield _ | .goto _ | .if_icmp _ _ | .ifCond _ _ | .iinc _ _ | .invokespecial _ | .invokestatic _ | .invokevirtual _ | .ldc_w _ | .ldc2_w _ | .new _ | .sipush _ => 3
  | .tableswitch _ _ _ _ => 0
  | _ => 1
def e_jmp (pc : Nat) (off : Int) (lv : List (Nat × Value)) (st : List Value) (mem : List e_C) : Option e_F := match e_tgt pc off with
  | some t => some (t, lv, st, mem)
  | none => none
def e_if (b : Bool) (pc : Nat) (off : Int) (lv : List (Nat × Value)) (st : List Value) (mem : List e_C) : Option e_F := match e_tgt pc off with
  | some t => bif b then some (t, lv, st, mem) else some (pc + 3, lv, st, mem)
  | none => none
def e_c1 (c : ClassFile.Cond) (x : Int32) : Bool := match c with
  | .eq => decide (x = 0)
  | .ne => !decide (x = 0)
  | .lt => decide (x < 0)
  | .ge => decide (0 ≤ x)
  | .gt => decide (0 < x)
  | .le => decide (x ≤ 0)
def e_c2 (c : ClassFile.Cond) (x y : Int32) : Bool := match c with
  | .eq => decide (x = y)
  | .ne => !decide (x = y)
  | .lt => decide (x < y)
  | .ge => decide (y ≤ x)
  | .gt => decide (y < x)
  | .le => decide (x ≤ y)
section EOPS
variable (pc : Nat) (lv : List (Nat × Value)) (st : List Value) (mem : List e_C)
def e_iload (i : Nat) : Option e_F := match e_get lv i with
  | some (.int x) => some (pc, lv, .int x :: st, mem)
  | _ => none
def e_lload (i : Nat) : Option e_F := match e_get lv i with
  | some (.long x) => some (pc, lv, .long x :: st, mem)
  | _ => none
def e_aload (i : Nat) : Option e_F := match e_get lv i with
  | some (.ref x) => some (pc, lv, .ref x :: st, mem)
  | _ => none
def e_istore (nL i : Nat) : Option e_F := match st with
  | .int x :: r => bif Nat.blt i nL then some (pc, e_put1 lv i (.int x), r, mem) else none
  | _ => none
def e_lstore (nL i : Nat) : Option e_F := match st with
  | .long x :: r => bif Nat.blt (i + 1) nL then some (pc, e_put2 lv i (.long x), r, mem) else none
  | _ => none
def e_astore (nL i : Nat) : Option e_F := match st with
  | .ref x :: r => bif Nat.blt i nL then some (pc, e_put1 lv i (.ref x), r, mem) else none
  | _ => none
def e_iinc (nL i : Nat) (n : Int) : Option e_F := match e_get lv i with
  | some (.int x) => bif Nat.blt i nL then some (pc, e_put1 lv i (.int (x + Int32.ofInt n)), st, mem) else none
  | _ => none
def e_i1 (f : Int32 → Int32) : Option e_F := match st with
  | .int x :: r => some (pc, lv, .int (f x) :: r, mem)
  | _ => none
def e_i2l : Option e_F := match st with
  | .int x :: r => some (pc, lv, .long x.toInt64 :: r, mem)
  | _ => none
def e_i2 (f : Int32 → Int32 → Int32) : Option e_F := match st with
  | .int y :: .int x :: r => some (pc, lv, .int (f x y) :: r, mem)
  | _ => none
def e_i2z (f : Int32 → Int32 → Int32) : Option e_F := match st with
  | .int y :: .int x :: r => bif decide (y = 0) then none else some (pc, lv, .int (f x y) :: r, mem)
  | _ => none
def e_l2 (f : Int64 → Int64 → Int64) : Option e_F := match st with
  | .long y :: .long x :: r => some (pc, lv, .long (f x y) :: r, mem)
  | _ => none
def e_l2z (f : Int64 → Int64 → Int64) : Option e_F := match st with
  | .long y :: .long x :: r => bif decide (y = 0) then none else some (pc, lv, .long (f x y) :: r, mem)
  | _ => none
def e_lcmp : Option e_F := match st with
  | .long y :: .long x :: r => some (pc, lv, .int (lg_cmp x y) :: r, mem)
  | _ => none
def e_dup : Option e_F := match st with
  | v :: r => bif v.category == 1 then some (pc, lv, v :: v :: r, mem) else none
  | _ => none
def e_pop : Option e_F := match st with
  | v :: r => bif v.category == 1 then some (pc, lv, r, mem) else none
  | _ => none
def e_dup2 : Option e_F := match st with
  | v :: w :: r => bif v.category == 1 && w.category == 1 then some (pc, lv, v :: w :: v :: w :: r, mem) else none
  | _ => none
def e_alen : Option e_F := match st with
  | .ref q :: r => match mem[q]? with
    | some (.inl a) => some (pc, lv, .int (Int32.ofNat a.2.length) :: r, mem)
    | _ => none
  | _ => none
def e_ald (z : Bool) : Option e_F := match st with
  | .int j :: .ref q :: r => match mem[q]? with
    | some (.inl a) => bif a.1 == z && !decide (j < 0) then (match a.2[j.toNatClampNeg]? with
      | some x => some (pc, lv, .int x :: r, mem)
      | none => none) else none
    | _ => none
  | _ => none
def e_ast (ro : Nat) (z : Bool) : Option e_F := match st with
  | .int x :: .int j :: .ref q :: r => match mem[q]? with
    | some (.inl a) => bif a.1 == z && (!decide (j < 0) && (Nat.blt j.toNatClampNeg a.2.length && (Nat.ble ro q && (!z || e_fit .boolean (.int x))))) then some (pc, lv, r, mem.set q (.inl (a.1, a.2.set j.toNatClampNeg x))) else none
    | _ => none
  | _ => none
def e_getf (x : Option (Nat × Nat × FieldType × Bool)) : Option e_F := match x, st with
  | some f, .ref q :: r => match mem[q]? with
    | some (.inr o) => bif o.1 == f.1 then (match o.2[f.2.1]? with
      | some v => some (pc, lv, v :: r, mem)
      | none => none) else none
    | _ => none
  | _, _ => none
def e_putf (ro : Nat) (x : Option (Nat × Nat × FieldType × Bool)) : Option e_F := match x, st with
  | some f, v :: .ref q :: r => match mem[q]? with
    | some (.inr o) => bif o.1 == f.1 && (Nat.blt f.2.1 o.2.length && (e_fit f.2.2.1 v && (!f.2.2.2 && Nat.ble ro q))) then some (pc, lv, r, mem.set q (.inr (o.1, o.2.set f.2.1 v))) else none
    | _ => none
  | _, _ => none
def e_low (st : List Value) : Bool := Nat.ble (st.map fun v => v.category).sum 8
def e_wr {α : Type} : List α → Nat → List α → List α
  | [], _, ys => ys
  | x :: l, i, ys => e_wr l (i + 1) (ys.set i x)
/-- System.arraycopy between rows of ints -/
def e_acp (ro : Nat) : Option e_F := match st with
  | .int n :: .int dp :: .ref q1 :: .int sp :: .ref q0 :: r => match mem[q0]?, mem[q1]? with
    | some (.inl a), some (.inl b) => bif !a.1 && (!b.1 && (!decide (sp < 0) && (!decide (dp < 0) && (!decide (n < 0) && (Nat.ble (sp.toNatClampNeg + n.toNatClampNeg) a.2.length && (Nat.ble (dp.toNatClampNeg + n.toNatClampNeg) b.2.length && (Nat.ble ro q1 && e_low r))))))) then some (pc, lv, r, mem.set q1 (.inl (b.1, e_wr ((a.2.drop sp.toNatClampNeg).take n.toNatClampNeg) dp.toNatClampNeg b.2))) else none
    | _, _ => none
  | _ => none
/-- Math.min of two ints -/
def e_min : Option e_F := match st with
  | .int y :: .int x :: r => bif e_low r then some (pc, lv, .int (if y < x then y else x) :: r, mem) else none
  | _ => none
/-- Math.max of two ints -/
def e_max : Option e_F := match st with
  | .int y :: .int x :: r => bif e_low r then some (pc, lv, .int (if x < y then y else x) :: r, mem) else none
  | _ => none
def e_newo (x : Option (Nat × List Value)) : Option e_F := match x with
  | some o => some (pc, lv, .ref mem.length :: st, mem ++ [.inr o])
  | none => none
def e_newa (z : Bool) : Option e_F := match st with
  | .int n :: r => bif !decide (n < 0) && decide (n ≤ 65535) then some (pc, lv, .ref mem.length :: r, mem ++ [.inl (z, List.replicate n.toNatClampNeg 0)]) else none
  | _ => none
def e_ldi (x : Option Value) : Option e_F := match x with
  | some (.int v) => some (pc, lv, .int v :: st, mem)
  | some (.ref q) => some (pc, lv, .ref q :: st, mem)
  | _ => none
def e_ldw (x : Option Value) : Option e_F := match x with
  | some (.int v) => some (pc, lv, .int v :: st, mem)
  | _ => none
def e_ldl (x : Option Value) : Option e_F := match x with
  | some (.long v) => some (pc, lv, .long v :: st, mem)
  | _ => none
def e_tsw (pc0 : Nat) (d lo hi : Int) (offs : Array Int) : Option e_F := match st with
  | .int x :: r => bif decide (x.toInt < lo) || decide (hi < x.toInt) then e_jmp pc0 d lv r mem else (match offs.toList[(x.toInt - lo).toNat]? with
    | some o => e_jmp pc0 o lv r mem
    | none => none)
  | _ => none
end EOPS
/-- one instruction that neither calls nor returns -/
def e_step (P : e_Pg) (k : Nat) (i : Instr) (pc : Nat) (lv : List (Nat × Value)) (st : List Value) (mem : List e_C) : Option e_F := match i with
  | .aload n => e_aload (pc + 2) lv st mem n
  | .aload_n n => e_aload (pc + 1) lv st mem n.val
  | .arraylength => e_alen (pc + 1) lv st mem
  | .astore n => e_astore (pc + 2) lv st mem (e_mth P k).2.2.1 n
  | .astore_n n => e_astore (pc + 1) lv st mem (e_mth P k).2.2.1 n.val
  | .baload => e_ald (pc + 1) lv st mem true
  | .bastore => e_ast (pc + 1) lv st mem (e_ro P) true
  | .bipush n => some (pc + 2, lv, .int (Int8.ofInt n).toInt32 :: st, mem)
  | .dup => e_dup (pc + 1) lv st mem
  | .dup2 => e_dup2 (pc + 1) lv st mem
  | .getfield n => e_getf (pc + 3) lv st mem (e_fld P k n)
  | .goto o => e_jmp pc o lv st mem
  | .i2b => e_i1 (pc + 1) lv st mem (fun x => x.toInt8.toInt32)
  | .i2l => e_i2l (pc + 1) lv st mem
  | .i2s => e_i1 (pc + 1) lv st mem (fun x => x.toInt16.toInt32)
  | .iadd => e_i2 (pc + 1) lv st mem (fun x y => x + y)
  | .iaload => e_ald (pc + 1) lv st mem false
  | .iand => e_i2 (pc + 1) lv st mem (fun x y => x &&& y)
  | .iastore => e_ast (pc + 1) lv st mem (e_ro P) false
  | .iconst n => some (pc + 1, lv, .int (Int32.ofInt n) :: st, mem)
  | .idiv => e_i2z (pc + 1) lv st mem (fun x y => x / y)
  | .if_icmp c o => match st with
    | .int y :: .int x :: r => e_if (e_c2 c x y) pc o lv r mem
    | _ => none
  | .ifCond c o => match st with
    | .int x :: r => e_if (e_c1 c x) pc o lv r mem
    | _ => none
  | .iinc n d => e_iinc (pc + 3) lv st mem (e_mth P k).2.2.1 n d
  | .iload n => e_iload (pc + 2) lv st mem n
  | .iload_n n => e_iload (pc + 1) lv st mem n.val
  | .imul => e_i2 (pc + 1) lv st mem (fun x y => x * y)
  | .ior => e_i2 (pc + 1) lv st mem (fun x y => x ||| y)
  | .irem => e_i2z (pc + 1) lv st mem (fun x y => x - x / y * y)
  | .ishl => e_i2 (pc + 1) lv st mem (fun x y => x <<< (y &&& 31))
  | .ishr => e_i2 (pc + 1) lv st mem (fun x y => x >>> (y &&& 31))
  | .istore n => e_istore (pc + 2) lv st mem (e_mth P k).2.2.1 n
  | .istore_n n => e_istore (pc + 1) lv st mem (e_mth P k).2.2.1 n.val
  | .isub => e_i2 (pc + 1) lv st mem (fun x y => x - y)
  | .iushr => e_i2 (pc + 1) lv st mem (fun x y => (x.toUInt32 >>> (y.toUInt32 &&& Int32.toUInt32 31)).toInt32)
  | .ixor => e_i2 (pc + 1) lv st mem (fun x y => x ^^^ y)
  | .ladd => e_l2 (pc + 1) lv st mem (fun x y => x + y)
  | .lcmp => e_lcmp (pc + 1) lv st mem
  | .lconst n => some (pc + 1, lv, .long (Int64.ofNat n.val) :: st, mem)
  | .ldc n => e_ldi (pc + 2) lv st mem (e_con P k n)
  | .ldc_w n => e_ldw (pc + 3) lv st mem (e_con P k n)
  | .ldc2_w n => e_ldl (pc + 3) lv st mem (e_con P k n)
  | .ldiv => e_l2z (pc + 1) lv st mem (fun x y => x / y)
  | .lload n => e_lload (pc + 2) lv st mem n
  | .lload_n n => e_lload (pc + 1) lv st mem n.val
  | .lmul => e_l2 (pc + 1) lv st mem (fun x y => x * y)
  | .lrem => e_l2z (pc + 1) lv st mem (fun x y => x - x / y * y)
  | .lstore n => e_lstore (pc + 2) lv st mem (e_mth P k).2.2.1 n
  | .lstore_n n => e_lstore (pc + 1) lv st mem (e_mth P k).2.2.1 n.val
  | .new n => e_newo (pc + 3) lv st mem (e_new P k n)
  | .newarray t => match t with
    | .int => e_newa (pc + 2) lv st mem false
    | .boolean => e_newa (pc + 2) lv st mem true
    | _ => none
  | .pop => e_pop (pc + 1) lv st mem
  | .putfield n => e_putf (pc + 3) lv st mem (e_ro P) (e_fld P k n)
  | .sipush n => some (pc + 3, lv, .int (Int16.ofInt n).toInt32 :: st, mem)
  | .tableswitch d lo hi offs => e_tsw lv st mem pc d lo hi offs
  | _ => none
abbrev e_R : Type := Nat → Nat → List (Nat × Value) → List Value → List e_C → Option (Option Value × List e_C)
/-- a return: its value, as the method's type has it -/
def e_ret (ty : Option FieldType) (i : Instr) (st : List Value) : Option (Option Value) := match i, ty, st with
  | .ireturn, some .int, [.int x] => some (some (.int x))
  | .ireturn, some .boolean, [.int x] => bif e_fit .boolean (.int x) then some (some (.int x)) else none
  | .lreturn, some .long, [.long x] => some (some (.long x))
  | .areturn, some (.object _), [.ref x] => some (some (.ref x))
  | .return_, none, [] => some none
  | _, _, _ => none
def e_room (P : e_Pg) (k j : Nat) (vs : List Value) : Bool := Nat.ble (vs.map fun v => v.category).sum (e_mth P j).2.2.1 && (Nat.ble ((e_rmo P j).1 + 1) (e_rmo P k).1 && Nat.ble (8 + ((e_mth P j).2.2.1 + 11) + (e_rmo P j).2.1) (e_rmo P k).2.1)
/-- behind a call -/
def e_aft (rc : e_R) (k pc : Nat) (lv : List (Nat × Value)) (rest : List Value) (x : Option (Option Value × List e_C)) : Option (Option Value × List e_C) := match x with
  | some y => rc k pc lv (y.1.toList ++ rest) y.2
  | none => none
/-- length() and charAt() of a text -/
def e_sb (P : e_Pg) (k cd : Nat) (st : List Value) : Option (Int32 × List Value) := match st with
  | .ref q :: rest => match e_txt P q with
    | some b => bif cd == 95 && (e_low rest && (Nat.ble 4 (e_rmo P k).1 && Nat.ble 85 (e_rmo P k).2.1)) then some (Int32.ofNat b.length, rest) else none
    | none => none
  | .int j :: .ref q :: rest => match e_txt P q with
    | some b => match b[j.toNatClampNeg]? with
      | some x => bif cd == 94 && (!decide (j < 0) && (e_low rest && (Nat.ble 4 (e_rmo P k).1 && Nat.ble 85 (e_rmo P k).2.1))) then some (x, rest) else none
      | none => none
    | none => none
  | _ => none
def e_sgo (P : e_Pg) (rc : e_R) (k pc : Nat) (lv : List (Nat × Value)) (st : List Value) (mem : List e_C) (sp : Bool) (cd : Nat) : Option (Option Value × List e_C) := bif sp then none else (match e_sb P k cd st with
  | some r => rc k (pc + 3) lv (.int r.1 :: r.2) mem
  | none => none)
def e_inv (P : e_Pg) (rc : e_R) (k pc : Nat) (lv : List (Nat × Value)) (st : List Value) (mem : List e_C) (sp : Bool) (i : Nat) : Option (Option Value × List e_C) := match e_cal P k i with
  | none => none
  | some f => match st.drop f.2.1 with
    | .ref q :: rest => bif f.1 == 0 then (bif sp && (f.2.1 == 0 && (f.2.2.1 == 0 && (e_low rest && (Nat.ble 1 (e_rmo P k).1 && Nat.ble 20 (e_rmo P k).2.1)))) then rc k (pc + 3) lv rest mem else e_sgo P rc k pc lv st mem sp f.2.2.1) else
        match mem[q]? with
        | some (.inr o) => bif o.1 == f.2.2.1 && (!(f.2.2.1 == 99) && (e_low rest && (e_room P k f.1 (.ref q :: (st.take f.2.1).reverse) && (sp == (e_rmo P f.1).2.2)))) then e_aft rc k (pc + 3) lv rest (rc f.1 0 (lv_args 0 (.ref q :: (st.take f.2.1).reverse)) [] mem) else none
        | _ => none
    | _ => none
def e_go (rc : e_R) (k : Nat) (x : Option e_F) : Option (Option Value × List e_C) := match x with
  | some f => rc k f.1 f.2.1 f.2.2.1 f.2.2.2
  | none => none
/-- what is built in: its number, and the room that it takes -/
def e_bli (P : e_Pg) (k cd : Nat) (pc : Nat) (lv : List (Nat × Value)) (st : List Value) (mem : List e_C) : Option e_F := bif Nat.ble 1 (e_rmo P k).1 && Nat.ble 26 (e_rmo P k).2.1 then (bif cd == 98 then e_acp (pc + 3) lv st mem (e_ro P) else bif cd == 97 then e_min (pc + 3) lv st mem else bif cd == 96 then e_max (pc + 3) lv st mem else none) else none
def e_ivs (P : e_Pg) (rc : e_R) (k pc : Nat) (lv : List (Nat × Value)) (st : List Value) (mem : List e_C) (i : Nat) : Option (Option Value × List e_C) := match e_cal P k i with
  | none => none
  | some f => bif f.1 == 0 then e_go rc k (e_bli P k f.2.2.1 pc lv st mem) else (bif Nat.ble f.2.1 st.length && (e_low (st.drop f.2.1) && (e_room P k f.1 (st.take f.2.1).reverse && f.2.2.1 == 99)) then e_aft rc k (pc + 3) lv (st.drop f.2.1) (rc f.1 0 (lv_args 0 (st.take f.2.1).reverse) [] mem) else none)
def e_rt (mem : List e_C) (x : Option (Option Value)) : Option (Option Value × List e_C) := match x with
  | some r => some (r, mem)
  | none => none
def e_one (P : e_Pg) (rc : e_R) (k pc : Nat) (lv : List (Nat × Value)) (st : List Value) (mem : List e_C) (i : Instr) : Option (Option Value × List e_C) := match i with
  | .invokevirtual n => e_inv P rc k pc lv st mem false n
  | .invokespecial n => e_inv P rc k pc lv st mem true n
  | .invokestatic n => e_ivs P rc k pc lv st mem n
  | .ireturn => e_rt mem (e_ret (e_mth P k).2.2.2 .ireturn st)
  | .lreturn => e_rt mem (e_ret (e_mth P k).2.2.2 .lreturn st)
  | .areturn => e_rt mem (e_ret (e_mth P k).2.2.2 .areturn st)
  | .return_ => e_rt mem (e_ret (e_mth P k).2.2.2 .return_ st)
  | i => e_go rc k (e_step P k i pc lv st mem)
def e_body (P : e_Pg) (rc : e_R) (k pc : Nat) (lv : List (Nat × Value)) (st : List Value) (mem : List e_C) : Option (Option Value × List e_C) := match e_code P k pc with
  | some x => bif x.2 == e_len x.1 || e_len x.1 == 0 then e_one P rc k pc lv st mem x.1 else none
  | none => none
/-- n steps at most: what the method answers, and the cells then -/
noncomputable def e_run (P : e_Pg) (n : Nat) : e_R := Nat.rec (motive := fun _ => e_R) (fun _ _ _ _ _ => none) (fun _ rc => e_body P rc) n
theorem e_run_succ (P : e_Pg) (n : Nat) : e_run P (n + 1) = e_body P (e_run P n) := rfl
theorem e_run_zero (P : e_Pg) : e_run P 0 = fun _ _ _ _ _ => none := rfl
end
section
/-! HOW THE SMALL MACHINE'S CELLS LIE IN THE HEAP -/
def e_at (s : State) (D : va_G) (ad : Nat → Nat) (c : e_C) (o : Option Cell) : Prop := match c with
  | .inl a => ∃ cell : Cell, o = some cell ∧ s.isArrayOf cell (bif a.1 then .boolean else .int) ∧ cell.vm ≠ .unknown ∧ cell.slots = (a.2.map Value.int).toArray
  | .inr f => f = (99, []) ∨ ∃ cell : Cell, o = some cell ∧ cell.cls = D.1 f.1 ∧ cell.vm = .none ∧ ∀ (j : Nat) (v : Value), (f.2[j]? = some v → cell.slots[D.2 f.1 j]? = some (e_cv ad v)) ∧ ∀ i : Nat, i < f.2.length → j < f.2.length → D.2 f.1 i = D.2 f.1 j → i = j
theorem e_at.obj {s : State} {D : va_G} {ad : Nat → Nat} {f : Nat × List Value} {o : Option Cell} (h : e_at s D ad (.inr f) o) (hn : f ≠ (99, [])) : ∃ cell : Cell, o = some cell ∧ cell.cls = D.1 f.1 ∧ cell.vm = .none ∧ ∀ (j : Nat) (v : Value), (f.2[j]? = some v → cell.slots[D.2 f.1 j]? = some (e_cv ad v)) ∧ ∀ i : Nat, i < f.2.length → j < f.2.length → D.2 f.1 i = D.2 f.1 j → i = j := by
  rcases h with h | h
  · exact absurd h hn
  · exact h
/-- the class's texts -/
def e_lens : List Nat := [5, 7, 7, 8, 5, 4, 4, 4]
def e_byts : List (List Int32) := [[112, 108, 97, 105, 110], [97, 100, 111, 112, 116, 101, 100], [98, 97, 115, 116, 97, 114, 100], [101, 115, 116, 114, 97, 110, 103, 101], [109, 97, 114, 114, 121], [102, 101, 117, 100], [103, 97, 116, 101], [112, 108, 97, 110]]
def e_idx : List Nat := [31, 37, 39, 41, 43, 45, 47, 49]
def e_wds : List String := ["plain", "adopted", "bastard", "estrange", "marry", "feud", "gate", "plan"]
/-- what is new: all from the ninth place on -/
def e_sA (ad : Nat → Nat) : Nat → Prop := fun x => ∃ i, 9 ≤ i ∧ x = ad i
/-- the texts and two statics lie in the heap as at the start -/
def e_V (s : State) (ad : Nat → Nat) (H : Heap) : Prop := ∃ (adV : Nat → Nat) (w : Value), vk_S 8 e_lens e_byts (fun i => ad (1 + i)) adV (e_sA ad) s H ∧ va_Z "java/lang/String" "COMPACT_STRINGS" "Z" (.int 1) (e_sA ad) s H ∧ va_Z "jdk/internal/util/Preconditions" "SIOOBE_FORMATTER" "Ljava/util/function/BiFunction;" w (e_sA ad) s H ∧ w.category = 1
theorem e_V.moved {s U : State} {ad : Nat → Nat} {H : Heap} (hvm : s.vm.Alike U.vm) (h : e_V s ad H) : e_V U ad H := by
  obtain ⟨adV, w, h1, h2, h3, h4⟩ := h
  exact ⟨adV, w, h1.moved hvm, h2.moved hvm, h3.moved hvm, h4⟩
theorem e_V.kept {s : State} {ad : Nat → Nat} {H H1 : Heap} (h : e_V s ad H) (hq : ∀ a : Nat, a < H.size → ¬ e_sA ad a → H1[a]? = H[a]?) : e_V s ad H1 := by
  obtain ⟨adV, w, h1, h2, h3, h4⟩ := h
  exact ⟨adV, w, h1.kept hq, h2.kept hq, h3.kept hq, h4⟩
/-- the texts are where the class's ldc finds them -/
def e_K (s : State) (ad : Nat → Nat) : Prop := ∀ i, i < 8 → vk_R "KinGates$Tape" (e_idx.getD i 0) (e_wds.getD i "") (ad (1 + i)) s
def e_P (s : State) (D : va_G) (ad : Nat → Nat) (mem : List e_C) (H : Heap) : Prop := (∀ (k : Nat) (c : e_C), mem[k]? = some c → e_at s D ad c H[ad k]?) ∧ e_V s ad H
def e_AD (ad : Nat → Nat) (ro base : Nat) : Prop := (∀ i, ro ≤ i → ad i = base + (i - ro)) ∧ (∀ i, i < ro → ad i < base) ∧ (∀ i j, i < ro → j < ro → ad i = ad j → i = j) ∧ ro = 9
theorem e_AD.inj {ad : Nat → Nat} {ro base : Nat} (h : e_AD ad ro base) {i j : Nat} (e : ad i = ad j) : i = j := by
  obtain ⟨h1, h2, h3, -⟩ := h
  rcases Nat.lt_or_ge i ro with a | a <;> rcases Nat.lt_or_ge j ro with b | b
  · exact h3 i j a b e
  · have := h2 i a; rw [h1 j b] at e; omega
  · have := h2 j b; rw [h1 i a] at e; omega
  · rw [h1 i a, h1 j b] at e; omega
theorem e_at.moved {s U : State} {D : va_G} {ad : Nat → Nat} {c : e_C} {o : Option Cell} (hvm : s.vm.Alike U.vm) (h : e_at s D ad c o) : e_at U D ad c o := by
  cases c with
  | inl a =>
    obtain ⟨cell, h1, h2, h3⟩ := h
    exact ⟨cell, h1, State.isArrayOf_alike hvm h2, h3⟩
  | inr f => exact h
theorem e_P.moved {s U : State} {D : va_G} {ad : Nat → Nat} {mem : List e_C} {H : Heap} (hvm : s.vm.Alike U.vm) (h : e_P s D ad mem H) : e_P U D ad mem H := ⟨fun k c hk => (h.1 k c hk).moved hvm, h.2.moved hvm⟩
theorem e_P.set {s : State} {D : va_G} {ad : Nat → Nat} {ro base : Nat} {mem : List e_C} {H H1 : Heap} {q : Nat} {c c0 : e_C} (hA : e_AD ad ro base) (h : e_P s D ad mem H) (h0 : mem[q]? = some c0) (hc : e_at s D ad c H1[ad q]?) (oq : ∀ x : Nat, x ≠ ad q → H1[x]? = H[x]?) (hro : ro ≤ q) : e_P s D ad (mem.set q c) H1 := by
  have hl := (List.getElem?_eq_some_iff.mp h0).1
  have h9 := hA.2.2.2
  refine ⟨?_, h.2.kept (fun a _ hn => oq a (fun e => hn ⟨q, by omega, e⟩))⟩
  intro k c1 hk
  by_cases hkq : k = q
  · subst hkq
    rw [List.getElem?_set_self hl] at hk
    cases hk
    exact hc
  · rw [List.getElem?_set_ne (Ne.symm hkq)] at hk
    rw [oq (ad k) (fun z => hkq (hA.inj z))]
    exact h.1 k c1 hk
theorem e_at.on {s : State} {D : va_G} {ad : Nat → Nat} {c : e_C} {H H1 : Heap} {a : Nat} (h : e_at s D ad c H[a]?) (oq : ∀ x : Nat, x < H.size → H1[x]? = H[x]?) : e_at s D ad c H1[a]? := by
  cases c with
  | inl x =>
    obtain ⟨cell, h1, h2⟩ := h
    exact ⟨cell, by rw [oq a (Array.getElem?_eq_some_iff.mp h1).1]; exact h1, h2⟩
  | inr x =>
    rcases h with h | ⟨cell, h1, h2⟩
    · exact Or.inl h
    · exact Or.inr ⟨cell, by rw [oq a (Array.getElem?_eq_some_iff.mp h1).1]; exact h1, h2⟩
theorem e_P.push {s : State} {D : va_G} {ad : Nat → Nat} {mem : List e_C} {H H1 : Heap} {c : e_C} (h : e_P s D ad mem H) (ha : ad mem.length = H.size) (hc : e_at s D ad c H1[H.size]?) (oq : ∀ x : Nat, x < H.size → H1[x]? = H[x]?) : e_P s D ad (mem ++ [c]) H1 := by
  refine ⟨?_, h.2.kept (fun a ha _ => oq a ha)⟩
  intro k c1 hk
  by_cases hl : k < mem.length
  · rw [List.getElem?_append_left hl] at hk
    exact (h.1 k c1 hk).on oq
  · rw [List.getElem?_append_right (by omega)] at hk
    have hz : k - mem.length < 1 := (List.getElem?_eq_some_iff.mp hk).1
    have hk0 : k = mem.length := by omega
    subst hk0
    rw [Nat.sub_self] at hk
    cases hk
    rw [ha]
    exact hc
def e_lv (ad : Nat → Nat) (lv : List (Nat × Value)) : List (Nat × Value) := lv.map (fun q => (q.1, e_cv ad q.2))
theorem e_cv_cat (ad : Nat → Nat) (v : Value) : (e_cv ad v).category = v.category := by cases v <;> rfl
theorem e_get_mem {lv : List (Nat × Value)} {i : Nat} {v : Value} (h : e_get lv i = some v) : (i, v) ∈ lv := by
  induction lv with
  | nil => cases h
  | cons q r ih =>
    unfold e_get at h
    cases hq : q.1 == i with
    | true =>
      rw [hq] at h
      have e1 : q.1 = i := by simpa using hq
      have e2 : q.2 = v := by simpa using h
      rw [← e1, ← e2]
      exact List.mem_cons_self
    | false =>
      rw [hq] at h
      exact List.mem_cons_of_mem _ (ih h)
theorem e_get_at {ad : Nat → Nat} {lv : List (Nat × Value)} {i nL : Nat} {v : Value} {ls : Array Slot} (h : lv_has ls nL (e_lv ad lv)) (hg : e_get lv i = some v) : ls[i]? = some (.val (e_cv ad v)) :=
  h.2.2 (i, e_cv ad v) (List.mem_map.mpr ⟨(i, v), e_get_mem hg, rfl⟩)
theorem e_lv_put1 (ad : Nat → Nat) (lv : List (Nat × Value)) (i : Nat) (v : Value) : (i, e_cv ad v) :: (e_lv ad lv).filter (fun q => !(q.1 == i) && !(q.1 + 1 == i && q.2.category == 2)) = e_lv ad (e_put1 lv i v) := by
  unfold e_lv e_put1
  rw [List.map_cons, List.filter_map]
  congr 2
  apply List.filter_congr
  intro q _
  simp only [Function.comp, e_cv_cat]
theorem e_lv_put2 (ad : Nat → Nat) (lv : List (Nat × Value)) (i : Nat) (v : Value) : (i, e_cv ad v) :: (e_lv ad lv).filter (fun q => !(q.1 == i) && (!(q.1 == i + 1) && !(q.1 + 1 == i && q.2.category == 2))) = e_lv ad (e_put2 lv i v) := by
  unfold e_lv e_put2
  rw [List.map_cons, List.filter_map]
  congr 2
  apply List.filter_congr
  intro q _
  simp only [Function.comp, e_cv_cat]
theorem e_lv_args (ad : Nat → Nat) : ∀ (vs : List Value) (i : Nat), lv_args i (vs.map (e_cv ad)) = e_lv ad (lv_args i vs)
  | [], _ => rfl
  | v :: vs, i => by
    rw [List.map_cons]
    unfold lv_args
    rw [e_cv_cat, e_lv_args ad vs]
    rfl
theorem e_tgt_eq {pc : Nat} {off : Int} {t : Nat} (h : e_tgt pc off = some t) : (pc : Int) + off = (t : Int) := by
  unfold e_tgt at h
  split at h
  · next x hx => cases h; exact hx
  · cases h
theorem e_fit_narrow {ty : FieldType} {v : Value} (h : e_fit ty v = true) : narrow ty v = v ∧ fits ty v = true := by
  unfold e_fit at h
  split at h
  · exact ⟨rfl, rfl⟩
  · next x =>
    simp only [Bool.or_eq_true, decide_eq_true_eq] at h
    rcases h with rfl | rfl <;> exact ⟨rfl, rfl⟩
  · exact ⟨rfl, rfl⟩
  · exact ⟨rfl, rfl⟩
  · exact ⟨rfl, rfl⟩
  · cases h
theorem e_fit_cv {ty : FieldType} {v : Value} (ad : Nat → Nat) (h : e_fit ty v = true) : e_fit ty (e_cv ad v) = true := by
  cases v <;> first | exact h | (cases ty <;> first | rfl | (simp [e_fit] at h))
theorem e_sl_set {mem : List e_C} {q : Nat} {c0 c : e_C} (h : mem[q]? = some c0) (he : e_sz c = e_sz c0) : e_sl (mem.set q c) = e_sl mem := by
  induction mem generalizing q with
  | nil => cases h
  | cons a r ih =>
    cases q with
    | zero =>
      rw [List.getElem?_cons_zero] at h
      have e0 := Option.some.inj h
      unfold e_sl
      rw [List.set_cons_zero, List.map_cons, List.map_cons, List.sum_cons, List.sum_cons, he, e0]
    | succ q =>
      rw [List.getElem?_cons_succ] at h
      have := ih h
      unfold e_sl at this ⊢
      rw [List.set_cons_succ, List.map_cons, List.map_cons, List.sum_cons, List.sum_cons, this]
theorem e_sl_push (mem : List e_C) (c : e_C) : e_sl (mem ++ [c]) = e_sl mem + e_sz c := by
  unfold e_sl
  rw [List.map_append, List.sum_append]
  simp
/-- what the tables must say of a program -/
def e_gc (P : e_Pg) : Prop := ∀ (k pc : Nat) (x : Instr × Nat), e_code P k pc = some x → decode (e_mth P k).2.1 pc = .ok x
def e_gf (P : e_Pg) (cl : List vw_C) (Ts : List Cond) : Prop := ∀ (k i : Nat) (f : Nat × Nat × FieldType × Bool), e_fld P k i = some f → ∃ (C : String) (T : u_T) (N : Nat), cl[f.1]? = some (C, T, N) ∧ f.2.1 < N ∧ Cond.fieldLink (e_mth P k).1.cls i (T f.2.1).1 (T f.2.1).2.1 (T f.2.1).2.2.1 ∈ Ts ∧ parseFieldDescriptor (T f.2.1).2.2.1 = some f.2.2.1 ∧
  (f.2.2.2 = false → (T f.2.1).2.2.2 = false ∨ ((T f.2.1).2.2.2 = true ∧ (e_mth P k).1.name = "<init>" ∧ (T f.2.1).1 = (e_mth P k).1.cls))
def e_gk (cl : List vw_C) (Ts : List Cond) : Prop := ∀ (ci : Nat) (C : String) (T : u_T) (N : Nat), cl[ci]? = some (C, T, N) → (∀ w ∈ u_ws C T N, w ∈ Ts) ∧ (∃ ty0 : Nat → FieldType, ∀ k, k < N → parseFieldDescriptor (T k).2.2.1 = some (ty0 k)) ∧ ∀ a, a < N → ∀ b, b < N → a ≠ b → (T a).2.1 ≠ (T b).2.1
def e_gn (P : e_Pg) (cl : List vw_C) (Ts : List Cond) : Prop := ∀ (k i : Nat) (o : Nat × List Value), e_new P k i = some o → ∃ (C : String) (T : u_T) (N : Nat), cl[o.1]? = some (C, T, N) ∧ o.2.length = N ∧ Cond.classLink (e_mth P k).1.cls i C ∈ Ts ∧ Cond.instantiable C N ∈ Ts ∧ Cond.initialized C ∈ Ts ∧ ∀ (j : Nat) (v : Value), o.2[j]? = some v → ∃ ty : FieldType, parseFieldDescriptor (T j).2.2.1 = some ty ∧ defaultValue ty = v
def e_gv (P : e_Pg) (Ts : List Cond) : Prop := ∀ (k i : Nat) (v : Value), e_con P k i = some v → (∃ x : Int32, v = .int x ∧ Cond.constant (e_mth P k).1.cls i x ∈ Ts) ∨ (∃ x : Int64, v = .long x ∧ Cond.constantLong (e_mth P k).1.cls i x ∈ Ts) ∨ (∃ j : Nat, j < 8 ∧ v = .ref (1 + j) ∧ (e_mth P k).1.cls = "KinGates$Tape" ∧ i = e_idx.getD j 0)
def tx_len : MethodName := ⟨"java/lang/String", "length", "()I"⟩
def tx_chr : MethodName := ⟨"java/lang/String", "charAt", "(I)C"⟩
def tx_cod : MethodName := ⟨"java/lang/String", "coder", "()B"⟩
def tx_lat : MethodName := ⟨"java/lang/String", "isLatin1", "()Z"⟩
def tx_lch : MethodName := ⟨"java/lang/StringLatin1", "charAt", "([BI)C"⟩
def tx_chk : MethodName := ⟨"java/lang/String", "checkIndex", "(II)V"⟩
def tx_pch : MethodName := ⟨"jdk/internal/util/Preconditions", "checkIndex", "(IILjava/util/function/BiFunction;)I"⟩
def tb_len : ByteArray := .mk #[0x2a, 0xb4, 0x00, 0x09, 0xbe, 0x2a, 0xb6, 0x01, 0x4f, 0x7a, 0xac]
def tb_chr : ByteArray := .mk #[0x2a, 0xb6, 0x01, 0xec, 0x99, 0x00, 0x0c, 0x2a, 0xb4, 0x00, 0x09, 0x1b, 0xb8, 0x01, 0xef, 0xac, 0x2a, 0xb4, 0x00, 0x09, 0x1b, 0xb8, 0x01, 0xf2, 0xac]
def tb_cod : ByteArray := .mk #[0xb2, 0x00, 0x26, 0x99, 0x00, 0x0a, 0x2a, 0xb4, 0x00, 0x0f, 0xa7, 0x00, 0x04, 0x04, 0xac]
def tb_lat : ByteArray := .mk #[0xb2, 0x00, 0x26, 0x99, 0x00, 0x0e, 0x2a, 0xb4, 0x00, 0x0f, 0x9a, 0x00, 0x07, 0x04, 0xa7, 0x00, 0x04, 0x03, 0xac]
def tb_lch : ByteArray := .mk #[0x1b, 0x2a, 0xbe, 0xb8, 0x00, 0x09, 0x2a, 0x1b, 0x33, 0x11, 0x00, 0xff, 0x7e, 0x92, 0xac]
def tb_chk : ByteArray := .mk #[0x1a, 0x1b, 0xb2, 0x04, 0x1d, 0xb8, 0x04, 0x23, 0x57, 0xb1]
def tb_pch : ByteArray := .mk #[0x1a, 0x9b, 0x00, 0x08, 0x1a, 0x1b, 0xa1, 0x00, 0x0a, 0x2c, 0x1a, 0x1b, 0xb8, 0x00, 0x5f, 0xbf, 0x1a, 0xac]
/-- the words that the texts need -/
def e_tw : List Cond := [.code tx_len tb_len 1 (some .int), .code tx_chr tb_chr 2 (some .char), .code tx_cod tb_cod 1 (some .byte), .code tx_lat tb_lat 1 (some .boolean), .code tx_lch tb_lch 2 (some .char), .code tx_chk tb_chk 2 none, .code tx_pch tb_pch 3 (some .int),
  .initialized "java/lang/String", .initialized "java/lang/StringLatin1", .initialized "jdk/internal/util/Preconditions",
  .methodLink "java/lang/String" 335 tx_cod, .instanceMethod tx_cod, .selects "java/lang/String" tx_cod tx_cod,
  .methodLink "java/lang/String" 492 tx_lat, .instanceMethod tx_lat, .selects "java/lang/String" tx_lat tx_lat,
  .methodLink "java/lang/String" 495 tx_lch, .static tx_lch, .methodLink "java/lang/StringLatin1" 9 tx_chk, .static tx_chk, .methodLink "java/lang/String" 1059 tx_pch, .static tx_pch,
  .fieldLink "java/lang/String" 9 "java/lang/String" "value" "[B", .fieldLink "java/lang/String" 15 "java/lang/String" "coder" "B", .fieldLink "java/lang/String" 38 "java/lang/String" "COMPACT_STRINGS" "Z", .fieldLink "java/lang/String" 1053 "jdk/internal/util/Preconditions" "SIOOBE_FORMATTER" "Ljava/util/function/BiFunction;",
  .instanceMethod tx_len, .selects "java/lang/String" tx_len tx_len, .instanceMethod tx_chr, .selects "java/lang/String" tx_chr tx_chr]
def e_gt (P : e_Pg) (Ts : List Cond) : Prop := (∀ w ∈ e_tw, w ∈ Ts) ∧ ∀ (q : Nat) (b : List Int32), e_txt P q = some b → ∃ i : Nat, i < 8 ∧ q = 1 + i ∧ b = e_byts.getD i []
def e_ga (P : e_Pg) (Ts : List Cond) : Prop := Cond.arrayClass .int ∈ Ts ∧ Cond.arrayClass .boolean ∈ Ts ∧ Cond.instanceMethod Lib.objectInit ∈ Ts ∧ Cond.code Lib.objectInit ⟨#[0xb1]⟩ 1 none ∈ Ts ∧ (∀ w ∈ Ts, goodWord w = true) ∧ e_gt P Ts
def e_gm (P : e_Pg) (cl : List vw_C) (Ts Ns : List Cond) : Prop := ∀ (k i : Nat) (f : Nat × Nat × Nat × Bool), e_cal P k i = some f →
  (f.1 = 0 ∧ ((f.2.2.1 = 0 ∧ Cond.methodLink (e_mth P k).1.cls i Lib.objectInit ∈ Ts) ∨ (f.2.2.1 = 95 ∧ f.2.1 = 0 ∧ Cond.methodLink (e_mth P k).1.cls i tx_len ∈ Ts) ∨ (f.2.2.1 = 94 ∧ f.2.1 = 1 ∧ Cond.methodLink (e_mth P k).1.cls i tx_chr ∈ Ts) ∨ (f.2.2.1 = 98 ∧ Cond.methodLink (e_mth P k).1.cls i arraycopyName ∈ Ts ∧ Cond.native arraycopyName ∈ Ts ∧ Cond.static arraycopyName ∈ Ts ∧ Cond.initialized "java/lang/System" ∈ Ts) ∨
    (f.2.2.1 = 97 ∧ Cond.methodLink (e_mth P k).1.cls i Lib.Math.min.name ∈ Ts ∧ Cond.static Lib.Math.min.name ∈ Ts ∧ Cond.initialized "java/lang/Math" ∈ Ts ∧ Cond.code Lib.Math.min.name Lib.Math.min.code 2 (some .int) ∈ Ts) ∨
    (f.2.2.1 = 96 ∧ Cond.methodLink (e_mth P k).1.cls i Lib.Math.max.name ∈ Ts ∧ Cond.static Lib.Math.max.name ∈ Ts ∧ Cond.initialized "java/lang/Math" ∈ Ts ∧ Cond.code Lib.Math.max.name Lib.Math.max.code 2 (some .int) ∈ Ts))) ∨
  (f.1 ≠ 0 ∧ Cond.code (e_mth P f.1).1 (e_mth P f.1).2.1 (e_mth P f.1).2.2.1 (e_mth P f.1).2.2.2 ∈ Ts ∧ Cond.initialized (e_mth P f.1).1.cls ∈ Ts ∧ ((e_mth P f.1).1.cls ≠ "java/lang/invoke/MethodHandle" ∧ (e_mth P f.1).1.cls ≠ "java/lang/invoke/VarHandle") ∧ plainName (e_mth P f.1).1.cls = true ∧
    (parseMethodDescriptor (e_mth P f.1).1.desc).map (fun d => d.parameters.length) = some f.2.1 ∧
    ((f.2.2.2 = false ∧ Cond.methodLink (e_mth P k).1.cls i (e_mth P f.1).1 ∈ Ts) ∨ (f.2.2.2 = true ∧ ∃ host : String, Cond.methodLinkNest (e_mth P k).1.cls i (e_mth P f.1).1 host ∈ Ns)) ∧
    ((f.2.2.1 = 99 ∧ Cond.static (e_mth P f.1).1 ∈ Ts) ∨ (f.2.2.1 ≠ 99 ∧ Cond.instanceMethod (e_mth P f.1).1 ∈ Ts ∧ (∃ (T : u_T) (N : Nat), cl[f.2.2.1]? = some ((e_mth P f.1).1.cls, T, N)) ∧
      (((e_rmo P f.1).2.2 = true ∧ (e_mth P f.1).1.name = "<init>" ∧ (e_mth P f.1).2.2.2 = none) ∨ ((e_rmo P f.1).2.2 = false ∧ Cond.selects (e_mth P f.1).1.cls (e_mth P f.1).1 (e_mth P f.1).1 ∈ Ts)))))
def e_gN (Ns : List Cond) : Prop := ∀ w ∈ Ns, ∃ (a : String) (i : Nat) (x : MethodName) (h : String), w = .methodLinkNest a i x h
def e_GD (P : e_Pg) (cl : List vw_C) (Ts Ns : List Cond) : Prop := e_gc P ∧ e_gf P cl Ts ∧ e_gk cl Ts ∧ e_gn P cl Ts ∧ e_gv P Ts ∧ e_ga P Ts ∧ e_gm P cl Ts Ns ∧ e_gN Ns
end
section
/-! EVERY STEP OF THE SMALL MACHINE IS THE MACHINE'S -/
section ES
variable {p : Program} {l : Launch} {e : Env} {R : Room} {s : State} {m : MethodId} {args : Array Value} {below : List Frame} {meth : Method} {c : Code} {Q : State → Prop}
variable {P : e_Pg} {D : va_G} {cl : List vw_C} {Ts Ns : List Cond} {ad : Nat → Nat} {base n0 z0 k : Nat}
/-- from a place of the small machine the machine comes to Q -/
def e_W (p : Program) (l : Launch) (e : Env) (R : Room) (s : State) (m : MethodId) (args : Array Value) (below : List Frame) (meth : Method) (c : Code) (Q : State → Prop) (P : e_Pg) (D : va_G) (ad : Nat → Nat) (base n0 z0 k pc : Nat) (lv : List (Nat × Value)) (st : List Value) (mem : List e_C) : Prop :=
  ∀ (H : Heap) (locs : List Loc) (cells slots : Nat) (ls : Array Slot), e_P s D ad mem H → H.size + e_ro P = base + mem.length → (∀ x ∈ locs, base ≤ x.base) → lv_has ls (e_mth P k).2.2.1 (e_lv ad lv) → cells + n0 = mem.length → slots + z0 = e_sl mem →
    W p l e R s m args below meth c H locs cells slots Q (F0 m pc ls (st.map (e_cv ad)))
/-- what a method's frame has -/
def e_X (p : Program) (s : State) (m : MethodId) (args : Array Value) (meth : Method) (c : Code) (P : e_Pg) (D : va_G) (cl : List vw_C) (Ts Ns : List Cond) (ad : Nat → Nat) (k : Nat) : Prop :=
  p.tables.exec = Jvm.exec ∧ c.code = (e_mth P k).2.1 ∧ c.maxLocals = (e_mth P k).2.2.1 ∧ s.vm.findClass (e_mth P k).1.cls = some m.cls ∧ (∀ w ∈ Ts, w.before args s = true) ∧ (∀ w ∈ Ns, va_Nw w s) ∧ va_K D cl [] s ∧ ((e_mth P k).1.name = "<init>" → meth.name = "<init>") ∧ e_K s ad
theorem e_s_iload (X : e_X p s m args meth c P D cl Ts Ns ad k) {pc pc' i : Nat} {lv : List (Nat × Value)} {st : List Value} {mem : List e_C} {F : e_F} (h : e_iload pc' lv st mem i = some F)
    (row : ∀ (H : Heap) (locs : List Loc) (cells slots : Nat) (ls : Array Slot) (x : Int32), ls[i]? = some (.val (.int x)) → W p l e R s m args below meth c H locs cells slots Q (F0 m pc' ls (.int x :: st.map (e_cv ad))) → W p l e R s m args below meth c H locs cells slots Q (F0 m pc ls (st.map (e_cv ad))))
    (kk : e_W p l e R s m args below meth c Q P D ad base n0 z0 k F.1 F.2.1 F.2.2.1 F.2.2.2) : e_W p l e R s m args below meth c Q P D ad base n0 z0 k pc lv st mem := by
  unfold e_iload at h
  split at h
  · next x hx =>
    cases h
    intro H locs cells slots ls hP hz hlo hl hc hs
    exact row H locs cells slots ls x (e_get_at hl hx) (kk H locs cells slots ls hP hz hlo hl hc hs)
  · cases h
theorem e_s_lload (X : e_X p s m args meth c P D cl Ts Ns ad k) {pc pc' i : Nat} {lv : List (Nat × Value)} {st : List Value} {mem : List e_C} {F : e_F} (h : e_lload pc' lv st mem i = some F)
    (row : ∀ (H : Heap) (locs : List Loc) (cells slots : Nat) (ls : Array Slot) (x : Int64), ls[i]? = some (.val (.long x)) → W p l e R s m args below meth c H locs cells slots Q (F0 m pc' ls (.long x :: st.map (e_cv ad))) → W p l e R s m args below meth c H locs cells slots Q (F0 m pc ls (st.map (e_cv ad))))
    (kk : e_W p l e R s m args below meth c Q P D ad base n0 z0 k F.1 F.2.1 F.2.2.1 F.2.2.2) : e_W p l e R s m args below meth c Q P D ad base n0 z0 k pc lv st mem := by
  unfold e_lload at h
  split at h
  · next x hx =>
    cases h
    intro H locs cells slots ls hP hz hlo hl hc hs
    exact row H locs cells slots ls x (e_get_at hl hx) (kk H locs cells slots ls hP hz hlo hl hc hs)
  · cases h
theorem e_s_aload (X : e_X p s m args meth c P D cl Ts Ns ad k) {pc pc' i : Nat} {lv : List (Nat × Value)} {st : List Value} {mem : List e_C} {F : e_F} (h : e_aload pc' lv st mem i = some F)
    (row : ∀ (H : Heap) (locs : List Loc) (cells slots : Nat) (ls : Array Slot) (x : Nat), ls[i]? = some (.val (.ref x)) → W p l e R s m args below meth c H locs cells slots Q (F0 m pc' ls (.ref x :: st.map (e_cv ad))) → W p l e R s m args below meth c H locs cells slots Q (F0 m pc ls (st.map (e_cv ad))))
    (kk : e_W p l e R s m args below meth c Q P D ad base n0 z0 k F.1 F.2.1 F.2.2.1 F.2.2.2) : e_W p l e R s m args below meth c Q P D ad base n0 z0 k pc lv st mem := by
  unfold e_aload at h
  split at h
  · next x hx =>
    cases h
    intro H locs cells slots ls hP hz hlo hl hc hs
    exact row H locs cells slots ls (ad x) (e_get_at hl hx) (kk H locs cells slots ls hP hz hlo hl hc hs)
  · cases h
theorem e_s_istore (X : e_X p s m args meth c P D cl Ts Ns ad k) {pc pc' i : Nat} {lv : List (Nat × Value)} {st : List Value} {mem : List e_C} {F : e_F} (h : e_istore pc' lv st mem (e_mth P k).2.2.1 i = some F)
    (row : ∀ (H : Heap) (locs : List Loc) (cells slots : Nat) (ls : Array Slot) (x : Int32) (lv0 lv' : List (Nat × Value)) (rest : List Value), lv_has ls (e_mth P k).2.2.1 lv0 → i < (e_mth P k).2.2.1 → (i, Value.int x) :: lv0.filter (fun q => !(q.1 == i) && !(q.1 + 1 == i && q.2.category == 2)) = lv' → (∀ ls, lv_has ls (e_mth P k).2.2.1 lv' → W p l e R s m args below meth c H locs cells slots Q (F0 m pc' ls rest)) → W p l e R s m args below meth c H locs cells slots Q (F0 m pc ls (.int x :: rest)))
    (kk : e_W p l e R s m args below meth c Q P D ad base n0 z0 k F.1 F.2.1 F.2.2.1 F.2.2.2) : e_W p l e R s m args below meth c Q P D ad base n0 z0 k pc lv st mem := by
  unfold e_istore at h
  split at h
  · next x r =>
    cases hn : Nat.blt i (e_mth P k).2.2.1 with
    | false => rw [hn] at h; cases h
    | true =>
      rw [hn] at h
      cases h
      intro H locs cells slots ls hP hz hlo hl hc hs
      exact row H locs cells slots ls x _ _ _ hl (by simpa using hn) (e_lv_put1 ad lv i (.int x)) (fun ls hl => kk H locs cells slots ls hP hz hlo hl hc hs)
  · cases h
theorem e_s_lstore (X : e_X p s m args meth c P D cl Ts Ns ad k) {pc pc' i : Nat} {lv : List (Nat × Value)} {st : List Value} {mem : List e_C} {F : e_F} (h : e_lstore pc' lv st mem (e_mth P k).2.2.1 i = some F)
    (row : ∀ (H : Heap) (locs : List Loc) (cells slots : Nat) (ls : Array Slot) (x : Int64) (lv0 lv' : List (Nat × Value)) (rest : List Value), lv_has ls (e_mth P k).2.2.1 lv0 → i + 1 < (e_mth P k).2.2.1 → (i, Value.long x) :: lv0.filter (fun q => !(q.1 == i) && (!(q.1 == i + 1) && !(q.1 + 1 == i && q.2.category == 2))) = lv' → (∀ ls, lv_has ls (e_mth P k).2.2.1 lv' → W p l e R s m args below meth c H locs cells slots Q (F0 m pc' ls rest)) → W p l e R s m args below meth c H locs cells slots Q (F0 m pc ls (.long x :: rest)))
    (kk : e_W p l e R s m args below meth c Q P D ad base n0 z0 k F.1 F.2.1 F.2.2.1 F.2.2.2) : e_W p l e R s m args below meth c Q P D ad base n0 z0 k pc lv st mem := by
  unfold e_lstore at h
  split at h
  · next x r =>
    cases hn : Nat.blt (i + 1) (e_mth P k).2.2.1 with
    | false => rw [hn] at h; cases h
    | true =>
      rw [hn] at h
      cases h
      intro H locs cells slots ls hP hz hlo hl hc hs
      exact row H locs cells slots ls x _ _ _ hl (by simpa using hn) (e_lv_put2 ad lv i (.long x)) (fun ls hl => kk H locs cells slots ls hP hz hlo hl hc hs)
  · cases h
theorem e_s_astore (X : e_X p s m args meth c P D cl Ts Ns ad k) {pc pc' i : Nat} {lv : List (Nat × Value)} {st : List Value} {mem : List e_C} {F : e_F} (h : e_astore pc' lv st mem (e_mth P k).2.2.1 i = some F)
    (row : ∀ (H : Heap) (locs : List Loc) (cells slots : Nat) (ls : Array Slot) (x : Nat) (lv0 lv' : List (Nat × Value)) (rest : List Value), lv_has ls (e_mth P k).2.2.1 lv0 → i < (e_mth P k).2.2.1 → (i, Value.ref x) :: lv0.filter (fun q => !(q.1 == i) && !(q.1 + 1 == i && q.2.category == 2)) = lv' → (∀ ls, lv_has ls (e_mth P k).2.2.1 lv' → W p l e R s m args below meth c H locs cells slots Q (F0 m pc' ls rest)) → W p l e R s m args below meth c H locs cells slots Q (F0 m pc ls (.ref x :: rest)))
    (kk : e_W p l e R s m args below meth c Q P D ad base n0 z0 k F.1 F.2.1 F.2.2.1 F.2.2.2) : e_W p l e R s m args below meth c Q P D ad base n0 z0 k pc lv st mem := by
  unfold e_astore at h
  split at h
  · next x r =>
    cases hn : Nat.blt i (e_mth P k).2.2.1 with
    | false => rw [hn] at h; cases h
    | true =>
      rw [hn] at h
      cases h
      intro H locs cells slots ls hP hz hlo hl hc hs
      exact row H locs cells slots ls (ad x) _ _ _ hl (by simpa using hn) (e_lv_put1 ad lv i (.ref x)) (fun ls hl => kk H locs cells slots ls hP hz hlo hl hc hs)
  · cases h
theorem e_s_i1 {pc pc' : Nat} {f : Int32 → Int32} {lv : List (Nat × Value)} {st : List Value} {mem : List e_C} {F : e_F} (h : e_i1 pc' lv st mem f = some F)
    (row : ∀ (H : Heap) (locs : List Loc) (cells slots : Nat) (ls : Array Slot) (x : Int32) (rest : List Value), W p l e R s m args below meth c H locs cells slots Q (F0 m pc' ls (.int (f x) :: rest)) → W p l e R s m args below meth c H locs cells slots Q (F0 m pc ls (.int x :: rest)))
    (kk : e_W p l e R s m args below meth c Q P D ad base n0 z0 k F.1 F.2.1 F.2.2.1 F.2.2.2) : e_W p l e R s m args below meth c Q P D ad base n0 z0 k pc lv st mem := by
  unfold e_i1 at h
  split at h
  · cases h
    intro H locs cells slots ls hP hz hlo hl hc hs
    exact row H locs cells slots ls _ _ (kk H locs cells slots ls hP hz hlo hl hc hs)
  · cases h
theorem e_s_i2 {pc pc' : Nat} {f : Int32 → Int32 → Int32} {lv : List (Nat × Value)} {st : List Value} {mem : List e_C} {F : e_F} (h : e_i2 pc' lv st mem f = some F)
    (row : ∀ (H : Heap) (locs : List Loc) (cells slots : Nat) (ls : Array Slot) (x y : Int32) (rest : List Value), W p l e R s m args below meth c H locs cells slots Q (F0 m pc' ls (.int (f x y) :: rest)) → W p l e R s m args below meth c H locs cells slots Q (F0 m pc ls (.int y :: .int x :: rest)))
    (kk : e_W p l e R s m args below meth c Q P D ad base n0 z0 k F.1 F.2.1 F.2.2.1 F.2.2.2) : e_W p l e R s m args below meth c Q P D ad base n0 z0 k pc lv st mem := by
  unfold e_i2 at h
  split at h
  · cases h
    intro H locs cells slots ls hP hz hlo hl hc hs
    exact row H locs cells slots ls _ _ _ (kk H locs cells slots ls hP hz hlo hl hc hs)
  · cases h
theorem e_s_i2z {pc pc' : Nat} {f : Int32 → Int32 → Int32} {lv : List (Nat × Value)} {st : List Value} {mem : List e_C} {F : e_F} (h : e_i2z pc' lv st mem f = some F)
    (row : ∀ (H : Heap) (locs : List Loc) (cells slots : Nat) (ls : Array Slot) (x y : Int32) (rest : List Value), ¬ y = 0 → W p l e R s m args below meth c H locs cells slots Q (F0 m pc' ls (.int (f x y) :: rest)) → W p l e R s m args below meth c H locs cells slots Q (F0 m pc ls (.int y :: .int x :: rest)))
    (kk : e_W p l e R s m args below meth c Q P D ad base n0 z0 k F.1 F.2.1 F.2.2.1 F.2.2.2) : e_W p l e R s m args below meth c Q P D ad base n0 z0 k pc lv st mem := by
  unfold e_i2z at h
  split at h
  · next y x r =>
    by_cases hy : y = 0
    · rw [decide_eq_true hy] at h; cases h
    · rw [decide_eq_false hy] at h
      cases h
      intro H locs cells slots ls hP hz hlo hl hc hs
      exact row H locs cells slots ls _ _ _ hy (kk H locs cells slots ls hP hz hlo hl hc hs)
  · cases h
theorem e_s_l2 {pc pc' : Nat} {f : Int64 → Int64 → Int64} {lv : List (Nat × Value)} {st : List Value} {mem : List e_C} {F : e_F} (h : e_l2 pc' lv st mem f = some F)
    (row : ∀ (H : Heap) (locs : List Loc) (cells slots : Nat) (ls : Array Slot) (x y : Int64) (rest : List Value), W p l e R s m args below meth c H locs cells slots Q (F0 m pc' ls (.long (f x y) :: rest)) → W p l e R s m args below meth c H locs cells slots Q (F0 m pc ls (.long y :: .long x :: rest)))
    (kk : e_W p l e R s m args below meth c Q P D ad base n0 z0 k F.1 F.2.1 F.2.2.1 F.2.2.2) : e_W p l e R s m args below meth c Q P D ad base n0 z0 k pc lv st mem := by
  unfold e_l2 at h
  split at h
  · cases h
    intro H locs cells slots ls hP hz hlo hl hc hs
    exact row H locs cells slots ls _ _ _ (kk H locs cells slots ls hP hz hlo hl hc hs)
  · cases h
theorem e_s_l2z {pc pc' : Nat} {f : Int64 → Int64 → Int64} {lv : List (Nat × Value)} {st : List Value} {mem : List e_C} {F : e_F} (h : e_l2z pc' lv st mem f = some F)
    (row : ∀ (H : Heap) (locs : List Loc) (cells slots : Nat) (ls : Array Slot) (x y : Int64) (rest : List Value), ¬ y = 0 → W p l e R s m args below meth c H locs cells slots Q (F0 m pc' ls (.long (f x y) :: rest)) → W p l e R s m args below meth c H locs cells slots Q (F0 m pc ls (.long y :: .long x :: rest)))
    (kk : e_W p l e R s m args below meth c Q P D ad base n0 z0 k F.1 F.2.1 F.2.2.1 F.2.2.2) : e_W p l e R s m args below meth c Q P D ad base n0 z0 k pc lv st mem := by
  unfold e_l2z at h
  split at h
  · next y x r =>
    by_cases hy : y = 0
    · rw [decide_eq_true hy] at h; cases h
    · rw [decide_eq_false hy] at h
      cases h
      intro H locs cells slots ls hP hz hlo hl hc hs
      exact row H locs cells slots ls _ _ _ hy (kk H locs cells slots ls hP hz hlo hl hc hs)
  · cases h
theorem e_s_jmp {pc : Nat} {o : Int} {lv : List (Nat × Value)} {st : List Value} {mem : List e_C} {F : e_F} (h : e_jmp pc o lv st mem = some F) : ∃ t : Nat, (pc : Int) + o = (t : Int) ∧ F = (t, lv, st, mem) := by
  unfold e_jmp at h
  split at h
  · next t ht => cases h; exact ⟨t, e_tgt_eq ht, rfl⟩
  · cases h
theorem e_s_if (X : e_X p s m args meth c P D cl Ts Ns ad k) {pc : Nat} {cd : ClassFile.Cond} {o : Int} {x : Int32} {lv : List (Nat × Value)} {st : List Value} {mem : List e_C} {F : e_F} (hd : decode (e_mth P k).2.1 pc = .ok (.ifCond cd o, 3)) (h : e_if (e_c1 cd x) pc o lv st mem = some F)
    (kk : e_W p l e R s m args below meth c Q P D ad base n0 z0 k F.1 F.2.1 F.2.2.1 F.2.2.2) : e_W p l e R s m args below meth c Q P D ad base n0 z0 k pc lv (.int x :: st) mem := by
  obtain ⟨hx, hb, -⟩ := X
  intro H locs cells slots ls hP hz hlo hl hc hs
  unfold e_if at h
  split at h
  · next t ht0 =>
    have e1 := e_tgt_eq ht0
    cases hcx : e_c1 cd x with
    | true =>
      rw [hcx] at h
      cases h
      have w := kk H locs cells slots ls hP hz hlo hl hc hs
      cases cd <;> simp only [e_c1, decide_eq_true_eq, Bool.not_eq_true', decide_eq_false_iff_not] at hcx
      · exact lv_if_eq hx hb hd e1 (fun _ => w) (fun n => absurd hcx n)
      · exact lv_if_ne hx hb hd e1 (fun _ => w) (fun n => absurd n hcx)
      · exact lv_if_lt hx hb hd e1 (fun _ => w) (fun n => absurd hcx n)
      · exact lv_if_ge hx hb hd e1 (fun _ => w) (fun n => absurd hcx n)
      · exact lv_if_gt hx hb hd e1 (fun _ => w) (fun n => absurd hcx n)
      · exact lv_if_le hx hb hd e1 (fun _ => w) (fun n => absurd hcx n)
    | false =>
      rw [hcx] at h
      cases h
      have w := kk H locs cells slots ls hP hz hlo hl hc hs
      cases cd <;> simp only [e_c1, Bool.not_eq_false', decide_eq_true_eq, decide_eq_false_iff_not] at hcx
      · exact lv_if_eq hx hb hd e1 (fun n => absurd n hcx) (fun _ => w)
      · exact lv_if_ne hx hb hd e1 (fun n => absurd hcx n) (fun _ => w)
      · exact lv_if_lt hx hb hd e1 (fun n => absurd n hcx) (fun _ => w)
      · exact lv_if_ge hx hb hd e1 (fun n => absurd n hcx) (fun _ => w)
      · exact lv_if_gt hx hb hd e1 (fun n => absurd n hcx) (fun _ => w)
      · exact lv_if_le hx hb hd e1 (fun n => absurd n hcx) (fun _ => w)
  · cases h
theorem e_s_icmp (X : e_X p s m args meth c P D cl Ts Ns ad k) {pc : Nat} {cd : ClassFile.Cond} {o : Int} {x y : Int32} {lv : List (Nat × Value)} {st : List Value} {mem : List e_C} {F : e_F} (hd : decode (e_mth P k).2.1 pc = .ok (.if_icmp cd o, 3)) (h : e_if (e_c2 cd x y) pc o lv st mem = some F)
    (kk : e_W p l e R s m args below meth c Q P D ad base n0 z0 k F.1 F.2.1 F.2.2.1 F.2.2.2) : e_W p l e R s m args below meth c Q P D ad base n0 z0 k pc lv (.int y :: .int x :: st) mem := by
  obtain ⟨hx, hb, -⟩ := X
  intro H locs cells slots ls hP hz hlo hl hc hs
  unfold e_if at h
  split at h
  · next t ht0 =>
    have e1 := e_tgt_eq ht0
    cases hcx : e_c2 cd x y with
    | true =>
      rw [hcx] at h
      cases h
      have w := kk H locs cells slots ls hP hz hlo hl hc hs
      cases cd <;> simp only [e_c2, decide_eq_true_eq, Bool.not_eq_true', decide_eq_false_iff_not] at hcx
      · exact lv_icmp_eq hx hb hd e1 (fun _ => w) (fun n => absurd hcx n)
      · exact lv_icmp_ne hx hb hd e1 (fun _ => w) (fun n => absurd n hcx)
      · exact lv_icmp_lt hx hb hd e1 (fun _ => w) (fun n => absurd hcx n)
      · exact lv_icmp_ge hx hb hd e1 (fun _ => w) (fun n => absurd hcx n)
      · exact lv_icmp_gt hx hb hd e1 (fun _ => w) (fun n => absurd hcx n)
      · exact lv_icmp_le hx hb hd e1 (fun _ => w) (fun n => absurd hcx n)
    | false =>
      rw [hcx] at h
      cases h
      have w := kk H locs cells slots ls hP hz hlo hl hc hs
      cases cd <;> simp only [e_c2, Bool.not_eq_false', decide_eq_true_eq, decide_eq_false_iff_not] at hcx
      · exact lv_icmp_eq hx hb hd e1 (fun n => absurd n hcx) (fun _ => w)
      · exact lv_icmp_ne hx hb hd e1 (fun n => absurd hcx n) (fun _ => w)
      · exact lv_icmp_lt hx hb hd e1 (fun n => absurd n hcx) (fun _ => w)
      · exact lv_icmp_ge hx hb hd e1 (fun n => absurd n hcx) (fun _ => w)
      · exact lv_icmp_gt hx hb hd e1 (fun n => absurd n hcx) (fun _ => w)
      · exact lv_icmp_le hx hb hd e1 (fun n => absurd n hcx) (fun _ => w)
  · cases h
end ES
end
section
/-! THE STEPS THAT TOUCH CELLS -/
section ESH
variable {p : Program} {l : Launch} {e : Env} {R : Room} {s : State} {m : MethodId} {args : Array Value} {below : List Frame} {meth : Method} {c : Code} {Q : State → Prop}
variable {P : e_Pg} {D : va_G} {cl : List vw_C} {Ts Ns : List Cond} {ad : Nat → Nat} {base n0 z0 k : Nat}
theorem e_wr_len0 {α : Type} : ∀ (l : List α) (i : Nat) (ys : List α), (e_wr l i ys).length = ys.length
  | [], _, _ => rfl
  | x :: l, i, ys => by
    unfold e_wr
    rw [e_wr_len0 l]
    simp
theorem e_isArr {s : State} {cell : Cell} {ty : FieldType} (j : Nat) (v : Value) (h : s.isArrayOf cell ty) : s.isArrayOf (cell.setSlot j v) ty := h
theorem e_slots_at {xs : List Int32} {j : Nat} {x : Int32} {cell : Cell} (h : cell.slots = (xs.map Value.int).toArray) (hj : xs[j]? = some x) : cell.slots[j]? = some (.int x) := by
  rw [h]
  simp [hj]
theorem e_slots_size {xs : List Int32} {cell : Cell} (h : cell.slots = (xs.map Value.int).toArray) : cell.slots.size = xs.length := by
  rw [h]
  simp
theorem e_slots_set {xs : List Int32} {cell : Cell} {j : Nat} (x : Int32) (h : cell.slots = (xs.map Value.int).toArray) : (cell.setSlot j (.int x)).slots = ((xs.set j x).map Value.int).toArray := by
  show cell.slots.setIfInBounds j (.int x) = _
  rw [h]
  apply Array.toList_inj.mp
  simp [List.map_set]
theorem e_s_alen (G : e_GD P cl Ts Ns) (X : e_X p s m args meth c P D cl Ts Ns ad k) {pc : Nat} {lv : List (Nat × Value)} {st : List Value} {mem : List e_C} {F : e_F} (hd : decode (e_mth P k).2.1 pc = .ok (.arraylength, 1)) (h : e_alen (pc + 1) lv st mem = some F)
    (kk : e_W p l e R s m args below meth c Q P D ad base n0 z0 k F.1 F.2.1 F.2.2.1 F.2.2.2) : e_W p l e R s m args below meth c Q P D ad base n0 z0 k pc lv st mem := by
  obtain ⟨hx, hb, -⟩ := X
  unfold e_alen at h
  split at h
  · next q r =>
    split at h
    · next a ha =>
      cases h
      intro H locs cells slots ls hP hz hlo hl hc hs
      obtain ⟨cell, h1, h2, h3, h4⟩ := hP.1 q _ ha
      exact W.alen hx hb h1 h2 (by rw [e_slots_size h4]) rfl rfl hd (kk H locs cells slots ls hP hz hlo hl hc hs)
    · cases h
  · cases h
theorem e_s_ald (X : e_X p s m args meth c P D cl Ts Ns ad k) {pc : Nat} {z : Bool} {lv : List (Nat × Value)} {st : List Value} {mem : List e_C} {F : e_F} (hd : decode (e_mth P k).2.1 pc = .ok (bif z then .baload else .iaload, 1)) (h : e_ald (pc + 1) lv st mem z = some F)
    (kk : e_W p l e R s m args below meth c Q P D ad base n0 z0 k F.1 F.2.1 F.2.2.1 F.2.2.2) : e_W p l e R s m args below meth c Q P D ad base n0 z0 k pc lv st mem := by
  obtain ⟨hx, hb, -⟩ := X
  unfold e_ald at h
  split at h
  · next j q r =>
    split at h
    · next a ha =>
      cases hcnd : (a.1 == z && !decide (j < 0)) with
      | false => rw [hcnd] at h; cases h
      | true =>
        rw [hcnd] at h
        simp only [Bool.and_eq_true, beq_iff_eq, Bool.not_eq_true', decide_eq_false_iff_not] at hcnd
        obtain ⟨ez, hj⟩ := hcnd
        simp only [cond_true] at h
        split at h
        · next x hxx =>
          cases h
          intro H locs cells slots ls hP hz hlo hl hc hs
          obtain ⟨cell, h1, h2, h3, h4⟩ := hP.1 q _ ha
          have hin : ¬ (j < 0 ∨ cell.slots.size ≤ j.toNatClampNeg) := by
            rintro (q | q)
            · exact hj q
            · rw [e_slots_size h4] at q
              have := (List.getElem?_eq_some_iff.mp hxx).1
              omega
          cases z with
          | false =>
            rw [ez] at h2
            exact W.iald hx hb h1 h2 h3 hin (e_slots_at h4 hxx) rfl rfl hd (kk H locs cells slots ls hP hz hlo hl hc hs)
          | true =>
            rw [ez] at h2
            exact W.zald hx hb h1 h2 h3 hin (e_slots_at h4 hxx) rfl rfl hd (kk H locs cells slots ls hP hz hlo hl hc hs)
        · cases h
    · cases h
  · cases h
theorem e_s_ast (hA : e_AD ad (e_ro P) base) (X : e_X p s m args meth c P D cl Ts Ns ad k) {pc : Nat} {z : Bool} {lv : List (Nat × Value)} {st : List Value} {mem : List e_C} {F : e_F} (hd : decode (e_mth P k).2.1 pc = .ok (bif z then .bastore else .iastore, 1)) (h : e_ast (pc + 1) lv st mem (e_ro P) z = some F)
    (kk : e_W p l e R s m args below meth c Q P D ad base n0 z0 k F.1 F.2.1 F.2.2.1 F.2.2.2) : e_W p l e R s m args below meth c Q P D ad base n0 z0 k pc lv st mem := by
  obtain ⟨hx, hb, -⟩ := X
  unfold e_ast at h
  split at h
  · next x j q r =>
    split at h
    · next a ha =>
      cases hcnd : (a.1 == z && (!decide (j < 0) && (Nat.blt j.toNatClampNeg a.2.length && (Nat.ble (e_ro P) q && (!z || e_fit .boolean (.int x)))))) with
      | false => rw [hcnd] at h; cases h
      | true =>
        rw [hcnd] at h
        simp only [Bool.and_eq_true, beq_iff_eq, Bool.not_eq_true', decide_eq_false_iff_not, Nat.blt_eq, Nat.ble_eq, Bool.or_eq_true] at hcnd
        obtain ⟨ez, hj, hjl, hro, hbz⟩ := hcnd
        cases h
        intro H locs cells slots ls hP hz hlo hl hc hs
        obtain ⟨cell, h1, h2, h3, h4⟩ := hP.1 q _ ha
        have hin : ¬ (j < 0 ∨ cell.slots.size ≤ j.toNatClampNeg) := by
          rintro (q | q)
          · exact hj q
          · rw [e_slots_size h4] at q
            omega
        have hbq : base ≤ ad q := by rw [hA.1 q hro]; omega
        have go : ∀ H' : Heap, H'[ad q]? = some (cell.setSlot j.toNatClampNeg (.int x)) → H'.size = H.size → (∀ y, y ≠ ad q → H'[y]? = H[y]?) → W p l e R s m args below meth c H' (locs ++ [⟨ad q, j.toNatClampNeg⟩]) cells slots Q (F0 m (pc + 1) ls (r.map (e_cv ad))) := by
          intro H' g1 g2 g3
          refine kk H' _ cells slots ls (hP.set hA ha ?_ g3 hro) (by rw [g2, List.length_set]; exact hz) ?_ hl (by rw [List.length_set]; exact hc) (by rw [e_sl_set ha (by simp [e_sz])]; exact hs)
          · exact ⟨_, g1, h2, h3, e_slots_set x h4⟩
          · intro y hy
            rcases List.mem_append.mp hy with hy | hy
            · exact hlo y hy
            · rw [List.mem_singleton.mp hy]; exact hbq
        cases z with
        | false =>
          rw [ez] at h2
          exact W.iast hx hb h1 h2 h3 hin rfl rfl hd go
        | true =>
          rw [ez] at h2
          have hfit : e_fit .boolean (.int x) = true := by
            rcases hbz with hb0 | hb0
            · cases hb0
            · exact hb0
          refine W.zast hx hb h1 h2 h3 hin rfl rfl hd ?_
          rw [(e_fit_narrow hfit).1]
          exact go
    · cases h
  · cases h
theorem e_s_getf (G : e_GD P cl Ts Ns) (X : e_X p s m args meth c P D cl Ts Ns ad k) {pc i : Nat} {lv : List (Nat × Value)} {st : List Value} {mem : List e_C} {F : e_F} (hd : decode (e_mth P k).2.1 pc = .ok (.getfield i, 3)) (h : e_getf (pc + 3) lv st mem (e_fld P k i) = some F)
    (kk : e_W p l e R s m args below meth c Q P D ad base n0 z0 k F.1 F.2.1 F.2.2.1 F.2.2.2) : e_W p l e R s m args below meth c Q P D ad base n0 z0 k pc lv st mem := by
  obtain ⟨hx, hb, -, hown, hts, -, hK, -⟩ := X
  obtain ⟨-, gf, gk, -⟩ := G
  cases hfl : e_fld P k i with
  | none => rw [hfl] at h; cases h
  | some f =>
    rw [hfl] at h
    unfold e_getf at h
    split at h
    · next f' q r hff =>
      cases hff
      split at h
      · next o ho =>
        cases hcnd : (o.1 == f.1) with
        | false => rw [hcnd] at h; cases h
        | true =>
          rw [hcnd] at h
          simp only [cond_true] at h
          have eo : o.1 = f.1 := by simpa using hcnd
          split at h
          · next v hv =>
            cases h
            intro H locs cells slots ls hP hz hlo hl hc hs
            obtain ⟨cell, h1, h2, h3, h4⟩ := (hP.1 q _ ho).obj (fun e => by rw [e] at hv; simp at hv)
            obtain ⟨C, T, N, hcl, hN, hlink, -⟩ := gf k i f hfl
            obtain ⟨hin, -⟩ := gk f.1 C T N hcl
            obtain ⟨hS, hfc, kC, hkC, hkind⟩ := hK.1 f.1 _ hcl
            obtain ⟨cf, kf, fi, fd, hi, hsl⟩ := hS f.2.1 hN
            refine W.getf hx hb hown (hts _ hlink) hi (u_facts hfc hkC (u_lays hts hin hN) hi).1 h1 (by rw [h3]; exact fun h => by cases h) (v := e_cv ad v) ?_ rfl rfl hd (kk H locs cells slots ls hP hz hlo hl hc hs)
            have := (h4 f.2.1 v).1 hv
            rw [eo] at this
            rw [hsl]
            exact this
          · cases h
      · cases h
    · cases h
theorem e_s_putf (G : e_GD P cl Ts Ns) (hA : e_AD ad (e_ro P) base) (X : e_X p s m args meth c P D cl Ts Ns ad k) {pc i : Nat} {lv : List (Nat × Value)} {st : List Value} {mem : List e_C} {F : e_F} (hd : decode (e_mth P k).2.1 pc = .ok (.putfield i, 3)) (h : e_putf (pc + 3) lv st mem (e_ro P) (e_fld P k i) = some F)
    (kk : e_W p l e R s m args below meth c Q P D ad base n0 z0 k F.1 F.2.1 F.2.2.1 F.2.2.2) : e_W p l e R s m args below meth c Q P D ad base n0 z0 k pc lv st mem := by
  obtain ⟨hx, hb, -, hown, hts, -, hK, hname⟩ := X
  obtain ⟨-, gf, gk, -⟩ := G
  cases hfl : e_fld P k i with
  | none => rw [hfl] at h; cases h
  | some f =>
    rw [hfl] at h
    unfold e_putf at h
    split at h
    · next f' v q r hff =>
      cases hff
      split at h
      · next o ho =>
        cases hcnd : (o.1 == f.1 && (Nat.blt f.2.1 o.2.length && (e_fit f.2.2.1 v && (!f.2.2.2 && Nat.ble (e_ro P) q)))) with
        | false => rw [hcnd] at h; cases h
        | true =>
          rw [hcnd] at h
          simp only [Bool.and_eq_true, beq_iff_eq, Bool.not_eq_true', Nat.blt_eq, Nat.ble_eq] at hcnd
          obtain ⟨eo, hlen, hfit, hfin, hro⟩ := hcnd
          cases h
          intro H locs cells slots ls hP hz hlo hl hc hs
          obtain ⟨cell, h1, h2, h3, h4⟩ := (hP.1 q _ ho).obj (fun e => by rw [e] at hlen; simp at hlen)
          obtain ⟨C, T, N, hcl, hN, hlink, hty, hmay⟩ := gf k i f hfl
          obtain ⟨hin, ⟨ty0, hty0⟩, hnm⟩ := gk f.1 C T N hcl
          have hap := va_apart (own := (e_mth P k).1.cls) hts hin ty0 hty0 hnm hK hcl
          obtain ⟨hS, hfc, kC, hkC, hkind⟩ := hK.1 f.1 _ hcl
          obtain ⟨cf, kf, fi, fd, hi, hsl⟩ := hS f.2.1 hN
          have hst := (u_facts hfc hkC (u_lays hts hin hN) hi).1
          obtain ⟨hnar, hfits⟩ := e_fit_narrow (e_fit_cv ad hfit)
          have hbq : base ≤ ad q := by rw [hA.1 q hro]; omega
          have hslot : fd.slot < cell.slots.size := by
            have hg := (h4 f.2.1 o.2[f.2.1]).1 (List.getElem?_eq_getElem hlen)
            rw [eo] at hg
            rw [hsl]
            exact k2_hasslot hg
          have go : ∀ H' : Heap, H'[ad q]? = some (cell.setSlot fd.slot (e_cv ad v)) → H'.size = H.size → (∀ y, y ≠ ad q → H'[y]? = H[y]?) → W p l e R s m args below meth c H' (locs ++ [⟨ad q, fd.slot⟩]) cells slots Q (F0 m (pc + 3) ls (r.map (e_cv ad))) := by
            intro H' g1 g2 g3
            refine kk H' _ cells slots ls (hP.set hA ho ?_ g3 hro) (by rw [g2, List.length_set]; exact hz) ?_ hl (by rw [List.length_set]; exact hc) (by rw [e_sl_set ho (by simp [e_sz])]; exact hs)
            · refine Or.inr ⟨_, g1, h2, h3, fun j w => ⟨fun hw => ?_, fun i hi1 hj1 hij => ?_⟩⟩
              · by_cases hjf : j = f.2.1
                · subst hjf
                  rw [List.getElem?_set_self hlen] at hw
                  cases hw
                  rw [eo, ← hsl]
                  show (cell.slots.setIfInBounds fd.slot (e_cv ad v))[fd.slot]? = _
                  simp [hslot]
                · rw [List.getElem?_set_ne (Ne.symm hjf)] at hw
                  have hjl : j < o.2.length := (List.getElem?_eq_some_iff.mp hw).1
                  have hne : ¬ fd.slot = D.2 o.1 j := by
                    rw [hsl, ← eo]
                    exact fun q => hjf ((h4 j w).2 f.2.1 hlen hjl q).symm
                  show (cell.slots.setIfInBounds fd.slot (e_cv ad v))[D.2 o.1 j]? = _
                  rw [Array.getElem?_setIfInBounds_ne hne]
                  exact (h4 j w).1 hw
              · exact (h4 j w).2 i (by simpa using hi1) (by simpa using hj1) hij
            · intro y hy
              rcases List.mem_append.mp hy with hy | hy
              · exact hlo y hy
              · rw [List.mem_singleton.mp hy]; exact hbq
          have hlay := hts _ (hin _ (u_in_lay hN))
          rcases hmay hfin with hm | ⟨hm, hin2, hdecl⟩
          · unfold u_lay at hlay
            rw [if_neg (by rw [hm]; decide)] at hlay
            have h6 := u_store hfc hkC hkind hlay hi hty hnar hfits
            exact W.putK hx hb (f := fd) ⟨hown, hts _ hlink, ⟨cf, kf, fi, hi⟩, hst⟩ (by rw [h2, eo]; exact h6) h1 h3 hslot rfl rfl hd go
          · have h7 := u_fits hfc hkC hkind (u_lays hts hin hN) hi hty hnar hfits
            refine W.putFinK hx hb hown (hts _ hlink) hi hst ?_ (hname.1 hin2) (by rw [h2, eo]; exact h7) h1 h3 hslot rfl rfl hd go
            unfold u_lay at hlay
            rw [if_pos hm] at hlay
            obtain ⟨_, _, c', _, _, _, -, -, hf', -, -, -, hown2, -⟩ := Cond.laysFinal_spec hlay
            have e1 : c' = cf := by have := hi.symm.trans hf'; simp at this; exact this.1.symm
            rw [hdecl] at hown2
            rw [← e1]; exact Option.some.inj (hown.symm.trans hown2)
      · cases h
    · cases h
theorem e_dflt (ad : Nat → Nat) (ty : FieldType) : e_cv ad (defaultValue ty) = defaultValue ty := by cases ty <;> rfl
theorem e_s_newo (G : e_GD P cl Ts Ns) (hA : e_AD ad (e_ro P) base) (X : e_X p s m args meth c P D cl Ts Ns ad k) {pc i : Nat} {lv : List (Nat × Value)} {st : List Value} {mem : List e_C} {F : e_F} (hd : decode (e_mth P k).2.1 pc = .ok (.new i, 3)) (h : e_newo (pc + 3) lv st mem (e_new P k i) = some F)
    (hRc : F.2.2.2.length ≤ R.cells + n0) (hRs : e_sl F.2.2.2 ≤ R.slots + z0) (hmem : e_ro P ≤ mem.length)
    (kk : e_W p l e R s m args below meth c Q P D ad base n0 z0 k F.1 F.2.1 F.2.2.1 F.2.2.2) : e_W p l e R s m args below meth c Q P D ad base n0 z0 k pc lv st mem := by
  obtain ⟨hx, hb, -, hown, hts, -, hK, hname⟩ := X
  obtain ⟨-, -, gk, gn, -⟩ := G
  cases hfl : e_new P k i with
  | none => rw [hfl] at h; cases h
  | some o =>
    rw [hfl] at h
    cases h
    intro H locs cells slots ls hP hz hlo hl hc hs
    obtain ⟨C, T, N, hcl, hN, hlink, hinst, hini, hdef⟩ := gn k i o hfl
    obtain ⟨hin, ⟨ty0, hty0⟩, hnm⟩ := gk o.1 C T N hcl
    have hap := va_apart (own := (e_mth P k).1.cls) hts hin ty0 hty0 hnm hK hcl
    have hKn := hK.1 o.1 _ hcl
    have hsz : ad mem.length = H.size := by rw [hA.1 _ hmem]; omega
    have e1 : e_sl (mem ++ [.inr o]) = e_sl mem + N := by rw [e_sl_push]; simp [e_sz, hN]
    have e2 : (mem ++ [(.inr o : e_C)]).length = mem.length + 1 := by simp
    dsimp only at hRc hRs
    rw [e2] at hRc
    rw [e1] at hRs
    refine W.newcK hx hb hown (hts _ hlink) (hts _ hinst) (hts _ hini) rfl hd (by omega) (by omega) hKn.2.1 rfl fun H1 kC hkC g1 g2 g3 => ?_
    have hborn := u_born ty0 hts hin hKn hkC g1 hty0
    obtain ⟨cell, b1, b2, b3, b4⟩ := hborn
    refine W.eq ?_ (kk H1 locs (cells + 1) (slots + N) ls (hP.push hsz (Or.inr ⟨cell, b1, b2, b3, fun j v => ⟨fun hv => ?_, fun a ha hj hij => ?_⟩⟩) g3) (by rw [g2, e2]; omega) hlo hl (by rw [e2]; omega) (by rw [e1]; omega))
    · show F0 m (pc + 3) ls (.ref H.size :: _) = F0 m (pc + 3) ls (.ref (ad mem.length) :: _)
      rw [hsz]
    · have hjl : j < N := by rw [← hN]; exact (List.getElem?_eq_some_iff.mp hv).1
      obtain ⟨ty, t1, t2⟩ := hdef j v hv
      rw [b4 j hjl]
      cases (hty0 j hjl).symm.trans t1
      rw [← t2, e_dflt]
    · rw [hN] at ha hj
      by_cases he : a = j
      · exact he
      · exact absurd hij (hap a j ha hj he)
theorem e_s_newa (G : e_GD P cl Ts Ns) (hA : e_AD ad (e_ro P) base) (X : e_X p s m args meth c P D cl Ts Ns ad k) {pc : Nat} {z : Bool} {lv : List (Nat × Value)} {st : List Value} {mem : List e_C} {F : e_F} (hd : decode (e_mth P k).2.1 pc = .ok (.newarray (bif z then .boolean else .int), 2)) (h : e_newa (pc + 2) lv st mem z = some F)
    (hRc : F.2.2.2.length ≤ R.cells + n0) (hRs : e_sl F.2.2.2 ≤ R.slots + z0) (hmem : e_ro P ≤ mem.length)
    (kk : e_W p l e R s m args below meth c Q P D ad base n0 z0 k F.1 F.2.1 F.2.2.1 F.2.2.2) : e_W p l e R s m args below meth c Q P D ad base n0 z0 k pc lv st mem := by
  obtain ⟨hx, hb, -, hown, hts, -, hK, hname⟩ := X
  obtain ⟨-, -, -, -, -, ⟨ga1, ga2, -⟩, -⟩ := G
  unfold e_newa at h
  split at h
  · next n r =>
    cases hcnd : (!decide (n < 0) && decide (n ≤ 65535)) with
    | false => rw [hcnd] at h; cases h
    | true =>
      rw [hcnd] at h
      simp only [Bool.and_eq_true, Bool.not_eq_true', decide_eq_false_iff_not, decide_eq_true_eq] at hcnd
      obtain ⟨hn0, hn1⟩ := hcnd
      cases h
      intro H locs cells slots ls hP hz hlo hl hc hs
      have hsz : ad mem.length = H.size := by rw [hA.1 _ hmem]; omega
      have e1 : e_sl (mem ++ [.inl (z, List.replicate n.toNatClampNeg 0)]) = e_sl mem + n.toNatClampNeg := by rw [e_sl_push]; simp [e_sz]
      have e2 : (mem ++ [(.inl (z, List.replicate n.toNatClampNeg 0) : e_C)]).length = mem.length + 1 := by simp
      have hnn : n.toNatClampNeg ≤ 65535 := by
        obtain ⟨j, hj, rfl⟩ := nI_of hn0
        rw [nI_clamp hj]
        exact (nI_leI hj (by omega)).mp (show nI j ≤ nI 65535 from hn1)
      dsimp only at hRc hRs
      rw [e2] at hRc
      rw [e1] at hRs
      have go : ∀ (ty : FieldType) (H1 : Heap) (cA : ClassId), defaultValue ty = .int 0 → (bif z then FieldType.boolean else FieldType.int) = ty → H1[H.size]? = some (arrV cA n.toNatClampNeg (fun _ => defaultValue ty)) → H1.size = H.size + 1 → (∀ q, q < H.size → H1[q]? = H[q]?) → ArrOfT s cA ty → W p l e R s m args below meth c H1 locs (cells + 1) (slots + n.toNatClampNeg) Q (F0 m (pc + 2) ls (.ref H.size :: r.map (e_cv ad))) := by
        intro ty H1 cA hdv hzt g1 g2 g3 hAr
        refine W.eq ?_ (kk H1 locs (cells + 1) (slots + n.toNatClampNeg) ls (hP.push hsz ⟨_, g1, ?_, ?_, ?_⟩ g3) (by rw [g2, e2]; omega) hlo hl (by rw [e2]; omega) (by rw [e1]; omega))
        · show F0 m (pc + 2) ls (.ref H.size :: _) = F0 m (pc + 2) ls (.ref (ad mem.length) :: _)
          rw [hsz]
        · dsimp only
          rw [hzt]
          exact hAr _ _
        · exact fun h => by cases h
        · rw [hdv]
          apply Array.toList_inj.mp
          simp only [arrV, Array.toList_ofFn, List.map_replicate]
          apply List.ext_getElem
          · simp
          · intro i h1 h2
            simp
      cases z with
      | false => exact va_newaK (atype := .int) hx hb (hts _ ga1) rfl hd rfl hn0 rfl (by show _ * 4 ≤ _; omega) (by omega) (by omega) rfl fun H1 cA g1 g2 g3 g4 _ => go _ H1 cA rfl rfl g1 g2 g3 g4
      | true => exact va_newaK (atype := .boolean) hx hb (hts _ ga2) rfl hd rfl hn0 rfl (by show _ * 1 ≤ _; omega) (by omega) (by omega) rfl fun H1 cA g1 g2 g3 g4 _ => go _ H1 cA rfl rfl g1 g2 g3 g4
  · cases h
theorem e_s_tsw (X : e_X p s m args meth c P D cl Ts Ns ad k) {pc len : Nat} {d lo hi : Int} {offs : Array Int} {lv : List (Nat × Value)} {st : List Value} {mem : List e_C} {F : e_F} (hd : decode (e_mth P k).2.1 pc = .ok (.tableswitch d lo hi offs, len)) (h : e_tsw lv st mem pc d lo hi offs = some F)
    (kk : e_W p l e R s m args below meth c Q P D ad base n0 z0 k F.1 F.2.1 F.2.2.1 F.2.2.2) : e_W p l e R s m args below meth c Q P D ad base n0 z0 k pc lv st mem := by
  obtain ⟨hx, hb, -⟩ := X
  unfold e_tsw at h
  split at h
  · next x r =>
    cases hcnd : (decide (x.toInt < lo) || decide (hi < x.toInt)) with
    | true =>
      rw [hcnd] at h
      simp only [Bool.or_eq_true, decide_eq_true_eq] at hcnd
      obtain ⟨t, e1, rfl⟩ := e_s_jmp h
      intro H locs cells slots ls hP hz hlo hl hc hs
      exact lv_tableOut hx hb hd hcnd e1 (kk H locs cells slots ls hP hz hlo hl hc hs)
    | false =>
      rw [hcnd] at h
      simp only [Bool.or_eq_false_iff, decide_eq_false_iff_not] at hcnd
      simp only [cond_false] at h
      split at h
      · next o ho =>
        obtain ⟨t, e1, rfl⟩ := e_s_jmp h
        intro H locs cells slots ls hP hz hlo hl hc hs
        exact lv_tableIn hx hb hd hcnd.1 hcnd.2 (by rw [← Array.getElem?_toList]; exact ho) e1 (kk H locs cells slots ls hP hz hlo hl hc hs)
      · cases h
  · cases h
theorem e_slots_wr : ∀ (l : List Int32) (at_ i : Nat) (cell : Cell) (ys : List Int32), cell.slots = (ys.map Value.int).toArray → (cell.storePairs at_ ((l.map Value.int).zipIdx i)).slots = ((e_wr l (at_ + i) ys).map Value.int).toArray ∧ (cell.storePairs at_ ((l.map Value.int).zipIdx i)).cls = cell.cls ∧ (cell.storePairs at_ ((l.map Value.int).zipIdx i)).vm = cell.vm
  | [], at_, i, ce, ys, h => ⟨h, rfl, rfl⟩
  | x :: l, at_, i, ce, ys, h => by
    have ih := e_slots_wr l at_ (i + 1) (ce.setSlot (at_ + i) (.int x)) (ys.set (at_ + i) x) (e_slots_set x h)
    rw [List.map_cons, List.zipIdx_cons]
    exact ih
theorem e_stretch {xs : List Int32} {cell : Cell} {sp n : Nat} (h : cell.slots = (xs.map Value.int).toArray) (hl : sp + n ≤ xs.length) : cell.stretch sp n = ((xs.drop sp).take n).map Value.int := by
  unfold Cell.stretch
  apply List.ext_getElem
  · simp; omega
  · intro i h1 h2
    have hi : i < n := by simpa using h1
    simp only [List.getElem_map, List.getElem_range, List.getElem_take, List.getElem_drop]
    rw [Array.getD_eq_getD_getElem?, h]
    simp [show sp + i < xs.length by omega]
theorem e_s_acp (hA : e_AD ad (e_ro P) base) (X : e_X p s m args meth c P D cl Ts Ns ad k) {pc i : Nat} {lv : List (Nat × Value)} {st : List Value} {mem : List e_C} {F : e_F} (hd : decode (e_mth P k).2.1 pc = .ok (.invokestatic i, 3)) (w1 : Cond.methodLink (e_mth P k).1.cls i arraycopyName ∈ Ts) (w2 : Cond.native arraycopyName ∈ Ts) (w3 : Cond.static arraycopyName ∈ Ts) (w4 : Cond.initialized "java/lang/System" ∈ Ts)
    (hf1 : 1 ≤ R.frames) (hl26 : 26 ≤ R.locals) (h : e_acp (pc + 3) lv st mem (e_ro P) = some F)
    (kk : e_W p l e R s m args below meth c Q P D ad base n0 z0 k F.1 F.2.1 F.2.2.1 F.2.2.2) : e_W p l e R s m args below meth c Q P D ad base n0 z0 k pc lv st mem := by
  obtain ⟨hx, hb, hml, hown, hts, -⟩ := X
  unfold e_acp at h
  split at h
  · next n dp q1 sp q0 r =>
    split at h
    · next a b ha hbb =>
      cases hcnd : (!a.1 && (!b.1 && (!decide (sp < 0) && (!decide (dp < 0) && (!decide (n < 0) && (Nat.ble (sp.toNatClampNeg + n.toNatClampNeg) a.2.length && (Nat.ble (dp.toNatClampNeg + n.toNatClampNeg) b.2.length && (Nat.ble (e_ro P) q1 && e_low r)))))))) with
      | false => rw [hcnd] at h; cases h
      | true =>
        rw [hcnd] at h
        simp only [Bool.and_eq_true, Bool.not_eq_true', decide_eq_false_iff_not, Nat.ble_eq] at hcnd
        obtain ⟨za, zb, h1, h2, h3, h4, h5, hro, hlow⟩ := hcnd
        cases h
        intro H locs cells slots ls hP hz hlo hl hc hs
        obtain ⟨cs, s1, s2, s3, s4⟩ := hP.1 q0 _ ha
        obtain ⟨cd, d1, d2, d3, d4⟩ := hP.1 q1 _ hbb
        rw [za] at s2
        rw [zb] at d2
        have nn : ∀ z : Int32, ¬ z < 0 → z.toInt = (z.toNatClampNeg : Int) := by
          intro z hz
          have hz0 : (0 : Int) ≤ z.toInt := by
            have := Int32.not_lt.mp hz
            simpa using Int32.le_iff_toInt_le.mp this
          show z.toInt = ((z.toInt.toNat : Nat) : Int)
          omega
        have hbq : base ≤ ad q1 := by rw [hA.1 q1 hro]; omega
        have hsum : ((r.map (e_cv ad)).map fun v => v.category).sum ≤ 8 := by
          rw [List.map_map, show ((fun v : Value => v.category) ∘ e_cv ad) = (fun v => v.category) from funext fun v => e_cv_cat ad v]
          exact Nat.le_of_ble_eq_true hlow
        obtain ⟨sb, k0, hk0, cm0, hkk0⟩ := s2
        obtain ⟨db, k1, hk1, cm1, hkk1⟩ := d2
        intro T hT X
        obtain ⟨vm', X', step⟩ := X.arraycopy hx hown (hts _ w1) (hts _ w2) (hts _ w3) (hts _ w4) (src := ad q0) (dst := ad q1) (cs := cs) (cd := cd) (srcPos := sp) (destPos := dp) (n := n) (by rw [hT]; exact s1) (by rw [hT]; exact d1)
          sb db s3 d3 hk0 hk1 hkk0 hkk1 (by decide) h1 h2 h3
          (by rw [nn sp h1, nn n h3, e_slots_size s4]; omega)
          (by rw [nn dp h2, nn n h3, e_slots_size d4]; omega)
          (fun vm₁ _ j hj => by
            have e : cs.slots.getD (sp.toNatClampNeg + j) .null = .int a.2[sp.toNatClampNeg + j] := by
              rw [Array.getD_eq_getD_getElem?, e_slots_at s4 (List.getElem?_eq_getElem (by omega))]
              rfl
            rw [e]
            exact ⟨rfl, trivial⟩)
          (g := F0 m pc ls (.int n :: .int dp :: .ref (ad q1) :: .int sp :: .ref (ad q0) :: r.map (e_cv ad))) rfl (by rw [hml]; exact hl.1) (rest := r.map (e_cv ad)) rfl (by rw [hb]; exact hd) hf1 (by show 2 * 0 + _ + (7 + 11) ≤ _; omega)
        have hlt : ad q1 < H.size := (Array.getElem?_eq_some_iff.mp d1).1
        have hcp : copied cs cd sp dp n = cd.storePairs dp.toNatClampNeg ((((a.2.drop sp.toNatClampNeg).take n.toNatClampNeg).map Value.int).zipIdx 0) := by
          show cd.storeRun _ (cs.stretch _ _) = _
          rw [e_stretch s4 h4]
          rfl
        obtain ⟨f1, f2, f3⟩ := e_slots_wr ((a.2.drop sp.toNatClampNeg).take n.toNatClampNeg) dp.toNatClampNeg 0 cd b.2 d4
        rw [← hcp, Nat.add_zero] at f1
        rw [← hcp] at f2 f3
        have hheap : ((T.setVm vm').setCell (ad q1) (copied cs cd sp dp n)).heap = H.setIfInBounds (ad q1) (copied cs cd sp dp n) := by rw [← hT]; rfl
        obtain ⟨t, a1, b1⟩ := kk (H.setIfInBounds (ad q1) (copied cs cd sp dp n)) _ cells slots ls (hP.set hA hbb ⟨_, by simp [Array.getElem?_setIfInBounds, hlt], ⟨by rw [f3]; exact db, k1, by rw [f2]; exact hk1, cm1, by rw [zb]; exact hkk1⟩, by rw [f3]; exact d3, f1⟩ (fun y hy => by simp [Array.getElem?_setIfInBounds, Ne.symm hy]) hro) (by simp only [Array.size_setIfInBounds, List.length_set]; exact hz) (fun y hy => by
            rcases List.mem_append.mp hy with hy | hy
            · exact hlo y hy
            · obtain ⟨z, -, hz⟩ := List.mem_map.mp hy
              rw [← hz]
              exact hbq) hl (by rw [List.length_set]; exact hc) (by rw [e_sl_set hbb (by simp [e_sz, e_wr_len0])]; exact hs) _ hheap X'
        exact ⟨t, step t a1, b1⟩
    · cases h
  · cases h
theorem e_s_min (X : e_X p s m args meth c P D cl Ts Ns ad k) {pc i : Nat} {lv : List (Nat × Value)} {st : List Value} {mem : List e_C} {F : e_F} (hd : decode (e_mth P k).2.1 pc = .ok (.invokestatic i, 3)) (w1 : Cond.methodLink (e_mth P k).1.cls i Lib.Math.min.name ∈ Ts) (w2 : Cond.static Lib.Math.min.name ∈ Ts) (w3 : Cond.initialized "java/lang/Math" ∈ Ts) (w4 : Cond.code Lib.Math.min.name Lib.Math.min.code 2 (some .int) ∈ Ts)
    (hf1 : 1 ≤ R.frames) (hl26 : 26 ≤ R.locals) (hRc : mem.length ≤ R.cells + n0) (hRs : e_sl mem ≤ R.slots + z0) (h : e_min (pc + 3) lv st mem = some F)
    (kk : e_W p l e R s m args below meth c Q P D ad base n0 z0 k F.1 F.2.1 F.2.2.1 F.2.2.2) : e_W p l e R s m args below meth c Q P D ad base n0 z0 k pc lv st mem := by
  obtain ⟨hx, hb, hml, hown, hts, -⟩ := X
  unfold e_min at h
  split at h
  · next y x r =>
    cases hlow : e_low r with
    | false => rw [hlow] at h; cases h
    | true =>
      rw [hlow] at h
      cases h
      intro H locs cells slots ls hP hz hlo hl hc hs
      have hsum : ((r.map (e_cv ad)).map fun v => v.category).sum ≤ 8 := by
        rw [List.map_map, show ((fun v : Value => v.category) ∘ e_cv ad) = (fun v => v.category) from funext fun v => e_cv_cat ad v]
        exact Nat.le_of_ble_eq_true hlow
      exact va_mmin hx hb (by rw [hml]; exact hl.1.symm) hown (hts _ w1) (hts _ w2) (hts _ w3) (hts _ w4) hf1 (by omega) (by omega) (by omega) hd (kk H locs cells slots ls hP hz hlo hl hc hs)
  · cases h
theorem e_s_max (X : e_X p s m args meth c P D cl Ts Ns ad k) {pc i : Nat} {lv : List (Nat × Value)} {st : List Value} {mem : List e_C} {F : e_F} (hd : decode (e_mth P k).2.1 pc = .ok (.invokestatic i, 3)) (w1 : Cond.methodLink (e_mth P k).1.cls i Lib.Math.max.name ∈ Ts) (w2 : Cond.static Lib.Math.max.name ∈ Ts) (w3 : Cond.initialized "java/lang/Math" ∈ Ts) (w4 : Cond.code Lib.Math.max.name Lib.Math.max.code 2 (some .int) ∈ Ts)
    (hf1 : 1 ≤ R.frames) (hl26 : 26 ≤ R.locals) (hRc : mem.length ≤ R.cells + n0) (hRs : e_sl mem ≤ R.slots + z0) (h : e_max (pc + 3) lv st mem = some F)
    (kk : e_W p l e R s m args below meth c Q P D ad base n0 z0 k F.1 F.2.1 F.2.2.1 F.2.2.2) : e_W p l e R s m args below meth c Q P D ad base n0 z0 k pc lv st mem := by
  obtain ⟨hx, hb, hml, hown, hts, -⟩ := X
  unfold e_max at h
  split at h
  · next y x r =>
    cases hlow : e_low r with
    | false => rw [hlow] at h; cases h
    | true =>
      rw [hlow] at h
      cases h
      intro H locs cells slots ls hP hz hlo hl hc hs
      have hsum : ((r.map (e_cv ad)).map fun v => v.category).sum ≤ 8 := by
        rw [List.map_map, show ((fun v : Value => v.category) ∘ e_cv ad) = (fun v => v.category) from funext fun v => e_cv_cat ad v]
        exact Nat.le_of_ble_eq_true hlow
      exact va_mmax hx hb (by rw [hml]; exact hl.1.symm) hown (hts _ w1) (hts _ w2) (hts _ w3) (hts _ w4) hf1 (by omega) (by omega) (by omega) hd (kk H locs cells slots ls hP hz hlo hl hc hs)
  · cases h
end ESH
end
section
/-! ONE STEP, ALL INSTRUCTIONS; A CALL; A RUN -/
def e_le (mem mem' : List e_C) : Prop := mem.length ≤ mem'.length ∧ e_sl mem ≤ e_sl mem'
theorem e_le.rf {mem : List e_C} : e_le mem mem := ⟨Nat.le_refl _, Nat.le_refl _⟩
theorem e_le.tr {a b c : List e_C} (h : e_le a b) (h2 : e_le b c) : e_le a c := ⟨Nat.le_trans h.1 h2.1, Nat.le_trans h.2 h2.2⟩
theorem e_le.push {mem : List e_C} {c : e_C} : e_le mem (mem ++ [c]) := ⟨by simp, by rw [e_sl_push]; omega⟩
theorem e_le.set {mem : List e_C} {q : Nat} {c0 c : e_C} (h : mem[q]? = some c0) (he : e_sz c = e_sz c0) : e_le mem (mem.set q c) := ⟨by simp, by rw [e_sl_set h he]; exact Nat.le_refl _⟩
theorem e_q_iload {pc : Nat} {lv : List (Nat × Value)} {st : List Value} {mem : List e_C} (i : Nat) {F : e_F} (h : e_iload pc lv st mem i = some F) : F.2.2.2 = mem := by
  unfold e_iload at h
  try simp only [Bool.cond_eq_ite] at h
  repeat' split at h
  all_goals first | (cases h; rfl) | cases h
theorem e_q_lload {pc : Nat} {lv : List (Nat × Value)} {st : List Value} {mem : List e_C} (i : Nat) {F : e_F} (h : e_lload pc lv st mem i = some F) : F.2.2.2 = mem := by
  unfold e_lload at h
  try simp only [Bool.cond_eq_ite] at h
  repeat' split at h
  all_goals first | (cases h; rfl) | cases h
theorem e_q_aload {pc : Nat} {lv : List (Nat × Value)} {st : List Value} {mem : List e_C} (i : Nat) {F : e_F} (h : e_aload pc lv st mem i = some F) : F.2.2.2 = mem := by
  unfold e_aload at h
  try simp only [Bool.cond_eq_ite] at h
  repeat' split at h
  all_goals first | (cases h; rfl) | cases h
theorem e_q_istore {pc : Nat} {lv : List (Nat × Value)} {st : List Value} {mem : List e_C} (n i : Nat) {F : e_F} (h : e_istore pc lv st mem n i = some F) : F.2.2.2 = mem := by
  unfold e_istore at h
  try simp only [Bool.cond_eq_ite] at h
  repeat' split at h
  all_goals first | (cases h; rfl) | cases h
theorem e_q_lstore {pc : Nat} {lv : List (Nat × Value)} {st : List Value} {mem : List e_C} (n i : Nat) {F : e_F} (h : e_lstore pc lv st mem n i = some F) : F.2.2.2 = mem := by
  unfold e_lstore at h
  try simp only [Bool.cond_eq_ite] at h
  repeat' split at h
  all_goals first | (cases h; rfl) | cases h
theorem e_q_astore {pc : Nat} {lv : List (Nat × Value)} {st : List Value} {mem : List e_C} (n i : Nat) {F : e_F} (h : e_astore pc lv st mem n i = some F) : F.2.2.2 = mem := by
  unfold e_astore at h
  try simp only [Bool.cond_eq_ite] at h
  repeat' split at h
  all_goals first | (cases h; rfl) | cases h
theorem e_q_iinc {pc : Nat} {lv : List (Nat × Value)} {st : List Value} {mem : List e_C} (n i : Nat) (d : Int) {F : e_F} (h : e_iinc pc lv st mem n i d = some F) : F.2.2.2 = mem := by
  unfold e_iinc at h
  try simp only [Bool.cond_eq_ite] at h
  repeat' split at h
  all_goals first | (cases h; rfl) | cases h
theorem e_q_i1 {pc : Nat} {lv : List (Nat × Value)} {st : List Value} {mem : List e_C} (g : Int32 → Int32) {F : e_F} (h : e_i1 pc lv st mem g = some F) : F.2.2.2 = mem := by
  unfold e_i1 at h
  try simp only [Bool.cond_eq_ite] at h
  repeat' split at h
  all_goals first | (cases h; rfl) | cases h
theorem e_q_i2l {pc : Nat} {lv : List (Nat × Value)} {st : List Value} {mem : List e_C}  {F : e_F} (h : e_i2l pc lv st mem  = some F) : F.2.2.2 = mem := by
  unfold e_i2l at h
  try simp only [Bool.cond_eq_ite] at h
  repeat' split at h
  all_goals first | (cases h; rfl) | cases h
theorem e_q_i2 {pc : Nat} {lv : List (Nat × Value)} {st : List Value} {mem : List e_C} (g : Int32 → Int32 → Int32) {F : e_F} (h : e_i2 pc lv st mem g = some F) : F.2.2.2 = mem := by
  unfold e_i2 at h
  try simp only [Bool.cond_eq_ite] at h
  repeat' split at h
  all_goals first | (cases h; rfl) | cases h
theorem e_q_i2z {pc : Nat} {lv : List (Nat × Value)} {st : List Value} {mem : List e_C} (g : Int32 → Int32 → Int32) {F : e_F} (h : e_i2z pc lv st mem g = some F) : F.2.2.2 = mem := by
  unfold e_i2z at h
  try simp only [Bool.cond_eq_ite] at h
  repeat' split at h
  all_goals first | (cases h; rfl) | cases h
theorem e_q_l2 {pc : Nat} {lv : List (Nat × Value)} {st : List Value} {mem : List e_C} (g : Int64 → Int64 → Int64) {F : e_F} (h : e_l2 pc lv st mem g = some F) : F.2.2.2 = mem := by
  unfold e_l2 at h
  try simp only [Bool.cond_eq_ite] at h
  repeat' split at h
  all_goals first | (cases h; rfl) | cases h
theorem e_q_l2z {pc : Nat} {lv : List (Nat × Value)} {st : List Value} {mem : List e_C} (g : Int64 → Int64 → Int64) {F : e_F} (h : e_l2z pc lv st mem g = some F) : F.2.2.2 = mem := by
  unfold e_l2z at h
  try simp only [Bool.cond_eq_ite] at h
  repeat' split at h
  all_goals first | (cases h; rfl) | cases h
theorem e_q_lcmp {pc : Nat} {lv : List (Nat × Value)} {st : List Value} {mem : List e_C}  {F : e_F} (h : e_lcmp pc lv st mem  = some F) : F.2.2.2 = mem := by
  unfold e_lcmp at h
  try simp only [Bool.cond_eq_ite] at h
  repeat' split at h
  all_goals first | (cases h; rfl) | cases h
theorem e_q_dup {pc : Nat} {lv : List (Nat × Value)} {st : List Value} {mem : List e_C}  {F : e_F} (h : e_dup pc lv st mem  = some F) : F.2.2.2 = mem := by
  unfold e_dup at h
  try simp only [Bool.cond_eq_ite] at h
  repeat' split at h
  all_goals first | (cases h; rfl) | cases h
theorem e_q_pop {pc : Nat} {lv : List (Nat × Value)} {st : List Value} {mem : List e_C}  {F : e_F} (h : e_pop pc lv st mem  = some F) : F.2.2.2 = mem := by
  unfold e_pop at h
  try simp only [Bool.cond_eq_ite] at h
  repeat' split at h
  all_goals first | (cases h; rfl) | cases h
theorem e_q_dup2 {pc : Nat} {lv : List (Nat × Value)} {st : List Value} {mem : List e_C}  {F : e_F} (h : e_dup2 pc lv st mem  = some F) : F.2.2.2 = mem := by
  unfold e_dup2 at h
  try simp only [Bool.cond_eq_ite] at h
  repeat' split at h
  all_goals first | (cases h; rfl) | cases h
theorem e_q_alen {pc : Nat} {lv : List (Nat × Value)} {st : List Value} {mem : List e_C}  {F : e_F} (h : e_alen pc lv st mem  = some F) : F.2.2.2 = mem := by
  unfold e_alen at h
  try simp only [Bool.cond_eq_ite] at h
  repeat' split at h
  all_goals first | (cases h; rfl) | cases h
theorem e_q_ald {pc : Nat} {lv : List (Nat × Value)} {st : List Value} {mem : List e_C} (z : Bool) {F : e_F} (h : e_ald pc lv st mem z = some F) : F.2.2.2 = mem := by
  unfold e_ald at h
  try simp only [Bool.cond_eq_ite] at h
  repeat' split at h
  all_goals first | (cases h; rfl) | cases h
theorem e_q_getf {pc : Nat} {lv : List (Nat × Value)} {st : List Value} {mem : List e_C} (x : Option (Nat × Nat × FieldType × Bool)) {F : e_F} (h : e_getf pc lv st mem x = some F) : F.2.2.2 = mem := by
  unfold e_getf at h
  try simp only [Bool.cond_eq_ite] at h
  repeat' split at h
  all_goals first | (cases h; rfl) | cases h
theorem e_q_ldi {pc : Nat} {lv : List (Nat × Value)} {st : List Value} {mem : List e_C} (x : Option Value) {F : e_F} (h : e_ldi pc lv st mem x = some F) : F.2.2.2 = mem := by
  unfold e_ldi at h
  try simp only [Bool.cond_eq_ite] at h
  repeat' split at h
  all_goals first | (cases h; rfl) | cases h
theorem e_q_ldw {pc : Nat} {lv : List (Nat × Value)} {st : List Value} {mem : List e_C} (x : Option Value) {F : e_F} (h : e_ldw pc lv st mem x = some F) : F.2.2.2 = mem := by
  unfold e_ldw at h
  try simp only [Bool.cond_eq_ite] at h
  repeat' split at h
  all_goals first | (cases h; rfl) | cases h
theorem e_q_ldl {pc : Nat} {lv : List (Nat × Value)} {st : List Value} {mem : List e_C} (x : Option Value) {F : e_F} (h : e_ldl pc lv st mem x = some F) : F.2.2.2 = mem := by
  unfold e_ldl at h
  try simp only [Bool.cond_eq_ite] at h
  repeat' split at h
  all_goals first | (cases h; rfl) | cases h
theorem e_q_jmp {pc : Nat} {o : Int} {lv : List (Nat × Value)} {st : List Value} {mem : List e_C} {F : e_F} (h : e_jmp pc o lv st mem = some F) : F.2.2.2 = mem := by
  obtain ⟨t, -, rfl⟩ := e_s_jmp h
  rfl
theorem e_q_if {b : Bool} {pc : Nat} {o : Int} {lv : List (Nat × Value)} {st : List Value} {mem : List e_C} {F : e_F} (h : e_if b pc o lv st mem = some F) : F.2.2.2 = mem := by
  unfold e_if at h
  try simp only [Bool.cond_eq_ite] at h
  repeat' split at h
  all_goals first | (cases h; rfl) | cases h
theorem e_q_tsw {pc : Nat} {d lo hi : Int} {offs : Array Int} {lv : List (Nat × Value)} {st : List Value} {mem : List e_C} {F : e_F} (h : e_tsw lv st mem pc d lo hi offs = some F) : F.2.2.2 = mem := by
  unfold e_tsw at h
  try simp only [Bool.cond_eq_ite] at h
  repeat' split at h
  all_goals first | exact e_q_jmp h | cases h
theorem e_q_ast {pc ro : Nat} {z : Bool} {lv : List (Nat × Value)} {st : List Value} {mem : List e_C} {F : e_F} (h : e_ast pc lv st mem ro z = some F) : e_le mem F.2.2.2 := by
  unfold e_ast at h
  try simp only [Bool.cond_eq_ite] at h
  split at h
  · split at h
    · next a ha =>
      split at h
      · cases h; exact e_le.set ha (by simp [e_sz])
      · cases h
    · cases h
  · cases h
theorem e_q_putf {pc ro : Nat} {x : Option (Nat × Nat × FieldType × Bool)} {lv : List (Nat × Value)} {st : List Value} {mem : List e_C} {F : e_F} (h : e_putf pc lv st mem ro x = some F) : e_le mem F.2.2.2 := by
  unfold e_putf at h
  try simp only [Bool.cond_eq_ite] at h
  split at h
  · split at h
    · next o ho =>
      split at h
      · cases h; exact e_le.set ho (by simp [e_sz])
      · cases h
    · cases h
  · cases h
theorem e_q_newo {pc : Nat} {x : Option (Nat × List Value)} {lv : List (Nat × Value)} {st : List Value} {mem : List e_C} {F : e_F} (h : e_newo pc lv st mem x = some F) : e_le mem F.2.2.2 := by
  unfold e_newo at h
  split at h
  · cases h; exact e_le.push
  · cases h
theorem e_q_newa {pc : Nat} {z : Bool} {lv : List (Nat × Value)} {st : List Value} {mem : List e_C} {F : e_F} (h : e_newa pc lv st mem z = some F) : e_le mem F.2.2.2 := by
  unfold e_newa at h
  try simp only [Bool.cond_eq_ite] at h
  split at h
  · split at h
    · cases h; exact e_le.push
    · cases h
  · cases h
theorem e_eqle {mem mem' : List e_C} (h : mem' = mem) : e_le mem mem' := h ▸ e_le.rf
theorem e_step_le {P : e_Pg} {k : Nat} {i : Instr} {pc : Nat} {lv : List (Nat × Value)} {st : List Value} {mem : List e_C} {F : e_F} (h : e_step P k i pc lv st mem = some F) : e_le mem F.2.2.2 := by
  cases i with
  | aload n => exact e_eqle (e_q_aload _ h)
  | aload_n n => exact e_eqle (e_q_aload _ h)
  | arraylength  => exact e_eqle (e_q_alen  h)
  | astore n => exact e_eqle (e_q_astore _ _ h)
  | astore_n n => exact e_eqle (e_q_astore _ _ h)
  | baload  => exact e_eqle (e_q_ald _ h)
  | bipush n => unfold e_step at h; cases h; exact e_le.rf
  | dup  => exact e_eqle (e_q_dup  h)
  | dup2  => exact e_eqle (e_q_dup2  h)
  | getfield n => exact e_eqle (e_q_getf _ h)
  | goto o => exact e_eqle (e_q_jmp h)
  | i2b  => exact e_eqle (e_q_i1 _ h)
  | i2l  => exact e_eqle (e_q_i2l  h)
  | i2s  => exact e_eqle (e_q_i1 _ h)
  | iadd  => exact e_eqle (e_q_i2 _ h)
  | iaload  => exact e_eqle (e_q_ald _ h)
  | iand  => exact e_eqle (e_q_i2 _ h)
  | iconst n => unfold e_step at h; cases h; exact e_le.rf
  | idiv  => exact e_eqle (e_q_i2z _ h)
  | iinc n d => exact e_eqle (e_q_iinc _ _ _ h)
  | iload n => exact e_eqle (e_q_iload _ h)
  | iload_n n => exact e_eqle (e_q_iload _ h)
  | imul  => exact e_eqle (e_q_i2 _ h)
  | ior  => exact e_eqle (e_q_i2 _ h)
  | irem  => exact e_eqle (e_q_i2z _ h)
  | ishl  => exact e_eqle (e_q_i2 _ h)
  | ishr  => exact e_eqle (e_q_i2 _ h)
  | istore n => exact e_eqle (e_q_istore _ _ h)
  | istore_n n => exact e_eqle (e_q_istore _ _ h)
  | isub  => exact e_eqle (e_q_i2 _ h)
  | iushr  => exact e_eqle (e_q_i2 _ h)
  | ixor  => exact e_eqle (e_q_i2 _ h)
  | ladd  => exact e_eqle (e_q_l2 _ h)
  | lcmp  => exact e_eqle (e_q_lcmp  h)
  | lconst n => unfold e_step at h; cases h; exact e_le.rf
  | ldc n => exact e_eqle (e_q_ldi _ h)
  | ldc_w n => exact e_eqle (e_q_ldw _ h)
  | ldc2_w n => exact e_eqle (e_q_ldl _ h)
  | ldiv  => exact e_eqle (e_q_l2z _ h)
  | lload n => exact e_eqle (e_q_lload _ h)
  | lload_n n => exact e_eqle (e_q_lload _ h)
  | lmul  => exact e_eqle (e_q_l2 _ h)
  | lrem  => exact e_eqle (e_q_l2z _ h)
  | lstore n => exact e_eqle (e_q_lstore _ _ h)
  | lstore_n n => exact e_eqle (e_q_lstore _ _ h)
  | pop  => exact e_eqle (e_q_pop  h)
  | sipush n => unfold e_step at h; cases h; exact e_le.rf
  | tableswitch d lo hi offs => exact e_eqle (e_q_tsw h)
  | if_icmp c o =>
    unfold e_step at h
    dsimp only at h
    split at h
    · exact e_eqle (e_q_if h)
    · cases h
  | ifCond c o =>
    unfold e_step at h
    dsimp only at h
    split at h
    · exact e_eqle (e_q_if h)
    · cases h
  | bastore => exact e_q_ast h
  | iastore => exact e_q_ast h
  | putfield n => exact e_q_putf h
  | new n => exact e_q_newo h
  | newarray t =>
    cases t with
    | int => exact e_q_newa h
    | boolean => exact e_q_newa h
    | _ => exact absurd (show (none : Option e_F) = some F from h) (by simp)
  | _ => exact absurd (show (none : Option e_F) = some F from h) (by simp)
theorem e_wr_len {α : Type} : ∀ (l : List α) (i : Nat) (ys : List α), (e_wr l i ys).length = ys.length
  | [], _, _ => rfl
  | x :: l, i, ys => by
    unfold e_wr
    rw [e_wr_len l]
    simp
theorem e_q_acp {pc ro : Nat} {lv : List (Nat × Value)} {st : List Value} {mem : List e_C} {F : e_F} (h : e_acp pc lv st mem ro = some F) : e_le mem F.2.2.2 := by
  unfold e_acp at h
  simp only [Bool.cond_eq_ite] at h
  split at h
  · split at h
    · next a b ha hb =>
      split at h
      · cases h; exact e_le.set hb (by simp [e_sz, e_wr_len])
      · cases h
    · cases h
  · cases h
theorem e_q_min {pc : Nat} {lv : List (Nat × Value)} {st : List Value} {mem : List e_C} {F : e_F} (h : e_min pc lv st mem = some F) : F.2.2.2 = mem := by
  unfold e_min at h
  simp only [Bool.cond_eq_ite] at h
  split at h
  · split at h
    · cases h; rfl
    · cases h
  · cases h
theorem e_q_max {pc : Nat} {lv : List (Nat × Value)} {st : List Value} {mem : List e_C} {F : e_F} (h : e_max pc lv st mem = some F) : F.2.2.2 = mem := by
  unfold e_max at h
  simp only [Bool.cond_eq_ite] at h
  split at h
  · split at h
    · cases h; rfl
    · cases h
  · cases h
theorem e_q_bli {P : e_Pg} {k cd pc : Nat} {lv : List (Nat × Value)} {st : List Value} {mem : List e_C} {F : e_F} (h : e_bli P k cd pc lv st mem = some F) : e_le mem F.2.2.2 := by
  unfold e_bli at h
  simp only [Bool.cond_eq_ite] at h
  split at h
  · split at h
    · exact e_q_acp h
    · split at h
      · exact e_eqle (e_q_min h)
      · split at h
        · exact e_eqle (e_q_max h)
        · cases h
  · cases h
end
section
/-! ONE STEP, WHATEVER THE INSTRUCTION -/
theorem e_ln {a n : Nat} (h : (a == n || n == 0) = true) (hn : (n == 0) = false) : a = n := by
  rw [hn, Bool.or_false] at h
  simpa using h
section ESS
variable {p : Program} {l : Launch} {e : Env} {R : Room} {s : State} {m : MethodId} {args : Array Value} {below : List Frame} {meth : Method} {c : Code} {Q : State → Prop}
variable {P : e_Pg} {D : va_G} {cl : List vw_C} {Ts Ns : List Cond} {ad : Nat → Nat} {base n0 z0 k : Nat}
theorem e_step_sound (G : e_GD P cl Ts Ns) (hA : e_AD ad (e_ro P) base) (X : e_X p s m args meth c P D cl Ts Ns ad k) {i : Instr} {pc len : Nat} {lv : List (Nat × Value)} {st : List Value} {mem : List e_C} {F : e_F} (hcode : e_code P k pc = some (i, len)) (hlen : (len == e_len i || e_len i == 0) = true) (h : e_step P k i pc lv st mem = some F)
    (hRc : F.2.2.2.length ≤ R.cells + n0) (hRs : e_sl F.2.2.2 ≤ R.slots + z0) (hmem : e_ro P ≤ mem.length)
    (kk : e_W p l e R s m args below meth c Q P D ad base n0 z0 k F.1 F.2.1 F.2.2.1 F.2.2.2) : e_W p l e R s m args below meth c Q P D ad base n0 z0 k pc lv st mem := by
  have hd := G.1 k pc _ hcode
  have hx := X.1
  have hb := X.2.1
  cases i with
  | aload n =>
    cases e_ln hlen rfl
    exact e_s_aload X h (fun H locs cells slots ls x hg w => lv_aload hx hb hd hg w) kk
  | aload_n n =>
    cases e_ln hlen rfl
    exact e_s_aload X h (fun H locs cells slots ls x hg w => lv_aload_n hx hb hd rfl hg w) kk
  | iload n =>
    cases e_ln hlen rfl
    exact e_s_iload X h (fun H locs cells slots ls x hg w => lv_iload hx hb hd hg w) kk
  | iload_n n =>
    cases e_ln hlen rfl
    exact e_s_iload X h (fun H locs cells slots ls x hg w => lv_iload_n hx hb hd rfl hg w) kk
  | lload n =>
    cases e_ln hlen rfl
    exact e_s_lload X h (fun H locs cells slots ls x hg w => lv_lload hx hb hd hg w) kk
  | lload_n n =>
    cases e_ln hlen rfl
    exact e_s_lload X h (fun H locs cells slots ls x hg w => lv_lload_n hx hb hd rfl hg w) kk
  | astore n =>
    cases e_ln hlen rfl
    exact e_s_astore X h (fun H locs cells slots ls x lv0 lv2 rest hl hn he w => lv_astore hx hb hd hl hn he w) kk
  | astore_n n =>
    cases e_ln hlen rfl
    exact e_s_astore X h (fun H locs cells slots ls x lv0 lv2 rest hl hn he w => lv_astore_n hx hb hd rfl hl hn he w) kk
  | istore n =>
    cases e_ln hlen rfl
    exact e_s_istore X h (fun H locs cells slots ls x lv0 lv2 rest hl hn he w => lv_istore hx hb hd hl hn he w) kk
  | istore_n n =>
    cases e_ln hlen rfl
    exact e_s_istore X h (fun H locs cells slots ls x lv0 lv2 rest hl hn he w => lv_istore_n hx hb hd rfl hl hn he w) kk
  | lstore n =>
    cases e_ln hlen rfl
    exact e_s_lstore X h (fun H locs cells slots ls x lv0 lv2 rest hl hn he w => lv_lstore hx hb hd hl hn he w) kk
  | lstore_n n =>
    cases e_ln hlen rfl
    exact e_s_lstore X h (fun H locs cells slots ls x lv0 lv2 rest hl hn he w => lv_lstore_n hx hb hd rfl hl hn he w) kk
  | arraylength  =>
    cases e_ln hlen rfl
    exact e_s_alen G X hd h kk
  | baload  =>
    cases e_ln hlen rfl
    exact e_s_ald (z := true) X hd h kk
  | iaload  =>
    cases e_ln hlen rfl
    exact e_s_ald (z := false) X hd h kk
  | bastore  =>
    cases e_ln hlen rfl
    exact e_s_ast (z := true) hA X hd h kk
  | iastore  =>
    cases e_ln hlen rfl
    exact e_s_ast (z := false) hA X hd h kk
  | bipush n =>
    cases e_ln hlen rfl
    unfold e_step at h
    cases h
    exact fun H locs cells slots ls hP hz hlo hl hc hs => lv_bipush hx hb hd rfl (kk H locs cells slots ls hP hz hlo hl hc hs)
  | iconst n =>
    cases e_ln hlen rfl
    unfold e_step at h
    cases h
    exact fun H locs cells slots ls hP hz hlo hl hc hs => lv_iconst hx hb hd rfl (kk H locs cells slots ls hP hz hlo hl hc hs)
  | sipush n =>
    cases e_ln hlen rfl
    unfold e_step at h
    cases h
    exact fun H locs cells slots ls hP hz hlo hl hc hs => lv_sipush hx hb hd rfl (kk H locs cells slots ls hP hz hlo hl hc hs)
  | lconst n =>
    cases e_ln hlen rfl
    unfold e_step at h
    cases h
    exact fun H locs cells slots ls hP hz hlo hl hc hs => lv_lconst hx hb hd rfl (kk H locs cells slots ls hP hz hlo hl hc hs)
  | dup  =>
    cases e_ln hlen rfl
    unfold e_step e_dup at h
    simp only [Bool.cond_eq_ite] at h
    split at h
    · next v r =>
      split at h
      · next hv =>
        cases h
        exact fun H locs cells slots ls hP hz hlo hl hc hs => lv_dup hx hb hd (by rw [e_cv_cat]; simpa using hv) (kk H locs cells slots ls hP hz hlo hl hc hs)
      · cases h
    · cases h
  | pop  =>
    cases e_ln hlen rfl
    unfold e_step e_pop at h
    simp only [Bool.cond_eq_ite] at h
    split at h
    · next v r =>
      split at h
      · next hv =>
        cases h
        exact fun H locs cells slots ls hP hz hlo hl hc hs => lv_pop hx hb hd (by rw [e_cv_cat]; simpa using hv) (kk H locs cells slots ls hP hz hlo hl hc hs)
      · cases h
    · cases h
  | dup2  =>
    cases e_ln hlen rfl
    unfold e_step e_dup2 at h
    simp only [Bool.cond_eq_ite] at h
    split at h
    · next v w r =>
      split at h
      · next hv =>
        simp only [Bool.and_eq_true, beq_iff_eq] at hv
        cases h
        exact fun H locs cells slots ls hP hz hlo hl hc hs => lv_dup2_11 hx hb hd (by rw [e_cv_cat]; exact hv.1) (by rw [e_cv_cat]; exact hv.2) (kk H locs cells slots ls hP hz hlo hl hc hs)
      · cases h
    · cases h
  | getfield n =>
    cases e_ln hlen rfl
    exact e_s_getf G X hd h kk
  | putfield n =>
    cases e_ln hlen rfl
    exact e_s_putf G hA X hd h kk
  | new n =>
    cases e_ln hlen rfl
    exact e_s_newo G hA X hd h hRc hRs hmem kk
  | newarray t =>
    cases e_ln hlen rfl
    cases t with
    | int => exact e_s_newa (z := false) G hA X hd h hRc hRs hmem kk
    | boolean => exact e_s_newa (z := true) G hA X hd h hRc hRs hmem kk
    | _ => exact absurd (show (none : Option e_F) = some F from h) (by simp)
  | goto o =>
    cases e_ln hlen rfl
    obtain ⟨t, e1, rfl⟩ := e_s_jmp h
    exact fun H locs cells slots ls hP hz hlo hl hc hs => lv_goto hx hb hd e1 (kk H locs cells slots ls hP hz hlo hl hc hs)
  | i2b  =>
    cases e_ln hlen rfl
    exact e_s_i1 h (fun H locs cells slots ls x rest w => lv_i2b hx hb hd rfl w) kk
  | i2s  =>
    cases e_ln hlen rfl
    exact e_s_i1 h (fun H locs cells slots ls x rest w => lv_i2s hx hb hd rfl w) kk
  | i2l  =>
    cases e_ln hlen rfl
    unfold e_step e_i2l at h
    dsimp only at h
    split at h
    · cases h
      exact fun H locs cells slots ls hP hz hlo hl hc hs => lv_i2l hx hb hd rfl (kk H locs cells slots ls hP hz hlo hl hc hs)
    · cases h
  | iadd  =>
    cases e_ln hlen rfl
    exact e_s_i2 h (fun H locs cells slots ls x y rest w => lv_iadd hx hb hd w) kk
  | isub  =>
    cases e_ln hlen rfl
    exact e_s_i2 h (fun H locs cells slots ls x y rest w => lv_isub hx hb hd w) kk
  | imul  =>
    cases e_ln hlen rfl
    exact e_s_i2 h (fun H locs cells slots ls x y rest w => lv_imul hx hb hd w) kk
  | iand  =>
    cases e_ln hlen rfl
    exact e_s_i2 h (fun H locs cells slots ls x y rest w => lv_iand hx hb hd w) kk
  | ior  =>
    cases e_ln hlen rfl
    exact e_s_i2 h (fun H locs cells slots ls x y rest w => lv_ior hx hb hd w) kk
  | ixor  =>
    cases e_ln hlen rfl
    exact e_s_i2 h (fun H locs cells slots ls x y rest w => lv_ixor hx hb hd w) kk
  | ishl  =>
    cases e_ln hlen rfl
    exact e_s_i2 h (fun H locs cells slots ls x y rest w => lv_ishl hx hb hd w) kk
  | ishr  =>
    cases e_ln hlen rfl
    exact e_s_i2 h (fun H locs cells slots ls x y rest w => lv_ishr hx hb hd w) kk
  | iushr  =>
    cases e_ln hlen rfl
    exact e_s_i2 h (fun H locs cells slots ls x y rest w => lv_iushr hx hb hd rfl w) kk
  | idiv  =>
    cases e_ln hlen rfl
    exact e_s_i2z h (fun H locs cells slots ls x y rest hy w => lv_idiv hx hb hd hy w) kk
  | irem  =>
    cases e_ln hlen rfl
    exact e_s_i2z h (fun H locs cells slots ls x y rest hy w => lv_irem hx hb hd hy w) kk
  | ladd  =>
    cases e_ln hlen rfl
    exact e_s_l2 h (fun H locs cells slots ls x y rest w => lv_ladd hx hb hd w) kk
  | lmul  =>
    cases e_ln hlen rfl
    exact e_s_l2 h (fun H locs cells slots ls x y rest w => lv_lmul hx hb hd w) kk
  | ldiv  =>
    cases e_ln hlen rfl
    exact e_s_l2z h (fun H locs cells slots ls x y rest hy w => lv_ldiv hx hb hd hy w) kk
  | lrem  =>
    cases e_ln hlen rfl
    exact e_s_l2z h (fun H locs cells slots ls x y rest hy w => lv_lrem hx hb hd hy w) kk
  | lcmp  =>
    cases e_ln hlen rfl
    unfold e_step e_lcmp at h
    dsimp only at h
    split at h
    · cases h
      exact fun H locs cells slots ls hP hz hlo hl hc hs => W.lcmp hx hb hd (kk H locs cells slots ls hP hz hlo hl hc hs)
    · cases h
  | if_icmp cd o =>
    cases e_ln hlen rfl
    unfold e_step at h
    dsimp only at h
    split at h
    · exact e_s_icmp X hd h kk
    · cases h
  | ifCond cd o =>
    cases e_ln hlen rfl
    unfold e_step at h
    dsimp only at h
    split at h
    · exact e_s_if X hd h kk
    · cases h
  | iinc n d =>
    cases e_ln hlen rfl
    unfold e_step e_iinc at h
    simp only [Bool.cond_eq_ite] at h
    split at h
    · next x hg =>
      split at h
      · next hn =>
        cases h
        intro H locs cells slots ls hP hz hlo hl hc hs
        obtain ⟨j, hj⟩ := List.getElem?_of_mem (show (n, Value.int x) ∈ e_lv ad lv from List.mem_map.mpr ⟨(n, .int x), e_get_mem hg, rfl⟩)
        exact lv_iinc hx hb hd hl hj rfl (by simpa using hn) (e_lv_put1 ad lv n (.int (x + Int32.ofInt d))) (fun ls hl => kk H locs cells slots ls hP hz hlo hl hc hs)
      · cases h
    · cases h
  | ldc n =>
    cases e_ln hlen rfl
    unfold e_step e_ldi at h
    dsimp only at h
    split at h
    · next v hv =>
      cases h
      rcases G.2.2.2.2.1 k n _ hv with ⟨x, ex, hw⟩ | ⟨x, ex, hw⟩ | ⟨j, hj, ex, -⟩
      · cases ex
        exact fun H locs cells slots ls hP hz hlo hl hc hs => lv_ldc hx hb X.2.2.2.1 (X.2.2.2.2.1 _ hw) hd (kk H locs cells slots ls hP hz hlo hl hc hs)
      · cases ex
      · cases ex
    · next q hv =>
      cases h
      rcases G.2.2.2.2.1 k n _ hv with ⟨x, ex, hw⟩ | ⟨x, ex, hw⟩ | ⟨j, hj, ex, h1, h2⟩
      · cases ex
      · cases ex
      · cases ex
        intro H locs cells slots ls hP hz hlo hl hc hs
        have h3 := X.2.2.2.2.2.2.2.2 j hj
        have h4 := X.2.2.2.1
        rw [h1] at h4
        rw [← h2] at h3
        exact va_ldcS hx hb h4 h3 hd (kk H locs cells slots ls hP hz hlo hl hc hs)
    · cases h
  | ldc_w n =>
    cases e_ln hlen rfl
    unfold e_step e_ldw at h
    dsimp only at h
    split at h
    · next v hv =>
      cases h
      rcases G.2.2.2.2.1 k n _ hv with ⟨x, ex, hw⟩ | ⟨x, ex, hw⟩ | ⟨j, hj, ex, -⟩
      · cases ex
        exact fun H locs cells slots ls hP hz hlo hl hc hs => lv_ldcw hx hb X.2.2.2.1 (X.2.2.2.2.1 _ hw) hd (kk H locs cells slots ls hP hz hlo hl hc hs)
      · cases ex
      · cases ex
    · cases h
  | ldc2_w n =>
    cases e_ln hlen rfl
    unfold e_step e_ldl at h
    dsimp only at h
    split at h
    · next v hv =>
      cases h
      rcases G.2.2.2.2.1 k n _ hv with ⟨x, ex, hw⟩ | ⟨x, ex, hw⟩ | ⟨j, hj, ex, -⟩
      · cases ex
      · cases ex
        exact fun H locs cells slots ls hP hz hlo hl hc hs => lv_ldc2 hx hb X.2.2.2.1 (X.2.2.2.2.1 _ hw) hd (kk H locs cells slots ls hP hz hlo hl hc hs)
      · cases ex
    · cases h
  | tableswitch d lo hi offs => exact e_s_tsw X hd h kk
  | _ => exact absurd (show (none : Option e_F) = some F from h) (by simp)
end ESS
end
section
/-! CALLS, AND THE WHOLE RUN -/
theorem e_go_le {P : e_Pg} {n k : Nat} {x : Option e_F} {mem : List e_C} {y : Option Value × List e_C} (ih : ∀ k pc lv st mem y, e_run P n k pc lv st mem = some y → e_le mem y.2) (hx : ∀ F, x = some F → e_le mem F.2.2.2) (h : e_go (e_run P n) k x = some y) : e_le mem y.2 := by
  unfold e_go at h
  split at h
  · next F => exact (hx F rfl).tr (ih _ _ _ _ _ _ h)
  · cases h
theorem e_aft_le {P : e_Pg} {n k pc : Nat} {lv : List (Nat × Value)} {rest : List Value} {x : Option (Option Value × List e_C)} {mem : List e_C} {y : Option Value × List e_C} (ih : ∀ k pc lv st mem y, e_run P n k pc lv st mem = some y → e_le mem y.2) (hx : ∀ F, x = some F → e_le mem F.2) (h : e_aft (e_run P n) k pc lv rest x = some y) : e_le mem y.2 := by
  unfold e_aft at h
  split at h
  · next F => exact (hx F rfl).tr (ih _ _ _ _ _ _ h)
  · cases h
theorem e_sgo_le {P : e_Pg} {n k pc : Nat} {lv : List (Nat × Value)} {st : List Value} {mem : List e_C} {sp : Bool} {cd : Nat} {y : Option Value × List e_C} (ih : ∀ k pc lv st mem y, e_run P n k pc lv st mem = some y → e_le mem y.2) (h : e_sgo P (e_run P n) k pc lv st mem sp cd = some y) : e_le mem y.2 := by
  unfold e_sgo at h
  cases sp with
  | true => cases h
  | false =>
    simp only [cond_false] at h
    split at h
    · exact ih _ _ _ _ _ _ h
    · cases h
theorem e_inv_le {P : e_Pg} {n k pc : Nat} {lv : List (Nat × Value)} {st : List Value} {mem : List e_C} {sp : Bool} {i : Nat} {y : Option Value × List e_C} (ih : ∀ k pc lv st mem y, e_run P n k pc lv st mem = some y → e_le mem y.2) (h : e_inv P (e_run P n) k pc lv st mem sp i = some y) : e_le mem y.2 := by
  unfold e_inv at h
  simp only [Bool.cond_eq_ite] at h
  split at h
  · cases h
  · split at h
    · split at h
      · split at h
        · exact ih _ _ _ _ _ _ h
        · exact e_sgo_le ih h
      · split at h
        · split at h
          · exact e_aft_le ih (fun F hF => ih _ _ _ _ _ _ hF) h
          · cases h
        · cases h
    · cases h
theorem e_ivs_le {P : e_Pg} {n k pc : Nat} {lv : List (Nat × Value)} {st : List Value} {mem : List e_C} {i : Nat} {y : Option Value × List e_C} (ih : ∀ k pc lv st mem y, e_run P n k pc lv st mem = some y → e_le mem y.2) (h : e_ivs P (e_run P n) k pc lv st mem i = some y) : e_le mem y.2 := by
  unfold e_ivs at h
  simp only [Bool.cond_eq_ite] at h
  split at h
  · cases h
  · split at h
    · exact e_go_le ih (fun F hF => e_q_bli hF) h
    · split at h
      · exact e_aft_le ih (fun F hF => ih _ _ _ _ _ _ hF) h
      · cases h
theorem e_rt_le {mem : List e_C} {x : Option (Option Value)} {y : Option Value × List e_C} (h : e_rt mem x = some y) : e_le mem y.2 := by
  unfold e_rt at h
  split at h
  · cases h; exact e_le.rf
  · cases h
theorem e_run_le {P : e_Pg} : ∀ (n k pc : Nat) (lv : List (Nat × Value)) (st : List Value) (mem : List e_C) (y : Option Value × List e_C), e_run P n k pc lv st mem = some y → e_le mem y.2
  | 0, _, _, _, _, _, _, h => by cases h
  | n + 1, k, pc, lv, st, mem, y, h => by
    rw [e_run_succ] at h
    have ih := e_run_le (P := P) n
    unfold e_body at h
    simp only [Bool.cond_eq_ite] at h
    split at h
    · next x hx =>
      split at h
      · unfold e_one at h
        split at h
        · exact e_inv_le ih h
        · exact e_inv_le ih h
        · exact e_ivs_le ih h
        · exact e_rt_le h
        · exact e_rt_le h
        · exact e_rt_le h
        · exact e_rt_le h
        · exact e_go_le ih (fun F hF => e_step_le hF) h
      · cases h
    · cases h
def e_ws (P : e_Pg) (Ts : List Cond) (j : Nat) : List Cond := Cond.code (e_mth P j).1 (e_mth P j).2.1 (e_mth P j).2.2.1 (e_mth P j).2.2.2 :: Ts
def e_rm (P : e_Pg) (j : Nat) (mem mem' : List e_C) : Room := { frames := (e_rmo P j).1, cells := mem'.length - mem.length, slots := e_sl mem' - e_sl mem, locals := (e_rmo P j).2.1 }
def e_Pc (P : e_Pg) (D : va_G) (cl : List vw_C) (Ns : List Cond) (ad : Nat → Nat) (base : Nat) (vs : List Value) (mem : List e_C) : Array Value → State → Prop := fun a U => a = (vs.map (e_cv ad)).toArray ∧ e_P U D ad mem U.heap ∧ U.heap.size + e_ro P = base + mem.length ∧ va_K D cl [] U ∧ (∀ w ∈ Ns, va_Nw w U) ∧ e_K U ad
def e_Qc (P : e_Pg) (D : va_G) (ad : Nat → Nat) (base : Nat) (r : Option Value) (mem' : List e_C) : Array Value → State → Outcome → State → Prop := fun _ _ oc t => oc = .returned (r.map (e_cv ad)) ∧ e_P t D ad mem' t.heap ∧ t.heap.size + e_ro P = base + mem'.length
theorem e_blind {P : e_Pg} {D : va_G} {cl : List vw_C} {Ns : List Cond} {ad : Nat → Nat} {base : Nat} {vs : List Value} {mem : List e_C} (hN : e_gN Ns) : FrameBlind (e_Pc P D cl Ns ad base vs mem) := by
  intro a U g mk ⟨h1, h2, h3, h4, h5, h6⟩
  refine ⟨h1, e_P.moved (s := U) (U := U.calling g mk a) (Vm.Alike.refl U.vm) h2, h3, va_K.moved (u := U) (U := U.calling g mk a) (Vm.Alike.refl U.vm) h4, fun w hw => ?_, fun i hi => vk_R.same (rfl : (U.calling g mk a).vm = U.vm) (h6 i hi)⟩
  obtain ⟨x1, x2, x3, x4, rfl⟩ := hN w hw
  exact va_Nw.same rfl (rfl : U.vm = (U.calling g mk a).vm) (h5 _ hw)
/-- n steps at most of the small machine are sound, at whatever frame -/
def e_S (l : Launch) (P : e_Pg) (D : va_G) (cl : List vw_C) (Ts Ns : List Cond) (ad : Nat → Nat) (base n : Nat) : Prop :=
  ∀ (k pc : Nat) (lv : List (Nat × Value)) (st : List Value) (mem : List e_C) (r : Option Value) (mem' : List e_C), e_run P n k pc lv st mem = some (r, mem') → e_ro P ≤ mem.length →
  ∀ (p : Program) (e : Env) (R : Room) (s : State) (m : MethodId) (args : Array Value) (below : List Frame) (meth : Method) (c : Code) (Q : State → Prop) (n0 z0 : Nat), e_X p s m args meth c P D cl Ts Ns ad k → (e_rmo P k).1 ≤ R.frames → (e_rmo P k).2.1 ≤ R.locals → mem'.length ≤ R.cells + n0 → e_sl mem' ≤ R.slots + z0 →
  (∀ (pc' : Nat) (i : Instr) (lv' : List (Nat × Value)) (st' : List Value), decode (e_mth P k).2.1 pc' = .ok (i, 1) → e_ret (e_mth P k).2.2.2 i st' = some r → e_W p l e R s m args below meth c Q P D ad base n0 z0 k pc' lv' st' mem') →
  e_W p l e R s m args below meth c Q P D ad base n0 z0 k pc lv st mem
theorem e_lgsl : ∀ vs : List Value, (lg_sl vs).length = (vs.map fun v => v.category).sum
  | [] => rfl
  | v :: vs => by
    have ih := e_lgsl vs
    unfold lg_sl at ih ⊢
    rw [List.flatMap_cons, List.length_append, ih, List.map_cons, List.sum_cons]
    rcases lv_cat v with h | h <;> simp [h]
theorem e_catsum (ad : Nat → Nat) (vs : List Value) : ((vs.map (e_cv ad)).map fun v => v.category).sum = (vs.map fun v => v.category).sum := by
  rw [List.map_map]
  congr 1
  apply List.map_congr_left
  intro v _
  exact e_cv_cat ad v
theorem e_met {l : Launch} {P : e_Pg} {D : va_G} {cl : List vw_C} {Ts Ns : List Cond} {ad : Nat → Nat} {base n j : Nat} {vs : List Value} {mem mem' : List e_C} {r : Option Value} (hS : e_S l P D cl Ts Ns ad base n) (hrun : e_run P n j 0 (lv_args 0 vs) [] mem = some (r, mem')) (hmem : e_ro P ≤ mem.length)
    (hpl : plainName (e_mth P j).1.cls = true) (hvs : (vs.map fun v => v.category).sum ≤ (e_mth P j).2.2.1) :
    Met l (e_mth P j).1 (e_ws P Ts j) (e_rm P j mem mem') (e_Pc P D cl Ns ad base vs mem) (e_Qc P D ad base r mem') (mem'.length - mem.length) (e_sl mem' - e_sl mem) (fun q => base ≤ q) := by
  obtain ⟨le1, le2⟩ := e_run_le _ _ _ _ _ _ _ hrun
  dsimp only at le1 le2
  refine Met.ofW (cc := (e_mth P j).2.1) (maxL := (e_mth P j).2.2.1) (ret := (e_mth P j).2.2.2) hpl rfl ?_
  intro p e s m args below meth c s₁ B hml hv
  obtain ⟨rfl, hP, hz, hK, hN, hK8⟩ := hv
  have hts := atoms_spec (ws := e_ws P Ts j) B.pre
  have hlocks := B.notSynchronized
  have X : e_X p s m (vs.map (e_cv ad)).toArray meth c P D cl Ts Ns ad j := ⟨B.exec, B.bytes, hml, findClass_of_methodNamed B.named, fun w hw => hts w (List.mem_cons_of_mem _ hw), hN, hK, fun hi => (name_of_methodNamed B.named B.method).1.trans hi, hK8⟩
  have hl := lv_entry (vs.map (e_cv ad)) (n := (e_mth P j).2.2.1) (by rw [e_lgsl, e_catsum]; exact hvs)
  rw [lg_entry_eq]
  generalize (lg_sl (vs.map (e_cv ad)) ++ List.replicate ((e_mth P j).2.2.1 - (lg_sl (vs.map (e_cv ad))).length) Slot.unset).toArray = ls at hl ⊢
  rw [e_lv_args] at hl
  refine hS j 0 _ [] mem r mem' hrun hmem p e _ s m _ below meth c _ mem.length (e_sl mem) X (Nat.le_refl _) (Nat.le_refl _) (by show _ ≤ mem'.length - mem.length + _; omega) (by show _ ≤ e_sl mem' - e_sl mem + _; omega) ?_ s.heap [] 0 0 ls hP hz (fun x hx => by cases hx) hl (by omega) (by omega)
  intro pc' i lv' st' hd hr H locs cells slots ls hP hz hlo hl hc hs
  have ec : cells = mem'.length - mem.length := by omega
  have es : slots = e_sl mem' - e_sl mem := by omega
  subst ec; subst es
  have post : ∀ t : State, t.heap = H → s.WarmedH t.vm → e_P t D ad mem' t.heap ∧ t.heap.size + e_ro P = base + mem'.length := fun t ht hW => ⟨by rw [ht]; exact hP.moved hW.alike, by rw [ht]; exact hz⟩
  have hret := B.returns
  unfold e_ret at hr
  split at hr
  · next x hty =>
    cases hr
    exact W.iret B.exec B.bytes (hret.trans hty) (fun t ht hW => ⟨rfl, post t ht hW⟩) hlo hd
  · next x hty =>
    simp only [Bool.cond_eq_ite] at hr
    split at hr
    · next hf =>
      cases hr
      exact W.zret B.exec B.bytes (hret.trans hty) (e_fit_narrow hf).1 (fun t ht hW => ⟨rfl, post t ht hW⟩) hlo hd
    · cases hr
  · next x hty =>
    cases hr
    exact W.lret B.exec B.bytes (hret.trans hty) (fun t ht hW => ⟨rfl, post t ht hW⟩) hlo hd
  · next cn x hty =>
    cases hr
    exact W.aret B.exec B.bytes (hret.trans hty) (Or.inl ⟨_, rfl⟩) (Or.inr ⟨_, rfl⟩) (fun t ht hW => ⟨rfl, post t ht hW⟩) hlo hd
  · next hty =>
    cases hr
    exact W.vret B.exec B.bytes (hret.trans hty) (fun t ht hW => ⟨rfl, post t ht hW⟩) hlo hd
  · cases hr
end
section
/-! TEXTS: length() and charAt() of the class's own texts, by the JDK's own code -/
theorem td_cod_0 : decode tb_cod 0 = .ok (.getstatic 38, 3) := by decide +kernel
theorem td_cod_3 : decode tb_cod 3 = .ok (.ifCond .eq 10, 3) := by decide +kernel
theorem td_cod_6 : decode tb_cod 6 = .ok (.aload_n 0, 1) := by decide +kernel
theorem td_cod_7 : decode tb_cod 7 = .ok (.getfield 15, 3) := by decide +kernel
theorem td_cod_10 : decode tb_cod 10 = .ok (.goto 4, 3) := by decide +kernel
theorem td_cod_14 : decode tb_cod 14 = .ok (.ireturn, 1) := by decide +kernel
theorem td_lat_0 : decode tb_lat 0 = .ok (.getstatic 38, 3) := by decide +kernel
theorem td_lat_3 : decode tb_lat 3 = .ok (.ifCond .eq 14, 3) := by decide +kernel
theorem td_lat_6 : decode tb_lat 6 = .ok (.aload_n 0, 1) := by decide +kernel
theorem td_lat_7 : decode tb_lat 7 = .ok (.getfield 15, 3) := by decide +kernel
theorem td_lat_10 : decode tb_lat 10 = .ok (.ifCond .ne 7, 3) := by decide +kernel
theorem td_lat_13 : decode tb_lat 13 = .ok (.iconst 1, 1) := by decide +kernel
theorem td_lat_14 : decode tb_lat 14 = .ok (.goto 4, 3) := by decide +kernel
theorem td_lat_18 : decode tb_lat 18 = .ok (.ireturn, 1) := by decide +kernel
theorem td_pch_0 : decode tb_pch 0 = .ok (.iload_n 0, 1) := by decide +kernel
theorem td_pch_1 : decode tb_pch 1 = .ok (.ifCond .lt 8, 3) := by decide +kernel
theorem td_pch_4 : decode tb_pch 4 = .ok (.iload_n 0, 1) := by decide +kernel
theorem td_pch_5 : decode tb_pch 5 = .ok (.iload_n 1, 1) := by decide +kernel
theorem td_pch_6 : decode tb_pch 6 = .ok (.if_icmp .lt 10, 3) := by decide +kernel
theorem td_pch_16 : decode tb_pch 16 = .ok (.iload_n 0, 1) := by decide +kernel
theorem td_pch_17 : decode tb_pch 17 = .ok (.ireturn, 1) := by decide +kernel
theorem td_chk_0 : decode tb_chk 0 = .ok (.iload_n 0, 1) := by decide +kernel
theorem td_chk_1 : decode tb_chk 1 = .ok (.iload_n 1, 1) := by decide +kernel
theorem td_chk_2 : decode tb_chk 2 = .ok (.getstatic 1053, 3) := by decide +kernel
theorem td_chk_5 : decode tb_chk 5 = .ok (.invokestatic 1059, 3) := by decide +kernel
theorem td_chk_8 : decode tb_chk 8 = .ok (.pop, 1) := by decide +kernel
theorem td_chk_9 : decode tb_chk 9 = .ok (.return_, 1) := by decide +kernel
theorem td_lch_0 : decode tb_lch 0 = .ok (.iload_n 1, 1) := by decide +kernel
theorem td_lch_1 : decode tb_lch 1 = .ok (.aload_n 0, 1) := by decide +kernel
theorem td_lch_2 : decode tb_lch 2 = .ok (.arraylength, 1) := by decide +kernel
theorem td_lch_3 : decode tb_lch 3 = .ok (.invokestatic 9, 3) := by decide +kernel
theorem td_lch_6 : decode tb_lch 6 = .ok (.aload_n 0, 1) := by decide +kernel
theorem td_lch_7 : decode tb_lch 7 = .ok (.iload_n 1, 1) := by decide +kernel
theorem td_lch_8 : decode tb_lch 8 = .ok (.baload, 1) := by decide +kernel
theorem td_lch_9 : decode tb_lch 9 = .ok (.sipush 255, 3) := by decide +kernel
theorem td_lch_12 : decode tb_lch 12 = .ok (.iand, 1) := by decide +kernel
theorem td_lch_13 : decode tb_lch 13 = .ok (.i2c, 1) := by decide +kernel
theorem td_lch_14 : decode tb_lch 14 = .ok (.ireturn, 1) := by decide +kernel
theorem td_chr_0 : decode tb_chr 0 = .ok (.aload_n 0, 1) := by decide +kernel
theorem td_chr_1 : decode tb_chr 1 = .ok (.invokevirtual 492, 3) := by decide +kernel
theorem td_chr_4 : decode tb_chr 4 = .ok (.ifCond .eq 12, 3) := by decide +kernel
theorem td_chr_7 : decode tb_chr 7 = .ok (.aload_n 0, 1) := by decide +kernel
theorem td_chr_8 : decode tb_chr 8 = .ok (.getfield 9, 3) := by decide +kernel
theorem td_chr_11 : decode tb_chr 11 = .ok (.iload_n 1, 1) := by decide +kernel
theorem td_chr_12 : decode tb_chr 12 = .ok (.invokestatic 495, 3) := by decide +kernel
theorem td_chr_15 : decode tb_chr 15 = .ok (.ireturn, 1) := by decide +kernel
theorem td_len_0 : decode tb_len 0 = .ok (.aload_n 0, 1) := by decide +kernel
theorem td_len_1 : decode tb_len 1 = .ok (.getfield 9, 3) := by decide +kernel
theorem td_len_4 : decode tb_len 4 = .ok (.arraylength, 1) := by decide +kernel
theorem td_len_5 : decode tb_len 5 = .ok (.aload_n 0, 1) := by decide +kernel
theorem td_len_6 : decode tb_len 6 = .ok (.invokevirtual 335, 3) := by decide +kernel
theorem td_len_9 : decode tb_len 9 = .ok (.ishr, 1) := by decide +kernel
theorem td_len_10 : decode tb_len 10 = .ok (.ireturn, 1) := by decide +kernel
def tx_rm (f n : Nat) : Room := { frames := f, cells := 0, slots := 0, locals := n }
def tx_Pc (ad : Nat → Nat) (H0 : Heap) (vs : List Value) : Array Value → State → Prop := fun a U => a = vs.toArray ∧ U.heap = H0 ∧ e_V U ad H0
def tx_Qc (H0 : Heap) (r : Option Value) : Array Value → State → Outcome → State → Prop := fun _ _ oc t => oc = .returned r ∧ t.heap = H0
theorem tx_blind {ad : Nat → Nat} {H0 : Heap} {vs : List Value} : FrameBlind (tx_Pc ad H0 vs) := by
  intro a U g mk ⟨h1, h2, h3⟩
  exact ⟨h1, h2, e_V.moved (s := U) (U := U.calling g mk a) (Vm.Alike.refl U.vm) h3⟩
theorem tx_chars : ∀ i, i < 8 → (e_lens.getD i 0 = (e_byts.getD i []).length ∧ (e_byts.getD i []).length < 100 ∧ ∀ x ∈ e_byts.getD i [], narrow .char (.int x) = .int x ∧ x &&& 255 = x ∧ (x.toUInt32 % 65536).toInt32 = x) := by decide +kernel
section TXT
variable {p : Program} {l : Launch} {e : Env} {R : Room} {s : State} {m : MethodId} {args : Array Value} {below : List Frame} {meth : Method} {c : Code} {Q : State → Prop}
theorem tx_back {H : Heap} {locs : List Loc} {cells slots pc : Nat} {ls : Array Slot} {st0 rest : List Value} {r : Option Value} {a : Array Value} (hr : va_Run p l e R s m args below meth c H locs cells slots 0 0 (F0 m pc ls st0) rest (tx_Qc H r a) (fun _ => False))
    (kk : W p l e R s m args below meth c H locs cells slots Q (F0 m (pc + 3) ls (r.toList ++ rest))) : W p l e R s m args below meth c H locs cells slots Q (F0 m pc ls st0) := by
  intro T hT X
  obtain ⟨v, st₀, t, T', L, h0, X', hL, e1, e2, ⟨hv, hh⟩, st⟩ := hr T hT X
  have hv : v = r := Outcome.returned.inj hv
  subst hv
  have hL0 : L = [] := List.eq_nil_iff_forall_not_mem.mpr (fun q hq => hL q hq)
  subst hL0
  obtain ⟨t2, a1, b1⟩ := kk T' (by rw [e1, hh]) (by simpa using X')
  exact ⟨t2, st t2 a1, b1⟩
variable {Ts : List Cond} {ad : Nat → Nat} {H0 : Heap}
theorem tx_good (hg : ∀ w ∈ Ts, goodWord w = true) {w : Cond} (h : w ∈ Ts) : GoodIn Ts (w :: Ts) := by
  intro v hv
  rcases List.mem_cons.mp hv with rfl | hv
  · exact ⟨h, good_of_word (hg _ h)⟩
  · exact ⟨hv, good_of_word (hg v hv)⟩
/-- coder() -/
theorem tx_cod_met (hw : ∀ w ∈ e_tw, w ∈ Ts) {i : Nat} (hi : i < 8) : Met l tx_cod (Cond.code tx_cod tb_cod 1 (some .byte) :: Ts) (tx_rm 0 0) (tx_Pc ad H0 [.ref (ad (1 + i))]) (tx_Qc H0 (some (.int 0))) 0 0 (fun _ => False) := by
  refine Met.ofW (cc := tb_cod) (maxL := 1) (ret := some .byte) (by decide) rfl ?_
  intro p e s m args below meth c s₁ B hml hv
  obtain ⟨rfl, rfl, adV, w, hS, hZ, hZ2, hwc⟩ := hv
  have hts := atoms_spec (ws := Cond.code tx_cod tb_cod 1 (some .byte) :: Ts) B.pre
  have ht : ∀ w ∈ e_tw, w.before _ s = true := fun w h => hts w (List.mem_cons_of_mem _ (hw w h))
  have hown : s.vm.findClass "java/lang/String" = some m.cls := findClass_of_methodNamed B.named
  have hlocks := B.notSynchronized
  have hl := lv_entry [.ref (ad (1 + i))] (n := 1) (Nat.le_of_ble_eq_true rfl)
  rw [lg_entry_eq]
  generalize (lg_sl [.ref (ad (1 + i))] ++ List.replicate (1 - (lg_sl [.ref (ad (1 + i))]).length) Slot.unset).toArray = ls at hl ⊢
  refine va_gets B.exec B.bytes hZ va_S.rf hown (ht _ (by decide +kernel)) (fun x hx => hx) td_cod_0 ?_
  refine lv_if_eq B.exec B.bytes td_cod_3 (tgt := 13) (by decide) (fun h => absurd h (by decide)) (fun _ => ?_)
  refine lv_aload_n B.exec B.bytes td_cod_6 rfl (lv_at hl 0 rfl) ?_
  refine vk_getf B.exec B.bytes (hS.1 i hi).2.1 va_S.rf hown (ht _ (by decide +kernel)) (fun x hx => hx) td_cod_7 ?_
  refine lv_goto B.exec B.bytes td_cod_10 (tgt := 14) (by decide) ?_
  exact W.zret B.exec B.bytes B.returns rfl (fun t ht _ => ⟨rfl, ht⟩) (fun q hq => by cases hq) td_cod_14
/-- isLatin1() -/
theorem tx_lat_met (hw : ∀ w ∈ e_tw, w ∈ Ts) {i : Nat} (hi : i < 8) : Met l tx_lat (Cond.code tx_lat tb_lat 1 (some .boolean) :: Ts) (tx_rm 0 0) (tx_Pc ad H0 [.ref (ad (1 + i))]) (tx_Qc H0 (some (.int 1))) 0 0 (fun _ => False) := by
  refine Met.ofW (cc := tb_lat) (maxL := 1) (ret := some .boolean) (by decide) rfl ?_
  intro p e s m args below meth c s₁ B hml hv
  obtain ⟨rfl, rfl, adV, w, hS, hZ, hZ2, hwc⟩ := hv
  have hts := atoms_spec (ws := Cond.code tx_lat tb_lat 1 (some .boolean) :: Ts) B.pre
  have ht : ∀ w ∈ e_tw, w.before _ s = true := fun w h => hts w (List.mem_cons_of_mem _ (hw w h))
  have hown : s.vm.findClass "java/lang/String" = some m.cls := findClass_of_methodNamed B.named
  have hlocks := B.notSynchronized
  have hl := lv_entry [.ref (ad (1 + i))] (n := 1) (Nat.le_of_ble_eq_true rfl)
  rw [lg_entry_eq]
  generalize (lg_sl [.ref (ad (1 + i))] ++ List.replicate (1 - (lg_sl [.ref (ad (1 + i))]).length) Slot.unset).toArray = ls at hl ⊢
  refine va_gets B.exec B.bytes hZ va_S.rf hown (ht _ (by decide +kernel)) (fun x hx => hx) td_lat_0 ?_
  refine lv_if_eq B.exec B.bytes td_lat_3 (tgt := 17) (by decide) (fun h => absurd h (by decide)) (fun _ => ?_)
  refine lv_aload_n B.exec B.bytes td_lat_6 rfl (lv_at hl 0 rfl) ?_
  refine vk_getf B.exec B.bytes (hS.1 i hi).2.1 va_S.rf hown (ht _ (by decide +kernel)) (fun x hx => hx) td_lat_7 ?_
  refine lv_if_ne B.exec B.bytes td_lat_10 (tgt := 17) (by decide) (fun h => absurd rfl h) (fun _ => ?_)
  refine lv_iconst B.exec B.bytes td_lat_13 rfl ?_
  refine lv_goto B.exec B.bytes td_lat_14 (tgt := 18) (by decide) ?_
  exact W.zret B.exec B.bytes B.returns rfl (fun t ht _ => ⟨rfl, ht⟩) (fun q hq => by cases hq) td_lat_18
/-- Preconditions.checkIndex(i, n, f), the index being good -/
theorem tx_pch_met {j n : Int32} {w : Value} (h0 : ¬ j < 0) (h1 : j < n) (hwc : w.category = 1) : Met l tx_pch (Cond.code tx_pch tb_pch 3 (some .int) :: Ts) (tx_rm 0 0) (tx_Pc ad H0 [.int j, .int n, w]) (tx_Qc H0 (some (.int j))) 0 0 (fun _ => False) := by
  refine Met.ofW (cc := tb_pch) (maxL := 3) (ret := some .int) (by decide) rfl ?_
  intro p e s m args below meth c s₁ B hml hv
  obtain ⟨rfl, rfl, -⟩ := hv
  have hlocks := B.notSynchronized
  have hl := lv_entry [.int j, .int n, w] (n := 3) (by rw [e_lgsl]; show 1 + (1 + (w.category + 0)) ≤ 3; rw [hwc]; decide)
  rw [lg_entry_eq]
  generalize (lg_sl [.int j, .int n, w] ++ List.replicate (3 - (lg_sl [.int j, .int n, w]).length) Slot.unset).toArray = ls at hl ⊢
  refine lv_iload_n B.exec B.bytes td_pch_0 rfl (lv_at hl 0 rfl) ?_
  refine lv_if_lt B.exec B.bytes td_pch_1 (tgt := 9) (by decide) (fun h => absurd h h0) (fun _ => ?_)
  refine lv_iload_n B.exec B.bytes td_pch_4 rfl (lv_at hl 0 rfl) ?_
  refine lv_iload_n B.exec B.bytes td_pch_5 rfl (lv_at hl 1 rfl) ?_
  refine lv_icmp_lt B.exec B.bytes td_pch_6 (tgt := 16) (by decide) (fun _ => ?_) (fun h => absurd h1 h)
  refine lv_iload_n B.exec B.bytes td_pch_16 rfl (lv_at hl 0 rfl) ?_
  exact W.iret B.exec B.bytes B.returns (fun t ht _ => ⟨rfl, ht⟩) (fun q hq => by cases hq) td_pch_17
/-- String.checkIndex(i, n), the index being good -/
theorem tx_chk_met (hg : ∀ w ∈ Ts, goodWord w = true) (hw : ∀ w ∈ e_tw, w ∈ Ts) {j n : Int32} (h0 : ¬ j < 0) (h1 : j < n) : Met l tx_chk (Cond.code tx_chk tb_chk 2 none :: Ts) (tx_rm 1 22) (tx_Pc ad H0 [.int j, .int n]) (tx_Qc H0 none) 0 0 (fun _ => False) := by
  refine Met.ofW (cc := tb_chk) (maxL := 2) (ret := none) (by decide) rfl ?_
  intro p e s m args below meth c s₁ B hml hv
  obtain ⟨rfl, rfl, hV⟩ := hv
  obtain ⟨adV, w, hS, hZ, hZ2, hwc⟩ := id hV
  have hts := atoms_spec (ws := Cond.code tx_chk tb_chk 2 none :: Ts) B.pre
  have hts : ∀ w ∈ Ts, w.before _ s = true := fun w h => hts w (List.mem_cons_of_mem _ h)
  have ht : ∀ w ∈ e_tw, w.before _ s = true := fun w h => hts w (hw w h)
  have hown : s.vm.findClass "java/lang/String" = some m.cls := findClass_of_methodNamed B.named
  have hlocks := B.notSynchronized
  have hl := lv_entry [.int j, .int n] (n := 2) (Nat.le_of_ble_eq_true rfl)
  rw [lg_entry_eq]
  generalize (lg_sl [.int j, .int n] ++ List.replicate (2 - (lg_sl [.int j, .int n]).length) Slot.unset).toArray = ls at hl ⊢
  refine lv_iload_n B.exec B.bytes td_chk_0 rfl (lv_at hl 0 rfl) ?_
  refine lv_iload_n B.exec B.bytes td_chk_1 rfl (lv_at hl 1 rfl) ?_
  refine va_gets B.exec B.bytes hZ2 va_S.rf hown (ht _ (by decide +kernel)) (fun x hx => hx) td_chk_2 ?_
  have hcf : CallFix p m c tb_chk 2 s _ Ts "java/lang/String" := ⟨B.exec, B.bytes, hml, hown, hts⟩
  refine tx_back (r := some (.int j)) (va_runS (rest := []) (As := [.int j, .int n, w]) hcf (tx_pch_met (l := l) (Ts := Ts) (ad := ad) (H0 := s.heap) h0 h1 hwc) ⟨callB_of 3 hts (tx_good hg (hw _ (by decide +kernel))) rfl rfl rfl (ht _ (by decide +kernel)) (ht _ (by decide +kernel)) ⟨by decide, by decide, by decide +kernel⟩ ⟨Nat.le_refl _, Nat.le_refl _⟩, ht _ (by decide +kernel)⟩ ⟨tx_blind, fun U hU hW => ⟨rfl, hU, hV.moved hW.alike⟩⟩ rfl rfl hl.1 rfl (Nat.le_of_ble_eq_true rfl) td_chk_5 ⟨Nat.le_refl _, Nat.le_refl _⟩) ?_
  refine lv_pop B.exec B.bytes td_chk_8 rfl ?_
  exact W.vret B.exec B.bytes B.returns (fun t ht _ => ⟨rfl, ht⟩) (fun q hq => by cases hq) td_chk_9
theorem tx_lt {j : Int32} {n : Nat} (hn : n < 100) (h0 : ¬ j < 0) (h1 : j.toNatClampNeg < n) : j < Int32.ofNat n ∧ vp_in j n := by
  refine ⟨?_, fun h => ?_⟩
  · obtain ⟨a, ha, rfl⟩ := nI_of h0
    rw [nI_clamp ha] at h1
    exact nI_lt h1 (by omega)
  · rcases h with h | h
    · exact h0 h
    · omega
/-- StringLatin1.charAt(value, j) -/
theorem tx_lch_met (hg : ∀ w ∈ Ts, goodWord w = true) (hw : ∀ w ∈ e_tw, w ∈ Ts) {i : Nat} (hi : i < 8) {j x : Int32} {v : Nat} {N : Nat} {f : Nat → Int32} (hN : N < 100) (h0 : ¬ j < 0) (h1 : j.toNatClampNeg < N) (hx : f j.toNatClampNeg = x) (hn : narrow .char (.int x) = .int x ∧ x &&& 255 = x ∧ (x.toUInt32 % 65536).toInt32 = x) :
    Met l tx_lch (Cond.code tx_lch tb_lch 2 (some .char) :: Ts) (tx_rm 2 43) (fun a U => tx_Pc ad H0 [.ref v, .int j] a U ∧ va_T .byte v N (fun j => .int (f j)) (e_sA ad) U H0) (tx_Qc H0 (some (.int x))) 0 0 (fun _ => False) := by
  refine Met.ofW (cc := tb_lch) (maxL := 2) (ret := some .char) (by decide) rfl ?_
  intro p e s m args below meth c s₁ B hml hv
  obtain ⟨⟨rfl, rfl, hV⟩, hT⟩ := hv
  have hts := atoms_spec (ws := Cond.code tx_lch tb_lch 2 (some .char) :: Ts) B.pre
  have hts : ∀ w ∈ Ts, w.before _ s = true := fun w h => hts w (List.mem_cons_of_mem _ h)
  have ht : ∀ w ∈ e_tw, w.before _ s = true := fun w h => hts w (hw w h)
  have hown : s.vm.findClass "java/lang/StringLatin1" = some m.cls := findClass_of_methodNamed B.named
  have hlocks := B.notSynchronized
  have hl := lv_entry [.ref v, .int j] (n := 2) (Nat.le_of_ble_eq_true rfl)
  rw [lg_entry_eq]
  generalize (lg_sl [.ref v, .int j] ++ List.replicate (2 - (lg_sl [.ref v, .int j]).length) Slot.unset).toArray = ls at hl ⊢
  obtain ⟨g1, g2⟩ := tx_lt hN h0 h1
  refine lv_iload_n B.exec B.bytes td_lch_0 rfl (lv_at hl 1 rfl) ?_
  refine lv_aload_n B.exec B.bytes td_lch_1 rfl (lv_at hl 0 rfl) ?_
  refine va_tlen B.exec B.bytes hT va_S.rf rfl td_lch_2 ?_
  have hcf : CallFix p m c tb_lch 2 s _ Ts "java/lang/StringLatin1" := ⟨B.exec, B.bytes, hml, hown, hts⟩
  refine tx_back (r := none) (va_runS (rest := []) (As := [.int j, .int (Int32.ofNat N)]) hcf (tx_chk_met (l := l) (Ts := Ts) (ad := ad) (H0 := s.heap) hg hw h0 g1) ⟨callB_of 2 hts (tx_good hg (hw _ (by decide +kernel))) rfl rfl rfl (ht _ (by decide +kernel)) (ht _ (by decide +kernel)) ⟨by decide, by decide, by decide +kernel⟩ ⟨Nat.le_refl _, Nat.le_refl _⟩, ht _ (by decide +kernel)⟩ ⟨tx_blind, fun U hU hW => ⟨rfl, hU, hV.moved hW.alike⟩⟩ rfl rfl hl.1 rfl (Nat.le_of_ble_eq_true rfl) td_lch_3 ⟨Nat.le_refl _, Nat.le_refl _⟩) ?_
  refine lv_aload_n B.exec B.bytes td_lch_6 rfl (lv_at hl 0 rfl) ?_
  refine lv_iload_n B.exec B.bytes td_lch_7 rfl (lv_at hl 1 rfl) ?_
  refine va_tb B.exec B.bytes hT va_S.rf g2 (v := .int x) (by rw [← hx]) td_lch_8 ?_
  refine lv_sipush B.exec B.bytes td_lch_9 rfl ?_
  refine lv_iand B.exec B.bytes td_lch_12 ?_
  refine lv_i2c B.exec B.bytes (v := x) td_lch_13 (by rw [show (Int16.ofInt 255).toInt32 = (255 : Int32) from rfl, hn.2.1]; exact hn.2.2) ?_
  exact W.zret B.exec B.bytes B.returns hn.1 (fun t ht _ => ⟨rfl, ht⟩) (fun q hq => by cases hq) td_lch_14
/-- charAt(j) -/
theorem tx_chr_met (hg : ∀ w ∈ Ts, goodWord w = true) (hw : ∀ w ∈ e_tw, w ∈ Ts) {i : Nat} (hi : i < 8) {j x : Int32} (h0 : ¬ j < 0) (hx : (e_byts.getD i [])[j.toNatClampNeg]? = some x) : Met l tx_chr (Cond.code tx_chr tb_chr 2 (some .char) :: Ts) (tx_rm 3 64) (tx_Pc ad H0 [.ref (ad (1 + i)), .int j]) (tx_Qc H0 (some (.int x))) 0 0 (fun _ => False) := by
  refine Met.ofW (cc := tb_chr) (maxL := 2) (ret := some .char) (by decide) rfl ?_
  intro p e s m args below meth c s₁ B hml hv
  obtain ⟨rfl, rfl, hV⟩ := hv
  obtain ⟨adV, w, hS, hZ, hZ2, hwc⟩ := id hV
  have hts := atoms_spec (ws := Cond.code tx_chr tb_chr 2 (some .char) :: Ts) B.pre
  have hts : ∀ w ∈ Ts, w.before _ s = true := fun w h => hts w (List.mem_cons_of_mem _ h)
  have ht : ∀ w ∈ e_tw, w.before _ s = true := fun w h => hts w (hw w h)
  have hown : s.vm.findClass "java/lang/String" = some m.cls := findClass_of_methodNamed B.named
  have hlocks := B.notSynchronized
  have hl := lv_entry [.ref (ad (1 + i)), .int j] (n := 2) (Nat.le_of_ble_eq_true rfl)
  rw [lg_entry_eq]
  generalize (lg_sl [.ref (ad (1 + i)), .int j] ++ List.replicate (2 - (lg_sl [.ref (ad (1 + i)), .int j]).length) Slot.unset).toArray = ls at hl ⊢
  obtain ⟨c1, c2, c3⟩ := tx_chars i hi
  have hlt : j.toNatClampNeg < (e_byts.getD i []).length := (List.getElem?_eq_some_iff.mp hx).1
  have hxm : x ∈ e_byts.getD i [] := List.mem_of_getElem? hx
  obtain ⟨o1, o2, o3, o4⟩ := hS.1 i hi
  obtain ⟨cell, r1, r2, r3, -⟩ := o1
  have hcf : CallFix p m c tb_chr 2 s _ Ts "java/lang/String" := ⟨B.exec, B.bytes, hml, hown, hts⟩
  refine lv_aload_n B.exec B.bytes td_chr_0 rfl (lv_at hl 0 rfl) ?_
  refine tx_back (r := some (.int 1)) (va_runV (C := "java/lang/String") (rest := []) (As := []) (b := ad (1 + i)) hcf (tx_lat_met (l := l) (Ts := Ts) (ad := ad) (H0 := s.heap) hw hi) ⟨callB_of 0 hts (tx_good hg (hw _ (by decide +kernel))) rfl rfl rfl (ht _ (by decide +kernel)) (ht _ (by decide +kernel)) ⟨by decide, by decide, by decide +kernel⟩ ⟨Nat.le_of_ble_eq_true rfl, Nat.le_of_ble_eq_true rfl⟩, ht _ (by decide +kernel), ht _ (by decide +kernel)⟩ ⟨tx_blind, ⟨cell, r1, r2, r3⟩, fun U hU hW => ⟨rfl, hU, hV.moved hW.alike⟩⟩ rfl rfl hl.1 rfl (Nat.le_of_ble_eq_true rfl) td_chr_1 ⟨Nat.le_refl _, Nat.le_refl _⟩) ?_
  refine lv_if_eq B.exec B.bytes td_chr_4 (tgt := 16) (by decide) (fun h => absurd h (by decide)) (fun _ => ?_)
  refine lv_aload_n B.exec B.bytes td_chr_7 rfl (lv_at hl 0 rfl) ?_
  refine vk_getf B.exec B.bytes o3 va_S.rf hown (ht _ (by decide +kernel)) (fun x hx => hx) td_chr_8 ?_
  refine lv_iload_n B.exec B.bytes td_chr_11 rfl (lv_at hl 1 rfl) ?_
  refine tx_back (r := some (.int x)) (va_runS (rest := []) (As := [.ref (adV i), .int j]) hcf (tx_lch_met (l := l) (Ts := Ts) (ad := ad) (H0 := s.heap) (v := adV i) (N := e_lens.getD i 0) (f := fun j => (e_byts.getD i []).getD j 0) hg hw hi (by omega) h0 (by omega) (by rw [List.getD_eq_getElem?_getD, hx]; rfl) (c3 x hxm)) ⟨callB_of 2 hts (tx_good hg (hw _ (by decide +kernel))) rfl rfl rfl (ht _ (by decide +kernel)) (ht _ (by decide +kernel)) ⟨by decide, by decide, by decide +kernel⟩ ⟨Nat.le_refl _, Nat.le_refl _⟩, ht _ (by decide +kernel)⟩ ⟨fun a U g mk hh => ⟨tx_blind a U g mk hh.1, va_T.moved (u := U) (U := U.calling g mk a) (Vm.Alike.refl U.vm) hh.2⟩, fun U hU hW => ⟨⟨rfl, hU, hV.moved hW.alike⟩, o4.moved hW.alike⟩⟩ rfl rfl hl.1 rfl (Nat.le_of_ble_eq_true rfl) td_chr_12 ⟨Nat.le_refl _, Nat.le_refl _⟩) ?_
  exact W.zret B.exec B.bytes B.returns (c3 x hxm).1 (fun t ht _ => ⟨rfl, ht⟩) (fun q hq => by cases hq) td_chr_15
/-- length() -/
theorem tx_len_met (hg : ∀ w ∈ Ts, goodWord w = true) (hw : ∀ w ∈ e_tw, w ∈ Ts) {i : Nat} (hi : i < 8) : Met l tx_len (Cond.code tx_len tb_len 1 (some .int) :: Ts) (tx_rm 1 20) (tx_Pc ad H0 [.ref (ad (1 + i))]) (tx_Qc H0 (some (.int (Int32.ofNat (e_byts.getD i []).length)))) 0 0 (fun _ => False) := by
  refine Met.ofW (cc := tb_len) (maxL := 1) (ret := some .int) (by decide) rfl ?_
  intro p e s m args below meth c s₁ B hml hv
  obtain ⟨rfl, rfl, hV⟩ := hv
  obtain ⟨adV, w, hS, hZ, hZ2, hwc⟩ := id hV
  have hts := atoms_spec (ws := Cond.code tx_len tb_len 1 (some .int) :: Ts) B.pre
  have hts : ∀ w ∈ Ts, w.before _ s = true := fun w h => hts w (List.mem_cons_of_mem _ h)
  have ht : ∀ w ∈ e_tw, w.before _ s = true := fun w h => hts w (hw w h)
  have hown : s.vm.findClass "java/lang/String" = some m.cls := findClass_of_methodNamed B.named
  have hlocks := B.notSynchronized
  have hl := lv_entry [.ref (ad (1 + i))] (n := 1) (Nat.le_of_ble_eq_true rfl)
  rw [lg_entry_eq]
  generalize (lg_sl [.ref (ad (1 + i))] ++ List.replicate (1 - (lg_sl [.ref (ad (1 + i))]).length) Slot.unset).toArray = ls at hl ⊢
  obtain ⟨c1, c2, c3⟩ := tx_chars i hi
  obtain ⟨o1, o2, o3, o4⟩ := hS.1 i hi
  obtain ⟨cell, r1, r2, r3, -⟩ := o1
  have hcf : CallFix p m c tb_len 1 s _ Ts "java/lang/String" := ⟨B.exec, B.bytes, hml, hown, hts⟩
  refine lv_aload_n B.exec B.bytes td_len_0 rfl (lv_at hl 0 rfl) ?_
  refine vk_getf B.exec B.bytes o3 va_S.rf hown (ht _ (by decide +kernel)) (fun x hx => hx) td_len_1 ?_
  refine va_tlen B.exec B.bytes o4 va_S.rf rfl td_len_4 ?_
  refine lv_aload_n B.exec B.bytes td_len_5 rfl (lv_at hl 0 rfl) ?_
  refine tx_back (r := some (.int 0)) (va_runV (C := "java/lang/String") (rest := [.int (Int32.ofNat (e_lens.getD i 0))]) (As := []) (b := ad (1 + i)) hcf (tx_cod_met (l := l) (Ts := Ts) (ad := ad) (H0 := s.heap) hw hi) ⟨callB_of 0 hts (tx_good hg (hw _ (by decide +kernel))) rfl rfl rfl (ht _ (by decide +kernel)) (ht _ (by decide +kernel)) ⟨by decide, by decide, by decide +kernel⟩ ⟨Nat.le_of_ble_eq_true rfl, Nat.le_of_ble_eq_true rfl⟩, ht _ (by decide +kernel), ht _ (by decide +kernel)⟩ ⟨tx_blind, ⟨cell, r1, r2, r3⟩, fun U hU hW => ⟨rfl, hU, hV.moved hW.alike⟩⟩ rfl rfl hl.1 rfl (Nat.le_of_ble_eq_true rfl) td_len_6 ⟨Nat.le_refl _, Nat.le_refl _⟩) ?_
  refine lv_ishr B.exec B.bytes td_len_9 ?_
  rw [c1, show (0 : Int32) &&& 31 = 0 from rfl, show ∀ x : Int32, x >>> (0 : Int32) = x from fun x => by simp]
  exact W.iret B.exec B.bytes B.returns (fun t ht _ => ⟨rfl, ht⟩) (fun q hq => by cases hq) td_len_10
variable {P : e_Pg} {D : va_G} {cl : List vw_C} {Ns : List Cond} {base n0 z0 k : Nat}
theorem e_s_str {n : Nat} (G : e_GD P cl Ts Ns) (hS : e_S l P D cl Ts Ns ad base n) (hA : e_AD ad (e_ro P) base) (X : e_X p s m args meth c P D cl Ts Ns ad k) {pc i : Nat} {sp : Bool} {lv : List (Nat × Value)} {st : List Value} {mem mem' : List e_C} {r : Option Value} {f : Nat × Nat × Nat × Bool} (hcal : e_cal P k i = some f) (h0 : f.1 = 0) (hd : decode (e_mth P k).2.1 pc = .ok (bif sp then .invokespecial i else .invokevirtual i, 3)) (h : e_sgo P (e_run P n) k pc lv st mem sp f.2.2.1 = some (r, mem')) (hmem : e_ro P ≤ mem.length)
    (hRf : (e_rmo P k).1 ≤ R.frames) (hRl : (e_rmo P k).2.1 ≤ R.locals) (hRc : mem'.length ≤ R.cells + n0) (hRs : e_sl mem' ≤ R.slots + z0)
    (hret : ∀ (pc' : Nat) (i : Instr) (lv' : List (Nat × Value)) (st' : List Value), decode (e_mth P k).2.1 pc' = .ok (i, 1) → e_ret (e_mth P k).2.2.2 i st' = some r → e_W p l e R s m args below meth c Q P D ad base n0 z0 k pc' lv' st' mem') : e_W p l e R s m args below meth c Q P D ad base n0 z0 k pc lv st mem := by
  obtain ⟨hx, hb, hml, hown, hts, hns, hK, hname⟩ := id X
  obtain ⟨-, -, -, -, -, ⟨-, -, gi, gc0, hg, hw, htx⟩, gm, gN⟩ := id G
  have ht : ∀ w ∈ e_tw, w.before args s = true := fun w h => hts w (hw w h)
  have hcf : CallFix p m c (e_mth P k).2.1 (e_mth P k).2.2.1 s args Ts (e_mth P k).1.cls := ⟨hx, hb, hml, hown, hts⟩
  cases sp with
  | true => cases h
  | false =>
    unfold e_sgo at h
    simp only [cond_false] at h hd
    split at h
    · next z hz =>
      have le1 := e_run_le _ _ _ _ _ _ _ h
      have kk := hS k (pc + 3) lv _ mem r mem' h hmem p e R s m args below meth c Q n0 z0 X hRf hRl hRc hRs hret
      unfold e_sb at hz
      simp only [Bool.cond_eq_ite] at hz
      split at hz
      · next q rest =>
        split at hz
        · next b hbq =>
          split at hz
          · next hc =>
            cases hz
            simp only [Bool.and_eq_true, beq_iff_eq, Nat.ble_eq] at hc
            obtain ⟨hcd, hlow, hf1, hf2⟩ := hc
            obtain ⟨i8, hi8, rfl, rfl⟩ := htx q b hbq
            rcases gm k i f hcal with ⟨-, ⟨hk, -⟩ | ⟨-, hn, wl⟩ | ⟨hk, -⟩ | ⟨hk, -⟩ | ⟨hk, -⟩ | ⟨hk, -⟩⟩ | ⟨hne, -⟩
            · rw [hk] at hcd; cases hcd
            · intro H locs cells slots ls hP hz hlo hl hc hs
              obtain ⟨adV, w, hS8, -⟩ := id hP.2
              obtain ⟨⟨cell, r1, r2, r3, -⟩, -⟩ := hS8.1 i8 hi8
              have hsum : ((rest.map (e_cv ad)).map fun v => v.category).sum ≤ 8 := by rw [e_catsum]; exact Nat.le_of_ble_eq_true hlow
              have le2 := le1.1
              have le3 := le1.2
              dsimp only at le2 le3
              exact tx_back (r := some (.int _)) (va_runV (C := "java/lang/String") (rest := rest.map (e_cv ad)) (As := []) (b := ad (1 + i8)) hcf (tx_len_met (l := l) (Ts := Ts) (ad := ad) (H0 := H) hg hw hi8) ⟨callB_of 0 hts (tx_good hg (hw _ (by decide +kernel))) rfl rfl rfl (ht _ (by decide +kernel)) (hts _ wl) ⟨by decide, by decide, by decide +kernel⟩ ⟨by show 1 + 1 ≤ _; omega, by show 8 + (1 + 11) + 20 ≤ _; omega⟩, ht _ (by decide +kernel), ht _ (by decide +kernel)⟩ ⟨tx_blind, ⟨cell, r1, r2, r3⟩, fun U hU hW => ⟨rfl, hU, hP.2.moved hW.alike⟩⟩ rfl rfl hl.1 rfl (lv_room (m := m) (pc := pc) (ls := ls) (rest := .ref (ad (1 + i8)) :: rest.map (e_cv ad)) hsum) hd ⟨by omega, by omega⟩) (kk H locs cells slots ls hP hz hlo hl hc hs)
            · rw [hk] at hcd; cases hcd
            · rw [hk] at hcd; cases hcd
            · rw [hk] at hcd; cases hcd
            · rw [hk] at hcd; cases hcd
            · exact absurd h0 hne
          · cases hz
        · cases hz
      · next j q rest =>
        split at hz
        · next b hbq =>
          split at hz
          · next x hx0 =>
            split at hz
            · next hc =>
              cases hz
              simp only [Bool.and_eq_true, beq_iff_eq, Nat.ble_eq, Bool.not_eq_true', decide_eq_false_iff_not] at hc
              obtain ⟨hcd, hj0, hlow, hf1, hf2⟩ := hc
              obtain ⟨i8, hi8, rfl, rfl⟩ := htx q b hbq
              rcases gm k i f hcal with ⟨-, ⟨hk, -⟩ | ⟨hk, -⟩ | ⟨-, hn, wl⟩ | ⟨hk, -⟩ | ⟨hk, -⟩ | ⟨hk, -⟩⟩ | ⟨hne, -⟩
              · rw [hk] at hcd; cases hcd
              · rw [hk] at hcd; cases hcd
              · intro H locs cells slots ls hP hz hlo hl hc hs
                obtain ⟨adV, w, hS8, -⟩ := id hP.2
                obtain ⟨⟨cell, r1, r2, r3, -⟩, -⟩ := hS8.1 i8 hi8
                have hsum : ((rest.map (e_cv ad)).map fun v => v.category).sum ≤ 8 := by rw [e_catsum]; exact Nat.le_of_ble_eq_true hlow
                have le2 := le1.1
                have le3 := le1.2
                dsimp only at le2 le3
                exact tx_back (r := some (.int _)) (va_runV (C := "java/lang/String") (rest := rest.map (e_cv ad)) (As := [.int j]) (b := ad (1 + i8)) hcf (tx_chr_met (l := l) (Ts := Ts) (ad := ad) (H0 := H) hg hw hi8 hj0 hx0) ⟨callB_of 1 hts (tx_good hg (hw _ (by decide +kernel))) rfl rfl rfl (ht _ (by decide +kernel)) (hts _ wl) ⟨by decide, by decide, by decide +kernel⟩ ⟨by show 3 + 1 ≤ _; omega, by show 8 + (2 + 11) + 64 ≤ _; omega⟩, ht _ (by decide +kernel), ht _ (by decide +kernel)⟩ ⟨tx_blind, ⟨cell, r1, r2, r3⟩, fun U hU hW => ⟨rfl, hU, hP.2.moved hW.alike⟩⟩ rfl rfl hl.1 rfl (lv_room (m := m) (pc := pc) (ls := ls) (rest := .int j :: .ref (ad (1 + i8)) :: rest.map (e_cv ad)) hsum) hd ⟨by omega, by omega⟩) (kk H locs cells slots ls hP hz hlo hl hc hs)
              · rw [hk] at hcd; cases hcd
              · rw [hk] at hcd; cases hcd
              · rw [hk] at hcd; cases hcd
              · exact absurd h0 hne
            · cases hz
          · cases hz
        · cases hz
      · cases hz
    · cases h
end TXT
end
section
/-! THE CALLS, AND SOUNDNESS OF RUNS OF ANY LENGTH -/
section ECL
variable {p : Program} {l : Launch} {e : Env} {R : Room} {s : State} {m : MethodId} {args : Array Value} {below : List Frame} {meth : Method} {c : Code} {Q : State → Prop}
variable {P : e_Pg} {D : va_G} {cl : List vw_C} {Ts Ns : List Cond} {ad : Nat → Nat} {base n0 z0 k : Nat}
theorem e_back {pc : Nat} {lv : List (Nat × Value)} {rest : List Value} {mem mem2 : List e_C} {r : Option Value} {st0 : List Value} {a : Array Value} {H : Heap} {locs : List Loc} {cells slots : Nat} {ls : Array Slot} (hle : e_le mem mem2)
    (hr : va_Run p l e R s m args below meth c H locs cells slots (mem2.length - mem.length) (e_sl mem2 - e_sl mem) (F0 m pc ls st0) (rest.map (e_cv ad)) (e_Qc P D ad base r mem2 a) (fun q => base ≤ q))
    (hlo : ∀ x ∈ locs, base ≤ x.base) (hl : lv_has ls (e_mth P k).2.2.1 (e_lv ad lv)) (hc : cells + n0 = mem.length) (hs : slots + z0 = e_sl mem)
    (kk : e_W p l e R s m args below meth c Q P D ad base n0 z0 k (pc + 3) lv (r.toList ++ rest) mem2) : W p l e R s m args below meth c H locs cells slots Q (F0 m pc ls st0) := by
  obtain ⟨le1, le2⟩ := hle
  intro T hT X
  obtain ⟨v, st₀, t, T', L, h0, X', hL, e1, e2, ⟨hv, hPt, hzt⟩, st⟩ := hr T hT X
  have hv : v = r.map (e_cv ad) := Outcome.returned.inj hv
  subst hv
  obtain ⟨t2, a1, b1⟩ := kk T'.heap (locs ++ L) _ _ ls (by rw [e1]; exact hPt.moved (by rw [← e2]; exact X'.warmed.alike.symm)) (by rw [e1]; exact hzt) (fun x hx => by
      rcases List.mem_append.mp hx with hx | hx
      · exact hlo x hx
      · exact hL x hx) hl (by omega) (by omega) T' rfl X'
  refine ⟨t2, st t2 ?_, b1⟩
  have es : (r.map (e_cv ad)).toList ++ rest.map (e_cv ad) = (r.toList ++ rest).map (e_cv ad) := by
    rw [List.map_append]
    cases r <;> rfl
  rw [es]
  exact a1
theorem e_good (G : e_GD P cl Ts Ns) {j : Nat} (h : Cond.code (e_mth P j).1 (e_mth P j).2.1 (e_mth P j).2.2.1 (e_mth P j).2.2.2 ∈ Ts) : GoodIn Ts (e_ws P Ts j) := by
  obtain ⟨-, -, -, -, -, ⟨-, -, -, -, hg, -⟩, -⟩ := G
  intro w hw
  rcases List.mem_cons.mp hw with rfl | hw
  · exact ⟨h, good_of_word (hg _ h)⟩
  · exact ⟨hw, good_of_word (hg w hw)⟩
theorem e_pre (hN : e_gN Ns) {H : Heap} {vs : List Value} {mem : List e_C} (hns : ∀ w ∈ Ns, va_Nw w s) (hK : va_K D cl [] s) (h8 : e_K s ad) (hP : e_P s D ad mem H) (hz : H.size + e_ro P = base + mem.length) : PreS s H (e_Pc P D cl Ns ad base vs mem) (vs.map (e_cv ad)) := by
  refine ⟨e_blind hN, fun U hU hW => ⟨rfl, by rw [hU]; exact hP.moved hW.alike, by rw [hU]; exact hz, hK.moved hW.alike, fun w hw => ?_, fun i hi => (h8 i hi).warm hW⟩⟩
  obtain ⟨x1, x2, x3, x4, rfl⟩ := hN w hw
  exact va_Nw.warmM hW (hns _ hw)
theorem e_s_inv {n : Nat} (G : e_GD P cl Ts Ns) (hS : e_S l P D cl Ts Ns ad base n) (hA : e_AD ad (e_ro P) base) (X : e_X p s m args meth c P D cl Ts Ns ad k) {pc i : Nat} {sp : Bool} {lv : List (Nat × Value)} {st : List Value} {mem mem' : List e_C} {r : Option Value} (hd : decode (e_mth P k).2.1 pc = .ok (bif sp then .invokespecial i else .invokevirtual i, 3)) (h : e_inv P (e_run P n) k pc lv st mem sp i = some (r, mem')) (hmem : e_ro P ≤ mem.length)
    (hRf : (e_rmo P k).1 ≤ R.frames) (hRl : (e_rmo P k).2.1 ≤ R.locals) (hRc : mem'.length ≤ R.cells + n0) (hRs : e_sl mem' ≤ R.slots + z0)
    (hret : ∀ (pc' : Nat) (i : Instr) (lv' : List (Nat × Value)) (st' : List Value), decode (e_mth P k).2.1 pc' = .ok (i, 1) → e_ret (e_mth P k).2.2.2 i st' = some r → e_W p l e R s m args below meth c Q P D ad base n0 z0 k pc' lv' st' mem') : e_W p l e R s m args below meth c Q P D ad base n0 z0 k pc lv st mem := by
  obtain ⟨hx, hb, hml, hown, hts, hns, hK, hname⟩ := id X
  obtain ⟨-, -, -, -, -, ⟨-, -, gi, gc0, -⟩, gm, gN⟩ := id G
  unfold e_inv at h
  cases hcal : e_cal P k i with
  | none => rw [hcal] at h; cases h
  | some f =>
    rw [hcal] at h
    dsimp only at h
    split at h
    · next q rest hdrop =>
      have hst : st = (st.take f.2.1).reverse.reverse ++ .ref q :: rest := by rw [List.reverse_reverse, ← hdrop, List.take_append_drop]
      by_cases h0 : f.1 = 0
      · rw [h0] at h
        simp only [beq_self_eq_true, cond_true] at h
        cases hcnd : (sp && (f.2.1 == 0 && (f.2.2.1 == 0 && (e_low rest && (Nat.ble 1 (e_rmo P k).1 && Nat.ble 20 (e_rmo P k).2.1))))) with
        | false =>
          rw [hcnd] at h
          simp only [cond_false] at h
          exact e_s_str G hS hA X hcal h0 hd h hmem hRf hRl hRc hRs hret
        | true =>
          rw [hcnd] at h
          simp only [cond_true] at h
          simp only [Bool.and_eq_true, beq_iff_eq, Nat.ble_eq] at hcnd
          obtain ⟨rfl, hn0, hk0, hlow, hf1, hl20⟩ := hcnd
          have kk := hS k (pc + 3) lv rest mem r mem' h hmem p e R s m args below meth c Q n0 z0 X hRf hRl hRc hRs hret
          rcases gm k i f hcal with ⟨-, ⟨-, hlink⟩ | ⟨hk95, -⟩ | ⟨hk94, -⟩ | ⟨hk98, -⟩ | ⟨hk97, -⟩ | ⟨hk96, -⟩⟩ | ⟨hne, -⟩
          · intro H locs cells slots ls hP hz hlo hl hc hs
            have est : st.map (e_cv ad) = .ref (ad q) :: rest.map (e_cv ad) := by rw [hst, hn0]; rfl
            have hsum : ((rest.map (e_cv ad)).map fun v => v.category).sum ≤ 8 := by rw [e_catsum]; exact Nat.le_of_ble_eq_true hlow
            rw [est]
            have hroom := lv_room (m := m) (pc := pc) (ls := ls) (rest := .ref (ad q) :: rest.map (e_cv ad)) hsum
            exact W.objInit hx hb hown (hts _ hlink) (hts _ gi) (hts _ gc0) rfl (by rw [hml]; exact hl.1) rfl hd (by omega) (by omega) (kk H locs cells slots ls hP hz hlo hl hc hs)
          · rw [hk0] at hk95; cases hk95
          · rw [hk0] at hk94; cases hk94
          · rw [hk0] at hk98; cases hk98
          · rw [hk0] at hk97; cases hk97
          · rw [hk0] at hk96; cases hk96
          · exact absurd h0 hne
      · have hb0 : (f.1 == 0) = false := by simpa using h0
        rw [hb0] at h
        simp only [cond_false] at h
        split at h
        · next o ho =>
          cases hcnd : (o.1 == f.2.2.1 && (!(f.2.2.1 == 99) && (e_low rest && (e_room P k f.1 (.ref q :: (st.take f.2.1).reverse) && (sp == (e_rmo P f.1).2.2))))) with
          | false => rw [hcnd] at h; cases h
          | true =>
            rw [hcnd] at h
            simp only [cond_true] at h
            unfold e_room at hcnd
            simp only [Bool.and_eq_true, beq_iff_eq, Nat.ble_eq, Bool.not_eq_true', beq_eq_false_iff_ne] at hcnd
            obtain ⟨eo, h99, hlow, ⟨hvs, hrf, hrl⟩, hsp⟩ := hcnd
            unfold e_aft at h
            split at h
            · next y hy =>
              obtain ⟨r2, mem2⟩ := y
              have le0 := e_run_le _ _ _ _ _ _ _ hy
              have le1 := e_run_le _ _ _ _ _ _ _ h
              dsimp only at le0 le1 h
              have kk := hS k (pc + 3) lv _ mem2 r mem' h (Nat.le_trans hmem le0.1) p e R s m args below meth c Q n0 z0 X hRf hRl hRc hRs hret
              rcases gm k i f hcal with ⟨hz0, -⟩ | ⟨-, wcode, wini, whn, wpl, wpar, wlink, wkind⟩
              · exact absurd hz0 h0
              · rcases wkind with ⟨w99, -⟩ | ⟨-, winst, ⟨T, N, wcl⟩, wk⟩
                · exact absurd w99 h99
                · have hM := e_met hS hy hmem wpl hvs
                  intro H locs cells slots ls hP hz hlo hl hc hs
                  obtain ⟨cell, h1, h2, h3, -⟩ := (hP.1 q _ ho).obj (fun e => h99 (by rw [← eo, e]))
                  have hcls : s.vm.findClass (e_mth P f.1).1.cls = some cell.cls := by
                    obtain ⟨-, hfc, -⟩ := hK.1 f.2.2.1 _ wcl
                    rw [h2, eo]
                    exact hfc
                  have hfl : f.2.1 ≤ st.length := by
                    have := congrArg List.length hdrop
                    simp only [List.length_drop, List.length_cons] at this
                    omega
                  have hn : ((st.take f.2.1).reverse.map (e_cv ad)).length = f.2.1 := by simp; omega
                  have hsum : ((rest.map (e_cv ad)).map fun v => v.category).sum ≤ 8 := by rw [e_catsum]; exact Nat.le_of_ble_eq_true hlow
                  have hstack : st.map (e_cv ad) = ((st.take f.2.1).reverse.map (e_cv ad)).reverse ++ .ref (ad q) :: rest.map (e_cv ad) := by
                    rw [← List.map_reverse, List.reverse_reverse]
                    conv => lhs; rw [← List.take_append_drop f.2.1 st, hdrop, List.map_append]
                    rfl
                  have hroom := lv_room (m := m) (pc := pc) (ls := ls) (rest := st.map (e_cv ad)) hsum
                  have hf : cells + (mem2.length - mem.length) ≤ R.cells ∧ slots + (e_sl mem2 - e_sl mem) ≤ R.slots := by
                    obtain ⟨a1, a2⟩ := le0
                    obtain ⟨b1, b2⟩ := le1
                    constructor <;> omega
                  have hpre := e_pre (P := P) (base := base) (vs := .ref q :: (st.take f.2.1).reverse) gN hns hK hname.2 hP hz
                  have hRR : (e_rm P f.1 mem mem2).frames + 1 ≤ R.frames ∧ 8 + ((e_mth P f.1).2.2.1 + 11) + (e_rm P f.1 mem mem2).locals ≤ R.locals := ⟨Nat.le_trans hrf hRf, Nat.le_trans hrl hRl⟩
                  have hcf : CallFix p m c (e_mth P k).2.1 (e_mth P k).2.2.1 s args Ts (e_mth P k).1.cls := ⟨hx, hb, hml, hown, hts⟩
                  have hpar := fun sig (hg : parseMethodDescriptor (e_mth P f.1).1.desc = some sig) => (by rw [hg] at wpar; exact (Option.some.inj wpar).symm : f.2.1 = sig.parameters.length)
                  have hgd := e_good G wcode
                  cases sp with
                  | false =>
                    rcases wk with ⟨wb, -⟩ | ⟨-, wsel⟩
                    · rw [wb] at hsp; cases hsp
                    · rcases wlink with ⟨-, wl⟩ | ⟨-, host, wl⟩
                      · exact e_back le0 (va_runV hcf hM ⟨callB_of f.2.1 hts hgd rfl rfl rfl (hts _ wini) (hts _ wl) ⟨whn.1, whn.2, wpar⟩ hRR, hts _ winst, hts _ wsel⟩ ⟨hpre.1, ⟨cell, h1, by rw [h3]; rfl, hcls⟩, hpre.2⟩ rfl hn hl.1 hstack hroom hd hf) hlo hl hc hs kk
                      · exact e_back le0 (va_runVN hcf hM ⟨va_cnB f.2.1 hts hgd rfl rfl rfl (hns _ wl) (hts _ wini) ⟨whn.1, whn.2, wpar⟩ hRR, hts _ winst, hts _ wsel⟩ ⟨hpre.1, ⟨cell, h1, by rw [h3]; rfl, hcls⟩, hpre.2⟩ rfl hn hl.1 hstack hroom hd hf) hlo hl hc hs kk
                  | true =>
                    rcases wk with ⟨-, wnm, wno⟩ | ⟨wb, -⟩
                    · rcases wlink with ⟨-, wl⟩ | ⟨-, host, wl⟩
                      · have cb := callB_of (R := R) (rm := e_rm P f.1 mem mem2) f.2.1 hts hgd rfl rfl rfl (hts _ wini) (hts _ wl) ⟨whn.1, whn.2, wpar⟩ hRR
                        rw [wno] at cb
                        exact e_back le0 (va_runI hcf hM ⟨cb, wnm, hts _ winst⟩ hpre rfl hn hl.1 hstack hroom hd hf) hlo hl hc hs kk
                      · have cb := va_cnB (R := R) (rm := e_rm P f.1 mem mem2) f.2.1 hts hgd rfl rfl rfl (hns _ wl) (hts _ wini) ⟨whn.1, whn.2, wpar⟩ hRR
                        rw [wno] at cb
                        exact e_back le0 (va_runIN hcf hM ⟨cb, wnm, hts _ winst⟩ hpre rfl hn hl.1 hstack hroom hd hf) hlo hl hc hs kk
                    · rw [wb] at hsp; cases hsp
            · cases h
        · cases h
    · cases h
theorem e_s_ivs {n : Nat} (G : e_GD P cl Ts Ns) (hS : e_S l P D cl Ts Ns ad base n) (hA : e_AD ad (e_ro P) base) (X : e_X p s m args meth c P D cl Ts Ns ad k) {pc i : Nat} {lv : List (Nat × Value)} {st : List Value} {mem mem' : List e_C} {r : Option Value} (hd : decode (e_mth P k).2.1 pc = .ok (.invokestatic i, 3)) (h : e_ivs P (e_run P n) k pc lv st mem i = some (r, mem')) (hmem : e_ro P ≤ mem.length)
    (hRf : (e_rmo P k).1 ≤ R.frames) (hRl : (e_rmo P k).2.1 ≤ R.locals) (hRc : mem'.length ≤ R.cells + n0) (hRs : e_sl mem' ≤ R.slots + z0)
    (hret : ∀ (pc' : Nat) (i : Instr) (lv' : List (Nat × Value)) (st' : List Value), decode (e_mth P k).2.1 pc' = .ok (i, 1) → e_ret (e_mth P k).2.2.2 i st' = some r → e_W p l e R s m args below meth c Q P D ad base n0 z0 k pc' lv' st' mem') : e_W p l e R s m args below meth c Q P D ad base n0 z0 k pc lv st mem := by
  obtain ⟨hx, hb, hml, hown, hts, hns, hK, hname⟩ := id X
  obtain ⟨-, -, -, -, -, ⟨-, -, gi, gc0, -⟩, gm, gN⟩ := id G
  unfold e_ivs at h
  cases hcal : e_cal P k i with
  | none => rw [hcal] at h; cases h
  | some f =>
    rw [hcal] at h
    dsimp only at h
    by_cases hf0 : f.1 = 0
    · rw [hf0] at h
      simp only [beq_self_eq_true, cond_true] at h
      unfold e_go at h
      split at h
      · next F hF =>
        have le0 := e_q_bli hF
        have le1 := e_run_le _ _ _ _ _ _ _ h
        dsimp only at le1
        have kk := hS k F.1 F.2.1 F.2.2.1 F.2.2.2 r mem' h (Nat.le_trans hmem le0.1) p e R s m args below meth c Q n0 z0 X hRf hRl hRc hRs hret
        unfold e_bli at hF
        cases hcnd : (Nat.ble 1 (e_rmo P k).1 && Nat.ble 26 (e_rmo P k).2.1) with
        | false => rw [hcnd] at hF; cases hF
        | true =>
          rw [hcnd] at hF
          simp only [cond_true] at hF
          simp only [Bool.and_eq_true, Nat.ble_eq] at hcnd
          rcases gm k i f hcal with ⟨-, ⟨hk, -⟩ | ⟨hk, -⟩ | ⟨hk, -⟩ | ⟨hk, w1, w2, w3, w4⟩ | ⟨hk, w1, w2, w3, w4⟩ | ⟨hk, w1, w2, w3, w4⟩⟩ | ⟨hne, -⟩
          · rw [hk] at hF; cases hF
          · rw [hk] at hF; cases hF
          · rw [hk] at hF; cases hF
          · rw [hk] at hF
            exact e_s_acp hA X hd w1 w2 w3 w4 (Nat.le_trans hcnd.1 hRf) (Nat.le_trans hcnd.2 hRl) hF kk
          · rw [hk] at hF
            exact e_s_min X hd w1 w2 w3 w4 (Nat.le_trans hcnd.1 hRf) (Nat.le_trans hcnd.2 hRl) (Nat.le_trans le0.1 (Nat.le_trans le1.1 hRc)) (Nat.le_trans le0.2 (Nat.le_trans le1.2 hRs)) hF kk
          · rw [hk] at hF
            exact e_s_max X hd w1 w2 w3 w4 (Nat.le_trans hcnd.1 hRf) (Nat.le_trans hcnd.2 hRl) (Nat.le_trans le0.1 (Nat.le_trans le1.1 hRc)) (Nat.le_trans le0.2 (Nat.le_trans le1.2 hRs)) hF kk
          · exact absurd hf0 hne
      · cases h
    have hb0 : (f.1 == 0) = false := by simpa using hf0
    rw [hb0] at h
    simp only [cond_false] at h
    cases hcnd : (Nat.ble f.2.1 st.length && (e_low (st.drop f.2.1) && (e_room P k f.1 (st.take f.2.1).reverse && f.2.2.1 == 99))) with
    | false => rw [hcnd] at h; cases h
    | true =>
      rw [hcnd] at h
      simp only [cond_true] at h
      unfold e_room at hcnd
      simp only [Bool.and_eq_true, beq_iff_eq, Nat.ble_eq, Bool.not_eq_true', beq_eq_false_iff_ne] at hcnd
      obtain ⟨hfl, hlow, ⟨hvs, hrf, hrl⟩, h99⟩ := hcnd
      have h0 := hf0
      unfold e_aft at h
      split at h
      · next y hy =>
        obtain ⟨r2, mem2⟩ := y
        have le0 := e_run_le _ _ _ _ _ _ _ hy
        have le1 := e_run_le _ _ _ _ _ _ _ h
        dsimp only at le0 le1 h
        have kk := hS k (pc + 3) lv _ mem2 r mem' h (Nat.le_trans hmem le0.1) p e R s m args below meth c Q n0 z0 X hRf hRl hRc hRs hret
        rcases gm k i f hcal with ⟨hz0, -⟩ | ⟨-, wcode, wini, whn, wpl, wpar, wlink, wkind⟩
        · exact absurd hz0 h0
        · rcases wkind with ⟨-, wst⟩ | ⟨w99, -⟩
          · have hM := e_met hS hy hmem wpl hvs
            intro H locs cells slots ls hP hz hlo hl hc hs
            have hn : ((st.take f.2.1).reverse.map (e_cv ad)).length = f.2.1 := by simp; omega
            have hsum : (((st.drop f.2.1).map (e_cv ad)).map fun v => v.category).sum ≤ 8 := by rw [e_catsum]; exact Nat.le_of_ble_eq_true hlow
            have hstack : st.map (e_cv ad) = ((st.take f.2.1).reverse.map (e_cv ad)).reverse ++ (st.drop f.2.1).map (e_cv ad) := by
              rw [← List.map_reverse, List.reverse_reverse, ← List.map_append, List.take_append_drop]
            have hroom := lv_room (m := m) (pc := pc) (ls := ls) (rest := st.map (e_cv ad)) hsum
            have hf : cells + (mem2.length - mem.length) ≤ R.cells ∧ slots + (e_sl mem2 - e_sl mem) ≤ R.slots := by
              obtain ⟨a1, a2⟩ := le0
              obtain ⟨b1, b2⟩ := le1
              constructor <;> omega
            have hpre := e_pre (P := P) (base := base) (vs := (st.take f.2.1).reverse) gN hns hK hname.2 hP hz
            have hRR : (e_rm P f.1 mem mem2).frames + 1 ≤ R.frames ∧ 8 + ((e_mth P f.1).2.2.1 + 11) + (e_rm P f.1 mem mem2).locals ≤ R.locals := ⟨Nat.le_trans hrf hRf, Nat.le_trans hrl hRl⟩
            have hcf : CallFix p m c (e_mth P k).2.1 (e_mth P k).2.2.1 s args Ts (e_mth P k).1.cls := ⟨hx, hb, hml, hown, hts⟩
            have hgd := e_good G wcode
            rcases wlink with ⟨-, wl⟩ | ⟨-, host, wl⟩
            · exact e_back le0 (va_runS hcf hM ⟨callB_of f.2.1 hts hgd rfl rfl rfl (hts _ wini) (hts _ wl) ⟨whn.1, whn.2, wpar⟩ hRR, hts _ wst⟩ hpre rfl hn hl.1 hstack hroom hd hf) hlo hl hc hs kk
            · exact e_back le0 (va_runSN hcf hM ⟨va_cnB f.2.1 hts hgd rfl rfl rfl (hns _ wl) (hts _ wini) ⟨whn.1, whn.2, wpar⟩ hRR, hts _ wst, trivial⟩ hpre rfl hn hl.1 hstack hroom hd hf) hlo hl hc hs kk
          · exact absurd h99 w99
      · cases h
end ECL
theorem e_sound {l : Launch} {P : e_Pg} {D : va_G} {cl : List vw_C} {Ts Ns : List Cond} {ad : Nat → Nat} {base : Nat} (G : e_GD P cl Ts Ns) (hA : e_AD ad (e_ro P) base) : ∀ n, e_S l P D cl Ts Ns ad base n
  | 0 => fun k pc lv st mem r mem' h => by cases h
  | n + 1 => fun k pc lv st mem r mem' h hmem p e R s m args below meth c Q n0 z0 X hRf hRl hRc hRs hret => by
    have hS := e_sound (l := l) (D := D) G hA n
    rw [e_run_succ] at h
    unfold e_body at h
    simp only [Bool.cond_eq_ite] at h
    split at h
    · next x hx =>
      obtain ⟨i, len⟩ := x
      split at h
      · next hlen =>
        have hd := G.1 k pc _ hx
        unfold e_one at h
        dsimp only at h hlen
        split at h
        · cases e_ln hlen rfl
          exact e_s_inv (sp := false) G hS hA X hd h hmem hRf hRl hRc hRs hret
        · cases e_ln hlen rfl
          exact e_s_inv (sp := true) G hS hA X hd h hmem hRf hRl hRc hRs hret
        · cases e_ln hlen rfl
          exact e_s_ivs G hS hA X hd h hmem hRf hRl hRc hRs hret
        · cases e_ln hlen rfl
          unfold e_rt at h
          split at h
          · next r' hr => cases h; exact hret pc _ lv st hd hr
          · cases h
        · cases e_ln hlen rfl
          unfold e_rt at h
          split at h
          · next r' hr => cases h; exact hret pc _ lv st hd hr
          · cases h
        · cases e_ln hlen rfl
          unfold e_rt at h
          split at h
          · next r' hr => cases h; exact hret pc _ lv st hd hr
          · cases h
        · cases e_ln hlen rfl
          unfold e_rt at h
          split at h
          · next r' hr => cases h; exact hret pc _ lv st hd hr
          · cases h
        · unfold e_go at h
          split at h
          · next F hF =>
            have le0 := e_step_le hF
            have le1 := e_run_le _ _ _ _ _ _ _ h
            dsimp only at le1
            have kk := hS k F.1 F.2.1 F.2.2.1 F.2.2.2 r mem' h (Nat.le_trans hmem le0.1) p e R s m args below meth c Q n0 z0 X hRf hRl hRc hRs hret
            exact e_step_sound G hA X hx hlen hF (Nat.le_trans le1.1 hRc) (Nat.le_trans le1.2 hRs) hmem kk
          · cases h
      · cases h
    · cases h
end
section
/-! RUNS OF SOME LENGTH; A STACK OF CALLERS -/
def e_mo (rc rc' : e_R) : Prop := ∀ k pc lv st mem y, rc k pc lv st mem = some y → rc' k pc lv st mem = some y
theorem e_aft_mo {rc rc' : e_R} (h : e_mo rc rc') {k pc : Nat} {lv : List (Nat × Value)} {rest : List Value} {x x' : Option (Option Value × List e_C)} (hx : ∀ y, x = some y → x' = some y) {y : Option Value × List e_C} (he : e_aft rc k pc lv rest x = some y) : e_aft rc' k pc lv rest x' = some y := by
  unfold e_aft at he
  split at he
  · next z => rw [hx z rfl]; exact h _ _ _ _ _ _ he
  · cases he
theorem e_sgo_mo {P : e_Pg} {rc rc' : e_R} (h : e_mo rc rc') {k pc : Nat} {lv : List (Nat × Value)} {st : List Value} {mem : List e_C} {sp : Bool} {cd : Nat} {y : Option Value × List e_C} (he : e_sgo P rc k pc lv st mem sp cd = some y) : e_sgo P rc' k pc lv st mem sp cd = some y := by
  unfold e_sgo at he ⊢
  cases sp with
  | true => cases he
  | false =>
    simp only [cond_false] at he ⊢
    split at he
    · exact h _ _ _ _ _ _ he
    · cases he
theorem e_inv_mo {P : e_Pg} {rc rc' : e_R} (h : e_mo rc rc') {k pc : Nat} {lv : List (Nat × Value)} {st : List Value} {mem : List e_C} {sp : Bool} {i : Nat} {y : Option Value × List e_C} (he : e_inv P rc k pc lv st mem sp i = some y) : e_inv P rc' k pc lv st mem sp i = some y := by
  unfold e_inv at he ⊢
  simp only [Bool.cond_eq_ite] at he ⊢
  split at he
  · cases he
  · split at he
    · split at he
      · next h1 =>
        rw [if_pos h1]
        split at he
        · next h2 => rw [if_pos h2]; exact h _ _ _ _ _ _ he
        · next h2 => rw [if_neg h2]; exact e_sgo_mo h he
      · next h1 =>
        rw [if_neg h1]
        split at he
        · split at he
          · next h2 => rw [if_pos h2]; exact e_aft_mo h (fun z hz => h _ _ _ _ _ _ hz) he
          · cases he
        · cases he
    · cases he
theorem e_go_mo {rc rc' : e_R} (h : e_mo rc rc') {k : Nat} {x : Option e_F} {y : Option Value × List e_C} (he : e_go rc k x = some y) : e_go rc' k x = some y := by
  unfold e_go at he ⊢
  split at he
  · exact h _ _ _ _ _ _ he
  · cases he
theorem e_ivs_mo {P : e_Pg} {rc rc' : e_R} (h : e_mo rc rc') {k pc : Nat} {lv : List (Nat × Value)} {st : List Value} {mem : List e_C} {i : Nat} {y : Option Value × List e_C} (he : e_ivs P rc k pc lv st mem i = some y) : e_ivs P rc' k pc lv st mem i = some y := by
  unfold e_ivs at he ⊢
  simp only [Bool.cond_eq_ite] at he ⊢
  split at he
  · cases he
  · split at he
    · next h0 => rw [if_pos h0]; exact e_go_mo h he
    · next h0 =>
      rw [if_neg h0]
      split at he
      · next h1 => rw [if_pos h1]; exact e_aft_mo h (fun z hz => h _ _ _ _ _ _ hz) he
      · cases he
theorem e_body_mo {P : e_Pg} {rc rc' : e_R} (h : e_mo rc rc') : e_mo (e_body P rc) (e_body P rc') := by
  intro k pc lv st mem y he
  unfold e_body at he ⊢
  simp only [Bool.cond_eq_ite] at he ⊢
  split at he
  · next x =>
    split at he
    · next h1 =>
      rw [if_pos h1]
      unfold e_one at he ⊢
      split at he
      · exact e_inv_mo h he
      · exact e_inv_mo h he
      · exact e_ivs_mo h he
      · exact he
      · exact he
      · exact he
      · exact he
      · exact e_go_mo h he
    · cases he
  · cases he
theorem e_run_mo (P : e_Pg) : ∀ n, e_mo (e_run P n) (e_run P (n + 1))
  | 0 => fun k pc lv st mem y h => by cases h
  | n + 1 => by
    rw [e_run_succ P n, e_run_succ P (n + 1)]
    exact e_body_mo (e_run_mo P n)
theorem e_run_ge (P : e_Pg) {n m : Nat} (h : n ≤ m) : e_mo (e_run P n) (e_run P m) := by
  induction m with
  | zero => cases Nat.le_zero.mp h; exact fun _ _ _ _ _ _ h => h
  | succ m ih =>
    rcases Nat.lt_or_ge n (m + 1) with q | q
    · exact fun _ _ _ _ _ _ hy => e_run_mo P m _ _ _ _ _ _ (ih (by omega) _ _ _ _ _ _ hy)
    · have : n = m + 1 := by omega
      subst this
      exact fun _ _ _ _ _ _ h => h
def e_Ev (P : e_Pg) (k pc : Nat) (lv : List (Nat × Value)) (st : List Value) (mem : List e_C) (y : Option Value × List e_C) : Prop := ∃ n, e_run P n k pc lv st mem = some y
def e_ok (x : Instr × Nat) : Bool := x.2 == e_len x.1 || e_len x.1 == 0
def e_smp (i : Instr) : Bool := match i with
  | .invokevirtual _ | .invokespecial _ | .invokestatic _ | .ireturn | .lreturn | .areturn | .return_ => false
  | _ => true
theorem e_one_smp {P : e_Pg} {rc : e_R} {k pc : Nat} {lv : List (Nat × Value)} {st : List Value} {mem : List e_C} {i : Instr} (h : e_smp i = true) : e_one P rc k pc lv st mem i = e_go rc k (e_step P k i pc lv st mem) := by
  cases i <;> first | rfl | cases h
theorem e_body_of {P : e_Pg} {rc : e_R} {k pc : Nat} {lv : List (Nat × Value)} {st : List Value} {mem : List e_C} {x : Instr × Nat} (hc : e_code P k pc = some x) (ho : e_ok x = true) : e_body P rc k pc lv st mem = e_one P rc k pc lv st mem x.1 := by
  unfold e_body
  rw [hc]
  unfold e_ok at ho
  dsimp only
  rw [ho]
  rfl
theorem e_Ev.step {P : e_Pg} {k pc : Nat} {lv : List (Nat × Value)} {st : List Value} {mem : List e_C} {x : Instr × Nat} {F : e_F} {y : Option Value × List e_C} (hc : e_code P k pc = some x) (ho : e_ok x = true) (hs : e_smp x.1 = true) (h : e_step P k x.1 pc lv st mem = some F) (he : e_Ev P k F.1 F.2.1 F.2.2.1 F.2.2.2 y) : e_Ev P k pc lv st mem y := by
  obtain ⟨n, hn⟩ := he
  refine ⟨n + 1, ?_⟩
  rw [e_run_succ, e_body_of hc ho, e_one_smp hs, h]
  exact hn
theorem e_two {P : e_Pg} {j k pc0 pc : Nat} {lv0 lv : List (Nat × Value)} {st0 rest : List Value} {mem : List e_C} {y z : Option Value × List e_C} (h1 : e_Ev P j pc0 lv0 st0 mem y) (h2 : e_Ev P k pc lv (y.1.toList ++ rest) y.2 z) : ∃ n, e_aft (e_run P n) k pc lv rest (e_run P n j pc0 lv0 st0 mem) = some z := by
  obtain ⟨a, ha⟩ := h1
  obtain ⟨b, hb⟩ := h2
  refine ⟨max a b, ?_⟩
  rw [e_run_ge P (Nat.le_max_left a b) _ _ _ _ _ _ ha]
  exact e_run_ge P (Nat.le_max_right a b) _ _ _ _ _ _ hb
theorem e_Ev.of {P : e_Pg} {k pc : Nat} {lv : List (Nat × Value)} {st : List Value} {mem : List e_C} {x : Instr × Nat} {y : Option Value × List e_C} (hc : e_code P k pc = some x) (ho : e_ok x = true) (h : ∃ n, e_one P (e_run P n) k pc lv st mem x.1 = some y) : e_Ev P k pc lv st mem y := by
  obtain ⟨n, hn⟩ := h
  refine ⟨n + 1, ?_⟩
  rw [e_run_succ, e_body_of hc ho]
  exact hn
end
