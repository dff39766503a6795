section
/-! THE SMALL MACHINE: cells in a list, references are places in it; a program is tables -/
abbrev e_C : Type := (Bool × List Int32) ⊕ (Nat × List Value)
def e_cv (ad : Nat → Nat) (v : Value) : Value := match v with
  | .ref k => .ref (ad k)
  | .int x => .int x
  | .long x => .long x
  | .float x => .float x
  | .double x => .double x
  | .null => .null
  | .retAddr x => .retAddr x
def e_sz (c : e_C) : Nat := match c with
  | .inl a => a.2.length
  | .inr o => o.2.length
def e_sl (mem : List e_C) : Nat := (mem.map e_sz).sum
abbrev e_Pg : Type := (Nat → Nat → Option (Instr × Nat)) × (Nat → MethodName × ByteArray × Nat × Option FieldType) × (Nat → Nat → Option (Nat × Nat × FieldType × Bool)) × (Nat → Nat → Option (Nat × Nat × Nat × Bool)) × (Nat → Nat → Option (Nat × List Value)) × (Nat → Nat → Option Value) × (Nat → Nat × Nat × Bool) × Nat
/-- the instruction at a place -/
abbrev e_code (P : e_Pg) : Nat → Nat → Option (Instr × Nat) := P.1
/-- a method: name, bytes, locals, what it returns -/
abbrev e_mth (P : e_Pg) : Nat → MethodName × ByteArray × Nat × Option FieldType := P.2.1
/-- a field by its pool number: class, place, type, may not be put here -/
abbrev e_fld (P : e_Pg) : Nat → Nat → Option (Nat × Nat × FieldType × Bool) := P.2.2.1
/-- a callee by its pool number: method (0: Object's constructor), parameters, class (99: static), nest mate -/
abbrev e_cal (P : e_Pg) : Nat → Nat → Option (Nat × Nat × Nat × Bool) := P.2.2.2.1
/-- a class by its pool number, with a new object's fields -/
abbrev e_new (P : e_Pg) : Nat → Nat → Option (Nat × List Value) := P.2.2.2.2.1
/-- a constant -/
abbrev e_con (P : e_Pg) : Nat → Nat → Option Value := P.2.2.2.2.2.1
/-- frames, locals, is it a constructor -/
abbrev e_rmo (P : e_Pg) : Nat → Nat × Nat × Bool := P.2.2.2.2.2.2.1
/-- how many cells may only be read -/
abbrev e_ro (P : e_Pg) : Nat := P.2.2.2.2.2.2.2
def e_get : List (Nat × Value) → Nat → Option Value
  | [], _ => none
  | q :: r, i => bif q.1 == i then some q.2 else e_get r i
def e_put1 (lv : List (Nat × Value)) (i : Nat) (v : Value) : List (Nat × Value) := (i, v) :: lv.filter (fun q => !(q.1 == i) && !(q.1 + 1 == i && q.2.category == 2))
def e_put2 (lv : List (Nat × Value)) (i : Nat) (v : Value) : List (Nat × Value) := (i, v) :: lv.filter (fun q => !(q.1 == i) && (!(q.1 == i + 1) && !(q.1 + 1 == i && q.2.category == 2)))
abbrev e_F : Type := Nat × List (Nat × Value) × List Value × List e_C
def e_tgt (pc : Nat) (off : Int) : Option Nat := match (pc : Int) + off with
  | .ofNat t => some t
  | .negSucc _ => none
def e_fit (ty : FieldType) (v : Value) : Bool := match ty, v with
  | .int, .int _ => true
  | .boolean, .int x => decide (x = 0) || decide (x = 1)
  | .long, .long _ => true
  | .object _, .ref _ => true
  | .array _, .ref _ => true
  | _, _ => false
def e_len (i : Instr) : Nat := match i with
  | .aload _ | .astore _ | .bipush _ | .iload _ | .istore _ | .ldc _ | .lload _ | .lstore _ | .newarray _ => 2
  | .getfield _ | .putfield _ | .goto _ | .if_icmp _ _ | .ifCond _ _ | .iinc _ _ | .invokespecial _ | .invokestatic _ | .invokevirtual _ | .ldc_w _ | .ldc2_w _ | .new _ | .sipush _ => 3
  | .tableswitch _ _ _ _ => 0
  | _ => 1
def e_jmp (pc : Nat) (off : Int) (lv : List (Nat × Value)) (st : List Value) (mem : List e_C) : Option e_F := match e_tgt pc off with
  | some t => some (t, lv, st, mem)
  | none => none
def e_if (b : Bool) (pc : Nat) (off : Int) (lv : List (Nat × Value)) (st : List Value) (mem : List e_C) : Option e_F := match e_tgt pc off with
  | some t => bif b then some (t, lv, st, mem) else some (pc + 3, lv, st, mem)
  | none => none
def e_c1 (c : ClassFile.Cond) (x : Int32) : Bool := match c with
  | .eq => decide (x = 0)
  | .ne => !decide (x = 0)
  | .lt => decide (x < 0)
  | .ge => decide (0 ≤ x)
  | .gt => decide (0 < x)
  | .le => decide (x ≤ 0)
def e_c2 (c : ClassFile.Cond) (x y : Int32) : Bool := match c with
  | .eq => decide (x = y)
  | .ne => !decide (x = y)
  | .lt => decide (x < y)
  | .ge => decide (y ≤ x)
  | .gt => decide (y < x)
  | .le => decide (x ≤ y)
section EOPS
variable (pc : Nat) (lv : List (Nat × Value)) (st : List Value) (mem : List e_C)
def e_iload (i : Nat) : Option e_F := match e_get lv i with
  | some (.int x) => some (pc, lv, .int x :: st, mem)
  | _ => none
def e_lload (i : Nat) : Option e_F := match e_get lv i with
  | some (.long x) => some (pc, lv, .long x :: st, mem)
  | _ => none
def e_aload (i : Nat) : Option e_F := match e_get lv i with
  | some (.ref x) => some (pc, lv, .ref x :: st, mem)
  | _ => none
def e_istore (nL i : Nat) : Option e_F := match st with
  | .int x :: r => bif Nat.blt i nL then some (pc, e_put1 lv i (.int x), r, mem) else none
  | _ => none
def e_lstore (nL i : Nat) : Option e_F := match st with
  | .long x :: r => bif Nat.blt (i + 1) nL then some (pc, e_put2 lv i (.long x), r, mem) else none
  | _ => none
def e_astore (nL i : Nat) : Option e_F := match st with
  | .ref x :: r => bif Nat.blt i nL then some (pc, e_put1 lv i (.ref x), r, mem) else none
  | _ => none
def e_iinc (nL i : Nat) (n : Int) : Option e_F := match e_get lv i with
  | some (.int x) => bif Nat.blt i nL then some (pc, e_put1 lv i (.int (x + Int32.ofInt n)), st, mem) else none
  | _ => none
def e_i1 (f : Int32 → Int32) : Option e_F := match st with
  | .int x :: r => some (pc, lv, .int (f x) :: r, mem)
  | _ => none
def e_i2l : Option e_F := match st with
  | .int x :: r => some (pc, lv, .long x.toInt64 :: r, mem)
  | _ => none
def e_i2 (f : Int32 → Int32 → Int32) : Option e_F := match st with
  | .int y :: .int x :: r => some (pc, lv, .int (f x y) :: r, mem)
  | _ => none
def e_i2z (f : Int32 → Int32 → Int32) : Option e_F := match st with
  | .int y :: .int x :: r => bif decide (y = 0) then none else some (pc, lv, .int (f x y) :: r, mem)
  | _ => none
def e_l2 (f : Int64 → Int64 → Int64) : Option e_F := match st with
  | .long y :: .long x :: r => some (pc, lv, .long (f x y) :: r, mem)
  | _ => none
def e_l2z (f : Int64 → Int64 → Int64) : Option e_F := match st with
  | .long y :: .long x :: r => bif decide (y = 0) then none else some (pc, lv, .long (f x y) :: r, mem)
  | _ => none
def e_lcmp : Option e_F := match st with
  | .long y :: .long x :: r => some (pc, lv, .int (lg_cmp x y) :: r, mem)
  | _ => none
def e_dup : Option e_F := match st with
  | v :: r => bif v.category == 1 then some (pc, lv, v :: v :: r, mem) else none
  | _ => none
def e_pop : Option e_F := match st with
  | v :: r => bif v.category == 1 then some (pc, lv, r, mem) else none
  | _ => none
def e_dup2 : Option e_F := match st with
  | v :: w :: r => bif v.category == 1 && w.category == 1 then some (pc, lv, v :: w :: v :: w :: r, mem) else none
  | _ => none
def e_alen : Option e_F := match st with
  | .ref q :: r => match mem[q]? with
    | some (.inl a) => some (pc, lv, .int (Int32.ofNat a.2.length) :: r, mem)
    | _ => none
  | _ => none
def e_ald (z : Bool) : Option e_F := match st with
  | .int j :: .ref q :: r => match mem[q]? with
    | some (.inl a) => bif a.1 == z && !decide (j < 0) then (match a.2[j.toNatClampNeg]? with
      | some x => some (pc, lv, .int x :: r, mem)
      | none => none) else none
    | _ => none
  | _ => none
def e_ast (ro : Nat) (z : Bool) : Option e_F := match st with
  | .int x :: .int j :: .ref q :: r => match mem[q]? with
    | some (.inl a) => bif a.1 == z && (!decide (j < 0) && (Nat.blt j.toNatClampNeg a.2.length && (Nat.ble ro q && (!z || e_fit .boolean (.int x))))) then some (pc, lv, r, mem.set q (.inl (a.1, a.2.set j.toNatClampNeg x))) else none
    | _ => none
  | _ => none
def e_getf (x : Option (Nat × Nat × FieldType × Bool)) : Option e_F := match x, st with
  | some f, .ref q :: r => match mem[q]? with
    | some (.inr o) => bif o.1 == f.1 then (match o.2[f.2.1]? with
      | some v => some (pc, lv, v :: r, mem)
      | none => none) else none
    | _ => none
  | _, _ => none
def e_putf (ro : Nat) (x : Option (Nat × Nat × FieldType × Bool)) : Option e_F := match x, st with
  | some f, v :: .ref q :: r => match mem[q]? with
    | some (.inr o) => bif o.1 == f.1 && (Nat.blt f.2.1 o.2.length && (e_fit f.2.2.1 v && (!f.2.2.2 && Nat.ble ro q))) then some (pc, lv, r, mem.set q (.inr (o.1, o.2.set f.2.1 v))) else none
    | _ => none
  | _, _ => none
def e_low (st : List Value) : Bool := Nat.ble (st.map fun v => v.category).sum 8
def e_wr {α : Type} : List α → Nat → List α → List α
  | [], _, ys => ys
  | x :: l, i, ys => e_wr l (i + 1) (ys.set i x)
/-- System.arraycopy between rows of ints -/
def e_acp (ro : Nat) : Option e_F := match st with
  | .int n :: .int dp :: .ref q1 :: .int sp :: .ref q0 :: r => match mem[q0]?, mem[q1]? with
    | some (.inl a), some (.inl b) => bif !a.1 && (!b.1 && (!decide (sp < 0) && (!decide (dp < 0) && (!decide (n < 0) && (Nat.ble (sp.toNatClampNeg + n.toNatClampNeg) a.2.length && (Nat.ble (dp.toNatClampNeg + n.toNatClampNeg) b.2.length && (Nat.ble ro q1 && e_low r))))))) then some (pc, lv, r, mem.set q1 (.inl (b.1, e_wr ((a.2.drop sp.toNatClampNeg).take n.toNatClampNeg) dp.toNatClampNeg b.2))) else none
    | _, _ => none
  | _ => none
/-- Math.min of two ints -/
def e_min : Option e_F := match st with
  | .int y :: .int x :: r => bif e_low r then some (pc, lv, .int (if y < x then y else x) :: r, mem) else none
  | _ => none
/-- Math.max of two ints -/
def e_max : Option e_F := match st with
  | .int y :: .int x :: r => bif e_low r then some (pc, lv, .int (if x < y then y else x) :: r, mem) else none
  | _ => none
def e_newo (x : Option (Nat × List Value)) : Option e_F := match x with
  | some o => some (pc, lv, .ref mem.length :: st, mem ++ [.inr o])
  | none => none
def e_newa (z : Bool) : Option e_F := match st with
  | .int n :: r => bif !decide (n < 0) && decide (n ≤ 65535) then some (pc, lv, .ref mem.length :: r, mem ++ [.inl (z, List.replicate n.toNatClampNeg 0)]) else none
  | _ => none
def e_ldi (x : Option Value) : Option e_F := match x with
  | some (.int v) => some (pc, lv, .int v :: st, mem)
  | _ => none
def e_ldl (x : Option Value) : Option e_F := match x with
  | some (.long v) => some (pc, lv, .long v :: st, mem)
  | _ => none
def e_tsw (pc0 : Nat) (d lo hi : Int) (offs : Array Int) : Option e_F := match st with
  | .int x :: r => bif decide (x.toInt < lo) || decide (hi < x.toInt) then e_jmp pc0 d lv r mem else (match offs.toList[(x.toInt - lo).toNat]? with
    | some o => e_jmp pc0 o lv r mem
    | none => none)
  | _ => none
end EOPS
/-- one instruction that neither calls nor returns -/
def e_step (P : e_Pg) (k : Nat) (i : Instr) (pc : Nat) (lv : List (Nat × Value)) (st : List Value) (mem : List e_C) : Option e_F := match i with
  | .aload n => e_aload (pc + 2) lv st mem n
  | .aload_n n => e_aload (pc + 1) lv st mem n.val
  | .arraylength => e_alen (pc + 1) lv st mem
  | .astore n => e_astore (pc + 2) lv st mem (e_mth P k).2.2.1 n
  | .astore_n n => e_astore (pc + 1) lv st mem (e_mth P k).2.2.1 n.val
  | .baload => e_ald (pc + 1) lv st mem true
  | .bastore => e_ast (pc + 1) lv st mem (e_ro P) true
  | .bipush n => some (pc + 2, lv, .int (Int8.ofInt n).toInt32 :: st, mem)
  | .dup => e_dup (pc + 1) lv st mem
  | .dup2 => e_dup2 (pc + 1) lv st mem
  | .getfield n => e_getf (pc + 3) lv st mem (e_fld P k n)
  | .goto o => e_jmp pc o lv st mem
  | .i2b => e_i1 (pc + 1) lv st mem (fun x => x.toInt8.toInt32)
  | .i2l => e_i2l (pc + 1) lv st mem
  | .i2s => e_i1 (pc + 1) lv st mem (fun x => x.toInt16.toInt32)
  | .iadd => e_i2 (pc + 1) lv st mem (fun x y => x + y)
  | .iaload => e_ald (pc + 1) lv st mem false
  | .iand => e_i2 (pc + 1) lv st mem (fun x y => x &&& y)
  | .iastore => e_ast (pc + 1) lv st mem (e_ro P) false
  | .iconst n => some (pc + 1, lv, .int (Int32.ofInt n) :: st, mem)
  | .idiv => e_i2z (pc + 1) lv st mem (fun x y => x / y)
  | .if_icmp c o => match st with
    | .int y :: .int x :: r => e_if (e_c2 c x y) pc o lv r mem
    | _ => none
  | .ifCond c o => match st with
    | .int x :: r => e_if (e_c1 c x) pc o lv r mem
    | _ => none
  | .iinc n d => e_iinc (pc + 3) lv st mem (e_mth P k).2.2.1 n d
  | .iload n => e_iload (pc + 2) lv st mem n
  | .iload_n n => e_iload (pc + 1) lv st mem n.val
  | .imul => e_i2 (pc + 1) lv st mem (fun x y => x * y)
  | .ior => e_i2 (pc + 1) lv st mem (fun x y => x ||| y)
  | .irem => e_i2z (pc + 1) lv st mem (fun x y => x - x / y * y)
  | .ishl => e_i2 (pc + 1) lv st mem (fun x y => x <<< (y &&& 31))
  | .ishr => e_i2 (pc + 1) lv st mem (fun x y => x >>> (y &&& 31))
  | .istore n => e_istore (pc + 2) lv st mem (e_mth P k).2.2.1 n
  | .istore_n n => e_istore (pc + 1) lv st mem (e_mth P k).2.2.1 n.val
  | .isub => e_i2 (pc + 1) lv st mem (fun x y => x - y)
  | .iushr => e_i2 (pc + 1) lv st mem (fun x y => (x.toUInt32 >>> (y.toUInt32 &&& Int32.toUInt32 31)).toInt32)
  | .ixor => e_i2 (pc + 1) lv st mem (fun x y => x ^^^ y)
  | .ladd => e_l2 (pc + 1) lv st mem (fun x y => x + y)
  | .lcmp => e_lcmp (pc + 1) lv st mem
  | .lconst n => some (pc + 1, lv, .long (Int64.ofNat n.val) :: st, mem)
  | .ldc n => e_ldi (pc + 2) lv st mem (e_con P k n)
  | .ldc_w n => e_ldi (pc + 3) lv st mem (e_con P k n)
  | .ldc2_w n => e_ldl (pc + 3) lv st mem (e_con P k n)
  | .ldiv => e_l2z (pc + 1) lv st mem (fun x y => x / y)
  | .lload n => e_lload (pc + 2) lv st mem n
  | .lload_n n => e_lload (pc + 1) lv st mem n.val
  | .lmul => e_l2 (pc + 1) lv st mem (fun x y => x * y)
  | .lrem => e_l2z (pc + 1) lv st mem (fun x y => x - x / y * y)
  | .lstore n => e_lstore (pc + 2) lv st mem (e_mth P k).2.2.1 n
  | .lstore_n n => e_lstore (pc + 1) lv st mem (e_mth P k).2.2.1 n.val
  | .new n => e_newo (pc + 3) lv st mem (e_new P k n)
  | .newarray t => match t with
    | .int => e_newa (pc + 2) lv st mem false
    | .boolean => e_newa (pc + 2) lv st mem true
    | _ => none
  | .pop => e_pop (pc + 1) lv st mem
  | .putfield n => e_putf (pc + 3) lv st mem (e_ro P) (e_fld P k n)
  | .sipush n => some (pc + 3, lv, .int (Int16.ofInt n).toInt32 :: st, mem)
  | .tableswitch d lo hi offs => e_tsw lv st mem pc d lo hi offs
  | _ => none
abbrev e_R : Type := Nat → Nat → List (Nat × Value) → List Value → List e_C → Option (Option Value × List e_C)
/-- a return: its value, as the method's type has it -/
def e_ret (ty : Option FieldType) (i : Instr) (st : List Value) : Option (Option Value) := match i, ty, st with
  | .ireturn, some .int, [.int x] => some (some (.int x))
  | .ireturn, some .boolean, [.int x] => bif e_fit .boolean (.int x) then some (some (.int x)) else none
  | .lreturn, some .long, [.long x] => some (some (.long x))
  | .areturn, some (.object _), [.ref x] => some (some (.ref x))
  | .return_, none, [] => some none
  | _, _, _ => none
def e_room (P : e_Pg) (k j : Nat) (vs : List Value) : Bool := Nat.ble (vs.map fun v => v.category).sum (e_mth P j).2.2.1 && (Nat.ble ((e_rmo P j).1 + 1) (e_rmo P k).1 && Nat.ble (8 + ((e_mth P j).2.2.1 + 11) + (e_rmo P j).2.1) (e_rmo P k).2.1)
/-- behind a call -/
def e_aft (rc : e_R) (k pc : Nat) (lv : List (Nat × Value)) (rest : List Value) (x : Option (Option Value × List e_C)) : Option (Option Value × List e_C) := match x with
  | some y => rc k pc lv (y.1.toList ++ rest) y.2
  | none => none
def e_inv (P : e_Pg) (rc : e_R) (k pc : Nat) (lv : List (Nat × Value)) (st : List Value) (mem : List e_C) (sp : Bool) (i : Nat) : Option (Option Value × List e_C) := match e_cal P k i with
  | none => none
  | some f => match st.drop f.2.1 with
    | .ref q :: rest => bif f.1 == 0 then (bif sp && (f.2.1 == 0 && (f.2.2.1 == 0 && (e_low rest && (Nat.ble 1 (e_rmo P k).1 && Nat.ble 20 (e_rmo P k).2.1)))) then rc k (pc + 3) lv rest mem else none) else
        match mem[q]? with
        | some (.inr o) => bif o.1 == f.2.2.1 && (!(f.2.2.1 == 99) && (e_low rest && (e_room P k f.1 (.ref q :: (st.take f.2.1).reverse) && (sp == (e_rmo P f.1).2.2)))) then e_aft rc k (pc + 3) lv rest (rc f.1 0 (lv_args 0 (.ref q :: (st.take f.2.1).reverse)) [] mem) else none
        | _ => none
    | _ => none
def e_go (rc : e_R) (k : Nat) (x : Option e_F) : Option (Option Value × List e_C) := match x with
  | some f => rc k f.1 f.2.1 f.2.2.1 f.2.2.2
  | none => none
/-- what is built in: its number, and the room that it takes -/
def e_bli (P : e_Pg) (k cd : Nat) (pc : Nat) (lv : List (Nat × Value)) (st : List Value) (mem : List e_C) : Option e_F := bif Nat.ble 1 (e_rmo P k).1 && Nat.ble 26 (e_rmo P k).2.1 then (bif cd == 98 then e_acp (pc + 3) lv st mem (e_ro P) else bif cd == 97 then e_min (pc + 3) lv st mem else bif cd == 96 then e_max (pc + 3) lv st mem else none) else none
def e_ivs (P : e_Pg) (rc : e_R) (k pc : Nat) (lv : List (Nat × Value)) (st : List Value) (mem : List e_C) (i : Nat) : Option (Option Value × List e_C) := match e_cal P k i with
  | none => none
  | some f => bif f.1 == 0 then e_go rc k (e_bli P k f.2.2.1 pc lv st mem) else (bif Nat.ble f.2.1 st.length && (e_low (st.drop f.2.1) && (e_room P k f.1 (st.take f.2.1).reverse && f.2.2.1 == 99)) then e_aft rc k (pc + 3) lv (st.drop f.2.1) (rc f.1 0 (lv_args 0 (st.take f.2.1).reverse) [] mem) else none)
def e_rt (mem : List e_C) (x : Option (Option Value)) : Option (Option Value × List e_C) := match x with
  | some r => some (r, mem)
  | none => none
def e_one (P : e_Pg) (rc : e_R) (k pc : Nat) (lv : List (Nat × Value)) (st : List Value) (mem : List e_C) (i : Instr) : Option (Option Value × List e_C) := match i with
  | .invokevirtual n => e_inv P rc k pc lv st mem false n
  | .invokespecial n => e_inv P rc k pc lv st mem true n
  | .invokestatic n => e_ivs P rc k pc lv st mem n
  | .ireturn => e_rt mem (e_ret (e_mth P k).2.2.2 .ireturn st)
  | .lreturn => e_rt mem (e_ret (e_mth P k).2.2.2 .lreturn st)
  | .areturn => e_rt mem (e_ret (e_mth P k).2.2.2 .areturn st)
  | .return_ => e_rt mem (e_ret (e_mth P k).2.2.2 .return_ st)
  | i => e_go rc k (e_step P k i pc lv st mem)
def e_body (P : e_Pg) (rc : e_R) (k pc : Nat) (lv : List (Nat × Value)) (st : List Value) (mem : List e_C) : Option (Option Value × List e_C) := match e_code P k pc with
  | some x => bif x.2 == e_len x.1 || e_len x.1 == 0 then e_one P rc k pc lv st mem x.1 else none
  | none => none
/-- n steps at most: what the method answers, and the cells then -/
noncomputable def e_run (P : e_Pg) (n : Nat) : e_R := Nat.rec (motive := fun _ => e_R) (fun _ _ _ _ _ => none) (fun _ rc => e_body P rc) n
theorem e_run_succ (P : e_Pg) (n : Nat) : e_run P (n + 1) = e_body P (e_run P n) := rfl
theorem e_run_zero (P : e_Pg) : e_run P 0 = fun _ _ _ _ _ => none := rfl
end
section
/-! HOW THE SMALL MACHINE'S CELLS LIE IN THE HEAP -/
def e_at (s : State) (D : va_G) (ad : Nat → Nat) (c : e_C) (o : Option Cell) : Prop := match c with
  | .inl a => ∃ cell : Cell, o = some cell ∧ s.isArrayOf cell (bif a.1 then .boolean else .int) ∧ cell.vm ≠ .unknown ∧ cell.slots = (a.2.map Value.int).toArray
  | .inr f => ∃ cell : Cell, o = some cell ∧ cell.cls = D.1 f.1 ∧ cell.vm = .none ∧ ∀ (j : Nat) (v : Value), (f.2[j]? = some v → cell.slots[D.2 f.1 j]? = some (e_cv ad v)) ∧ ∀ i : Nat, i < f.2.length → j < f.2.length → D.2 f.1 i = D.2 f.1 j → i = j
def e_P (s : State) (D : va_G) (ad : Nat → Nat) (mem : List e_C) (H : Heap) : Prop := ∀ (k : Nat) (c : e_C), mem[k]? = some c → e_at s D ad c H[ad k]?
def e_AD (ad : Nat → Nat) (ro base : Nat) : Prop := (∀ i, ro ≤ i → ad i = base + (i - ro)) ∧ (∀ i, i < ro → ad i < base) ∧ ∀ i j, i < ro → j < ro → ad i = ad j → i = j
theorem e_AD.inj {ad : Nat → Nat} {ro base : Nat} (h : e_AD ad ro base) {i j : Nat} (e : ad i = ad j) : i = j := by
  obtain ⟨h1, h2, h3⟩ := h
  rcases Nat.lt_or_ge i ro with a | a <;> rcases Nat.lt_or_ge j ro with b | b
  · exact h3 i j a b e
  · have := h2 i a; rw [h1 j b] at e; omega
  · have := h2 j b; rw [h1 i a] at e; omega
  · rw [h1 i a, h1 j b] at e; omega
theorem e_at.moved {s U : State} {D : va_G} {ad : Nat → Nat} {c : e_C} {o : Option Cell} (hvm : s.vm.Alike U.vm) (h : e_at s D ad c o) : e_at U D ad c o := by
  cases c with
  | inl a =>
    obtain ⟨cell, h1, h2, h3⟩ := h
    exact ⟨cell, h1, State.isArrayOf_alike hvm h2, h3⟩
  | inr f => exact h
theorem e_P.moved {s U : State} {D : va_G} {ad : Nat → Nat} {mem : List e_C} {H : Heap} (hvm : s.vm.Alike U.vm) (h : e_P s D ad mem H) : e_P U D ad mem H := fun k c hk => (h k c hk).moved hvm
theorem e_P.set {s : State} {D : va_G} {ad : Nat → Nat} {ro base : Nat} {mem : List e_C} {H H1 : Heap} {q : Nat} {c c0 : e_C} (hA : e_AD ad ro base) (h : e_P s D ad mem H) (h0 : mem[q]? = some c0) (hc : e_at s D ad c H1[ad q]?) (oq : ∀ x : Nat, x ≠ ad q → H1[x]? = H[x]?) : e_P s D ad (mem.set q c) H1 := by
  have hl := (List.getElem?_eq_some_iff.mp h0).1
  intro k c1 hk
  by_cases hkq : k = q
  · subst hkq
    rw [List.getElem?_set_self hl] at hk
    cases hk
    exact hc
  · rw [List.getElem?_set_ne (Ne.symm hkq)] at hk
    rw [oq (ad k) (fun z => hkq (hA.inj z))]
    exact h k c1 hk
theorem e_at.lt {s : State} {D : va_G} {ad : Nat → Nat} {c : e_C} {H : Heap} {a : Nat} (h : e_at s D ad c H[a]?) : a < H.size := by
  cases c with
  | inl x => obtain ⟨cell, h1, -⟩ := h; exact (Array.getElem?_eq_some_iff.mp h1).1
  | inr x => obtain ⟨cell, h1, -⟩ := h; exact (Array.getElem?_eq_some_iff.mp h1).1
theorem e_P.push {s : State} {D : va_G} {ad : Nat → Nat} {mem : List e_C} {H H1 : Heap} {c : e_C} (h : e_P s D ad mem H) (ha : ad mem.length = H.size) (hc : e_at s D ad c H1[H.size]?) (oq : ∀ x : Nat, x < H.size → H1[x]? = H[x]?) : e_P s D ad (mem ++ [c]) H1 := by
  intro k c1 hk
  by_cases hl : k < mem.length
  · rw [List.getElem?_append_left hl] at hk
    rw [oq _ (h k c1 hk).lt]
    exact h k c1 hk
  · rw [List.getElem?_append_right (by omega)] at hk
    have hz : k - mem.length < 1 := (List.getElem?_eq_some_iff.mp hk).1
    have hk0 : k = mem.length := by omega
    subst hk0
    rw [Nat.sub_self] at hk
    cases hk
    rw [ha]
    exact hc
def e_lv (ad : Nat → Nat) (lv : List (Nat × Value)) : List (Nat × Value) := lv.map (fun q => (q.1, e_cv ad q.2))
theorem e_cv_cat (ad : Nat → Nat) (v : Value) : (e_cv ad v).category = v.category := by cases v <;> rfl
theorem e_get_mem {lv : List (Nat × Value)} {i : Nat} {v : Value} (h : e_get lv i = some v) : (i, v) ∈ lv := by
  induction lv with
  | nil => cases h
  | cons q r ih =>
    unfold e_get at h
    cases hq : q.1 == i with
    | true =>
      rw [hq] at h
      have e1 : q.1 = i := by simpa using hq
      have e2 : q.2 = v := by simpa using h
      rw [← e1, ← e2]
      exact List.mem_cons_self
    | false =>
      rw [hq] at h
      exact List.mem_cons_of_mem _ (ih h)
theorem e_get_at {ad : Nat → Nat} {lv : List (Nat × Value)} {i nL : Nat} {v : Value} {ls : Array Slot} (h : lv_has ls nL (e_lv ad lv)) (hg : e_get lv i = some v) : ls[i]? = some (.val (e_cv ad v)) :=
  h.2.2 (i, e_cv ad v) (List.mem_map.mpr ⟨(i, v), e_get_mem hg, rfl⟩)
theorem e_lv_put1 (ad : Nat → Nat) (lv : List (Nat × Value)) (i : Nat) (v : Value) : (i, e_cv ad v) :: (e_lv ad lv).filter (fun q => !(q.1 == i) && !(q.1 + 1 == i && q.2.category == 2)) = e_lv ad (e_put1 lv i v) := by
  unfold e_lv e_put1
  rw [List.map_cons, List.filter_map]
  congr 2
  apply List.filter_congr
  intro q _
  simp only [Function.comp, e_cv_cat]
theorem e_lv_put2 (ad : Nat → Nat) (lv : List (Nat × Value)) (i : Nat) (v : Value) : (i, e_cv ad v) :: (e_lv ad lv).filter (fun q => !(q.1 == i) && (!(q.1 == i + 1) && !(q.1 + 1 == i && q.2.category == 2))) = e_lv ad (e_put2 lv i v) := by
  unfold e_lv e_put2
  rw [List.map_cons, List.filter_map]
  congr 2
  apply List.filter_congr
  intro q _
  simp only [Function.comp, e_cv_cat]
theorem e_lv_args (ad : Nat → Nat) : ∀ (vs : List Value) (i : Nat), lv_args i (vs.map (e_cv ad)) = e_lv ad (lv_args i vs)
  | [], _ => rfl
  | v :: vs, i => by
    rw [List.map_cons]
    unfold lv_args
    rw [e_cv_cat, e_lv_args ad vs]
    rfl
theorem e_tgt_eq {pc : Nat} {off : Int} {t : Nat} (h : e_tgt pc off = some t) : (pc : Int) + off = (t : Int) := by
  unfold e_tgt at h
  split at h
  · next x hx => cases h; exact hx
  · cases h
theorem e_fit_narrow {ty : FieldType} {v : Value} (h : e_fit ty v = true) : narrow ty v = v ∧ fits ty v = true := by
  unfold e_fit at h
  split at h
  · exact ⟨rfl, rfl⟩
  · next x =>
    simp only [Bool.or_eq_true, decide_eq_true_eq] at h
    rcases h with rfl | rfl <;> exact ⟨rfl, rfl⟩
  · exact ⟨rfl, rfl⟩
  · exact ⟨rfl, rfl⟩
  · exact ⟨rfl, rfl⟩
  · cases h
theorem e_fit_cv {ty : FieldType} {v : Value} (ad : Nat → Nat) (h : e_fit ty v = true) : e_fit ty (e_cv ad v) = true := by
  cases v <;> first | exact h | (cases ty <;> first | rfl | (simp [e_fit] at h))
theorem e_sl_set {mem : List e_C} {q : Nat} {c0 c : e_C} (h : mem[q]? = some c0) (he : e_sz c = e_sz c0) : e_sl (mem.set q c) = e_sl mem := by
  induction mem generalizing q with
  | nil => cases h
  | cons a r ih =>
    cases q with
    | zero =>
      rw [List.getElem?_cons_zero] at h
      have e0 := Option.some.inj h
      unfold e_sl
      rw [List.set_cons_zero, List.map_cons, List.map_cons, List.sum_cons, List.sum_cons, he, e0]
    | succ q =>
      rw [List.getElem?_cons_succ] at h
      have := ih h
      unfold e_sl at this ⊢
      rw [List.set_cons_succ, List.map_cons, List.map_cons, List.sum_cons, List.sum_cons, this]
theorem e_sl_push (mem : List e_C) (c : e_C) : e_sl (mem ++ [c]) = e_sl mem + e_sz c := by
  unfold e_sl
  rw [List.map_append, List.sum_append]
  simp
/-- what the tables must say of a program -/
def e_gc (P : e_Pg) : Prop := ∀ (k pc : Nat) (x : Instr × Nat), e_code P k pc = some x → decode (e_mth P k).2.1 pc = .ok x
def e_gf (P : e_Pg) (cl : List vw_C) (Ts : List Cond) : Prop := ∀ (k i : Nat) (f : Nat × Nat × FieldType × Bool), e_fld P k i = some f → ∃ (C : String) (T : u_T) (N : Nat), cl[f.1]? = some (C, T, N) ∧ f.2.1 < N ∧ Cond.fieldLink (e_mth P k).1.cls i (T f.2.1).1 (T f.2.1).2.1 (T f.2.1).2.2.1 ∈ Ts ∧ parseFieldDescriptor (T f.2.1).2.2.1 = some f.2.2.1 ∧
  (f.2.2.2 = false → (T f.2.1).2.2.2 = false ∨ ((T f.2.1).2.2.2 = true ∧ (e_mth P k).1.name = "<init>" ∧ (T f.2.1).1 = (e_mth P k).1.cls))
def e_gk (cl : List vw_C) (Ts : List Cond) : Prop := ∀ (ci : Nat) (C : String) (T : u_T) (N : Nat), cl[ci]? = some (C, T, N) → (∀ w ∈ u_ws C T N, w ∈ Ts) ∧ (∃ ty0 : Nat → FieldType, ∀ k, k < N → parseFieldDescriptor (T k).2.2.1 = some (ty0 k)) ∧ ∀ a, a < N → ∀ b, b < N → a ≠ b → (T a).2.1 ≠ (T b).2.1
def e_gn (P : e_Pg) (cl : List vw_C) (Ts : List Cond) : Prop := ∀ (k i : Nat) (o : Nat × List Value), e_new P k i = some o → ∃ (C : String) (T : u_T) (N : Nat), cl[o.1]? = some (C, T, N) ∧ o.2.length = N ∧ Cond.classLink (e_mth P k).1.cls i C ∈ Ts ∧ Cond.instantiable C N ∈ Ts ∧ Cond.initialized C ∈ Ts ∧ ∀ (j : Nat) (v : Value), o.2[j]? = some v → ∃ ty : FieldType, parseFieldDescriptor (T j).2.2.1 = some ty ∧ defaultValue ty = v
def e_gv (P : e_Pg) (Ts : List Cond) : Prop := ∀ (k i : Nat) (v : Value), e_con P k i = some v → (∃ x : Int32, v = .int x ∧ Cond.constant (e_mth P k).1.cls i x ∈ Ts) ∨ (∃ x : Int64, v = .long x ∧ Cond.constantLong (e_mth P k).1.cls i x ∈ Ts)
def e_ga (Ts : List Cond) : Prop := Cond.arrayClass .int ∈ Ts ∧ Cond.arrayClass .boolean ∈ Ts ∧ Cond.instanceMethod Lib.objectInit ∈ Ts ∧ Cond.code Lib.objectInit ⟨#[0xb1]⟩ 1 none ∈ Ts ∧ ∀ w ∈ Ts, goodWord w = true
def e_gm (P : e_Pg) (cl : List vw_C) (Ts Ns : List Cond) : Prop := ∀ (k i : Nat) (f : Nat × Nat × Nat × Bool), e_cal P k i = some f →
  (f.1 = 0 ∧ ((f.2.2.1 = 0 ∧ Cond.methodLink (e_mth P k).1.cls i Lib.objectInit ∈ Ts) ∨ (f.2.2.1 = 98 ∧ Cond.methodLink (e_mth P k).1.cls i arraycopyName ∈ Ts ∧ Cond.native arraycopyName ∈ Ts ∧ Cond.static arraycopyName ∈ Ts ∧ Cond.initialized "java/lang/System" ∈ Ts) ∨
    (f.2.2.1 = 97 ∧ Cond.methodLink (e_mth P k).1.cls i Lib.Math.min.name ∈ Ts ∧ Cond.static Lib.Math.min.name ∈ Ts ∧ Cond.initialized "java/lang/Math" ∈ Ts ∧ Cond.code Lib.Math.min.name Lib.Math.min.code 2 (some .int) ∈ Ts) ∨
    (f.2.2.1 = 96 ∧ Cond.methodLink (e_mth P k).1.cls i Lib.Math.max.name ∈ Ts ∧ Cond.static Lib.Math.max.name ∈ Ts ∧ Cond.initialized "java/lang/Math" ∈ Ts ∧ Cond.code Lib.Math.max.name Lib.Math.max.code 2 (some .int) ∈ Ts))) ∨
  (f.1 ≠ 0 ∧ Cond.code (e_mth P f.1).1 (e_mth P f.1).2.1 (e_mth P f.1).2.2.1 (e_mth P f.1).2.2.2 ∈ Ts ∧ Cond.initialized (e_mth P f.1).1.cls ∈ Ts ∧ ((e_mth P f.1).1.cls ≠ "java/lang/invoke/MethodHandle" ∧ (e_mth P f.1).1.cls ≠ "java/lang/invoke/VarHandle") ∧ plainName (e_mth P f.1).1.cls = true ∧
    (parseMethodDescriptor (e_mth P f.1).1.desc).map (fun d => d.parameters.length) = some f.2.1 ∧
    ((f.2.2.2 = false ∧ Cond.methodLink (e_mth P k).1.cls i (e_mth P f.1).1 ∈ Ts) ∨ (f.2.2.2 = true ∧ ∃ host : String, Cond.methodLinkNest (e_mth P k).1.cls i (e_mth P f.1).1 host ∈ Ns)) ∧
    ((f.2.2.1 = 99 ∧ Cond.static (e_mth P f.1).1 ∈ Ts) ∨ (f.2.2.1 ≠ 99 ∧ Cond.instanceMethod (e_mth P f.1).1 ∈ Ts ∧ (∃ (T : u_T) (N : Nat), cl[f.2.2.1]? = some ((e_mth P f.1).1.cls, T, N)) ∧
      (((e_rmo P f.1).2.2 = true ∧ (e_mth P f.1).1.name = "<init>" ∧ (e_mth P f.1).2.2.2 = none) ∨ ((e_rmo P f.1).2.2 = false ∧ Cond.selects (e_mth P f.1).1.cls (e_mth P f.1).1 (e_mth P f.1).1 ∈ Ts)))))
def e_gN (Ns : List Cond) : Prop := ∀ w ∈ Ns, ∃ (a : String) (i : Nat) (x : MethodName) (h : String), w = .methodLinkNest a i x h
def e_GD (P : e_Pg) (cl : List vw_C) (Ts Ns : List Cond) : Prop := e_gc P ∧ e_gf P cl Ts ∧ e_gk cl Ts ∧ e_gn P cl Ts ∧ e_gv P Ts ∧ e_ga Ts ∧ e_gm P cl Ts Ns ∧ e_gN Ns
end
section
/-! EVERY STEP OF THE SMALL MACHINE IS THE MACHINE'S -/
section ES
variable {p : Program} {l : Launch} {e : Env} {R : Room} {s : State} {m : MethodId} {args : Array Value} {below : List Frame} {meth : Method} {c : Code} {Q : State → Prop}
variable {P : e_Pg} {D : va_G} {cl : List vw_C} {Ts Ns : List Cond} {ad : Nat → Nat} {base n0 z0 k : Nat}
/-- from a place of the small machine the machine comes to Q -/
def e_W (p : Program) (l : Launch) (e : Env) (R : Room) (s : State) (m : MethodId) (args : Array Value) (below : List Frame) (meth : Method) (c : Code) (Q : State → Prop) (P : e_Pg) (D : va_G) (ad : Nat → Nat) (base n0 z0 k pc : Nat) (lv : List (Nat × Value)) (st : List Value) (mem : List e_C) : Prop :=
  ∀ (H : Heap) (locs : List Loc) (cells slots : Nat) (ls : Array Slot), e_P s D ad mem H → H.size + e_ro P = base + mem.length → (∀ x ∈ locs, base ≤ x.base) → lv_has ls (e_mth P k).2.2.1 (e_lv ad lv) → cells + n0 = mem.length → slots + z0 = e_sl mem →
    W p l e R s m args below meth c H locs cells slots Q (F0 m pc ls (st.map (e_cv ad)))
/-- what a method's frame has -/
def e_X (p : Program) (s : State) (m : MethodId) (args : Array Value) (meth : Method) (c : Code) (P : e_Pg) (D : va_G) (cl : List vw_C) (Ts Ns : List Cond) (k : Nat) : Prop :=
  p.tables.exec = Jvm.exec ∧ c.code = (e_mth P k).2.1 ∧ c.maxLocals = (e_mth P k).2.2.1 ∧ s.vm.findClass (e_mth P k).1.cls = some m.cls ∧ (∀ w ∈ Ts, w.before args s = true) ∧ (∀ w ∈ Ns, va_Nw w s) ∧ va_K D cl [] s ∧ ((e_mth P k).1.name = "<init>" → meth.name = "<init>")
theorem e_s_iload (X : e_X p s m args meth c P D cl Ts Ns k) {pc pc' i : Nat} {lv : List (Nat × Value)} {st : List Value} {mem : List e_C} {F : e_F} (h : e_iload pc' lv st mem i = some F)
    (row : ∀ (H : Heap) (locs : List Loc) (cells slots : Nat) (ls : Array Slot) (x : Int32), ls[i]? = some (.val (.int x)) → W p l e R s m args below meth c H locs cells slots Q (F0 m pc' ls (.int x :: st.map (e_cv ad))) → W p l e R s m args below meth c H locs cells slots Q (F0 m pc ls (st.map (e_cv ad))))
    (kk : e_W p l e R s m args below meth c Q P D ad base n0 z0 k F.1 F.2.1 F.2.2.1 F.2.2.2) : e_W p l e R s m args below meth c Q P D ad base n0 z0 k pc lv st mem := by
  unfold e_iload at h
  split at h
  · next x hx =>
    cases h
    intro H locs cells slots ls hP hz hlo hl hc hs
    exact row H locs cells slots ls x (e_get_at hl hx) (kk H locs cells slots ls hP hz hlo hl hc hs)
  · cases h
theorem e_s_lload (X : e_X p s m args meth c P D cl Ts Ns k) {pc pc' i : Nat} {lv : List (Nat × Value)} {st : List Value} {mem : List e_C} {F : e_F} (h : e_lload pc' lv st mem i = some F)
    (row : ∀ (H : Heap) (locs : List Loc) (cells slots : Nat) (ls : Array Slot) (x : Int64), ls[i]? = some (.val (.long x)) → W p l e R s m args below meth c H locs cells slots Q (F0 m pc' ls (.long x :: st.map (e_cv ad))) → W p l e R s m args below meth c H locs cells slots Q (F0 m pc ls (st.map (e_cv ad))))
    (kk : e_W p l e R s m args below meth c Q P D ad base n0 z0 k F.1 F.2.1 F.2.2.1 F.2.2.2) : e_W p l e R s m args below meth c Q P D ad base n0 z0 k pc lv st mem := by
  unfold e_lload at h
  split at h
  · next x hx =>
    cases h
    intro H locs cells slots ls hP hz hlo hl hc hs
    exact row H locs cells slots ls x (e_get_at hl hx) (kk H locs cells slots ls hP hz hlo hl hc hs)
  · cases h
theorem e_s_aload (X : e_X p s m args meth c P D cl Ts Ns k) {pc pc' i : Nat} {lv : List (Nat × Value)} {st : List Value} {mem : List e_C} {F : e_F} (h : e_aload pc' lv st mem i = some F)
    (row : ∀ (H : Heap) (locs : List Loc) (cells slots : Nat) (ls : Array Slot) (x : Nat), ls[i]? = some (.val (.ref x)) → W p l e R s m args below meth c H locs cells slots Q (F0 m pc' ls (.ref x :: st.map (e_cv ad))) → W p l e R s m args below meth c H locs cells slots Q (F0 m pc ls (st.map (e_cv ad))))
    (kk : e_W p l e R s m args below meth c Q P D ad base n0 z0 k F.1 F.2.1 F.2.2.1 F.2.2.2) : e_W p l e R s m args below meth c Q P D ad base n0 z0 k pc lv st mem := by
  unfold e_aload at h
  split at h
  · next x hx =>
    cases h
    intro H locs cells slots ls hP hz hlo hl hc hs
    exact row H locs cells slots ls (ad x) (e_get_at hl hx) (kk H locs cells slots ls hP hz hlo hl hc hs)
  · cases h
theorem e_s_istore (X : e_X p s m args meth c P D cl Ts Ns k) {pc pc' i : Nat} {lv : List (Nat × Value)} {st : List Value} {mem : List e_C} {F : e_F} (h : e_istore pc' lv st mem (e_mth P k).2.2.1 i = some F)
    (row : ∀ (H : Heap) (locs : List Loc) (cells slots : Nat) (ls : Array Slot) (x : Int32) (lv0 lv' : List (Nat × Value)) (rest : List Value), lv_has ls (e_mth P k).2.2.1 lv0 → i < (e_mth P k).2.2.1 → (i, Value.int x) :: lv0.filter (fun q => !(q.1 == i) && !(q.1 + 1 == i && q.2.category == 2)) = lv' → (∀ ls, lv_has ls (e_mth P k).2.2.1 lv' → W p l e R s m args below meth c H locs cells slots Q (F0 m pc' ls rest)) → W p l e R s m args below meth c H locs cells slots Q (F0 m pc ls (.int x :: rest)))
    (kk : e_W p l e R s m args below meth c Q P D ad base n0 z0 k F.1 F.2.1 F.2.2.1 F.2.2.2) : e_W p l e R s m args below meth c Q P D ad base n0 z0 k pc lv st mem := by
  unfold e_istore at h
  split at h
  · next x r =>
    cases hn : Nat.blt i (e_mth P k).2.2.1 with
    | false => rw [hn] at h; cases h
    | true =>
      rw [hn] at h
      cases h
      intro H locs cells slots ls hP hz hlo hl hc hs
      exact row H locs cells slots ls x _ _ _ hl (by simpa using hn) (e_lv_put1 ad lv i (.int x)) (fun ls hl => kk H locs cells slots ls hP hz hlo hl hc hs)
  · cases h
theorem e_s_lstore (X : e_X p s m args meth c P D cl Ts Ns k) {pc pc' i : Nat} {lv : List (Nat × Value)} {st : List Value} {mem : List e_C} {F : e_F} (h : e_lstore pc' lv st mem (e_mth P k).2.2.1 i = some F)
    (row : ∀ (H : Heap) (locs : List Loc) (cells slots : Nat) (ls : Array Slot) (x : Int64) (lv0 lv' : List (Nat × Value)) (rest : List Value), lv_has ls (e_mth P k).2.2.1 lv0 → i + 1 < (e_mth P k).2.2.1 → (i, Value.long x) :: lv0.filter (fun q => !(q.1 == i) && (!(q.1 == i + 1) && !(q.1 + 1 == i && q.2.category == 2))) = lv' → (∀ ls, lv_has ls (e_mth P k).2.2.1 lv' → W p l e R s m args below meth c H locs cells slots Q (F0 m pc' ls rest)) → W p l e R s m args below meth c H locs cells slots Q (F0 m pc ls (.long x :: rest)))
    (kk : e_W p l e R s m args below meth c Q P D ad base n0 z0 k F.1 F.2.1 F.2.2.1 F.2.2.2) : e_W p l e R s m args below meth c Q P D ad base n0 z0 k pc lv st mem := by
  unfold e_lstore at h
  split at h
  · next x r =>
    cases hn : Nat.blt (i + 1) (e_mth P k).2.2.1 with
    | false => rw [hn] at h; cases h
    | true =>
      rw [hn] at h
      cases h
      intro H locs cells slots ls hP hz hlo hl hc hs
      exact row H locs cells slots ls x _ _ _ hl (by simpa using hn) (e_lv_put2 ad lv i (.long x)) (fun ls hl => kk H locs cells slots ls hP hz hlo hl hc hs)
  · cases h
theorem e_s_astore (X : e_X p s m args meth c P D cl Ts Ns k) {pc pc' i : Nat} {lv : List (Nat × Value)} {st : List Value} {mem : List e_C} {F : e_F} (h : e_astore pc' lv st mem (e_mth P k).2.2.1 i = some F)
    (row : ∀ (H : Heap) (locs : List Loc) (cells slots : Nat) (ls : Array Slot) (x : Nat) (lv0 lv' : List (Nat × Value)) (rest : List Value), lv_has ls (e_mth P k).2.2.1 lv0 → i < (e_mth P k).2.2.1 → (i, Value.ref x) :: lv0.filter (fun q => !(q.1 == i) && !(q.1 + 1 == i && q.2.category == 2)) = lv' → (∀ ls, lv_has ls (e_mth P k).2.2.1 lv' → W p l e R s m args below meth c H locs cells slots Q (F0 m pc' ls rest)) → W p l e R s m args below meth c H locs cells slots Q (F0 m pc ls (.ref x :: rest)))
    (kk : e_W p l e R s m args below meth c Q P D ad base n0 z0 k F.1 F.2.1 F.2.2.1 F.2.2.2) : e_W p l e R s m args below meth c Q P D ad base n0 z0 k pc lv st mem := by
  unfold e_astore at h
  split at h
  · next x r =>
    cases hn : Nat.blt i (e_mth P k).2.2.1 with
    | false => rw [hn] at h; cases h
    | true =>
      rw [hn] at h
      cases h
      intro H locs cells slots ls hP hz hlo hl hc hs
      exact row H locs cells slots ls (ad x) _ _ _ hl (by simpa using hn) (e_lv_put1 ad lv i (.ref x)) (fun ls hl => kk H locs cells slots ls hP hz hlo hl hc hs)
  · cases h
theorem e_s_i1 {pc pc' : Nat} {f : Int32 → Int32} {lv : List (Nat × Value)} {st : List Value} {mem : List e_C} {F : e_F} (h : e_i1 pc' lv st mem f = some F)
    (row : ∀ (H : Heap) (locs : List Loc) (cells slots : Nat) (ls : Array Slot) (x : Int32) (rest : List Value), W p l e R s m args below meth c H locs cells slots Q (F0 m pc' ls (.int (f x) :: rest)) → W p l e R s m args below meth c H locs cells slots Q (F0 m pc ls (.int x :: rest)))
    (kk : e_W p l e R s m args below meth c Q P D ad base n0 z0 k F.1 F.2.1 F.2.2.1 F.2.2.2) : e_W p l e R s m args below meth c Q P D ad base n0 z0 k pc lv st mem := by
  unfold e_i1 at h
  split at h
  · cases h
    intro H locs cells slots ls hP hz hlo hl hc hs
    exact row H locs cells slots ls _ _ (kk H locs cells slots ls hP hz hlo hl hc hs)
  · cases h
theorem e_s_i2 {pc pc' : Nat} {f : Int32 → Int32 → Int32} {lv : List (Nat × Value)} {st : List Value} {mem : List e_C} {F : e_F} (h : e_i2 pc' lv st mem f = some F)
    (row : ∀ (H : Heap) (locs : List Loc) (cells slots : Nat) (ls : Array Slot) (x y : Int32) (rest : List Value), W p l e R s m args below meth c H locs cells slots Q (F0 m pc' ls (.int (f x y) :: rest)) → W p l e R s m args below meth c H locs cells slots Q (F0 m pc ls (.int y :: .int x :: rest)))
    (kk : e_W p l e R s m args below meth c Q P D ad base n0 z0 k F.1 F.2.1 F.2.2.1 F.2.2.2) : e_W p l e R s m args below meth c Q P D ad base n0 z0 k pc lv st mem := by
  unfold e_i2 at h
  split at h
  · cases h
    intro H locs cells slots ls hP hz hlo hl hc hs
    exact row H locs cells slots ls _ _ _ (kk H locs cells slots ls hP hz hlo hl hc hs)
  · cases h
theorem e_s_i2z {pc pc' : Nat} {f : Int32 → Int32 → Int32} {lv : List (Nat × Value)} {st : List Value} {mem : List e_C} {F : e_F} (h : e_i2z pc' lv st mem f = some F)
    (row : ∀ (H : Heap) (locs : List Loc) (cells slots : Nat) (ls : Array Slot) (x y : Int32) (rest : List Value), ¬ y = 0 → W p l e R s m args below meth c H locs cells slots Q (F0 m pc' ls (.int (f x y) :: rest)) → W p l e R s m args below meth c H locs cells slots Q (F0 m pc ls (.int y :: .int x :: rest)))
    (kk : e_W p l e R s m args below meth c Q P D ad base n0 z0 k F.1 F.2.1 F.2.2.1 F.2.2.2) : e_W p l e R s m args below meth c Q P D ad base n0 z0 k pc lv st mem := by
  unfold e_i2z at h
  split at h
  · next y x r =>
    by_cases hy : y = 0
    · rw [decide_eq_true hy] at h; cases h
    · rw [decide_eq_false hy] at h
      cases h
      intro H locs cells slots ls hP hz hlo hl hc hs
      exact row H locs cells slots ls _ _ _ hy (kk H locs cells slots ls hP hz hlo hl hc hs)
  · cases h
theorem e_s_l2 {pc pc' : Nat} {f : Int64 → Int64 → Int64} {lv : List (Nat × Value)} {st : List Value} {mem : List e_C} {F : e_F} (h : e_l2 pc' lv st mem f = some F)
    (row : ∀ (H : Heap) (locs : List Loc) (cells slots : Nat) (ls : Array Slot) (x y : Int64) (rest : List Value), W p l e R s m args below meth c H locs cells slots Q (F0 m pc' ls (.long (f x y) :: rest)) → W p l e R s m args below meth c H locs cells slots Q (F0 m pc ls (.long y :: .long x :: rest)))
    (kk : e_W p l e R s m args below meth c Q P D ad base n0 z0 k F.1 F.2.1 F.2.2.1 F.2.2.2) : e_W p l e R s m args below meth c Q P D ad base n0 z0 k pc lv st mem := by
  unfold e_l2 at h
  split at h
  · cases h
    intro H locs cells slots ls hP hz hlo hl hc hs
    exact row H locs cells slots ls _ _ _ (kk H locs cells slots ls hP hz hlo hl hc hs)
  · cases h
theorem e_s_l2z {pc pc' : Nat} {f : Int64 → Int64 → Int64} {lv : List (Nat × Value)} {st : List Value} {mem : List e_C} {F : e_F} (h : e_l2z pc' lv st mem f = some F)
    (row : ∀ (H : Heap) (locs : List Loc) (cells slots : Nat) (ls : Array Slot) (x y : Int64) (rest : List Value), ¬ y = 0 → W p l e R s m args below meth c H locs cells slots Q (F0 m pc' ls (.long (f x y) :: rest)) → W p l e R s m args below meth c H locs cells slots Q (F0 m pc ls (.long y :: .long x :: rest)))
    (kk : e_W p l e R s m args below meth c Q P D ad base n0 z0 k F.1 F.2.1 F.2.2.1 F.2.2.2) : e_W p l e R s m args below meth c Q P D ad base n0 z0 k pc lv st mem := by
  unfold e_l2z at h
  split at h
  · next y x r =>
    by_cases hy : y = 0
    · rw [decide_eq_true hy] at h; cases h
    · rw [decide_eq_false hy] at h
      cases h
      intro H locs cells slots ls hP hz hlo hl hc hs
      exact row H locs cells slots ls _ _ _ hy (kk H locs cells slots ls hP hz hlo hl hc hs)
  · cases h
theorem e_s_jmp {pc : Nat} {o : Int} {lv : List (Nat × Value)} {st : List Value} {mem : List e_C} {F : e_F} (h : e_jmp pc o lv st mem = some F) : ∃ t : Nat, (pc : Int) + o = (t : Int) ∧ F = (t, lv, st, mem) := by
  unfold e_jmp at h
  split at h
  · next t ht => cases h; exact ⟨t, e_tgt_eq ht, rfl⟩
  · cases h
theorem e_s_if (X : e_X p s m args meth c P D cl Ts Ns k) {pc : Nat} {cd : ClassFile.Cond} {o : Int} {x : Int32} {lv : List (Nat × Value)} {st : List Value} {mem : List e_C} {F : e_F} (hd : decode (e_mth P k).2.1 pc = .ok (.ifCond cd o, 3)) (h : e_if (e_c1 cd x) pc o lv st mem = some F)
    (kk : e_W p l e R s m args below meth c Q P D ad base n0 z0 k F.1 F.2.1 F.2.2.1 F.2.2.2) : e_W p l e R s m args below meth c Q P D ad base n0 z0 k pc lv (.int x :: st) mem := by
  obtain ⟨hx, hb, -⟩ := X
  intro H locs cells slots ls hP hz hlo hl hc hs
  unfold e_if at h
  split at h
  · next t ht0 =>
    have e1 := e_tgt_eq ht0
    cases hcx : e_c1 cd x with
    | true =>
      rw [hcx] at h
      cases h
      have w := kk H locs cells slots ls hP hz hlo hl hc hs
      cases cd <;> simp only [e_c1, decide_eq_true_eq, Bool.not_eq_true', decide_eq_false_iff_not] at hcx
      · exact lv_if_eq hx hb hd e1 (fun _ => w) (fun n => absurd hcx n)
      · exact lv_if_ne hx hb hd e1 (fun _ => w) (fun n => absurd n hcx)
      · exact lv_if_lt hx hb hd e1 (fun _ => w) (fun n => absurd hcx n)
      · exact lv_if_ge hx hb hd e1 (fun _ => w) (fun n => absurd hcx n)
      · exact lv_if_gt hx hb hd e1 (fun _ => w) (fun n => absurd hcx n)
      · exact lv_if_le hx hb hd e1 (fun _ => w) (fun n => absurd hcx n)
    | false =>
      rw [hcx] at h
      cases h
      have w := kk H locs cells slots ls hP hz hlo hl hc hs
      cases cd <;> simp only [e_c1, Bool.not_eq_false', decide_eq_true_eq, decide_eq_false_iff_not] at hcx
      · exact lv_if_eq hx hb hd e1 (fun n => absurd n hcx) (fun _ => w)
      · exact lv_if_ne hx hb hd e1 (fun n => absurd hcx n) (fun _ => w)
      · exact lv_if_lt hx hb hd e1 (fun n => absurd n hcx) (fun _ => w)
      · exact lv_if_ge hx hb hd e1 (fun n => absurd n hcx) (fun _ => w)
      · exact lv_if_gt hx hb hd e1 (fun n => absurd n hcx) (fun _ => w)
      · exact lv_if_le hx hb hd e1 (fun n => absurd n hcx) (fun _ => w)
  · cases h
theorem e_s_icmp (X : e_X p s m args meth c P D cl Ts Ns k) {pc : Nat} {cd : ClassFile.Cond} {o : Int} {x y : Int32} {lv : List (Nat × Value)} {st : List Value} {mem : List e_C} {F : e_F} (hd : decode (e_mth P k).2.1 pc = .ok (.if_icmp cd o, 3)) (h : e_if (e_c2 cd x y) pc o lv st mem = some F)
    (kk : e_W p l e R s m args below meth c Q P D ad base n0 z0 k F.1 F.2.1 F.2.2.1 F.2.2.2) : e_W p l e R s m args below meth c Q P D ad base n0 z0 k pc lv (.int y :: .int x :: st) mem := by
  obtain ⟨hx, hb, -⟩ := X
  intro H locs cells slots ls hP hz hlo hl hc hs
  unfold e_if at h
  split at h
  · next t ht0 =>
    have e1 := e_tgt_eq ht0
    cases hcx : e_c2 cd x y with
    | true =>
      rw [hcx] at h
      cases h
      have w := kk H locs cells slots ls hP hz hlo hl hc hs
      cases cd <;> simp only [e_c2, decide_eq_true_eq, Bool.not_eq_true', decide_eq_false_iff_not] at hcx
      · exact lv_icmp_eq hx hb hd e1 (fun _ => w) (fun n => absurd hcx n)
      · exact lv_icmp_ne hx hb hd e1 (fun _ => w) (fun n => absurd n hcx)
      · exact lv_icmp_lt hx hb hd e1 (fun _ => w) (fun n => absurd hcx n)
      · exact lv_icmp_ge hx hb hd e1 (fun _ => w) (fun n => absurd hcx n)
      · exact lv_icmp_gt hx hb hd e1 (fun _ => w) (fun n => absurd hcx n)
      · exact lv_icmp_le hx hb hd e1 (fun _ => w) (fun n => absurd hcx n)
    | false =>
      rw [hcx] at h
      cases h
      have w := kk H locs cells slots ls hP hz hlo hl hc hs
      cases cd <;> simp only [e_c2, Bool.not_eq_false', decide_eq_true_eq, decide_eq_false_iff_not] at hcx
      · exact lv_icmp_eq hx hb hd e1 (fun n => absurd n hcx) (fun _ => w)
      · exact lv_icmp_ne hx hb hd e1 (fun n => absurd hcx n) (fun _ => w)
      · exact lv_icmp_lt hx hb hd e1 (fun n => absurd n hcx) (fun _ => w)
      · exact lv_icmp_ge hx hb hd e1 (fun n => absurd n hcx) (fun _ => w)
      · exact lv_icmp_gt hx hb hd e1 (fun n => absurd n hcx) (fun _ => w)
      · exact lv_icmp_le hx hb hd e1 (fun n => absurd n hcx) (fun _ => w)
  · cases h
end ES
end
section
/-! THE STEPS THAT TOUCH CELLS -/
section ESH
variable {p : Program} {l : Launch} {e : Env} {R : Room} {s : State} {m : MethodId} {args : Array Value} {below : List Frame} {meth : Method} {c : Code} {Q : State → Prop}
variable {P : e_Pg} {D : va_G} {cl : List vw_C} {Ts Ns : List Cond} {ad : Nat → Nat} {base n0 z0 k : Nat}
theorem e_wr_len0 {α : Type} : ∀ (l : List α) (i : Nat) (ys : List α), (e_wr l i ys).length = ys.length
  | [], _, _ => rfl
  | x :: l, i, ys => by
    unfold e_wr
    rw [e_wr_len0 l]
    simp
theorem e_isArr {s : State} {cell : Cell} {ty : FieldType} (j : Nat) (v : Value) (h : s.isArrayOf cell ty) : s.isArrayOf (cell.setSlot j v) ty := h
theorem e_slots_at {xs : List Int32} {j : Nat} {x : Int32} {cell : Cell} (h : cell.slots = (xs.map Value.int).toArray) (hj : xs[j]? = some x) : cell.slots[j]? = some (.int x) := by
  rw [h]
  simp [hj]
theorem e_slots_size {xs : List Int32} {cell : Cell} (h : cell.slots = (xs.map Value.int).toArray) : cell.slots.size = xs.length := by
  rw [h]
  simp
theorem e_slots_set {xs : List Int32} {cell : Cell} {j : Nat} (x : Int32) (h : cell.slots = (xs.map Value.int).toArray) : (cell.setSlot j (.int x)).slots = ((xs.set j x).map Value.int).toArray := by
  show cell.slots.setIfInBounds j (.int x) = _
  rw [h]
  apply Array.toList_inj.mp
  simp [List.map_set]
theorem e_s_alen (G : e_GD P cl Ts Ns) (X : e_X p s m args meth c P D cl Ts Ns k) {pc : Nat} {lv : List (Nat × Value)} {st : List Value} {mem : List e_C} {F : e_F} (hd : decode (e_mth P k).2.1 pc = .ok (.arraylength, 1)) (h : e_alen (pc + 1) lv st mem = some F)
    (kk : e_W p l e R s m args below meth c Q P D ad base n0 z0 k F.1 F.2.1 F.2.2.1 F.2.2.2) : e_W p l e R s m args below meth c Q P D ad base n0 z0 k pc lv st mem := by
  obtain ⟨hx, hb, -⟩ := X
  unfold e_alen at h
  split at h
  · next q r =>
    split at h
    · next a ha =>
      cases h
      intro H locs cells slots ls hP hz hlo hl hc hs
      obtain ⟨cell, h1, h2, h3, h4⟩ := hP q _ ha
      exact W.alen hx hb h1 h2 (by rw [e_slots_size h4]) rfl rfl hd (kk H locs cells slots ls hP hz hlo hl hc hs)
    · cases h
  · cases h
theorem e_s_ald (X : e_X p s m args meth c P D cl Ts Ns k) {pc : Nat} {z : Bool} {lv : List (Nat × Value)} {st : List Value} {mem : List e_C} {F : e_F} (hd : decode (e_mth P k).2.1 pc = .ok (bif z then .baload else .iaload, 1)) (h : e_ald (pc + 1) lv st mem z = some F)
    (kk : e_W p l e R s m args below meth c Q P D ad base n0 z0 k F.1 F.2.1 F.2.2.1 F.2.2.2) : e_W p l e R s m args below meth c Q P D ad base n0 z0 k pc lv st mem := by
  obtain ⟨hx, hb, -⟩ := X
  unfold e_ald at h
  split at h
  · next j q r =>
    split at h
    · next a ha =>
      cases hcnd : (a.1 == z && !decide (j < 0)) with
      | false => rw [hcnd] at h; cases h
      | true =>
        rw [hcnd] at h
        simp only [Bool.and_eq_true, beq_iff_eq, Bool.not_eq_true', decide_eq_false_iff_not] at hcnd
        obtain ⟨ez, hj⟩ := hcnd
        simp only [cond_true] at h
        split at h
        · next x hxx =>
          cases h
          intro H locs cells slots ls hP hz hlo hl hc hs
          obtain ⟨cell, h1, h2, h3, h4⟩ := hP q _ ha
          have hin : ¬ (j < 0 ∨ cell.slots.size ≤ j.toNatClampNeg) := by
            rintro (q | q)
            · exact hj q
            · rw [e_slots_size h4] at q
              have := (List.getElem?_eq_some_iff.mp hxx).1
              omega
          cases z with
          | false =>
            rw [ez] at h2
            exact W.iald hx hb h1 h2 h3 hin (e_slots_at h4 hxx) rfl rfl hd (kk H locs cells slots ls hP hz hlo hl hc hs)
          | true =>
            rw [ez] at h2
            exact W.zald hx hb h1 h2 h3 hin (e_slots_at h4 hxx) rfl rfl hd (kk H locs cells slots ls hP hz hlo hl hc hs)
        · cases h
    · cases h
  · cases h
theorem e_s_ast (hA : e_AD ad (e_ro P) base) (X : e_X p s m args meth c P D cl Ts Ns k) {pc : Nat} {z : Bool} {lv : List (Nat × Value)} {st : List Value} {mem : List e_C} {F : e_F} (hd : decode (e_mth P k).2.1 pc = .ok (bif z then .bastore else .iastore, 1)) (h : e_ast (pc + 1) lv st mem (e_ro P) z = some F)
    (kk : e_W p l e R s m args below meth c Q P D ad base n0 z0 k F.1 F.2.1 F.2.2.1 F.2.2.2) : e_W p l e R s m args below meth c Q P D ad base n0 z0 k pc lv st mem := by
  obtain ⟨hx, hb, -⟩ := X
  unfold e_ast at h
  split at h
  · next x j q r =>
    split at h
    · next a ha =>
      cases hcnd : (a.1 == z && (!decide (j < 0) && (Nat.blt j.toNatClampNeg a.2.length && (Nat.ble (e_ro P) q && (!z || e_fit .boolean (.int x)))))) with
      | false => rw [hcnd] at h; cases h
      | true =>
        rw [hcnd] at h
        simp only [Bool.and_eq_true, beq_iff_eq, Bool.not_eq_true', decide_eq_false_iff_not, Nat.blt_eq, Nat.ble_eq, Bool.or_eq_true] at hcnd
        obtain ⟨ez, hj, hjl, hro, hbz⟩ := hcnd
        cases h
        intro H locs cells slots ls hP hz hlo hl hc hs
        obtain ⟨cell, h1, h2, h3, h4⟩ := hP q _ ha
        have hin : ¬ (j < 0 ∨ cell.slots.size ≤ j.toNatClampNeg) := by
          rintro (q | q)
          · exact hj q
          · rw [e_slots_size h4] at q
            omega
        have hbq : base ≤ ad q := by rw [hA.1 q hro]; omega
        have go : ∀ H' : Heap, H'[ad q]? = some (cell.setSlot j.toNatClampNeg (.int x)) → H'.size = H.size → (∀ y, y ≠ ad q → H'[y]? = H[y]?) → W p l e R s m args below meth c H' (locs ++ [⟨ad q, j.toNatClampNeg⟩]) cells slots Q (F0 m (pc + 1) ls (r.map (e_cv ad))) := by
          intro H' g1 g2 g3
          refine kk H' _ cells slots ls (hP.set hA ha ?_ g3) (by rw [g2, List.length_set]; exact hz) ?_ hl (by rw [List.length_set]; exact hc) (by rw [e_sl_set ha (by simp [e_sz])]; exact hs)
          · exact ⟨_, g1, h2, h3, e_slots_set x h4⟩
          · intro y hy
            rcases List.mem_append.mp hy with hy | hy
            · exact hlo y hy
            · rw [List.mem_singleton.mp hy]; exact hbq
        cases z with
        | false =>
          rw [ez] at h2
          exact W.iast hx hb h1 h2 h3 hin rfl rfl hd go
        | true =>
          rw [ez] at h2
          have hfit : e_fit .boolean (.int x) = true := by
            rcases hbz with hb0 | hb0
            · cases hb0
            · exact hb0
          refine W.zast hx hb h1 h2 h3 hin rfl rfl hd ?_
          rw [(e_fit_narrow hfit).1]
          exact go
    · cases h
  · cases h
theorem e_s_getf (G : e_GD P cl Ts Ns) (X : e_X p s m args meth c P D cl Ts Ns k) {pc i : Nat} {lv : List (Nat × Value)} {st : List Value} {mem : List e_C} {F : e_F} (hd : decode (e_mth P k).2.1 pc = .ok (.getfield i, 3)) (h : e_getf (pc + 3) lv st mem (e_fld P k i) = some F)
    (kk : e_W p l e R s m args below meth c Q P D ad base n0 z0 k F.1 F.2.1 F.2.2.1 F.2.2.2) : e_W p l e R s m args below meth c Q P D ad base n0 z0 k pc lv st mem := by
  obtain ⟨hx, hb, -, hown, hts, -, hK, -⟩ := X
  obtain ⟨-, gf, gk, -⟩ := G
  cases hfl : e_fld P k i with
  | none => rw [hfl] at h; cases h
  | some f =>
    rw [hfl] at h
    unfold e_getf at h
    split at h
    · next f' q r hff =>
      cases hff
      split at h
      · next o ho =>
        cases hcnd : (o.1 == f.1) with
        | false => rw [hcnd] at h; cases h
        | true =>
          rw [hcnd] at h
          simp only [cond_true] at h
          have eo : o.1 = f.1 := by simpa using hcnd
          split at h
          · next v hv =>
            cases h
            intro H locs cells slots ls hP hz hlo hl hc hs
            obtain ⟨cell, h1, h2, h3, h4⟩ := hP q _ ho
            obtain ⟨C, T, N, hcl, hN, hlink, -⟩ := gf k i f hfl
            obtain ⟨hin, -⟩ := gk f.1 C T N hcl
            obtain ⟨hS, hfc, kC, hkC, hkind⟩ := hK.1 f.1 _ hcl
            obtain ⟨cf, kf, fi, fd, hi, hsl⟩ := hS f.2.1 hN
            refine W.getf hx hb hown (hts _ hlink) hi (u_facts hfc hkC (u_lays hts hin hN) hi).1 h1 (by rw [h3]; exact fun h => by cases h) (v := e_cv ad v) ?_ rfl rfl hd (kk H locs cells slots ls hP hz hlo hl hc hs)
            have := (h4 f.2.1 v).1 hv
            rw [eo] at this
            rw [hsl]
            exact this
          · cases h
      · cases h
    · cases h
theorem e_s_putf (G : e_GD P cl Ts Ns) (hA : e_AD ad (e_ro P) base) (X : e_X p s m args meth c P D cl Ts Ns k) {pc i : Nat} {lv : List (Nat × Value)} {st : List Value} {mem : List e_C} {F : e_F} (hd : decode (e_mth P k).2.1 pc = .ok (.putfield i, 3)) (h : e_putf (pc + 3) lv st mem (e_ro P) (e_fld P k i) = some F)
    (kk : e_W p l e R s m args below meth c Q P D ad base n0 z0 k F.1 F.2.1 F.2.2.1 F.2.2.2) : e_W p l e R s m args below meth c Q P D ad base n0 z0 k pc lv st mem := by
  obtain ⟨hx, hb, -, hown, hts, -, hK, hname⟩ := X
  obtain ⟨-, gf, gk, -⟩ := G
  cases hfl : e_fld P k i with
  | none => rw [hfl] at h; cases h
  | some f =>
    rw [hfl] at h
    unfold e_putf at h
    split at h
    · next f' v q r hff =>
      cases hff
      split at h
      · next o ho =>
        cases hcnd : (o.1 == f.1 && (Nat.blt f.2.1 o.2.length && (e_fit f.2.2.1 v && (!f.2.2.2 && Nat.ble (e_ro P) q)))) with
        | false => rw [hcnd] at h; cases h
        | true =>
          rw [hcnd] at h
          simp only [Bool.and_eq_true, beq_iff_eq, Bool.not_eq_true', Nat.blt_eq, Nat.ble_eq] at hcnd
          obtain ⟨eo, hlen, hfit, hfin, hro⟩ := hcnd
          cases h
          intro H locs cells slots ls hP hz hlo hl hc hs
          obtain ⟨cell, h1, h2, h3, h4⟩ := hP q _ ho
          obtain ⟨C, T, N, hcl, hN, hlink, hty, hmay⟩ := gf k i f hfl
          obtain ⟨hin, ⟨ty0, hty0⟩, hnm⟩ := gk f.1 C T N hcl
          have hap := va_apart (own := (e_mth P k).1.cls) hts hin ty0 hty0 hnm hK hcl
          obtain ⟨hS, hfc, kC, hkC, hkind⟩ := hK.1 f.1 _ hcl
          obtain ⟨cf, kf, fi, fd, hi, hsl⟩ := hS f.2.1 hN
          have hst := (u_facts hfc hkC (u_lays hts hin hN) hi).1
          obtain ⟨hnar, hfits⟩ := e_fit_narrow (e_fit_cv ad hfit)
          have hbq : base ≤ ad q := by rw [hA.1 q hro]; omega
          have hslot : fd.slot < cell.slots.size := by
            have hg := (h4 f.2.1 o.2[f.2.1]).1 (List.getElem?_eq_getElem hlen)
            rw [eo] at hg
            rw [hsl]
            exact k2_hasslot hg
          have go : ∀ H' : Heap, H'[ad q]? = some (cell.setSlot fd.slot (e_cv ad v)) → H'.size = H.size → (∀ y, y ≠ ad q → H'[y]? = H[y]?) → W p l e R s m args below meth c H' (locs ++ [⟨ad q, fd.slot⟩]) cells slots Q (F0 m (pc + 3) ls (r.map (e_cv ad))) := by
            intro H' g1 g2 g3
            refine kk H' _ cells slots ls (hP.set hA ho ?_ g3) (by rw [g2, List.length_set]; exact hz) ?_ hl (by rw [List.length_set]; exact hc) (by rw [e_sl_set ho (by simp [e_sz])]; exact hs)
            · refine ⟨_, g1, h2, h3, fun j w => ⟨fun hw => ?_, fun i hi1 hj1 hij => ?_⟩⟩
              · by_cases hjf : j = f.2.1
                · subst hjf
                  rw [List.getElem?_set_self hlen] at hw
                  cases hw
                  rw [eo, ← hsl]
                  show (cell.slots.setIfInBounds fd.slot (e_cv ad v))[fd.slot]? = _
                  simp [hslot]
                · rw [List.getElem?_set_ne (Ne.symm hjf)] at hw
                  have hjl : j < o.2.length := (List.getElem?_eq_some_iff.mp hw).1
                  have hne : ¬ fd.slot = D.2 o.1 j := by
                    rw [hsl, ← eo]
                    exact fun q => hjf ((h4 j w).2 f.2.1 hlen hjl q).symm
                  show (cell.slots.setIfInBounds fd.slot (e_cv ad v))[D.2 o.1 j]? = _
                  rw [Array.getElem?_setIfInBounds_ne hne]
                  exact (h4 j w).1 hw
              · exact (h4 j w).2 i (by simpa using hi1) (by simpa using hj1) hij
            · intro y hy
              rcases List.mem_append.mp hy with hy | hy
              · exact hlo y hy
              · rw [List.mem_singleton.mp hy]; exact hbq
          have hlay := hts _ (hin _ (u_in_lay hN))
          rcases hmay hfin with hm | ⟨hm, hin2, hdecl⟩
          · unfold u_lay at hlay
            rw [if_neg (by rw [hm]; decide)] at hlay
            have h6 := u_store hfc hkC hkind hlay hi hty hnar hfits
            exact W.putK hx hb (f := fd) ⟨hown, hts _ hlink, ⟨cf, kf, fi, hi⟩, hst⟩ (by rw [h2, eo]; exact h6) h1 h3 hslot rfl rfl hd go
          · have h7 := u_fits hfc hkC hkind (u_lays hts hin hN) hi hty hnar hfits
            refine W.putFinK hx hb hown (hts _ hlink) hi hst ?_ (hname hin2) (by rw [h2, eo]; exact h7) h1 h3 hslot rfl rfl hd go
            unfold u_lay at hlay
            rw [if_pos hm] at hlay
            obtain ⟨_, _, c', _, _, _, -, -, hf', -, -, -, hown2, -⟩ := Cond.laysFinal_spec hlay
            have e1 : c' = cf := by have := hi.symm.trans hf'; simp at this; exact this.1.symm
            rw [hdecl] at hown2
            rw [← e1]; exact Option.some.inj (hown.symm.trans hown2)
      · cases h
    · cases h
theorem e_dflt (ad : Nat → Nat) (ty : FieldType) : e_cv ad (defaultValue ty) = defaultValue ty := by cases ty <;> rfl
theorem e_s_newo (G : e_GD P cl Ts Ns) (hA : e_AD ad (e_ro P) base) (X : e_X p s m args meth c P D cl Ts Ns k) {pc i : Nat} {lv : List (Nat × Value)} {st : List Value} {mem : List e_C} {F : e_F} (hd : decode (e_mth P k).2.1 pc = .ok (.new i, 3)) (h : e_newo (pc + 3) lv st mem (e_new P k i) = some F)
    (hRc : F.2.2.2.length ≤ R.cells + n0) (hRs : e_sl F.2.2.2 ≤ R.slots + z0) (hmem : e_ro P ≤ mem.length)
    (kk : e_W p l e R s m args below meth c Q P D ad base n0 z0 k F.1 F.2.1 F.2.2.1 F.2.2.2) : e_W p l e R s m args below meth c Q P D ad base n0 z0 k pc lv st mem := by
  obtain ⟨hx, hb, -, hown, hts, -, hK, hname⟩ := X
  obtain ⟨-, -, gk, gn, -⟩ := G
  cases hfl : e_new P k i with
  | none => rw [hfl] at h; cases h
  | some o =>
    rw [hfl] at h
    cases h
    intro H locs cells slots ls hP hz hlo hl hc hs
    obtain ⟨C, T, N, hcl, hN, hlink, hinst, hini, hdef⟩ := gn k i o hfl
    obtain ⟨hin, ⟨ty0, hty0⟩, hnm⟩ := gk o.1 C T N hcl
    have hap := va_apart (own := (e_mth P k).1.cls) hts hin ty0 hty0 hnm hK hcl
    have hKn := hK.1 o.1 _ hcl
    have hsz : ad mem.length = H.size := by rw [hA.1 _ hmem]; omega
    have e1 : e_sl (mem ++ [.inr o]) = e_sl mem + N := by rw [e_sl_push]; simp [e_sz, hN]
    have e2 : (mem ++ [(.inr o : e_C)]).length = mem.length + 1 := by simp
    dsimp only at hRc hRs
    rw [e2] at hRc
    rw [e1] at hRs
    refine W.newcK hx hb hown (hts _ hlink) (hts _ hinst) (hts _ hini) rfl hd (by omega) (by omega) hKn.2.1 rfl fun H1 kC hkC g1 g2 g3 => ?_
    have hborn := u_born ty0 hts hin hKn hkC g1 hty0
    obtain ⟨cell, b1, b2, b3, b4⟩ := hborn
    refine W.eq ?_ (kk H1 locs (cells + 1) (slots + N) ls (hP.push hsz ⟨cell, b1, b2, b3, fun j v => ⟨fun hv => ?_, fun a ha hj hij => ?_⟩⟩ g3) (by rw [g2, e2]; omega) hlo hl (by rw [e2]; omega) (by rw [e1]; omega))
    · show F0 m (pc + 3) ls (.ref H.size :: _) = F0 m (pc + 3) ls (.ref (ad mem.length) :: _)
      rw [hsz]
    · have hjl : j < N := by rw [← hN]; exact (List.getElem?_eq_some_iff.mp hv).1
      obtain ⟨ty, t1, t2⟩ := hdef j v hv
      rw [b4 j hjl]
      cases (hty0 j hjl).symm.trans t1
      rw [← t2, e_dflt]
    · rw [hN] at ha hj
      by_cases he : a = j
      · exact he
      · exact absurd hij (hap a j ha hj he)
theorem e_s_newa (G : e_GD P cl Ts Ns) (hA : e_AD ad (e_ro P) base) (X : e_X p s m args meth c P D cl Ts Ns k) {pc : Nat} {z : Bool} {lv : List (Nat × Value)} {st : List Value} {mem : List e_C} {F : e_F} (hd : decode (e_mth P k).2.1 pc = .ok (.newarray (bif z then .boolean else .int), 2)) (h : e_newa (pc + 2) lv st mem z = some F)
    (hRc : F.2.2.2.length ≤ R.cells + n0) (hRs : e_sl F.2.2.2 ≤ R.slots + z0) (hmem : e_ro P ≤ mem.length)
    (kk : e_W p l e R s m args below meth c Q P D ad base n0 z0 k F.1 F.2.1 F.2.2.1 F.2.2.2) : e_W p l e R s m args below meth c Q P D ad base n0 z0 k pc lv st mem := by
  obtain ⟨hx, hb, -, hown, hts, -, hK, hname⟩ := X
  obtain ⟨-, -, -, -, -, ⟨ga1, ga2, -⟩, -⟩ := G
  unfold e_newa at h
  split at h
  · next n r =>
    cases hcnd : (!decide (n < 0) && decide (n ≤ 65535)) with
    | false => rw [hcnd] at h; cases h
    | true =>
      rw [hcnd] at h
      simp only [Bool.and_eq_true, Bool.not_eq_true', decide_eq_false_iff_not, decide_eq_true_eq] at hcnd
      obtain ⟨hn0, hn1⟩ := hcnd
      cases h
      intro H locs cells slots ls hP hz hlo hl hc hs
      have hsz : ad mem.length = H.size := by rw [hA.1 _ hmem]; omega
      have e1 : e_sl (mem ++ [.inl (z, List.replicate n.toNatClampNeg 0)]) = e_sl mem + n.toNatClampNeg := by rw [e_sl_push]; simp [e_sz]
      have e2 : (mem ++ [(.inl (z, List.replicate n.toNatClampNeg 0) : e_C)]).length = mem.length + 1 := by simp
      have hnn : n.toNatClampNeg ≤ 65535 := by
        obtain ⟨j, hj, rfl⟩ := nI_of hn0
        rw [nI_clamp hj]
        exact (nI_leI hj (by omega)).mp (show nI j ≤ nI 65535 from hn1)
      dsimp only at hRc hRs
      rw [e2] at hRc
      rw [e1] at hRs
      have go : ∀ (ty : FieldType) (H1 : Heap) (cA : ClassId), defaultValue ty = .int 0 → (bif z then FieldType.boolean else FieldType.int) = ty → H1[H.size]? = some (arrV cA n.toNatClampNeg (fun _ => defaultValue ty)) → H1.size = H.size + 1 → (∀ q, q < H.size → H1[q]? = H[q]?) → ArrOfT s cA ty → W p l e R s m args below meth c H1 locs (cells + 1) (slots + n.toNatClampNeg) Q (F0 m (pc + 2) ls (.ref H.size :: r.map (e_cv ad))) := by
        intro ty H1 cA hdv hzt g1 g2 g3 hAr
        refine W.eq ?_ (kk H1 locs (cells + 1) (slots + n.toNatClampNeg) ls (hP.push hsz ⟨_, g1, ?_, ?_, ?_⟩ g3) (by rw [g2, e2]; omega) hlo hl (by rw [e2]; omega) (by rw [e1]; omega))
        · show F0 m (pc + 2) ls (.ref H.size :: _) = F0 m (pc + 2) ls (.ref (ad mem.length) :: _)
          rw [hsz]
        · dsimp only
          rw [hzt]
          exact hAr _ _
        · exact fun h => by cases h
        · rw [hdv]
          apply Array.toList_inj.mp
          simp only [arrV, Array.toList_ofFn, List.map_replicate]
          apply List.ext_getElem
          · simp
          · intro i h1 h2
            simp
      cases z with
      | false => exact va_newaK (atype := .int) hx hb (hts _ ga1) rfl hd rfl hn0 rfl (by show _ * 4 ≤ _; omega) (by omega) (by omega) rfl fun H1 cA g1 g2 g3 g4 _ => go _ H1 cA rfl rfl g1 g2 g3 g4
      | true => exact va_newaK (atype := .boolean) hx hb (hts _ ga2) rfl hd rfl hn0 rfl (by show _ * 1 ≤ _; omega) (by omega) (by omega) rfl fun H1 cA g1 g2 g3 g4 _ => go _ H1 cA rfl rfl g1 g2 g3 g4
  · cases h
theorem e_s_tsw (X : e_X p s m args meth c P D cl Ts Ns k) {pc len : Nat} {d lo hi : Int} {offs : Array Int} {lv : List (Nat × Value)} {st : List Value} {mem : List e_C} {F : e_F} (hd : decode (e_mth P k).2.1 pc = .ok (.tableswitch d lo hi offs, len)) (h : e_tsw lv st mem pc d lo hi offs = some F)
    (kk : e_W p l e R s m args below meth c Q P D ad base n0 z0 k F.1 F.2.1 F.2.2.1 F.2.2.2) : e_W p l e R s m args below meth c Q P D ad base n0 z0 k pc lv st mem := by
  obtain ⟨hx, hb, -⟩ := X
  unfold e_tsw at h
  split at h
  · next x r =>
    cases hcnd : (decide (x.toInt < lo) || decide (hi < x.toInt)) with
    | true =>
      rw [hcnd] at h
      simp only [Bool.or_eq_true, decide_eq_true_eq] at hcnd
      obtain ⟨t, e1, rfl⟩ := e_s_jmp h
      intro H locs cells slots ls hP hz hlo hl hc hs
      exact lv_tableOut hx hb hd hcnd e1 (kk H locs cells slots ls hP hz hlo hl hc hs)
    | false =>
      rw [hcnd] at h
      simp only [Bool.or_eq_false_iff, decide_eq_false_iff_not] at hcnd
      simp only [cond_false] at h
      split at h
      · next o ho =>
        obtain ⟨t, e1, rfl⟩ := e_s_jmp h
        intro H locs cells slots ls hP hz hlo hl hc hs
        exact lv_tableIn hx hb hd hcnd.1 hcnd.2 (by rw [← Array.getElem?_toList]; exact ho) e1 (kk H locs cells slots ls hP hz hlo hl hc hs)
      · cases h
  · cases h
theorem e_slots_wr : ∀ (l : List Int32) (at_ i : Nat) (cell : Cell) (ys : List Int32), cell.slots = (ys.map Value.int).toArray → (cell.storePairs at_ ((l.map Value.int).zipIdx i)).slots = ((e_wr l (at_ + i) ys).map Value.int).toArray ∧ (cell.storePairs at_ ((l.map Value.int).zipIdx i)).cls = cell.cls ∧ (cell.storePairs at_ ((l.map Value.int).zipIdx i)).vm = cell.vm
  | [], at_, i, ce, ys, h => ⟨h, rfl, rfl⟩
  | x :: l, at_, i, ce, ys, h => by
    have ih := e_slots_wr l at_ (i + 1) (ce.setSlot (at_ + i) (.int x)) (ys.set (at_ + i) x) (e_slots_set x h)
    rw [List.map_cons, List.zipIdx_cons]
    exact ih
theorem e_stretch {xs : List Int32} {cell : Cell} {sp n : Nat} (h : cell.slots = (xs.map Value.int).toArray) (hl : sp + n ≤ xs.length) : cell.stretch sp n = ((xs.drop sp).take n).map Value.int := by
  unfold Cell.stretch
  apply List.ext_getElem
  · simp; omega
  · intro i h1 h2
    have hi : i < n := by simpa using h1
    simp only [List.getElem_map, List.getElem_range, List.getElem_take, List.getElem_drop]
    rw [Array.getD_eq_getD_getElem?, h]
    simp [show sp + i < xs.length by omega]
theorem e_s_acp (hA : e_AD ad (e_ro P) base) (X : e_X p s m args meth c P D cl Ts Ns k) {pc i : Nat} {lv : List (Nat × Value)} {st : List Value} {mem : List e_C} {F : e_F} (hd : decode (e_mth P k).2.1 pc = .ok (.invokestatic i, 3)) (w1 : Cond.methodLink (e_mth P k).1.cls i arraycopyName ∈ Ts) (w2 : Cond.native arraycopyName ∈ Ts) (w3 : Cond.static arraycopyName ∈ Ts) (w4 : Cond.initialized "java/lang/System" ∈ Ts)
    (hf1 : 1 ≤ R.frames) (hl26 : 26 ≤ R.locals) (h : e_acp (pc + 3) lv st mem (e_ro P) = some F)
    (kk : e_W p l e R s m args below meth c Q P D ad base n0 z0 k F.1 F.2.1 F.2.2.1 F.2.2.2) : e_W p l e R s m args below meth c Q P D ad base n0 z0 k pc lv st mem := by
  obtain ⟨hx, hb, hml, hown, hts, -⟩ := X
  unfold e_acp at h
  split at h
  · next n dp q1 sp q0 r =>
    split at h
    · next a b ha hbb =>
      cases hcnd : (!a.1 && (!b.1 && (!decide (sp < 0) && (!decide (dp < 0) && (!decide (n < 0) && (Nat.ble (sp.toNatClampNeg + n.toNatClampNeg) a.2.length && (Nat.ble (dp.toNatClampNeg + n.toNatClampNeg) b.2.length && (Nat.ble (e_ro P) q1 && e_low r)))))))) with
      | false => rw [hcnd] at h; cases h
      | true =>
        rw [hcnd] at h
        simp only [Bool.and_eq_true, Bool.not_eq_true', decide_eq_false_iff_not, Nat.ble_eq] at hcnd
        obtain ⟨za, zb, h1, h2, h3, h4, h5, hro, hlow⟩ := hcnd
        cases h
        intro H locs cells slots ls hP hz hlo hl hc hs
        obtain ⟨cs, s1, s2, s3, s4⟩ := hP q0 _ ha
        obtain ⟨cd, d1, d2, d3, d4⟩ := hP q1 _ hbb
        rw [za] at s2
        rw [zb] at d2
        have nn : ∀ z : Int32, ¬ z < 0 → z.toInt = (z.toNatClampNeg : Int) := by
          intro z hz
          have hz0 : (0 : Int) ≤ z.toInt := by
            have := Int32.not_lt.mp hz
            simpa using Int32.le_iff_toInt_le.mp this
          show z.toInt = ((z.toInt.toNat : Nat) : Int)
          omega
        have hbq : base ≤ ad q1 := by rw [hA.1 q1 hro]; omega
        have hsum : ((r.map (e_cv ad)).map fun v => v.category).sum ≤ 8 := by
          rw [List.map_map, show ((fun v : Value => v.category) ∘ e_cv ad) = (fun v => v.category) from funext fun v => e_cv_cat ad v]
          exact Nat.le_of_ble_eq_true hlow
        obtain ⟨sb, k0, hk0, cm0, hkk0⟩ := s2
        obtain ⟨db, k1, hk1, cm1, hkk1⟩ := d2
        intro T hT X
        obtain ⟨vm', X', step⟩ := X.arraycopy hx hown (hts _ w1) (hts _ w2) (hts _ w3) (hts _ w4) (src := ad q0) (dst := ad q1) (cs := cs) (cd := cd) (srcPos := sp) (destPos := dp) (n := n) (by rw [hT]; exact s1) (by rw [hT]; exact d1)
          sb db s3 d3 hk0 hk1 hkk0 hkk1 (by decide) h1 h2 h3
          (by rw [nn sp h1, nn n h3, e_slots_size s4]; omega)
          (by rw [nn dp h2, nn n h3, e_slots_size d4]; omega)
          (fun vm₁ _ j hj => by
            have e : cs.slots.getD (sp.toNatClampNeg + j) .null = .int a.2[sp.toNatClampNeg + j] := by
              rw [Array.getD_eq_getD_getElem?, e_slots_at s4 (List.getElem?_eq_getElem (by omega))]
              rfl
            rw [e]
            exact ⟨rfl, trivial⟩)
          (g := F0 m pc ls (.int n :: .int dp :: .ref (ad q1) :: .int sp :: .ref (ad q0) :: r.map (e_cv ad))) rfl (by rw [hml]; exact hl.1) (rest := r.map (e_cv ad)) rfl (by rw [hb]; exact hd) hf1 (by show 2 * 0 + _ + (7 + 11) ≤ _; omega)
        have hlt : ad q1 < H.size := (Array.getElem?_eq_some_iff.mp d1).1
        have hcp : copied cs cd sp dp n = cd.storePairs dp.toNatClampNeg ((((a.2.drop sp.toNatClampNeg).take n.toNatClampNeg).map Value.int).zipIdx 0) := by
          show cd.storeRun _ (cs.stretch _ _) = _
          rw [e_stretch s4 h4]
          rfl
        obtain ⟨f1, f2, f3⟩ := e_slots_wr ((a.2.drop sp.toNatClampNeg).take n.toNatClampNeg) dp.toNatClampNeg 0 cd b.2 d4
        rw [← hcp, Nat.add_zero] at f1
        rw [← hcp] at f2 f3
        have hheap : ((T.setVm vm').setCell (ad q1) (copied cs cd sp dp n)).heap = H.setIfInBounds (ad q1) (copied cs cd sp dp n) := by rw [← hT]; rfl
        obtain ⟨t, a1, b1⟩ := kk (H.setIfInBounds (ad q1) (copied cs cd sp dp n)) _ cells slots ls (hP.set hA hbb ⟨_, by simp [Array.getElem?_setIfInBounds, hlt], ⟨by rw [f3]; exact db, k1, by rw [f2]; exact hk1, cm1, by rw [zb]; exact hkk1⟩, by rw [f3]; exact d3, f1⟩ (fun y hy => by simp [Array.getElem?_setIfInBounds, Ne.symm hy])) (by simp only [Array.size_setIfInBounds, List.length_set]; exact hz) (fun y hy => by
            rcases List.mem_append.mp hy with hy | hy
            · exact hlo y hy
            · obtain ⟨z, -, hz⟩ := List.mem_map.mp hy
              rw [← hz]
              exact hbq) hl (by rw [List.length_set]; exact hc) (by rw [e_sl_set hbb (by simp [e_sz, e_wr_len0])]; exact hs) _ hheap X'
        exact ⟨t, step t a1, b1⟩
    · cases h
  · cases h
theorem e_s_min (X : e_X p s m args meth c P D cl Ts Ns k) {pc i : Nat} {lv : List (Nat × Value)} {st : List Value} {mem : List e_C} {F : e_F} (hd : decode (e_mth P k).2.1 pc = .ok (.invokestatic i, 3)) (w1 : Cond.methodLink (e_mth P k).1.cls i Lib.Math.min.name ∈ Ts) (w2 : Cond.static Lib.Math.min.name ∈ Ts) (w3 : Cond.initialized "java/lang/Math" ∈ Ts) (w4 : Cond.code Lib.Math.min.name Lib.Math.min.code 2 (some .int) ∈ Ts)
    (hf1 : 1 ≤ R.frames) (hl26 : 26 ≤ R.locals) (hRc : mem.length ≤ R.cells + n0) (hRs : e_sl mem ≤ R.slots + z0) (h : e_min (pc + 3) lv st mem = some F)
    (kk : e_W p l e R s m args below meth c Q P D ad base n0 z0 k F.1 F.2.1 F.2.2.1 F.2.2.2) : e_W p l e R s m args below meth c Q P D ad base n0 z0 k pc lv st mem := by
  obtain ⟨hx, hb, hml, hown, hts, -⟩ := X
  unfold e_min at h
  split at h
  · next y x r =>
    cases hlow : e_low r with
    | false => rw [hlow] at h; cases h
    | true =>
      rw [hlow] at h
      cases h
      intro H locs cells slots ls hP hz hlo hl hc hs
      have hsum : ((r.map (e_cv ad)).map fun v => v.category).sum ≤ 8 := by
        rw [List.map_map, show ((fun v : Value => v.category) ∘ e_cv ad) = (fun v => v.category) from funext fun v => e_cv_cat ad v]
        exact Nat.le_of_ble_eq_true hlow
      exact va_mmin hx hb (by rw [hml]; exact hl.1.symm) hown (hts _ w1) (hts _ w2) (hts _ w3) (hts _ w4) hf1 (by omega) (by omega) (by omega) hd (kk H locs cells slots ls hP hz hlo hl hc hs)
  · cases h
theorem e_s_max (X : e_X p s m args meth c P D cl Ts Ns k) {pc i : Nat} {lv : List (Nat × Value)} {st : List Value} {mem : List e_C} {F : e_F} (hd : decode (e_mth P k).2.1 pc = .ok (.invokestatic i, 3)) (w1 : Cond.methodLink (e_mth P k).1.cls i Lib.Math.max.name ∈ Ts) (w2 : Cond.static Lib.Math.max.name ∈ Ts) (w3 : Cond.initialized "java/lang/Math" ∈ Ts) (w4 : Cond.code Lib.Math.max.name Lib.Math.max.code 2 (some .int) ∈ Ts)
    (hf1 : 1 ≤ R.frames) (hl26 : 26 ≤ R.locals) (hRc : mem.length ≤ R.cells + n0) (hRs : e_sl mem ≤ R.slots + z0) (h : e_max (pc + 3) lv st mem = some F)
    (kk : e_W p l e R s m args below meth c Q P D ad base n0 z0 k F.1 F.2.1 F.2.2.1 F.2.2.2) : e_W p l e R s m args below meth c Q P D ad base n0 z0 k pc lv st mem := by
  obtain ⟨hx, hb, hml, hown, hts, -⟩ := X
  unfold e_max at h
  split at h
  · next y x r =>
    cases hlow : e_low r with
    | false => rw [hlow] at h; cases h
    | true =>
      rw [hlow] at h
      cases h
      intro H locs cells slots ls hP hz hlo hl hc hs
      have hsum : ((r.map (e_cv ad)).map fun v => v.category).sum ≤ 8 := by
        rw [List.map_map, show ((fun v : Value => v.category) ∘ e_cv ad) = (fun v => v.category) from funext fun v => e_cv_cat ad v]
        exact Nat.le_of_ble_eq_true hlow
      exact va_mmax hx hb (by rw [hml]; exact hl.1.symm) hown (hts _ w1) (hts _ w2) (hts _ w3) (hts _ w4) hf1 (by omega) (by omega) (by omega) hd (kk H locs cells slots ls hP hz hlo hl hc hs)
  · cases h
end ESH
end
section
/-! ONE STEP, ALL INSTRUCTIONS; A CALL; A RUN -/
def e_le (mem mem' : List e_C) : Prop := mem.length ≤ mem'.length ∧ e_sl mem ≤ e_sl mem'
theorem e_le.rf {mem : List e_C} : e_le mem mem := ⟨Nat.le_refl _, Nat.le_refl _⟩
theorem e_le.tr {a b c : List e_C} (h : e_le a b) (h2 : e_le b c) : e_le a c := ⟨Nat.le_trans h.1 h2.1, Nat.le_trans h.2 h2.2⟩
theorem e_le.push {mem : List e_C} {c : e_C} : e_le mem (mem ++ [c]) := ⟨by simp, by rw [e_sl_push]; omega⟩
theorem e_le.set {mem : List e_C} {q : Nat} {c0 c : e_C} (h : mem[q]? = some c0) (he : e_sz c = e_sz c0) : e_le mem (mem.set q c) := ⟨by simp, by rw [e_sl_set h he]; exact Nat.le_refl _⟩
theorem e_q_iload {pc : Nat} {lv : List (Nat × Value)} {st : List Value} {mem : List e_C} (i : Nat) {F : e_F} (h : e_iload pc lv st mem i = some F) : F.2.2.2 = mem := by
  unfold e_iload at h
  try simp only [Bool.cond_eq_ite] at h
  repeat' split at h
  all_goals first | (cases h; rfl) | cases h
theorem e_q_lload {pc : Nat} {lv : List (Nat × Value)} {st : List Value} {mem : List e_C} (i : Nat) {F : e_F} (h : e_lload pc lv st mem i = some F) : F.2.2.2 = mem := by
  unfold e_lload at h
  try simp only [Bool.cond_eq_ite] at h
  repeat' split at h
  all_goals first | (cases h; rfl) | cases h
theorem e_q_aload {pc : Nat} {lv : List (Nat × Value)} {st : List Value} {mem : List e_C} (i : Nat) {F : e_F} (h : e_aload pc lv st mem i = some F) : F.2.2.2 = mem := by
  unfold e_aload at h
  try simp only [Bool.cond_eq_ite] at h
  repeat' split at h
  all_goals first | (cases h; rfl) | cases h
theorem e_q_istore {pc : Nat} {lv : List (Nat × Value)} {st : List Value} {mem : List e_C} (n i : Nat) {F : e_F} (h : e_istore pc lv st mem n i = some F) : F.2.2.2 = mem := by
  unfold e_istore at h
  try simp only [Bool.cond_eq_ite] at h
  repeat' split at h
  all_goals first | (cases h; rfl) | cases h
theorem e_q_lstore {pc : Nat} {lv : List (Nat × Value)} {st : List Value} {mem : List e_C} (n i : Nat) {F : e_F} (h : e_lstore pc lv st mem n i = some F) : F.2.2.2 = mem := by
  unfold e_lstore at h
  try simp only [Bool.cond_eq_ite] at h
  repeat' split at h
  all_goals first | (cases h; rfl) | cases h
theorem e_q_astore {pc : Nat} {lv : List (Nat × Value)} {st : List Value} {mem : List e_C} (n i : Nat) {F : e_F} (h : e_astore pc lv st mem n i = some F) : F.2.2.2 = mem := by
  unfold e_astore at h
  try simp only [Bool.cond_eq_ite] at h
  repeat' split at h
  all_goals first | (cases h; rfl) | cases h
theorem e_q_iinc {pc : Nat} {lv : List (Nat × Value)} {st : List Value} {mem : List e_C} (n i : Nat) (d : Int) {F : e_F} (h : e_iinc pc lv st mem n i d = some F) : F.2.2.2 = mem := by
  unfold e_iinc at h
  try simp only [Bool.cond_eq_ite] at h
  repeat' split at h
  all_goals first | (cases h; rfl) | cases h
theorem e_q_i1 {pc : Nat} {lv : List (Nat × Value)} {st : List Value} {mem : List e_C} (g : Int32 → Int32) {F : e_F} (h : e_i1 pc lv st mem g = some F) : F.2.2.2 = mem := by
  unfold e_i1 at h
  try simp only [Bool.cond_eq_ite] at h
  repeat' split at h
  all_goals first | (cases h; rfl) | cases h
theorem e_q_i2l {pc : Nat} {lv : List (Nat × Value)} {st : List Value} {mem : List e_C}  {F : e_F} (h : e_i2l pc lv st mem  = some F) : F.2.2.2 = mem := by
  unfold e_i2l at h
  try simp only [Bool.cond_eq_ite] at h
  repeat' split at h
  all_goals first | (cases h; rfl) | cases h
theorem e_q_i2 {pc : Nat} {lv : List (Nat × Value)} {st : List Value} {mem : List e_C} (g : Int32 → Int32 → Int32) {F : e_F} (h : e_i2 pc lv st mem g = some F) : F.2.2.2 = mem := by
  unfold e_i2 at h
  try simp only [Bool.cond_eq_ite] at h
  repeat' split at h
  all_goals first | (cases h; rfl) | cases h
theorem e_q_i2z {pc : Nat} {lv : List (Nat × Value)} {st : List Value} {mem : List e_C} (g : Int32 → Int32 → Int32) {F : e_F} (h : e_i2z pc lv st mem g = some F) : F.2.2.2 = mem := by
  unfold e_i2z at h
  try simp only [Bool.cond_eq_ite] at h
  repeat' split at h
  all_goals first | (cases h; rfl) | cases h
theorem e_q_l2 {pc : Nat} {lv : List (Nat × Value)} {st : List Value} {mem : List e_C} (g : Int64 → Int64 → Int64) {F : e_F} (h : e_l2 pc lv st mem g = some F) : F.2.2.2 = mem := by
  unfold e_l2 at h
  try simp only [Bool.cond_eq_ite] at h
  repeat' split at h
  all_goals first | (cases h; rfl) | cases h
theorem e_q_l2z {pc : Nat} {lv : List (Nat × Value)} {st : List Value} {mem : List e_C} (g : Int64 → Int64 → Int64) {F : e_F} (h : e_l2z pc lv st mem g = some F) : F.2.2.2 = mem := by
  unfold e_l2z at h
  try simp only [Bool.cond_eq_ite] at h
  repeat' split at h
  all_goals first | (cases h; rfl) | cases h
theorem e_q_lcmp {pc : Nat} {lv : List (Nat × Value)} {st : List Value} {mem : List e_C}  {F : e_F} (h : e_lcmp pc lv st mem  = some F) : F.2.2.2 = mem := by
  unfold e_lcmp at h
  try simp only [Bool.cond_eq_ite] at h
  repeat' split at h
  all_goals first | (cases h; rfl) | cases h
theorem e_q_dup {pc : Nat} {lv : List (Nat × Value)} {st : List Value} {mem : List e_C}  {F : e_F} (h : e_dup pc lv st mem  = some F) : F.2.2.2 = mem := by
  unfold e_dup at h
  try simp only [Bool.cond_eq_ite] at h
  repeat' split at h
  all_goals first | (cases h; rfl) | cases h
theorem e_q_pop {pc : Nat} {lv : List (Nat × Value)} {st : List Value} {mem : List e_C}  {F : e_F} (h : e_pop pc lv st mem  = some F) : F.2.2.2 = mem := by
  unfold e_pop at h
  try simp only [Bool.cond_eq_ite] at h
  repeat' split at h
  all_goals first | (cases h; rfl) | cases h
theorem e_q_dup2 {pc : Nat} {lv : List (Nat × Value)} {st : List Value} {mem : List e_C}  {F : e_F} (h : e_dup2 pc lv st mem  = some F) : F.2.2.2 = mem := by
  unfold e_dup2 at h
  try simp only [Bool.cond_eq_ite] at h
  repeat' split at h
  all_goals first | (cases h; rfl) | cases h
theorem e_q_alen {pc : Nat} {lv : List (Nat × Value)} {st : List Value} {mem : List e_C}  {F : e_F} (h : e_alen pc lv st mem  = some F) : F.2.2.2 = mem := by
  unfold e_alen at h
  try simp only [Bool.cond_eq_ite] at h
  repeat' split at h
  all_goals first | (cases h; rfl) | cases h
theorem e_q_ald {pc : Nat} {lv : List (Nat × Value)} {st : List Value} {mem : List e_C} (z : Bool) {F : e_F} (h : e_ald pc lv st mem z = some F) : F.2.2.2 = mem := by
  unfold e_ald at h
  try simp only [Bool.cond_eq_ite] at h
  repeat' split at h
  all_goals first | (cases h; rfl) | cases h
theorem e_q_getf {pc : Nat} {lv : List (Nat × Value)} {st : List Value} {mem : List e_C} (x : Option (Nat × Nat × FieldType × Bool)) {F : e_F} (h : e_getf pc lv st mem x = some F) : F.2.2.2 = mem := by
  unfold e_getf at h
  try simp only [Bool.cond_eq_ite] at h
  repeat' split at h
  all_goals first | (cases h; rfl) | cases h
theorem e_q_ldi {pc : Nat} {lv : List (Nat × Value)} {st : List Value} {mem : List e_C} (x : Option Value) {F : e_F} (h : e_ldi pc lv st mem x = some F) : F.2.2.2 = mem := by
  unfold e_ldi at h
  try simp only [Bool.cond_eq_ite] at h
  repeat' split at h
  all_goals first | (cases h; rfl) | cases h
theorem e_q_ldl {pc : Nat} {lv : List (Nat × Value)} {st : List Value} {mem : List e_C} (x : Option Value) {F : e_F} (h : e_ldl pc lv st mem x = some F) : F.2.2.2 = mem := by
  unfold e_ldl at h
  try simp only [Bool.cond_eq_ite] at h
  repeat' split at h
  all_goals first | (cases h; rfl) | cases h
theorem e_q_jmp {pc : Nat} {o : Int} {lv : List (Nat × Value)} {st : List Value} {mem : List e_C} {F : e_F} (h : e_jmp pc o lv st mem = some F) : F.2.2.2 = mem := by
  obtain ⟨t, -, rfl⟩ := e_s_jmp h
  rfl
theorem e_q_if {b : Bool} {pc : Nat} {o : Int} {lv : List (Nat × Value)} {st : List Value} {mem : List e_C} {F : e_F} (h : e_if b pc o lv st mem = some F) : F.2.2.2 = mem := by
  unfold e_if at h
  try simp only [Bool.cond_eq_ite] at h
  repeat' split at h
  all_goals first | (cases h; rfl) | cases h
theorem e_q_tsw {pc : Nat} {d lo hi : Int} {offs : Array Int} {lv : List (Nat × Value)} {st : List Value} {mem : List e_C} {F : e_F} (h : e_tsw lv st mem pc d lo hi offs = some F) : F.2.2.2 = mem := by
  unfold e_tsw at h
  try simp only [Bool.cond_eq_ite] at h
  repeat' split at h
  all_goals first | exact e_q_jmp h | cases h
theorem e_q_ast {pc ro : Nat} {z : Bool} {lv : List (Nat × Value)} {st : List Value} {mem : List e_C} {F : e_F} (h : e_ast pc lv st mem ro z = some F) : e_le mem F.2.2.2 := by
  unfold e_ast at h
  try simp only [Bool.cond_eq_ite] at h
  split at h
  · split at h
    · next a ha =>
      split at h
      · cases h; exact e_le.set ha (by simp [e_sz])
      · cases h
    · cases h
  · cases h
theorem e_q_putf {pc ro : Nat} {x : Option (Nat × Nat × FieldType × Bool)} {lv : List (Nat × Value)} {st : List Value} {mem : List e_C} {F : e_F} (h : e_putf pc lv st mem ro x = some F) : e_le mem F.2.2.2 := by
  unfold e_putf at h
  try simp only [Bool.cond_eq_ite] at h
  split at h
  · split at h
    · next o ho =>
      split at h
      · cases h; exact e_le.set ho (by simp [e_sz])
      · cases h
    · cases h
  · cases h
theorem e_q_newo {pc : Nat} {x : Option (Nat × List Value)} {lv : List (Nat × Value)} {st : List Value} {mem : List e_C} {F : e_F} (h : e_newo pc lv st mem x = some F) : e_le mem F.2.2.2 := by
  unfold e_newo at h
  split at h
  · cases h; exact e_le.push
  · cases h
theorem e_q_newa {pc : Nat} {z : Bool} {lv : List (Nat × Value)} {st : List Value} {mem : List e_C} {F : e_F} (h : e_newa pc lv st mem z = some F) : e_le mem F.2.2.2 := by
  unfold e_newa at h
  try simp only [Bool.cond_eq_ite] at h
  split at h
  · split at h
    · cases h; exact e_le.push
    · cases h
  · cases h
theorem e_eqle {mem mem' : List e_C} (h : mem' = mem) : e_le mem mem' := h ▸ e_le.rf
theorem e_step_le {P : e_Pg} {k : Nat} {i : Instr} {pc : Nat} {lv : List (Nat × Value)} {st : List Value} {mem : List e_C} {F : e_F} (h : e_step P k i pc lv st mem = some F) : e_le mem F.2.2.2 := by
  cases i with
  | aload n => exact e_eqle (e_q_aload _ h)
  | aload_n n => exact e_eqle (e_q_aload _ h)
  | arraylength  => exact e_eqle (e_q_alen  h)
  | astore n => exact e_eqle (e_q_astore _ _ h)
  | astore_n n => exact e_eqle (e_q_astore _ _ h)
  | baload  => exact e_eqle (e_q_ald _ h)
  | bipush n => unfold e_step at h; cases h; exact e_le.rf
  | dup  => exact e_eqle (e_q_dup  h)
  | dup2  => exact e_eqle (e_q_dup2  h)
  | getfield n => exact e_eqle (e_q_getf _ h)
  | goto o => exact e_eqle (e_q_jmp h)
  | i2b  => exact e_eqle (e_q_i1 _ h)
  | i2l  => exact e_eqle (e_q_i2l  h)
  | i2s  => exact e_eqle (e_q_i1 _ h)
  | iadd  => exact e_eqle (e_q_i2 _ h)
  | iaload  => exact e_eqle (e_q_ald _ h)
  | iand  => exact e_eqle (e_q_i2 _ h)
  | iconst n => unfold e_step at h; cases h; exact e_le.rf
  | idiv  => exact e_eqle (e_q_i2z _ h)
  | iinc n d => exact e_eqle (e_q_iinc _ _ _ h)
  | iload n => exact e_eqle (e_q_iload _ h)
  | iload_n n => exact e_eqle (e_q_iload _ h)
  | imul  => exact e_eqle (e_q_i2 _ h)
  | ior  => exact e_eqle (e_q_i2 _ h)
  | irem  => exact e_eqle (e_q_i2z _ h)
  | ishl  => exact e_eqle (e_q_i2 _ h)
  | ishr  => exact e_eqle (e_q_i2 _ h)
  | istore n => exact e_eqle (e_q_istore _ _ h)
  | istore_n n => exact e_eqle (e_q_istore _ _ h)
  | isub  => exact e_eqle (e_q_i2 _ h)
  | iushr  => exact e_eqle (e_q_i2 _ h)
  | ixor  => exact e_eqle (e_q_i2 _ h)
  | ladd  => exact e_eqle (e_q_l2 _ h)
  | lcmp  => exact e_eqle (e_q_lcmp  h)
  | lconst n => unfold e_step at h; cases h; exact e_le.rf
  | ldc n => exact e_eqle (e_q_ldi _ h)
  | ldc_w n => exact e_eqle (e_q_ldi _ h)
  | ldc2_w n => exact e_eqle (e_q_ldl _ h)
  | ldiv  => exact e_eqle (e_q_l2z _ h)
  | lload n => exact e_eqle (e_q_lload _ h)
  | lload_n n => exact e_eqle (e_q_lload _ h)
  | lmul  => exact e_eqle (e_q_l2 _ h)
  | lrem  => exact e_eqle (e_q_l2z _ h)
  | lstore n => exact e_eqle (e_q_lstore _ _ h)
  | lstore_n n => exact e_eqle (e_q_lstore _ _ h)
  | pop  => exact e_eqle (e_q_pop  h)
  | sipush n => unfold e_step at h; cases h; exact e_le.rf
  | tableswitch d lo hi offs => exact e_eqle (e_q_tsw h)
  | if_icmp c o =>
    unfold e_step at h
    dsimp only at h
    split at h
    · exact e_eqle (e_q_if h)
    · cases h
  | ifCond c o =>
    unfold e_step at h
    dsimp only at h
    split at h
    · exact e_eqle (e_q_if h)
    · cases h
  | bastore => exact e_q_ast h
  | iastore => exact e_q_ast h
  | putfield n => exact e_q_putf h
  | new n => exact e_q_newo h
  | newarray t =>
    cases t with
    | int => exact e_q_newa h
    | boolean => exact e_q_newa h
    | _ => exact absurd (show (none : Option e_F) = some F from h) (by simp)
  | _ => exact absurd (show (none : Option e_F) = some F from h) (by simp)
theorem e_wr_len {α : Type} : ∀ (l : List α) (i : Nat) (ys : List α), (e_wr l i ys).length = ys.length
  | [], _, _ => rfl
  | x :: l, i, ys => by
    unfold e_wr
    rw [e_wr_len l]
    simp
theorem e_q_acp {pc ro : Nat} {lv : List (Nat × Value)} {st : List Value} {mem : List e_C} {F : e_F} (h : e_acp pc lv st mem ro = some F) : e_le mem F.2.2.2 := by
  unfold e_acp at h
  simp only [Bool.cond_eq_ite] at h
  split at h
  · split at h
    · next a b ha hb =>
      split at h
      · cases h; exact e_le.set hb (by simp [e_sz, e_wr_len])
      · cases h
    · cases h
  · cases h
theorem e_q_min {pc : Nat} {lv : List (Nat × Value)} {st : List Value} {mem : List e_C} {F : e_F} (h : e_min pc lv st mem = some F) : F.2.2.2 = mem := by
  unfold e_min at h
  simp only [Bool.cond_eq_ite] at h
  split at h
  · split at h
    · cases h; rfl
    · cases h
  · cases h
theorem e_q_max {pc : Nat} {lv : List (Nat × Value)} {st : List Value} {mem : List e_C} {F : e_F} (h : e_max pc lv st mem = some F) : F.2.2.2 = mem := by
  unfold e_max at h
  simp only [Bool.cond_eq_ite] at h
  split at h
  · split at h
    · cases h; rfl
    · cases h
  · cases h
theorem e_q_bli {P : e_Pg} {k cd pc : Nat} {lv : List (Nat × Value)} {st : List Value} {mem : List e_C} {F : e_F} (h : e_bli P k cd pc lv st mem = some F) : e_le mem F.2.2.2 := by
  unfold e_bli at h
  simp only [Bool.cond_eq_ite] at h
  split at h
  · split at h
    · exact e_q_acp h
    · split at h
      · exact e_eqle (e_q_min h)
      · split at h
        · exact e_eqle (e_q_max h)
        · cases h
  · cases h
end
section
/-! ONE STEP, WHATEVER THE INSTRUCTION -/
theorem e_ln {a n : Nat} (h : (a == n || n == 0) = true) (hn : (n == 0) = false) : a = n := by
  rw [hn, Bool.or_false] at h
  simpa using h
section ESS
variable {p : Program} {l : Launch} {e : Env} {R : Room} {s : State} {m : MethodId} {args : Array Value} {below : List Frame} {meth : Method} {c : Code} {Q : State → Prop}
variable {P : e_Pg} {D : va_G} {cl : List vw_C} {Ts Ns : List Cond} {ad : Nat → Nat} {base n0 z0 k : Nat}
theorem e_step_sound (G : e_GD P cl Ts Ns) (hA : e_AD ad (e_ro P) base) (X : e_X p s m args meth c P D cl Ts Ns k) {i : Instr} {pc len : Nat} {lv : List (Nat × Value)} {st : List Value} {mem : List e_C} {F : e_F} (hcode : e_code P k pc = some (i, len)) (hlen : (len == e_len i || e_len i == 0) = true) (h : e_step P k i pc lv st mem = some F)
    (hRc : F.2.2.2.length ≤ R.cells + n0) (hRs : e_sl F.2.2.2 ≤ R.slots + z0) (hmem : e_ro P ≤ mem.length)
    (kk : e_W p l e R s m args below meth c Q P D ad base n0 z0 k F.1 F.2.1 F.2.2.1 F.2.2.2) : e_W p l e R s m args below meth c Q P D ad base n0 z0 k pc lv st mem := by
  have hd := G.1 k pc _ hcode
  have hx := X.1
  have hb := X.2.1
  cases i with
  | aload n =>
    cases e_ln hlen rfl
    exact e_s_aload X h (fun H locs cells slots ls x hg w => lv_aload hx hb hd hg w) kk
  | aload_n n =>
    cases e_ln hlen rfl
    exact e_s_aload X h (fun H locs cells slots ls x hg w => lv_aload_n hx hb hd rfl hg w) kk
  | iload n =>
    cases e_ln hlen rfl
    exact e_s_iload X h (fun H locs cells slots ls x hg w => lv_iload hx hb hd hg w) kk
  | iload_n n =>
    cases e_ln hlen rfl
    exact e_s_iload X h (fun H locs cells slots ls x hg w => lv_iload_n hx hb hd rfl hg w) kk
  | lload n =>
    cases e_ln hlen rfl
    exact e_s_lload X h (fun H locs cells slots ls x hg w => lv_lload hx hb hd hg w) kk
  | lload_n n =>
    cases e_ln hlen rfl
    exact e_s_lload X h (fun H locs cells slots ls x hg w => lv_lload_n hx hb hd rfl hg w) kk
  | astore n =>
    cases e_ln hlen rfl
    exact e_s_astore X h (fun H locs cells slots ls x lv0 lv2 rest hl hn he w => lv_astore hx hb hd hl hn he w) kk
  | astore_n n =>
    cases e_ln hlen rfl
    exact e_s_astore X h (fun H locs cells slots ls x lv0 lv2 rest hl hn he w => lv_astore_n hx hb hd rfl hl hn he w) kk
  | istore n =>
    cases e_ln hlen rfl
    exact e_s_istore X h (fun H locs cells slots ls x lv0 lv2 rest hl hn he w => lv_istore hx hb hd hl hn he w) kk
  | istore_n n =>
    cases e_ln hlen rfl
    exact e_s_istore X h (fun H locs cells slots ls x lv0 lv2 rest hl hn he w => lv_istore_n hx hb hd rfl hl hn he w) kk
  | lstore n =>
    cases e_ln hlen rfl
    exact e_s_lstore X h (fun H locs cells slots ls x lv0 lv2 rest hl hn he w => lv_lstore hx hb hd hl hn he w) kk
  | lstore_n n =>
    cases e_ln hlen rfl
    exact e_s_lstore X h (fun H locs cells slots ls x lv0 lv2 rest hl hn he w => lv_lstore_n hx hb hd rfl hl hn he w) kk
  | arraylength  =>
    cases e_ln hlen rfl
    exact e_s_alen G X hd h kk
  | baload  =>
    cases e_ln hlen rfl
    exact e_s_ald (z := true) X hd h kk
  | iaload  =>
    cases e_ln hlen rfl
    exact e_s_ald (z := false) X hd h kk
  | bastore  =>
    cases e_ln hlen rfl
    exact e_s_ast (z := true) hA X hd h kk
  | iastore  =>
    cases e_ln hlen rfl
    exact e_s_ast (z := false) hA X hd h kk
  | bipush n =>
    cases e_ln hlen rfl
    unfold e_step at h
    cases h
    exact fun H locs cells slots ls hP hz hlo hl hc hs => lv_bipush hx hb hd rfl (kk H locs cells slots ls hP hz hlo hl hc hs)
  | iconst n =>
    cases e_ln hlen rfl
    unfold e_step at h
    cases h
    exact fun H locs cells slots ls hP hz hlo hl hc hs => lv_iconst hx hb hd rfl (kk H locs cells slots ls hP hz hlo hl hc hs)
  | sipush n =>
    cases e_ln hlen rfl
    unfold e_step at h
    cases h
    exact fun H locs cells slots ls hP hz hlo hl hc hs => lv_sipush hx hb hd rfl (kk H locs cells slots ls hP hz hlo hl hc hs)
  | lconst n =>
    cases e_ln hlen rfl
    unfold e_step at h
    cases h
    exact fun H locs cells slots ls hP hz hlo hl hc hs => lv_lconst hx hb hd rfl (kk H locs cells slots ls hP hz hlo hl hc hs)
  | dup  =>
    cases e_ln hlen rfl
    unfold e_step e_dup at h
    simp only [Bool.cond_eq_ite] at h
    split at h
    · next v r =>
      split at h
      · next hv =>
        cases h
        exact fun H locs cells slots ls hP hz hlo hl hc hs => lv_dup hx hb hd (by rw [e_cv_cat]; simpa using hv) (kk H locs cells slots ls hP hz hlo hl hc hs)
      · cases h
    · cases h
  | pop  =>
    cases e_ln hlen rfl
    unfold e_step e_pop at h
    simp only [Bool.cond_eq_ite] at h
    split at h
    · next v r =>
      split at h
      · next hv =>
        cases h
        exact fun H locs cells slots ls hP hz hlo hl hc hs => lv_pop hx hb hd (by rw [e_cv_cat]; simpa using hv) (kk H locs cells slots ls hP hz hlo hl hc hs)
      · cases h
    · cases h
  | dup2  =>
    cases e_ln hlen rfl
    unfold e_step e_dup2 at h
    simp only [Bool.cond_eq_ite] at h
    split at h
    · next v w r =>
      split at h
      · next hv =>
        simp only [Bool.and_eq_true, beq_iff_eq] at hv
        cases h
        exact fun H locs cells slots ls hP hz hlo hl hc hs => lv_dup2_11 hx hb hd (by rw [e_cv_cat]; exact hv.1) (by rw [e_cv_cat]; exact hv.2) (kk H locs cells slots ls hP hz hlo hl hc hs)
      · cases h
    · cases h
  | getfield n =>
    cases e_ln hlen rfl
    exact e_s_getf G X hd h kk
  | putfield n =>
    cases e_ln hlen rfl
    exact e_s_putf G hA X hd h kk
  | new n =>
    cases e_ln hlen rfl
    exact e_s_newo G hA X hd h hRc hRs hmem kk
  | newarray t =>
    cases e_ln hlen rfl
    cases t with
    | int => exact e_s_newa (z := false) G hA X hd h hRc hRs hmem kk
    | boolean => exact e_s_newa (z := true) G hA X hd h hRc hRs hmem kk
    | _ => exact absurd (show (none : Option e_F) = some F from h) (by simp)
  | goto o =>
    cases e_ln hlen rfl
    obtain ⟨t, e1, rfl⟩ := e_s_jmp h
    exact fun H locs cells slots ls hP hz hlo hl hc hs => lv_goto hx hb hd e1 (kk H locs cells slots ls hP hz hlo hl hc hs)
  | i2b  =>
    cases e_ln hlen rfl
    exact e_s_i1 h (fun H locs cells slots ls x rest w => lv_i2b hx hb hd rfl w) kk
  | i2s  =>
    cases e_ln hlen rfl
    exact e_s_i1 h (fun H locs cells slots ls x rest w => lv_i2s hx hb hd rfl w) kk
  | i2l  =>
    cases e_ln hlen rfl
    unfold e_step e_i2l at h
    dsimp only at h
    split at h
    · cases h
      exact fun H locs cells slots ls hP hz hlo hl hc hs => lv_i2l hx hb hd rfl (kk H locs cells slots ls hP hz hlo hl hc hs)
    · cases h
  | iadd  =>
    cases e_ln hlen rfl
    exact e_s_i2 h (fun H locs cells slots ls x y rest w => lv_iadd hx hb hd w) kk
  | isub  =>
    cases e_ln hlen rfl
    exact e_s_i2 h (fun H locs cells slots ls x y rest w => lv_isub hx hb hd w) kk
  | imul  =>
    cases e_ln hlen rfl
    exact e_s_i2 h (fun H locs cells slots ls x y rest w => lv_imul hx hb hd w) kk
  | iand  =>
    cases e_ln hlen rfl
    exact e_s_i2 h (fun H locs cells slots ls x y rest w => lv_iand hx hb hd w) kk
  | ior  =>
    cases e_ln hlen rfl
    exact e_s_i2 h (fun H locs cells slots ls x y rest w => lv_ior hx hb hd w) kk
  | ixor  =>
    cases e_ln hlen rfl
    exact e_s_i2 h (fun H locs cells slots ls x y rest w => lv_ixor hx hb hd w) kk
  | ishl  =>
    cases e_ln hlen rfl
    exact e_s_i2 h (fun H locs cells slots ls x y rest w => lv_ishl hx hb hd w) kk
  | ishr  =>
    cases e_ln hlen rfl
    exact e_s_i2 h (fun H locs cells slots ls x y rest w => lv_ishr hx hb hd w) kk
  | iushr  =>
    cases e_ln hlen rfl
    exact e_s_i2 h (fun H locs cells slots ls x y rest w => lv_iushr hx hb hd rfl w) kk
  | idiv  =>
    cases e_ln hlen rfl
    exact e_s_i2z h (fun H locs cells slots ls x y rest hy w => lv_idiv hx hb hd hy w) kk
  | irem  =>
    cases e_ln hlen rfl
    exact e_s_i2z h (fun H locs cells slots ls x y rest hy w => lv_irem hx hb hd hy w) kk
  | ladd  =>
    cases e_ln hlen rfl
    exact e_s_l2 h (fun H locs cells slots ls x y rest w => lv_ladd hx hb hd w) kk
  | lmul  =>
    cases e_ln hlen rfl
    exact e_s_l2 h (fun H locs cells slots ls x y rest w => lv_lmul hx hb hd w) kk
  | ldiv  =>
    cases e_ln hlen rfl
    exact e_s_l2z h (fun H locs cells slots ls x y rest hy w => lv_ldiv hx hb hd hy w) kk
  | lrem  =>
    cases e_ln hlen rfl
    exact e_s_l2z h (fun H locs cells slots ls x y rest hy w => lv_lrem hx hb hd hy w) kk
  | lcmp  =>
    cases e_ln hlen rfl
    unfold e_step e_lcmp at h
    dsimp only at h
    split at h
    · cases h
      exact fun H locs cells slots ls hP hz hlo hl hc hs => W.lcmp hx hb hd (kk H locs cells slots ls hP hz hlo hl hc hs)
    · cases h
  | if_icmp cd o =>
    cases e_ln hlen rfl
    unfold e_step at h
    dsimp only at h
    split at h
    · exact e_s_icmp X hd h kk
    · cases h
  | ifCond cd o =>
    cases e_ln hlen rfl
    unfold e_step at h
    dsimp only at h
    split at h
    · exact e_s_if X hd h kk
    · cases h
  | iinc n d =>
    cases e_ln hlen rfl
    unfold e_step e_iinc at h
    simp only [Bool.cond_eq_ite] at h
    split at h
    · next x hg =>
      split at h
      · next hn =>
        cases h
        intro H locs cells slots ls hP hz hlo hl hc hs
        obtain ⟨j, hj⟩ := List.getElem?_of_mem (show (n, Value.int x) ∈ e_lv ad lv from List.mem_map.mpr ⟨(n, .int x), e_get_mem hg, rfl⟩)
        exact lv_iinc hx hb hd hl hj rfl (by simpa using hn) (e_lv_put1 ad lv n (.int (x + Int32.ofInt d))) (fun ls hl => kk H locs cells slots ls hP hz hlo hl hc hs)
      · cases h
    · cases h
  | ldc n =>
    cases e_ln hlen rfl
    unfold e_step e_ldi at h
    dsimp only at h
    split at h
    · next v hv =>
      cases h
      rcases G.2.2.2.2.1 k n _ hv with ⟨x, ex, hw⟩ | ⟨x, ex, hw⟩
      · cases ex
        exact fun H locs cells slots ls hP hz hlo hl hc hs => lv_ldc hx hb X.2.2.2.1 (X.2.2.2.2.1 _ hw) hd (kk H locs cells slots ls hP hz hlo hl hc hs)
      · cases ex
    · cases h
  | ldc_w n =>
    cases e_ln hlen rfl
    unfold e_step e_ldi at h
    dsimp only at h
    split at h
    · next v hv =>
      cases h
      rcases G.2.2.2.2.1 k n _ hv with ⟨x, ex, hw⟩ | ⟨x, ex, hw⟩
      · cases ex
        exact fun H locs cells slots ls hP hz hlo hl hc hs => lv_ldcw hx hb X.2.2.2.1 (X.2.2.2.2.1 _ hw) hd (kk H locs cells slots ls hP hz hlo hl hc hs)
      · cases ex
    · cases h
  | ldc2_w n =>
    cases e_ln hlen rfl
    unfold e_step e_ldl at h
    dsimp only at h
    split at h
    · next v hv =>
      cases h
      rcases G.2.2.2.2.1 k n _ hv with ⟨x, ex, hw⟩ | ⟨x, ex, hw⟩
      · cases ex
        
      · cases ex
        exact fun H locs cells slots ls hP hz hlo hl hc hs => lv_ldc2 hx hb X.2.2.2.1 (X.2.2.2.2.1 _ hw) hd (kk H locs cells slots ls hP hz hlo hl hc hs)
    · cases h
  | tableswitch d lo hi offs => exact e_s_tsw X hd h kk
  | _ => exact absurd (show (none : Option e_F) = some F from h) (by simp)
end ESS
end
section
/-! CALLS, AND THE WHOLE RUN -/
theorem e_go_le {P : e_Pg} {n k : Nat} {x : Option e_F} {mem : List e_C} {y : Option Value × List e_C} (ih : ∀ k pc lv st mem y, e_run P n k pc lv st mem = some y → e_le mem y.2) (hx : ∀ F, x = some F → e_le mem F.2.2.2) (h : e_go (e_run P n) k x = some y) : e_le mem y.2 := by
  unfold e_go at h
  split at h
  · next F => exact (hx F rfl).tr (ih _ _ _ _ _ _ h)
  · cases h
theorem e_aft_le {P : e_Pg} {n k pc : Nat} {lv : List (Nat × Value)} {rest : List Value} {x : Option (Option Value × List e_C)} {mem : List e_C} {y : Option Value × List e_C} (ih : ∀ k pc lv st mem y, e_run P n k pc lv st mem = some y → e_le mem y.2) (hx : ∀ F, x = some F → e_le mem F.2) (h : e_aft (e_run P n) k pc lv rest x = some y) : e_le mem y.2 := by
  unfold e_aft at h
  split at h
  · next F => exact (hx F rfl).tr (ih _ _ _ _ _ _ h)
  · cases h
theorem e_inv_le {P : e_Pg} {n k pc : Nat} {lv : List (Nat × Value)} {st : List Value} {mem : List e_C} {sp : Bool} {i : Nat} {y : Option Value × List e_C} (ih : ∀ k pc lv st mem y, e_run P n k pc lv st mem = some y → e_le mem y.2) (h : e_inv P (e_run P n) k pc lv st mem sp i = some y) : e_le mem y.2 := by
  unfold e_inv at h
  simp only [Bool.cond_eq_ite] at h
  split at h
  · cases h
  · split at h
    · split at h
      · split at h
        · exact ih _ _ _ _ _ _ h
        · cases h
      · split at h
        · split at h
          · exact e_aft_le ih (fun F hF => ih _ _ _ _ _ _ hF) h
          · cases h
        · cases h
    · cases h
theorem e_ivs_le {P : e_Pg} {n k pc : Nat} {lv : List (Nat × Value)} {st : List Value} {mem : List e_C} {i : Nat} {y : Option Value × List e_C} (ih : ∀ k pc lv st mem y, e_run P n k pc lv st mem = some y → e_le mem y.2) (h : e_ivs P (e_run P n) k pc lv st mem i = some y) : e_le mem y.2 := by
  unfold e_ivs at h
  simp only [Bool.cond_eq_ite] at h
  split at h
  · cases h
  · split at h
    · exact e_go_le ih (fun F hF => e_q_bli hF) h
    · split at h
      · exact e_aft_le ih (fun F hF => ih _ _ _ _ _ _ hF) h
      · cases h
theorem e_rt_le {mem : List e_C} {x : Option (Option Value)} {y : Option Value × List e_C} (h : e_rt mem x = some y) : e_le mem y.2 := by
  unfold e_rt at h
  split at h
  · cases h; exact e_le.rf
  · cases h
theorem e_run_le {P : e_Pg} : ∀ (n k pc : Nat) (lv : List (Nat × Value)) (st : List Value) (mem : List e_C) (y : Option Value × List e_C), e_run P n k pc lv st mem = some y → e_le mem y.2
  | 0, _, _, _, _, _, _, h => by cases h
  | n + 1, k, pc, lv, st, mem, y, h => by
    rw [e_run_succ] at h
    have ih := e_run_le (P := P) n
    unfold e_body at h
    simp only [Bool.cond_eq_ite] at h
    split at h
    · next x hx =>
      split at h
      · unfold e_one at h
        split at h
        · exact e_inv_le ih h
        · exact e_inv_le ih h
        · exact e_ivs_le ih h
        · exact e_rt_le h
        · exact e_rt_le h
        · exact e_rt_le h
        · exact e_rt_le h
        · exact e_go_le ih (fun F hF => e_step_le hF) h
      · cases h
    · cases h
def e_ws (P : e_Pg) (Ts : List Cond) (j : Nat) : List Cond := Cond.code (e_mth P j).1 (e_mth P j).2.1 (e_mth P j).2.2.1 (e_mth P j).2.2.2 :: Ts
def e_rm (P : e_Pg) (j : Nat) (mem mem' : List e_C) : Room := { frames := (e_rmo P j).1, cells := mem'.length - mem.length, slots := e_sl mem' - e_sl mem, locals := (e_rmo P j).2.1 }
def e_Pc (P : e_Pg) (D : va_G) (cl : List vw_C) (Ns : List Cond) (ad : Nat → Nat) (base : Nat) (vs : List Value) (mem : List e_C) : Array Value → State → Prop := fun a U => a = (vs.map (e_cv ad)).toArray ∧ e_P U D ad mem U.heap ∧ U.heap.size + e_ro P = base + mem.length ∧ va_K D cl [] U ∧ ∀ w ∈ Ns, va_Nw w U
def e_Qc (P : e_Pg) (D : va_G) (ad : Nat → Nat) (base : Nat) (r : Option Value) (mem' : List e_C) : Array Value → State → Outcome → State → Prop := fun _ _ oc t => oc = .returned (r.map (e_cv ad)) ∧ e_P t D ad mem' t.heap ∧ t.heap.size + e_ro P = base + mem'.length
theorem e_blind {P : e_Pg} {D : va_G} {cl : List vw_C} {Ns : List Cond} {ad : Nat → Nat} {base : Nat} {vs : List Value} {mem : List e_C} (hN : e_gN Ns) : FrameBlind (e_Pc P D cl Ns ad base vs mem) := by
  intro a U g mk ⟨h1, h2, h3, h4, h5⟩
  refine ⟨h1, e_P.moved (s := U) (U := U.calling g mk a) (Vm.Alike.refl U.vm) h2, h3, va_K.moved (u := U) (U := U.calling g mk a) (Vm.Alike.refl U.vm) h4, fun w hw => ?_⟩
  obtain ⟨x1, x2, x3, x4, rfl⟩ := hN w hw
  exact va_Nw.same rfl (rfl : U.vm = (U.calling g mk a).vm) (h5 _ hw)
/-- n steps at most of the small machine are sound, at whatever frame -/
def e_S (l : Launch) (P : e_Pg) (D : va_G) (cl : List vw_C) (Ts Ns : List Cond) (ad : Nat → Nat) (base n : Nat) : Prop :=
  ∀ (k pc : Nat) (lv : List (Nat × Value)) (st : List Value) (mem : List e_C) (r : Option Value) (mem' : List e_C), e_run P n k pc lv st mem = some (r, mem') → e_ro P ≤ mem.length →
  ∀ (p : Program) (e : Env) (R : Room) (s : State) (m : MethodId) (args : Array Value) (below : List Frame) (meth : Method) (c : Code) (Q : State → Prop) (n0 z0 : Nat), e_X p s m args meth c P D cl Ts Ns k → (e_rmo P k).1 ≤ R.frames → (e_rmo P k).2.1 ≤ R.locals → mem'.length ≤ R.cells + n0 → e_sl mem' ≤ R.slots + z0 →
  (∀ (pc' : Nat) (i : Instr) (lv' : List (Nat × Value)) (st' : List Value), decode (e_mth P k).2.1 pc' = .ok (i, 1) → e_ret (e_mth P k).2.2.2 i st' = some r → e_W p l e R s m args below meth c Q P D ad base n0 z0 k pc' lv' st' mem') →
  e_W p l e R s m args below meth c Q P D ad base n0 z0 k pc lv st mem
theorem e_lgsl : ∀ vs : List Value, (lg_sl vs).length = (vs.map fun v => v.category).sum
  | [] => rfl
  | v :: vs => by
    have ih := e_lgsl vs
    unfold lg_sl at ih ⊢
    rw [List.flatMap_cons, List.length_append, ih, List.map_cons, List.sum_cons]
    rcases lv_cat v with h | h <;> simp [h]
theorem e_catsum (ad : Nat → Nat) (vs : List Value) : ((vs.map (e_cv ad)).map fun v => v.category).sum = (vs.map fun v => v.category).sum := by
  rw [List.map_map]
  congr 1
  apply List.map_congr_left
  intro v _
  exact e_cv_cat ad v
theorem e_met {l : Launch} {P : e_Pg} {D : va_G} {cl : List vw_C} {Ts Ns : List Cond} {ad : Nat → Nat} {base n j : Nat} {vs : List Value} {mem mem' : List e_C} {r : Option Value} (hS : e_S l P D cl Ts Ns ad base n) (hrun : e_run P n j 0 (lv_args 0 vs) [] mem = some (r, mem')) (hmem : e_ro P ≤ mem.length)
    (hpl : plainName (e_mth P j).1.cls = true) (hvs : (vs.map fun v => v.category).sum ≤ (e_mth P j).2.2.1) :
    Met l (e_mth P j).1 (e_ws P Ts j) (e_rm P j mem mem') (e_Pc P D cl Ns ad base vs mem) (e_Qc P D ad base r mem') (mem'.length - mem.length) (e_sl mem' - e_sl mem) (fun q => base ≤ q) := by
  obtain ⟨le1, le2⟩ := e_run_le _ _ _ _ _ _ _ hrun
  dsimp only at le1 le2
  refine Met.ofW (cc := (e_mth P j).2.1) (maxL := (e_mth P j).2.2.1) (ret := (e_mth P j).2.2.2) hpl rfl ?_
  intro p e s m args below meth c s₁ B hml hv
  obtain ⟨rfl, hP, hz, hK, hN⟩ := hv
  have hts := atoms_spec (ws := e_ws P Ts j) B.pre
  have hlocks := B.notSynchronized
  have X : e_X p s m (vs.map (e_cv ad)).toArray meth c P D cl Ts Ns j := ⟨B.exec, B.bytes, hml, findClass_of_methodNamed B.named, fun w hw => hts w (List.mem_cons_of_mem _ hw), hN, hK, fun hi => (name_of_methodNamed B.named B.method).1.trans hi⟩
  have hl := lv_entry (vs.map (e_cv ad)) (n := (e_mth P j).2.2.1) (by rw [e_lgsl, e_catsum]; exact hvs)
  rw [lg_entry_eq]
  generalize (lg_sl (vs.map (e_cv ad)) ++ List.replicate ((e_mth P j).2.2.1 - (lg_sl (vs.map (e_cv ad))).length) Slot.unset).toArray = ls at hl ⊢
  rw [e_lv_args] at hl
  refine hS j 0 _ [] mem r mem' hrun hmem p e _ s m _ below meth c _ mem.length (e_sl mem) X (Nat.le_refl _) (Nat.le_refl _) (by show _ ≤ mem'.length - mem.length + _; omega) (by show _ ≤ e_sl mem' - e_sl mem + _; omega) ?_ s.heap [] 0 0 ls hP hz (fun x hx => by cases hx) hl (by omega) (by omega)
  intro pc' i lv' st' hd hr H locs cells slots ls hP hz hlo hl hc hs
  have ec : cells = mem'.length - mem.length := by omega
  have es : slots = e_sl mem' - e_sl mem := by omega
  subst ec; subst es
  have post : ∀ t : State, t.heap = H → s.WarmedH t.vm → e_P t D ad mem' t.heap ∧ t.heap.size + e_ro P = base + mem'.length := fun t ht hW => ⟨by rw [ht]; exact hP.moved hW.alike, by rw [ht]; exact hz⟩
  have hret := B.returns
  unfold e_ret at hr
  split at hr
  · next x hty =>
    cases hr
    exact W.iret B.exec B.bytes (hret.trans hty) (fun t ht hW => ⟨rfl, post t ht hW⟩) hlo hd
  · next x hty =>
    simp only [Bool.cond_eq_ite] at hr
    split at hr
    · next hf =>
      cases hr
      exact W.zret B.exec B.bytes (hret.trans hty) (e_fit_narrow hf).1 (fun t ht hW => ⟨rfl, post t ht hW⟩) hlo hd
    · cases hr
  · next x hty =>
    cases hr
    exact W.lret B.exec B.bytes (hret.trans hty) (fun t ht hW => ⟨rfl, post t ht hW⟩) hlo hd
  · next cn x hty =>
    cases hr
    exact W.aret B.exec B.bytes (hret.trans hty) (Or.inl ⟨_, rfl⟩) (Or.inr ⟨_, rfl⟩) (fun t ht hW => ⟨rfl, post t ht hW⟩) hlo hd
  · next hty =>
    cases hr
    exact W.vret B.exec B.bytes (hret.trans hty) (fun t ht hW => ⟨rfl, post t ht hW⟩) hlo hd
  · cases hr
end
section
/-! THE CALLS, AND SOUNDNESS OF RUNS OF ANY LENGTH -/
section ECL
variable {p : Program} {l : Launch} {e : Env} {R : Room} {s : State} {m : MethodId} {args : Array Value} {below : List Frame} {meth : Method} {c : Code} {Q : State → Prop}
variable {P : e_Pg} {D : va_G} {cl : List vw_C} {Ts Ns : List Cond} {ad : Nat → Nat} {base n0 z0 k : Nat}
theorem e_back {pc : Nat} {lv : List (Nat × Value)} {rest : List Value} {mem mem2 : List e_C} {r : Option Value} {st0 : List Value} {a : Array Value} {H : Heap} {locs : List Loc} {cells slots : Nat} {ls : Array Slot} (hle : e_le mem mem2)
    (hr : va_Run p l e R s m args below meth c H locs cells slots (mem2.length - mem.length) (e_sl mem2 - e_sl mem) (F0 m pc ls st0) (rest.map (e_cv ad)) (e_Qc P D ad base r mem2 a) (fun q => base ≤ q))
    (hlo : ∀ x ∈ locs, base ≤ x.base) (hl : lv_has ls (e_mth P k).2.2.1 (e_lv ad lv)) (hc : cells + n0 = mem.length) (hs : slots + z0 = e_sl mem)
    (kk : e_W p l e R s m args below meth c Q P D ad base n0 z0 k (pc + 3) lv (r.toList ++ rest) mem2) : W p l e R s m args below meth c H locs cells slots Q (F0 m pc ls st0) := by
  obtain ⟨le1, le2⟩ := hle
  intro T hT X
  obtain ⟨v, st₀, t, T', L, h0, X', hL, e1, e2, ⟨hv, hPt, hzt⟩, st⟩ := hr T hT X
  have hv : v = r.map (e_cv ad) := Outcome.returned.inj hv
  subst hv
  obtain ⟨t2, a1, b1⟩ := kk T'.heap (locs ++ L) _ _ ls (by rw [e1]; exact hPt.moved (by rw [← e2]; exact X'.warmed.alike.symm)) (by rw [e1]; exact hzt) (fun x hx => by
      rcases List.mem_append.mp hx with hx | hx
      · exact hlo x hx
      · exact hL x hx) hl (by omega) (by omega) T' rfl X'
  refine ⟨t2, st t2 ?_, b1⟩
  have es : (r.map (e_cv ad)).toList ++ rest.map (e_cv ad) = (r.toList ++ rest).map (e_cv ad) := by
    rw [List.map_append]
    cases r <;> rfl
  rw [es]
  exact a1
theorem e_good (G : e_GD P cl Ts Ns) {j : Nat} (h : Cond.code (e_mth P j).1 (e_mth P j).2.1 (e_mth P j).2.2.1 (e_mth P j).2.2.2 ∈ Ts) : GoodIn Ts (e_ws P Ts j) := by
  obtain ⟨-, -, -, -, -, ⟨-, -, -, -, hg⟩, -⟩ := G
  intro w hw
  rcases List.mem_cons.mp hw with rfl | hw
  · exact ⟨h, good_of_word (hg _ h)⟩
  · exact ⟨hw, good_of_word (hg w hw)⟩
theorem e_pre (hN : e_gN Ns) {H : Heap} {vs : List Value} {mem : List e_C} (hns : ∀ w ∈ Ns, va_Nw w s) (hK : va_K D cl [] s) (hP : e_P s D ad mem H) (hz : H.size + e_ro P = base + mem.length) : PreS s H (e_Pc P D cl Ns ad base vs mem) (vs.map (e_cv ad)) := by
  refine ⟨e_blind hN, fun U hU hW => ⟨rfl, by rw [hU]; exact hP.moved hW.alike, by rw [hU]; exact hz, hK.moved hW.alike, fun w hw => ?_⟩⟩
  obtain ⟨x1, x2, x3, x4, rfl⟩ := hN w hw
  exact va_Nw.warmM hW (hns _ hw)
theorem e_s_inv {n : Nat} (G : e_GD P cl Ts Ns) (hS : e_S l P D cl Ts Ns ad base n) (hA : e_AD ad (e_ro P) base) (X : e_X p s m args meth c P D cl Ts Ns k) {pc i : Nat} {sp : Bool} {lv : List (Nat × Value)} {st : List Value} {mem mem' : List e_C} {r : Option Value} (hd : decode (e_mth P k).2.1 pc = .ok (bif sp then .invokespecial i else .invokevirtual i, 3)) (h : e_inv P (e_run P n) k pc lv st mem sp i = some (r, mem')) (hmem : e_ro P ≤ mem.length)
    (hRf : (e_rmo P k).1 ≤ R.frames) (hRl : (e_rmo P k).2.1 ≤ R.locals) (hRc : mem'.length ≤ R.cells + n0) (hRs : e_sl mem' ≤ R.slots + z0)
    (hret : ∀ (pc' : Nat) (i : Instr) (lv' : List (Nat × Value)) (st' : List Value), decode (e_mth P k).2.1 pc' = .ok (i, 1) → e_ret (e_mth P k).2.2.2 i st' = some r → e_W p l e R s m args below meth c Q P D ad base n0 z0 k pc' lv' st' mem') : e_W p l e R s m args below meth c Q P D ad base n0 z0 k pc lv st mem := by
  obtain ⟨hx, hb, hml, hown, hts, hns, hK, hname⟩ := id X
  obtain ⟨-, -, -, -, -, ⟨-, -, gi, gc0, -⟩, gm, gN⟩ := id G
  unfold e_inv at h
  cases hcal : e_cal P k i with
  | none => rw [hcal] at h; cases h
  | some f =>
    rw [hcal] at h
    dsimp only at h
    split at h
    · next q rest hdrop =>
      have hst : st = (st.take f.2.1).reverse.reverse ++ .ref q :: rest := by rw [List.reverse_reverse, ← hdrop, List.take_append_drop]
      by_cases h0 : f.1 = 0
      · rw [h0] at h
        simp only [beq_self_eq_true, cond_true] at h
        cases hcnd : (sp && (f.2.1 == 0 && (f.2.2.1 == 0 && (e_low rest && (Nat.ble 1 (e_rmo P k).1 && Nat.ble 20 (e_rmo P k).2.1))))) with
        | false => rw [hcnd] at h; cases h
        | true =>
          rw [hcnd] at h
          simp only [cond_true] at h
          simp only [Bool.and_eq_true, beq_iff_eq, Nat.ble_eq] at hcnd
          obtain ⟨rfl, hn0, hk0, hlow, hf1, hl20⟩ := hcnd
          have kk := hS k (pc + 3) lv rest mem r mem' h hmem p e R s m args below meth c Q n0 z0 X hRf hRl hRc hRs hret
          rcases gm k i f hcal with ⟨-, ⟨-, hlink⟩ | ⟨hk98, -⟩ | ⟨hk97, -⟩ | ⟨hk96, -⟩⟩ | ⟨hne, -⟩
          · intro H locs cells slots ls hP hz hlo hl hc hs
            have est : st.map (e_cv ad) = .ref (ad q) :: rest.map (e_cv ad) := by rw [hst, hn0]; rfl
            have hsum : ((rest.map (e_cv ad)).map fun v => v.category).sum ≤ 8 := by rw [e_catsum]; exact Nat.le_of_ble_eq_true hlow
            rw [est]
            have hroom := lv_room (m := m) (pc := pc) (ls := ls) (rest := .ref (ad q) :: rest.map (e_cv ad)) hsum
            exact W.objInit hx hb hown (hts _ hlink) (hts _ gi) (hts _ gc0) rfl (by rw [hml]; exact hl.1) rfl hd (by omega) (by omega) (kk H locs cells slots ls hP hz hlo hl hc hs)
          · rw [hk0] at hk98; cases hk98
          · rw [hk0] at hk97; cases hk97
          · rw [hk0] at hk96; cases hk96
          · exact absurd h0 hne
      · have hb0 : (f.1 == 0) = false := by simpa using h0
        rw [hb0] at h
        simp only [cond_false] at h
        split at h
        · next o ho =>
          cases hcnd : (o.1 == f.2.2.1 && (!(f.2.2.1 == 99) && (e_low rest && (e_room P k f.1 (.ref q :: (st.take f.2.1).reverse) && (sp == (e_rmo P f.1).2.2))))) with
          | false => rw [hcnd] at h; cases h
          | true =>
            rw [hcnd] at h
            simp only [cond_true] at h
            unfold e_room at hcnd
            simp only [Bool.and_eq_true, beq_iff_eq, Nat.ble_eq, Bool.not_eq_true', beq_eq_false_iff_ne] at hcnd
            obtain ⟨eo, h99, hlow, ⟨hvs, hrf, hrl⟩, hsp⟩ := hcnd
            unfold e_aft at h
            split at h
            · next y hy =>
              obtain ⟨r2, mem2⟩ := y
              have le0 := e_run_le _ _ _ _ _ _ _ hy
              have le1 := e_run_le _ _ _ _ _ _ _ h
              dsimp only at le0 le1 h
              have kk := hS k (pc + 3) lv _ mem2 r mem' h (Nat.le_trans hmem le0.1) p e R s m args below meth c Q n0 z0 X hRf hRl hRc hRs hret
              rcases gm k i f hcal with ⟨hz0, -⟩ | ⟨-, wcode, wini, whn, wpl, wpar, wlink, wkind⟩
              · exact absurd hz0 h0
              · rcases wkind with ⟨w99, -⟩ | ⟨-, winst, ⟨T, N, wcl⟩, wk⟩
                · exact absurd w99 h99
                · have hM := e_met hS hy hmem wpl hvs
                  intro H locs cells slots ls hP hz hlo hl hc hs
                  obtain ⟨cell, h1, h2, h3, -⟩ := hP q _ ho
                  have hcls : s.vm.findClass (e_mth P f.1).1.cls = some cell.cls := by
                    obtain ⟨-, hfc, -⟩ := hK.1 f.2.2.1 _ wcl
                    rw [h2, eo]
                    exact hfc
                  have hfl : f.2.1 ≤ st.length := by
                    have := congrArg List.length hdrop
                    simp only [List.length_drop, List.length_cons] at this
                    omega
                  have hn : ((st.take f.2.1).reverse.map (e_cv ad)).length = f.2.1 := by simp; omega
                  have hsum : ((rest.map (e_cv ad)).map fun v => v.category).sum ≤ 8 := by rw [e_catsum]; exact Nat.le_of_ble_eq_true hlow
                  have hstack : st.map (e_cv ad) = ((st.take f.2.1).reverse.map (e_cv ad)).reverse ++ .ref (ad q) :: rest.map (e_cv ad) := by
                    rw [← List.map_reverse, List.reverse_reverse]
                    conv => lhs; rw [← List.take_append_drop f.2.1 st, hdrop, List.map_append]
                    rfl
                  have hroom := lv_room (m := m) (pc := pc) (ls := ls) (rest := st.map (e_cv ad)) hsum
                  have hf : cells + (mem2.length - mem.length) ≤ R.cells ∧ slots + (e_sl mem2 - e_sl mem) ≤ R.slots := by
                    obtain ⟨a1, a2⟩ := le0
                    obtain ⟨b1, b2⟩ := le1
                    constructor <;> omega
                  have hpre := e_pre (P := P) (base := base) (vs := .ref q :: (st.take f.2.1).reverse) gN hns hK hP hz
                  have hRR : (e_rm P f.1 mem mem2).frames + 1 ≤ R.frames ∧ 8 + ((e_mth P f.1).2.2.1 + 11) + (e_rm P f.1 mem mem2).locals ≤ R.locals := ⟨Nat.le_trans hrf hRf, Nat.le_trans hrl hRl⟩
                  have hcf : CallFix p m c (e_mth P k).2.1 (e_mth P k).2.2.1 s args Ts (e_mth P k).1.cls := ⟨hx, hb, hml, hown, hts⟩
                  have hpar := fun sig (hg : parseMethodDescriptor (e_mth P f.1).1.desc = some sig) => (by rw [hg] at wpar; exact (Option.some.inj wpar).symm : f.2.1 = sig.parameters.length)
                  have hgd := e_good G wcode
                  cases sp with
                  | false =>
                    rcases wk with ⟨wb, -⟩ | ⟨-, wsel⟩
                    · rw [wb] at hsp; cases hsp
                    · rcases wlink with ⟨-, wl⟩ | ⟨-, host, wl⟩
                      · exact e_back le0 (va_runV hcf hM ⟨callB_of f.2.1 hts hgd rfl rfl rfl (hts _ wini) (hts _ wl) ⟨whn.1, whn.2, wpar⟩ hRR, hts _ winst, hts _ wsel⟩ ⟨hpre.1, ⟨cell, h1, by rw [h3]; rfl, hcls⟩, hpre.2⟩ rfl hn hl.1 hstack hroom hd hf) hlo hl hc hs kk
                      · exact e_back le0 (va_runVN hcf hM ⟨va_cnB f.2.1 hts hgd rfl rfl rfl (hns _ wl) (hts _ wini) ⟨whn.1, whn.2, wpar⟩ hRR, hts _ winst, hts _ wsel⟩ ⟨hpre.1, ⟨cell, h1, by rw [h3]; rfl, hcls⟩, hpre.2⟩ rfl hn hl.1 hstack hroom hd hf) hlo hl hc hs kk
                  | true =>
                    rcases wk with ⟨-, wnm, wno⟩ | ⟨wb, -⟩
                    · rcases wlink with ⟨-, wl⟩ | ⟨-, host, wl⟩
                      · have cb := callB_of (R := R) (rm := e_rm P f.1 mem mem2) f.2.1 hts hgd rfl rfl rfl (hts _ wini) (hts _ wl) ⟨whn.1, whn.2, wpar⟩ hRR
                        rw [wno] at cb
                        exact e_back le0 (va_runI hcf hM ⟨cb, wnm, hts _ winst⟩ hpre rfl hn hl.1 hstack hroom hd hf) hlo hl hc hs kk
                      · have cb := va_cnB (R := R) (rm := e_rm P f.1 mem mem2) f.2.1 hts hgd rfl rfl rfl (hns _ wl) (hts _ wini) ⟨whn.1, whn.2, wpar⟩ hRR
                        rw [wno] at cb
                        exact e_back le0 (va_runIN hcf hM ⟨cb, wnm, hts _ winst⟩ hpre rfl hn hl.1 hstack hroom hd hf) hlo hl hc hs kk
                    · rw [wb] at hsp; cases hsp
            · cases h
        · cases h
    · cases h
theorem e_s_ivs {n : Nat} (G : e_GD P cl Ts Ns) (hS : e_S l P D cl Ts Ns ad base n) (hA : e_AD ad (e_ro P) base) (X : e_X p s m args meth c P D cl Ts Ns k) {pc i : Nat} {lv : List (Nat × Value)} {st : List Value} {mem mem' : List e_C} {r : Option Value} (hd : decode (e_mth P k).2.1 pc = .ok (.invokestatic i, 3)) (h : e_ivs P (e_run P n) k pc lv st mem i = some (r, mem')) (hmem : e_ro P ≤ mem.length)
    (hRf : (e_rmo P k).1 ≤ R.frames) (hRl : (e_rmo P k).2.1 ≤ R.locals) (hRc : mem'.length ≤ R.cells + n0) (hRs : e_sl mem' ≤ R.slots + z0)
    (hret : ∀ (pc' : Nat) (i : Instr) (lv' : List (Nat × Value)) (st' : List Value), decode (e_mth P k).2.1 pc' = .ok (i, 1) → e_ret (e_mth P k).2.2.2 i st' = some r → e_W p l e R s m args below meth c Q P D ad base n0 z0 k pc' lv' st' mem') : e_W p l e R s m args below meth c Q P D ad base n0 z0 k pc lv st mem := by
  obtain ⟨hx, hb, hml, hown, hts, hns, hK, hname⟩ := id X
  obtain ⟨-, -, -, -, -, ⟨-, -, gi, gc0, -⟩, gm, gN⟩ := id G
  unfold e_ivs at h
  cases hcal : e_cal P k i with
  | none => rw [hcal] at h; cases h
  | some f =>
    rw [hcal] at h
    dsimp only at h
    by_cases hf0 : f.1 = 0
    · rw [hf0] at h
      simp only [beq_self_eq_true, cond_true] at h
      unfold e_go at h
      split at h
      · next F hF =>
        have le0 := e_q_bli hF
        have le1 := e_run_le _ _ _ _ _ _ _ h
        dsimp only at le1
        have kk := hS k F.1 F.2.1 F.2.2.1 F.2.2.2 r mem' h (Nat.le_trans hmem le0.1) p e R s m args below meth c Q n0 z0 X hRf hRl hRc hRs hret
        unfold e_bli at hF
        cases hcnd : (Nat.ble 1 (e_rmo P k).1 && Nat.ble 26 (e_rmo P k).2.1) with
        | false => rw [hcnd] at hF; cases hF
        | true =>
          rw [hcnd] at hF
          simp only [cond_true] at hF
          simp only [Bool.and_eq_true, Nat.ble_eq] at hcnd
          rcases gm k i f hcal with ⟨-, ⟨hk, -⟩ | ⟨hk, w1, w2, w3, w4⟩ | ⟨hk, w1, w2, w3, w4⟩ | ⟨hk, w1, w2, w3, w4⟩⟩ | ⟨hne, -⟩
          · rw [hk] at hF; cases hF
          · rw [hk] at hF
            exact e_s_acp hA X hd w1 w2 w3 w4 (Nat.le_trans hcnd.1 hRf) (Nat.le_trans hcnd.2 hRl) hF kk
          · rw [hk] at hF
            exact e_s_min X hd w1 w2 w3 w4 (Nat.le_trans hcnd.1 hRf) (Nat.le_trans hcnd.2 hRl) (Nat.le_trans le0.1 (Nat.le_trans le1.1 hRc)) (Nat.le_trans le0.2 (Nat.le_trans le1.2 hRs)) hF kk
          · rw [hk] at hF
            exact e_s_max X hd w1 w2 w3 w4 (Nat.le_trans hcnd.1 hRf) (Nat.le_trans hcnd.2 hRl) (Nat.le_trans le0.1 (Nat.le_trans le1.1 hRc)) (Nat.le_trans le0.2 (Nat.le_trans le1.2 hRs)) hF kk
          · exact absurd hf0 hne
      · cases h
    have hb0 : (f.1 == 0) = false := by simpa using hf0
    rw [hb0] at h
    simp only [cond_false] at h
    cases hcnd : (Nat.ble f.2.1 st.length && (e_low (st.drop f.2.1) && (e_room P k f.1 (st.take f.2.1).reverse && f.2.2.1 == 99))) with
    | false => rw [hcnd] at h; cases h
    | true =>
      rw [hcnd] at h
      simp only [cond_true] at h
      unfold e_room at hcnd
      simp only [Bool.and_eq_true, beq_iff_eq, Nat.ble_eq, Bool.not_eq_true', beq_eq_false_iff_ne] at hcnd
      obtain ⟨hfl, hlow, ⟨hvs, hrf, hrl⟩, h99⟩ := hcnd
      have h0 := hf0
      unfold e_aft at h
      split at h
      · next y hy =>
        obtain ⟨r2, mem2⟩ := y
        have le0 := e_run_le _ _ _ _ _ _ _ hy
        have le1 := e_run_le _ _ _ _ _ _ _ h
        dsimp only at le0 le1 h
        have kk := hS k (pc + 3) lv _ mem2 r mem' h (Nat.le_trans hmem le0.1) p e R s m args below meth c Q n0 z0 X hRf hRl hRc hRs hret
        rcases gm k i f hcal with ⟨hz0, -⟩ | ⟨-, wcode, wini, whn, wpl, wpar, wlink, wkind⟩
        · exact absurd hz0 h0
        · rcases wkind with ⟨-, wst⟩ | ⟨w99, -⟩
          · have hM := e_met hS hy hmem wpl hvs
            intro H locs cells slots ls hP hz hlo hl hc hs
            have hn : ((st.take f.2.1).reverse.map (e_cv ad)).length = f.2.1 := by simp; omega
            have hsum : (((st.drop f.2.1).map (e_cv ad)).map fun v => v.category).sum ≤ 8 := by rw [e_catsum]; exact Nat.le_of_ble_eq_true hlow
            have hstack : st.map (e_cv ad) = ((st.take f.2.1).reverse.map (e_cv ad)).reverse ++ (st.drop f.2.1).map (e_cv ad) := by
              rw [← List.map_reverse, List.reverse_reverse, ← List.map_append, List.take_append_drop]
            have hroom := lv_room (m := m) (pc := pc) (ls := ls) (rest := st.map (e_cv ad)) hsum
            have hf : cells + (mem2.length - mem.length) ≤ R.cells ∧ slots + (e_sl mem2 - e_sl mem) ≤ R.slots := by
              obtain ⟨a1, a2⟩ := le0
              obtain ⟨b1, b2⟩ := le1
              constructor <;> omega
            have hpre := e_pre (P := P) (base := base) (vs := (st.take f.2.1).reverse) gN hns hK hP hz
            have hRR : (e_rm P f.1 mem mem2).frames + 1 ≤ R.frames ∧ 8 + ((e_mth P f.1).2.2.1 + 11) + (e_rm P f.1 mem mem2).locals ≤ R.locals := ⟨Nat.le_trans hrf hRf, Nat.le_trans hrl hRl⟩
            have hcf : CallFix p m c (e_mth P k).2.1 (e_mth P k).2.2.1 s args Ts (e_mth P k).1.cls := ⟨hx, hb, hml, hown, hts⟩
            have hgd := e_good G wcode
            rcases wlink with ⟨-, wl⟩ | ⟨-, host, wl⟩
            · exact e_back le0 (va_runS hcf hM ⟨callB_of f.2.1 hts hgd rfl rfl rfl (hts _ wini) (hts _ wl) ⟨whn.1, whn.2, wpar⟩ hRR, hts _ wst⟩ hpre rfl hn hl.1 hstack hroom hd hf) hlo hl hc hs kk
            · exact e_back le0 (va_runSN hcf hM ⟨va_cnB f.2.1 hts hgd rfl rfl rfl (hns _ wl) (hts _ wini) ⟨whn.1, whn.2, wpar⟩ hRR, hts _ wst, trivial⟩ hpre rfl hn hl.1 hstack hroom hd hf) hlo hl hc hs kk
          · exact absurd h99 w99
      · cases h
end ECL
theorem e_sound {l : Launch} {P : e_Pg} {D : va_G} {cl : List vw_C} {Ts Ns : List Cond} {ad : Nat → Nat} {base : Nat} (G : e_GD P cl Ts Ns) (hA : e_AD ad (e_ro P) base) : ∀ n, e_S l P D cl Ts Ns ad base n
  | 0 => fun k pc lv st mem r mem' h => by cases h
  | n + 1 => fun k pc lv st mem r mem' h hmem p e R s m args below meth c Q n0 z0 X hRf hRl hRc hRs hret => by
    have hS := e_sound (l := l) (D := D) G hA n
    rw [e_run_succ] at h
    unfold e_body at h
    simp only [Bool.cond_eq_ite] at h
    split at h
    · next x hx =>
      obtain ⟨i, len⟩ := x
      split at h
      · next hlen =>
        have hd := G.1 k pc _ hx
        unfold e_one at h
        dsimp only at h hlen
        split at h
        · cases e_ln hlen rfl
          exact e_s_inv (sp := false) G hS hA X hd h hmem hRf hRl hRc hRs hret
        · cases e_ln hlen rfl
          exact e_s_inv (sp := true) G hS hA X hd h hmem hRf hRl hRc hRs hret
        · cases e_ln hlen rfl
          exact e_s_ivs G hS hA X hd h hmem hRf hRl hRc hRs hret
        · cases e_ln hlen rfl
          unfold e_rt at h
          split at h
          · next r' hr => cases h; exact hret pc _ lv st hd hr
          · cases h
        · cases e_ln hlen rfl
          unfold e_rt at h
          split at h
          · next r' hr => cases h; exact hret pc _ lv st hd hr
          · cases h
        · cases e_ln hlen rfl
          unfold e_rt at h
          split at h
          · next r' hr => cases h; exact hret pc _ lv st hd hr
          · cases h
        · cases e_ln hlen rfl
          unfold e_rt at h
          split at h
          · next r' hr => cases h; exact hret pc _ lv st hd hr
          · cases h
        · unfold e_go at h
          split at h
          · next F hF =>
            have le0 := e_step_le hF
            have le1 := e_run_le _ _ _ _ _ _ _ h
            dsimp only at le1
            have kk := hS k F.1 F.2.1 F.2.2.1 F.2.2.2 r mem' h (Nat.le_trans hmem le0.1) p e R s m args below meth c Q n0 z0 X hRf hRl hRc hRs hret
            exact e_step_sound G hA X hx hlen hF (Nat.le_trans le1.1 hRc) (Nat.le_trans le1.2 hRs) hmem kk
          · cases h
      · cases h
    · cases h
end
section
/-! RUNS OF SOME LENGTH; A STACK OF CALLERS -/
def e_mo (rc rc' : e_R) : Prop := ∀ k pc lv st mem y, rc k pc lv st mem = some y → rc' k pc lv st mem = some y
theorem e_aft_mo {rc rc' : e_R} (h : e_mo rc rc') {k pc : Nat} {lv : List (Nat × Value)} {rest : List Value} {x x' : Option (Option Value × List e_C)} (hx : ∀ y, x = some y → x' = some y) {y : Option Value × List e_C} (he : e_aft rc k pc lv rest x = some y) : e_aft rc' k pc lv rest x' = some y := by
  unfold e_aft at he
  split at he
  · next z => rw [hx z rfl]; exact h _ _ _ _ _ _ he
  · cases he
theorem e_inv_mo {P : e_Pg} {rc rc' : e_R} (h : e_mo rc rc') {k pc : Nat} {lv : List (Nat × Value)} {st : List Value} {mem : List e_C} {sp : Bool} {i : Nat} {y : Option Value × List e_C} (he : e_inv P rc k pc lv st mem sp i = some y) : e_inv P rc' k pc lv st mem sp i = some y := by
  unfold e_inv at he ⊢
  simp only [Bool.cond_eq_ite] at he ⊢
  split at he
  · cases he
  · split at he
    · split at he
      · next h1 =>
        rw [if_pos h1]
        split at he
        · next h2 => rw [if_pos h2]; exact h _ _ _ _ _ _ he
        · cases he
      · next h1 =>
        rw [if_neg h1]
        split at he
        · split at he
          · next h2 => rw [if_pos h2]; exact e_aft_mo h (fun z hz => h _ _ _ _ _ _ hz) he
          · cases he
        · cases he
    · cases he
theorem e_go_mo {rc rc' : e_R} (h : e_mo rc rc') {k : Nat} {x : Option e_F} {y : Option Value × List e_C} (he : e_go rc k x = some y) : e_go rc' k x = some y := by
  unfold e_go at he ⊢
  split at he
  · exact h _ _ _ _ _ _ he
  · cases he
theorem e_ivs_mo {P : e_Pg} {rc rc' : e_R} (h : e_mo rc rc') {k pc : Nat} {lv : List (Nat × Value)} {st : List Value} {mem : List e_C} {i : Nat} {y : Option Value × List e_C} (he : e_ivs P rc k pc lv st mem i = some y) : e_ivs P rc' k pc lv st mem i = some y := by
  unfold e_ivs at he ⊢
  simp only [Bool.cond_eq_ite] at he ⊢
  split at he
  · cases he
  · split at he
    · next h0 => rw [if_pos h0]; exact e_go_mo h he
    · next h0 =>
      rw [if_neg h0]
      split at he
      · next h1 => rw [if_pos h1]; exact e_aft_mo h (fun z hz => h _ _ _ _ _ _ hz) he
      · cases he
theorem e_body_mo {P : e_Pg} {rc rc' : e_R} (h : e_mo rc rc') : e_mo (e_body P rc) (e_body P rc') := by
  intro k pc lv st mem y he
  unfold e_body at he ⊢
  simp only [Bool.cond_eq_ite] at he ⊢
  split at he
  · next x =>
    split at he
    · next h1 =>
      rw [if_pos h1]
      unfold e_one at he ⊢
      split at he
      · exact e_inv_mo h he
      · exact e_inv_mo h he
      · exact e_ivs_mo h he
      · exact he
      · exact he
      · exact he
      · exact he
      · exact e_go_mo h he
    · cases he
  · cases he
theorem e_run_mo (P : e_Pg) : ∀ n, e_mo (e_run P n) (e_run P (n + 1))
  | 0 => fun k pc lv st mem y h => by cases h
  | n + 1 => by
    rw [e_run_succ P n, e_run_succ P (n + 1)]
    exact e_body_mo (e_run_mo P n)
theorem e_run_ge (P : e_Pg) {n m : Nat} (h : n ≤ m) : e_mo (e_run P n) (e_run P m) := by
  induction m with
  | zero => cases Nat.le_zero.mp h; exact fun _ _ _ _ _ _ h => h
  | succ m ih =>
    rcases Nat.lt_or_ge n (m + 1) with q | q
    · exact fun _ _ _ _ _ _ hy => e_run_mo P m _ _ _ _ _ _ (ih (by omega) _ _ _ _ _ _ hy)
    · have : n = m + 1 := by omega
      subst this
      exact fun _ _ _ _ _ _ h => h
def e_Ev (P : e_Pg) (k pc : Nat) (lv : List (Nat × Value)) (st : List Value) (mem : List e_C) (y : Option Value × List e_C) : Prop := ∃ n, e_run P n k pc lv st mem = some y
def e_ok (x : Instr × Nat) : Bool := x.2 == e_len x.1 || e_len x.1 == 0
def e_smp (i : Instr) : Bool := match i with
  | .invokevirtual _ | .invokespecial _ | .invokestatic _ | .ireturn | .lreturn | .areturn | .return_ => false
  | _ => true
theorem e_one_smp {P : e_Pg} {rc : e_R} {k pc : Nat} {lv : List (Nat × Value)} {st : List Value} {mem : List e_C} {i : Instr} (h : e_smp i = true) : e_one P rc k pc lv st mem i = e_go rc k (e_step P k i pc lv st mem) := by
  cases i <;> first | rfl | cases h
theorem e_body_of {P : e_Pg} {rc : e_R} {k pc : Nat} {lv : List (Nat × Value)} {st : List Value} {mem : List e_C} {x : Instr × Nat} (hc : e_code P k pc = some x) (ho : e_ok x = true) : e_body P rc k pc lv st mem = e_one P rc k pc lv st mem x.1 := by
  unfold e_body
  rw [hc]
  unfold e_ok at ho
  dsimp only
  rw [ho]
  rfl
theorem e_Ev.step {P : e_Pg} {k pc : Nat} {lv : List (Nat × Value)} {st : List Value} {mem : List e_C} {x : Instr × Nat} {F : e_F} {y : Option Value × List e_C} (hc : e_code P k pc = some x) (ho : e_ok x = true) (hs : e_smp x.1 = true) (h : e_step P k x.1 pc lv st mem = some F) (he : e_Ev P k F.1 F.2.1 F.2.2.1 F.2.2.2 y) : e_Ev P k pc lv st mem y := by
  obtain ⟨n, hn⟩ := he
  refine ⟨n + 1, ?_⟩
  rw [e_run_succ, e_body_of hc ho, e_one_smp hs, h]
  exact hn
abbrev e_Fr : Type := Nat × Nat × List (Nat × Value) × List Value
def e_Stk (P : e_Pg) (Y : Option Value × List e_C → Prop) : List e_Fr → List e_C → e_Fr → Prop
  | [], mem, f => ∃ y, e_Ev P f.1 f.2.1 f.2.2.1 f.2.2.2 mem y ∧ Y y
  | g :: gs, mem, f => ∃ y, e_Ev P f.1 f.2.1 f.2.2.1 f.2.2.2 mem y ∧ e_Stk P Y gs y.2 (g.1, g.2.1, g.2.2.1, y.1.toList ++ g.2.2.2)
theorem e_Stk.by {P : e_Pg} {Y : Option Value × List e_C → Prop} {gs : List e_Fr} {mem mem' : List e_C} {f f' : e_Fr} (h : ∀ y, e_Ev P f'.1 f'.2.1 f'.2.2.1 f'.2.2.2 mem' y → e_Ev P f.1 f.2.1 f.2.2.1 f.2.2.2 mem y) (hs : e_Stk P Y gs mem' f') : e_Stk P Y gs mem f := by
  cases gs with
  | nil => obtain ⟨y, h1, h2⟩ := hs; exact ⟨y, h y h1, h2⟩
  | cons g gs => obtain ⟨y, h1, h2⟩ := hs; exact ⟨y, h y h1, h2⟩
abbrev e_Cf : Type := List e_C × e_Fr × List e_Fr
def e_nxi (P : e_Pg) (k pc : Nat) (lv : List (Nat × Value)) (st : List Value) (mem : List e_C) (gs : List e_Fr) (sp : Bool) (i : Nat) : Option e_Cf := match e_cal P k i with
  | none => none
  | some f => match st.drop f.2.1 with
    | .ref q :: rest => bif f.1 == 0 then (bif sp && (f.2.1 == 0 && (f.2.2.1 == 0 && (e_low rest && (Nat.ble 1 (e_rmo P k).1 && Nat.ble 20 (e_rmo P k).2.1)))) then some (mem, (k, pc + 3, lv, rest), gs) else none) else
        match mem[q]? with
        | some (.inr o) => bif o.1 == f.2.2.1 && (!(f.2.2.1 == 99) && (e_low rest && (e_room P k f.1 (.ref q :: (st.take f.2.1).reverse) && (sp == (e_rmo P f.1).2.2)))) then some (mem, (f.1, 0, lv_args 0 (.ref q :: (st.take f.2.1).reverse), []), (k, pc + 3, lv, rest) :: gs) else none
        | _ => none
    | _ => none
def e_nxg (k : Nat) (gs : List e_Fr) (x : Option e_F) : Option e_Cf := match x with
  | some f => some (f.2.2.2, (k, f.1, f.2.1, f.2.2.1), gs)
  | none => none
def e_nxs (P : e_Pg) (k pc : Nat) (lv : List (Nat × Value)) (st : List Value) (mem : List e_C) (gs : List e_Fr) (i : Nat) : Option e_Cf := match e_cal P k i with
  | none => none
  | some f => bif f.1 == 0 then e_nxg k gs (e_bli P k f.2.2.1 pc lv st mem) else (bif Nat.ble f.2.1 st.length && (e_low (st.drop f.2.1) && (e_room P k f.1 (st.take f.2.1).reverse && f.2.2.1 == 99)) then some (mem, (f.1, 0, lv_args 0 (st.take f.2.1).reverse, []), (k, pc + 3, lv, st.drop f.2.1) :: gs) else none)
def e_nxr (mem : List e_C) (gs : List e_Fr) (x : Option (Option Value)) : Option e_Cf := match x, gs with
  | some r, g :: gs => some (mem, (g.1, g.2.1, g.2.2.1, r.toList ++ g.2.2.2), gs)
  | _, _ => none
def e_nxo (P : e_Pg) (k pc : Nat) (lv : List (Nat × Value)) (st : List Value) (mem : List e_C) (gs : List e_Fr) (i : Instr) : Option e_Cf := match i with
  | .invokevirtual n => e_nxi P k pc lv st mem gs false n
  | .invokespecial n => e_nxi P k pc lv st mem gs true n
  | .invokestatic n => e_nxs P k pc lv st mem gs n
  | .ireturn => e_nxr mem gs (e_ret (e_mth P k).2.2.2 .ireturn st)
  | .lreturn => e_nxr mem gs (e_ret (e_mth P k).2.2.2 .lreturn st)
  | .areturn => e_nxr mem gs (e_ret (e_mth P k).2.2.2 .areturn st)
  | .return_ => e_nxr mem gs (e_ret (e_mth P k).2.2.2 .return_ st)
  | i => e_nxg k gs (e_step P k i pc lv st mem)
theorem e_two {P : e_Pg} {j k pc0 pc : Nat} {lv0 lv : List (Nat × Value)} {st0 rest : List Value} {mem : List e_C} {y z : Option Value × List e_C} (h1 : e_Ev P j pc0 lv0 st0 mem y) (h2 : e_Ev P k pc lv (y.1.toList ++ rest) y.2 z) : ∃ n, e_aft (e_run P n) k pc lv rest (e_run P n j pc0 lv0 st0 mem) = some z := by
  obtain ⟨a, ha⟩ := h1
  obtain ⟨b, hb⟩ := h2
  refine ⟨max a b, ?_⟩
  rw [e_run_ge P (Nat.le_max_left a b) _ _ _ _ _ _ ha]
  exact e_run_ge P (Nat.le_max_right a b) _ _ _ _ _ _ hb
theorem e_Stk.call {P : e_Pg} {Y : Option Value × List e_C → Prop} {gs : List e_Fr} {g f f' : e_Fr} {mem : List e_C} (h : ∀ y z, e_Ev P f'.1 f'.2.1 f'.2.2.1 f'.2.2.2 mem y → e_Ev P g.1 g.2.1 g.2.2.1 (y.1.toList ++ g.2.2.2) y.2 z → e_Ev P f.1 f.2.1 f.2.2.1 f.2.2.2 mem z) (hs : e_Stk P Y (g :: gs) mem f') : e_Stk P Y gs mem f := by
  obtain ⟨y, h1, h2⟩ := hs
  exact h2.by (fun z hz => h y z h1 hz)
theorem e_Ev.of {P : e_Pg} {k pc : Nat} {lv : List (Nat × Value)} {st : List Value} {mem : List e_C} {x : Instr × Nat} {y : Option Value × List e_C} (hc : e_code P k pc = some x) (ho : e_ok x = true) (h : ∃ n, e_one P (e_run P n) k pc lv st mem x.1 = some y) : e_Ev P k pc lv st mem y := by
  obtain ⟨n, hn⟩ := h
  refine ⟨n + 1, ?_⟩
  rw [e_run_succ, e_body_of hc ho]
  exact hn
theorem e_nxi_ok {P : e_Pg} {Y : Option Value × List e_C → Prop} {k pc : Nat} {lv : List (Nat × Value)} {st : List Value} {mem : List e_C} {gs : List e_Fr} {sp : Bool} {i : Nat} {x : Instr × Nat} {C : e_Cf} (hc : e_code P k pc = some x) (ho : e_ok x = true) (hx : ∀ rc, e_one P rc k pc lv st mem x.1 = e_inv P rc k pc lv st mem sp i) (h : e_nxi P k pc lv st mem gs sp i = some C) (hs : e_Stk P Y C.2.2 C.1 C.2.1) : e_Stk P Y gs mem (k, pc, lv, st) := by
  unfold e_nxi at h
  simp only [Bool.cond_eq_ite] at h
  split at h
  · cases h
  · next f hf =>
    split at h
    · next q rest hq =>
      split at h
      · next h1 =>
        split at h
        · next h2 =>
          cases h
          refine hs.by (fun y hy => ?_)
          obtain ⟨n, hn⟩ := hy
          refine e_Ev.of hc ho ⟨n, ?_⟩
          rw [hx]
          unfold e_inv
          simp only [Bool.cond_eq_ite, hf, hq, if_pos h1, if_pos h2]
          exact hn
        · cases h
      · next h1 =>
        split at h
        · next o hoo =>
          split at h
          · next h2 =>
            cases h
            refine hs.call (fun y z hy hz => ?_)
            obtain ⟨n, hn⟩ := e_two hy hz
            refine e_Ev.of hc ho ⟨n, ?_⟩
            rw [hx]
            unfold e_inv
            simp only [Bool.cond_eq_ite, hf, hq, if_neg h1, hoo, if_pos h2]
            exact hn
          · cases h
        · cases h
    · cases h
theorem e_nxs_ok {P : e_Pg} {Y : Option Value × List e_C → Prop} {k pc : Nat} {lv : List (Nat × Value)} {st : List Value} {mem : List e_C} {gs : List e_Fr} {i : Nat} {x : Instr × Nat} {C : e_Cf} (hc : e_code P k pc = some x) (ho : e_ok x = true) (hx : ∀ rc, e_one P rc k pc lv st mem x.1 = e_ivs P rc k pc lv st mem i) (h : e_nxs P k pc lv st mem gs i = some C) (hs : e_Stk P Y C.2.2 C.1 C.2.1) : e_Stk P Y gs mem (k, pc, lv, st) := by
  unfold e_nxs at h
  simp only [Bool.cond_eq_ite] at h
  split at h
  · cases h
  · next f hf =>
    split at h
    · next h0 =>
      unfold e_nxg at h
      split at h
      · next F hF =>
        cases h
        refine hs.by (fun y hy => ?_)
        obtain ⟨n, hn⟩ := hy
        refine e_Ev.of hc ho ⟨n, ?_⟩
        rw [hx]
        unfold e_ivs
        simp only [Bool.cond_eq_ite, hf, if_pos h0, hF]
        exact hn
      · cases h
    · next h0 =>
      split at h
      · next h2 =>
        cases h
        refine hs.call (fun y z hy hz => ?_)
        obtain ⟨n, hn⟩ := e_two hy hz
        refine e_Ev.of hc ho ⟨n, ?_⟩
        rw [hx]
        unfold e_ivs
        simp only [Bool.cond_eq_ite, hf, if_neg h0, if_pos h2]
        exact hn
      · cases h
theorem e_nxr_ok {P : e_Pg} {Y : Option Value × List e_C → Prop} {k pc : Nat} {lv : List (Nat × Value)} {st : List Value} {mem : List e_C} {gs : List e_Fr} {x : Instr × Nat} {C : e_Cf} {r : Option (Option Value)} (hc : e_code P k pc = some x) (ho : e_ok x = true) (hx : ∀ rc, e_one P rc k pc lv st mem x.1 = e_rt mem r) (h : e_nxr mem gs r = some C) (hs : e_Stk P Y C.2.2 C.1 C.2.1) : e_Stk P Y gs mem (k, pc, lv, st) := by
  unfold e_nxr at h
  split at h
  · next r g gs =>
    cases h
    exact ⟨(r, mem), e_Ev.of hc ho ⟨0, by rw [hx]; rfl⟩, hs⟩
  · cases h
theorem e_nxg_ok {P : e_Pg} {Y : Option Value × List e_C → Prop} {k pc : Nat} {lv : List (Nat × Value)} {st : List Value} {mem : List e_C} {gs : List e_Fr} {x : Instr × Nat} {C : e_Cf} (hc : e_code P k pc = some x) (ho : e_ok x = true) (hs0 : e_smp x.1 = true) (h : e_nxg k gs (e_step P k x.1 pc lv st mem) = some C) (hs : e_Stk P Y C.2.2 C.1 C.2.1) : e_Stk P Y gs mem (k, pc, lv, st) := by
  unfold e_nxg at h
  split at h
  · next F hF =>
    cases h
    exact hs.by (fun y hy => e_Ev.step hc ho hs0 hF hy)
  · cases h
theorem e_nx_ok {P : e_Pg} {Y : Option Value × List e_C → Prop} {k pc : Nat} {lv : List (Nat × Value)} {st : List Value} {mem : List e_C} {gs : List e_Fr} {x : Instr × Nat} {C : e_Cf} (hc : e_code P k pc = some x) (ho : e_ok x = true) (h : e_nxo P k pc lv st mem gs x.1 = some C) (hs : e_Stk P Y C.2.2 C.1 C.2.1) : e_Stk P Y gs mem (k, pc, lv, st) := by
  obtain ⟨i, len⟩ := x
  cases i with
  | invokevirtual n => exact e_nxi_ok hc ho (fun rc => rfl) h hs
  | invokespecial n => exact e_nxi_ok hc ho (fun rc => rfl) h hs
  | invokestatic n => exact e_nxs_ok hc ho (fun rc => rfl) h hs
  | ireturn => exact e_nxr_ok hc ho (fun rc => rfl) h hs
  | lreturn => exact e_nxr_ok hc ho (fun rc => rfl) h hs
  | areturn => exact e_nxr_ok hc ho (fun rc => rfl) h hs
  | return_ => exact e_nxr_ok hc ho (fun rc => rfl) h hs
  | _ => exact e_nxg_ok hc ho rfl h hs
end
section
/-! LISTS SIDE BY SIDE -/
def a_l2 {α β : Type} (R : α → β → Prop) : List α → List β → Prop
  | [], [] => True
  | a :: l, b :: m => R a b ∧ a_l2 R l m
  | _, _ => False
section AL
variable {α β : Type} {R : α → β → Prop}
theorem a_l2_c {a : α} {l : List α} {ys : List β} (h : a_l2 R (a :: l) ys) : ∃ b m, ys = b :: m ∧ R a b ∧ a_l2 R l m := by
  cases ys with
  | nil => exact h.elim
  | cons b m => exact ⟨b, m, rfl, h.1, h.2⟩
theorem a_l2_n {ys : List β} (h : a_l2 R [] ys) : ys = [] := by
  cases ys with
  | nil => rfl
  | cons b m => exact h.elim
theorem a_l2_get : ∀ {xs : List α} {ys : List β} {i : Nat} {a : α}, a_l2 R xs ys → xs[i]? = some a → ∃ b, ys[i]? = some b ∧ R a b
  | [], _, _, _, _, h => by simp at h
  | x :: xs, ys, i, a, h, hx => by
    obtain ⟨b, m, rfl, h1, h2⟩ := a_l2_c h
    cases i with
    | zero => rw [List.getElem?_cons_zero] at hx ⊢; cases hx; exact ⟨b, rfl, h1⟩
    | succ i => rw [List.getElem?_cons_succ] at hx ⊢; exact a_l2_get h2 hx
theorem a_l2_len : ∀ {xs : List α} {ys : List β}, a_l2 R xs ys → ys.length = xs.length
  | [], _, h => by rw [a_l2_n h]; rfl
  | x :: xs, ys, h => by
    obtain ⟨b, m, rfl, -, h2⟩ := a_l2_c h
    rw [List.length_cons, List.length_cons, a_l2_len h2]
theorem a_l2_set {a : α} {b : β} (hR : R a b) : ∀ {xs : List α} {ys : List β} {i : Nat}, a_l2 R xs ys → a_l2 R (xs.set i a) (ys.set i b)
  | [], _, _, h => by rw [a_l2_n h]; exact trivial
  | x :: xs, ys, i, h => by
    obtain ⟨c, m, rfl, h1, h2⟩ := a_l2_c h
    cases i with
    | zero => exact ⟨hR, h2⟩
    | succ i => exact ⟨h1, a_l2_set hR h2⟩
theorem a_l2_app : ∀ {xs : List α} {ys : List β} {us : List α} {vs : List β}, a_l2 R xs ys → a_l2 R us vs → a_l2 R (xs ++ us) (ys ++ vs)
  | [], _, _, _, h, h2 => by rw [a_l2_n h]; exact h2
  | x :: xs, ys, us, vs, h, h2 => by
    obtain ⟨c, m, rfl, h1, h3⟩ := a_l2_c h
    exact ⟨h1, a_l2_app h3 h2⟩
theorem a_l2_drop : ∀ {xs : List α} {ys : List β} (n : Nat), a_l2 R xs ys → a_l2 R (xs.drop n) (ys.drop n)
  | xs, ys, 0, h => h
  | [], _, n + 1, h => by rw [a_l2_n h]; exact trivial
  | x :: xs, ys, n + 1, h => by
    obtain ⟨c, m, rfl, h1, h3⟩ := a_l2_c h
    exact a_l2_drop n h3
theorem a_l2_take : ∀ {xs : List α} {ys : List β} (n : Nat), a_l2 R xs ys → a_l2 R (xs.take n) (ys.take n)
  | xs, ys, 0, h => by rw [List.take_zero, List.take_zero]; exact trivial
  | [], _, n + 1, h => by rw [a_l2_n h]; exact trivial
  | x :: xs, ys, n + 1, h => by
    obtain ⟨c, m, rfl, h1, h3⟩ := a_l2_c h
    exact ⟨h1, a_l2_take n h3⟩
theorem a_l2_rev : ∀ {xs : List α} {ys : List β}, a_l2 R xs ys → a_l2 R xs.reverse ys.reverse
  | [], _, h => by rw [a_l2_n h]; exact trivial
  | x :: xs, ys, h => by
    obtain ⟨c, m, rfl, h1, h3⟩ := a_l2_c h
    rw [List.reverse_cons, List.reverse_cons]
    exact a_l2_app (a_l2_rev h3) ⟨h1, trivial⟩
theorem a_l2_wr : ∀ {l : List α} {l' : List β} {i : Nat} {ys : List α} {zs : List β}, a_l2 R l l' → a_l2 R ys zs → a_l2 R (e_wr l i ys) (e_wr l' i zs)
  | [], _, _, _, _, h, h2 => by rw [a_l2_n h]; exact h2
  | x :: xs, ys, i, us, vs, h, h2 => by
    obtain ⟨c, m, rfl, h1, h3⟩ := a_l2_c h
    unfold e_wr
    exact a_l2_wr h3 (a_l2_set h1 h2)
theorem a_l2_rep {a : α} {b : β} (hR : R a b) : ∀ n, a_l2 R (List.replicate n a) (List.replicate n b)
  | 0 => trivial
  | n + 1 => by
    rw [List.replicate_succ, List.replicate_succ]
    exact ⟨hR, a_l2_rep hR n⟩
end AL
theorem a_l2_mono {α β : Type} {R S : α → β → Prop} (h : ∀ a b, R a b → S a b) : ∀ {xs : List α} {ys : List β}, a_l2 R xs ys → a_l2 S xs ys
  | [], _, h1 => by rw [a_l2_n h1]; exact trivial
  | x :: xs, ys, h1 => by
    obtain ⟨b, m, rfl, h2, h3⟩ := a_l2_c h1
    exact ⟨h x b h2, a_l2_mono h h3⟩
end
section
/-! SETS OF INTS: unions of intervals -/
abbrev b_I : Type := List (Int × Int)
def b_in (I : b_I) (x : Int) : Prop := ∃ p ∈ I, p.1 ≤ x ∧ x ≤ p.2
def b_lo : Int := -2147483648
def b_hi : Int := 2147483647
def b_any : b_I := [(b_lo, b_hi)]
theorem b_any_ok (x : Int32) : b_in b_any x.toInt := by
  have h1 := Int32.le_toInt x
  have h2 := Int32.toInt_lt x
  exact ⟨(b_lo, b_hi), List.mem_singleton.mpr rfl, by show b_lo ≤ _; unfold b_lo; omega, by show _ ≤ b_hi; unfold b_hi; omega⟩
theorem b_one (x : Int) : b_in [(x, x)] x := ⟨(x, x), List.mem_singleton.mpr rfl, Int.le_refl _, Int.le_refl _⟩
/-- I lies in J -/
def b_sub (I J : b_I) : Bool := I.all (fun p => J.any (fun q => decide (q.1 ≤ p.1) && decide (p.2 ≤ q.2)))
theorem b_sub_ok {I J : b_I} {x : Int} (h : b_sub I J = true) (hx : b_in I x) : b_in J x := by
  obtain ⟨p, hp, h1, h2⟩ := hx
  have h3 := List.all_eq_true.mp h p hp
  obtain ⟨q, hq, h4⟩ := List.any_eq_true.mp h3
  simp only [Bool.and_eq_true, decide_eq_true_eq] at h4
  exact ⟨q, hq, by omega, by omega⟩
/-- what of I lies between two bounds -/
def b_cut (lo hi : Int) (I : b_I) : b_I := (I.map (fun p => (max p.1 lo, min p.2 hi))).filter (fun p => decide (p.1 ≤ p.2))
theorem b_cut_ok {lo hi x : Int} {I : b_I} (hx : b_in I x) (h1 : lo ≤ x) (h2 : x ≤ hi) : b_in (b_cut lo hi I) x := by
  obtain ⟨p, hp, h3, h4⟩ := hx
  refine ⟨(max p.1 lo, min p.2 hi), List.mem_filter.mpr ⟨List.mem_map.mpr ⟨p, hp, rfl⟩, ?_⟩, ?_, ?_⟩
  · simp; omega
  · dsimp only; omega
  · dsimp only; omega
theorem b_in_app {I J : b_I} {x : Int} (h : b_in I x ∨ b_in J x) : b_in (I ++ J) x := by
  rcases h with ⟨p, hp, h⟩ | ⟨p, hp, h⟩
  · exact ⟨p, List.mem_append_left _ hp, h⟩
  · exact ⟨p, List.mem_append_right _ hp, h⟩
/-- the least and the greatest -/
def b_min : b_I → Int → Int
  | [], d => d
  | p :: l, d => b_min l (min p.1 d)
def b_max : b_I → Int → Int
  | [], d => d
  | p :: l, d => b_max l (max p.2 d)
theorem b_min_le : ∀ (I : b_I) (d : Int), b_min I d ≤ d
  | [], d => Int.le_refl d
  | p :: l, d => Int.le_trans (b_min_le l (min p.1 d)) (by omega)
theorem b_max_ge : ∀ (I : b_I) (d : Int), d ≤ b_max I d
  | [], d => Int.le_refl d
  | p :: l, d => Int.le_trans (by omega) (b_max_ge l (max p.2 d))
theorem b_min_ok : ∀ {I : b_I} {d x : Int}, b_in I x → b_min I d ≤ x
  | [], _, _, h => by obtain ⟨p, hp, -⟩ := h; exact absurd hp List.not_mem_nil
  | q :: l, d, x, h => by
    obtain ⟨p, hp, h1, h2⟩ := h
    unfold b_min
    rcases List.mem_cons.mp hp with rfl | hp
    · exact Int.le_trans (b_min_le l _) (by omega)
    · exact b_min_ok ⟨p, hp, h1, h2⟩
theorem b_max_ok : ∀ {I : b_I} {d x : Int}, b_in I x → x ≤ b_max I d
  | [], _, _, h => by obtain ⟨p, hp, -⟩ := h; exact absurd hp List.not_mem_nil
  | q :: l, d, x, h => by
    obtain ⟨p, hp, h1, h2⟩ := h
    unfold b_max
    rcases List.mem_cons.mp hp with rfl | hp
    · exact Int.le_trans (by omega) (b_max_ge l _)
    · exact b_max_ok ⟨p, hp, h1, h2⟩
/-- a result that may pass the ints' bounds is any int -/
def b_fit (I : b_I) : b_I := bif I.all (fun p => decide (b_lo ≤ p.1) && decide (p.2 ≤ b_hi)) then I else b_any
def b_two (f : Int × Int → Int × Int → Int × Int) (I J : b_I) : b_I := I.flatMap (fun p => J.map (fun q => f p q))
theorem b_two_ok {f : Int × Int → Int × Int → Int × Int} {I J : b_I} {x y z : Int} (hx : b_in I x) (hy : b_in J y) (hf : ∀ p q, p.1 ≤ x → x ≤ p.2 → q.1 ≤ y → y ≤ q.2 → (f p q).1 ≤ z ∧ z ≤ (f p q).2) : b_in (b_two f I J) z := by
  obtain ⟨p, hp, h1, h2⟩ := hx
  obtain ⟨q, hq, h3, h4⟩ := hy
  exact ⟨f p q, List.mem_flatMap.mpr ⟨p, hp, List.mem_map.mpr ⟨q, hq, rfl⟩⟩, hf p q h1 h2 h3 h4⟩
theorem b_bmod {z : Int} (h1 : -2147483648 ≤ z) (h2 : z ≤ 2147483647) : z.bmod (2 ^ 32) = z := by
  rw [Int.bmod_eq_of_le (by omega) (by omega)]
theorem b_fit_ok {I : b_I} {z : Int} {r : Int32} (hz : b_in I z) (hr : -2147483648 ≤ z → z ≤ 2147483647 → r.toInt = z) : b_in (b_fit I) r.toInt := by
  unfold b_fit
  cases hI : I.all (fun p => decide (b_lo ≤ p.1) && decide (p.2 ≤ b_hi)) with
  | false => exact b_any_ok r
  | true =>
    obtain ⟨p, hp, h1, h2⟩ := hz
    have h3 : (decide (b_lo ≤ p.1) && decide (p.2 ≤ b_hi)) = true := List.all_eq_true.mp hI p hp
    rw [Bool.and_eq_true, decide_eq_true_eq, decide_eq_true_eq] at h3
    unfold b_lo b_hi at h3
    rw [hr (by omega) (by omega)]
    exact ⟨p, hp, h1, h2⟩
def b_add (I J : b_I) : b_I := b_fit (b_two (fun p q => (p.1 + q.1, p.2 + q.2)) I J)
def b_sbt (I J : b_I) : b_I := b_fit (b_two (fun p q => (p.1 - q.2, p.2 - q.1)) I J)
theorem b_add_ok {I J : b_I} {x y : Int32} (hx : b_in I x.toInt) (hy : b_in J y.toInt) : b_in (b_add I J) (x + y).toInt :=
  b_fit_ok (z := x.toInt + y.toInt) (b_two_ok hx hy (fun p q h1 h2 h3 h4 => by dsimp only; omega)) (fun h1 h2 => by rw [Int32.toInt_add, b_bmod h1 h2])
theorem b_sbt_ok {I J : b_I} {x y : Int32} (hx : b_in I x.toInt) (hy : b_in J y.toInt) : b_in (b_sbt I J) (x - y).toInt :=
  b_fit_ok (z := x.toInt - y.toInt) (b_two_ok hx hy (fun p q h1 h2 h3 h4 => by dsimp only; omega)) (fun h1 h2 => by rw [Int32.toInt_sub, b_bmod h1 h2])
/-- times, where the second is one number that isn't negative -/
def b_mulc (I : b_I) (v : Int) : b_I := bif decide (0 ≤ v) then b_fit (I.map (fun p => (p.1 * v, p.2 * v))) else b_any
theorem b_mulc_ok {I : b_I} {x y : Int32} (hx : b_in I x.toInt) : b_in (b_mulc I y.toInt) (x * y).toInt := by
  unfold b_mulc
  cases hv : decide (0 ≤ y.toInt) with
  | false => exact b_any_ok _
  | true =>
    have hv : 0 ≤ y.toInt := by simpa using hv
    obtain ⟨p, hp, h1, h2⟩ := hx
    refine b_fit_ok (z := x.toInt * y.toInt) ⟨(p.1 * y.toInt, p.2 * y.toInt), List.mem_map.mpr ⟨p, hp, rfl⟩, ?_, ?_⟩ (fun g1 g2 => by rw [Int32.toInt_mul, b_bmod g1 g2])
    · exact Int.mul_le_mul_of_nonneg_right h1 hv
    · exact Int.mul_le_mul_of_nonneg_right h2 hv
/-- divided by, and what is left by, a number above 0 -/
theorem b_divN {x y : Int32} (hx : 0 ≤ x.toInt) (hy : 0 < y.toInt) : (x / y).toInt = x.toInt / y.toInt ∧ (x - x / y * y).toInt = x.toInt % y.toInt := by
  obtain ⟨a, ha, rfl⟩ := nI_of (x := x) (by rw [Int32.lt_iff_toInt_lt]; simp; omega)
  obtain ⟨b, hb, rfl⟩ := nI_of (x := y) (by rw [Int32.lt_iff_toInt_lt]; simp; omega)
  rw [nI_toInt hb] at hy
  have hb0 : 0 < b := by omega
  rw [pk_rem ha hb0 hb, pk_div ha hb0 hb, nI_toInt ha, nI_toInt hb, nI_toInt (by exact Nat.lt_of_le_of_lt (Nat.div_le_self a b) ha), nI_toInt (by exact Nat.lt_of_le_of_lt (Nat.mod_le a b) ha)]
  exact ⟨by simp, by simp⟩
def b_nn (I : b_I) : Bool := I.all (fun p => decide (0 ≤ p.1))
theorem b_nn_ok {I : b_I} {x : Int} (h : b_nn I = true) (hx : b_in I x) : 0 ≤ x := by
  obtain ⟨p, hp, h1, h2⟩ := hx
  have h3 : decide (0 ≤ p.1) = true := List.all_eq_true.mp h p hp
  have h4 : 0 ≤ p.1 := by simpa using h3
  omega
def b_div (I : b_I) (v : Int) : b_I := bif b_nn I && decide (0 < v) then I.map (fun p => (p.1 / v, p.2 / v)) else b_any
def b_rem (I : b_I) (v : Int) : b_I := bif b_nn I && decide (0 < v) then I.map (fun p => bif decide (p.1 / v = p.2 / v) then (p.1 % v, p.2 % v) else (0, v - 1)) else b_any
theorem b_div_ok {I : b_I} {x y : Int32} (hx : b_in I x.toInt) : b_in (b_div I y.toInt) (x / y).toInt := by
  unfold b_div
  cases hc : (b_nn I && decide (0 < y.toInt)) with
  | false => exact b_any_ok _
  | true =>
    rw [Bool.and_eq_true, decide_eq_true_eq] at hc
    obtain ⟨p, hp, h1, h2⟩ := id hx
    rw [(b_divN (b_nn_ok hc.1 hx) hc.2).1]
    exact ⟨(p.1 / y.toInt, p.2 / y.toInt), List.mem_map.mpr ⟨p, hp, rfl⟩, Int.ediv_le_ediv hc.2 h1, Int.ediv_le_ediv hc.2 h2⟩
theorem b_rem_ok {I : b_I} {x y : Int32} (hx : b_in I x.toInt) : b_in (b_rem I y.toInt) (x - x / y * y).toInt := by
  unfold b_rem
  cases hc : (b_nn I && decide (0 < y.toInt)) with
  | false => exact b_any_ok _
  | true =>
    rw [Bool.and_eq_true, decide_eq_true_eq] at hc
    obtain ⟨p, hp, h1, h2⟩ := id hx
    have h0 := b_nn_ok hc.1 hx
    rw [(b_divN h0 hc.2).2]
    refine ⟨_, List.mem_map.mpr ⟨p, hp, rfl⟩, ?_⟩
    have hpos := hc.2
    cases hq : decide (p.1 / y.toInt = p.2 / y.toInt) with
    | true =>
      have hq : p.1 / y.toInt = p.2 / y.toInt := by simpa using hq
      have g1 : p.1 / y.toInt ≤ x.toInt / y.toInt := Int.ediv_le_ediv hpos h1
      have g2 : x.toInt / y.toInt ≤ p.2 / y.toInt := Int.ediv_le_ediv hpos h2
      have e0 := Int.mul_ediv_add_emod p.1 y.toInt
      have e1 := Int.mul_ediv_add_emod x.toInt y.toInt
      have e2 := Int.mul_ediv_add_emod p.2 y.toInt
      have e3 : x.toInt / y.toInt = p.1 / y.toInt := by omega
      rw [e3] at e1
      rw [← hq] at e2
      show p.1 % y.toInt ≤ _ ∧ _ ≤ p.2 % y.toInt
      constructor <;> omega
    | false =>
      have g1 := Int.emod_nonneg x.toInt (show y.toInt ≠ 0 by omega)
      have g2 := Int.emod_lt_of_pos x.toInt hpos
      show 0 ≤ _ ∧ _ ≤ y.toInt - 1
      constructor <;> omega
/-- the pieces into which a comparison with v cuts a set -/
def b_pcs (c : ClassFile.Cond) (v : Int) (I : b_I) (t : Bool) : b_I := match c, t with
  | .lt, true => b_cut b_lo (v - 1) I
  | .lt, false => b_cut v b_hi I
  | .ge, true => b_cut v b_hi I
  | .ge, false => b_cut b_lo (v - 1) I
  | .gt, true => b_cut (v + 1) b_hi I
  | .gt, false => b_cut b_lo v I
  | .le, true => b_cut b_lo v I
  | .le, false => b_cut (v + 1) b_hi I
  | .eq, true => b_cut v v I
  | .eq, false => b_cut b_lo (v - 1) I ++ b_cut (v + 1) b_hi I
  | .ne, true => b_cut b_lo (v - 1) I ++ b_cut (v + 1) b_hi I
  | .ne, false => b_cut v v I
theorem b_pcs_ok {c : ClassFile.Cond} {x y : Int32} {I : b_I} (hx : b_in I x.toInt) : b_in (b_pcs c y.toInt I (e_c2 c x y)) x.toInt := by
  have r1 := Int32.le_toInt x
  have r2 := Int32.toInt_lt x
  have k1 : ∀ {lo hi : Int}, lo ≤ x.toInt → x.toInt ≤ hi → b_in (b_cut lo hi I) x.toInt := fun g1 g2 => b_cut_ok hx g1 g2
  have hl : b_lo ≤ x.toInt := by unfold b_lo; omega
  have hh : x.toInt ≤ b_hi := by unfold b_hi; omega
  rcases Int.lt_trichotomy x.toInt y.toInt with h | h | h
  · have n1 : x < y := Int32.lt_iff_toInt_lt.mpr h
    have n2 : ¬ x = y := fun q => by rw [q] at h; omega
    have n3 : ¬ y ≤ x := fun q => by have := Int32.le_iff_toInt_le.mp q; omega
    have n4 : ¬ y < x := fun q => by have := Int32.lt_iff_toInt_lt.mp q; omega
    have n5 : x ≤ y := Int32.le_iff_toInt_le.mpr (by omega)
    cases c <;> simp only [e_c2, n1, n2, n3, n4, n5, decide_true, decide_false, Bool.not_false, Bool.not_true, b_pcs]
    · exact b_in_app (Or.inl (k1 hl (by omega)))
    · exact b_in_app (Or.inl (k1 hl (by omega)))
    · exact k1 hl (by omega)
    · exact k1 hl (by omega)
    · exact k1 hl (by omega)
    · exact k1 hl (by omega)
  · have n2 : x = y := Int32.toInt_inj.mp h
    subst n2
    have n1 : ¬ x < x := fun q => by have := Int32.lt_iff_toInt_lt.mp q; omega
    have n5 : x ≤ x := Int32.le_iff_toInt_le.mpr (by omega)
    cases c <;> simp only [e_c2, n1, n5, decide_true, decide_false, Bool.not_false, Bool.not_true, b_pcs]
    · exact k1 (by omega) (by omega)
    · exact k1 (by omega) (by omega)
    · exact k1 (by omega) hh
    · exact k1 (by omega) hh
    · exact k1 hl (by omega)
    · exact k1 hl (by omega)
  · have n1 : ¬ x < y := fun q => by have := Int32.lt_iff_toInt_lt.mp q; omega
    have n2 : ¬ x = y := fun q => by rw [q] at h; omega
    have n3 : y ≤ x := Int32.le_iff_toInt_le.mpr (by omega)
    have n4 : y < x := Int32.lt_iff_toInt_lt.mpr h
    have n5 : ¬ x ≤ y := fun q => by have := Int32.le_iff_toInt_le.mp q; omega
    cases c <;> simp only [e_c2, n1, n2, n3, n4, n5, decide_true, decide_false, Bool.not_false, Bool.not_true, b_pcs]
    · exact b_in_app (Or.inr (k1 (by omega) hh))
    · exact b_in_app (Or.inr (k1 (by omega) hh))
    · exact k1 (by omega) hh
    · exact k1 (by omega) hh
    · exact k1 (by omega) hh
    · exact k1 (by omega) hh
end
section
/-! VALUES BY SETS: known; a symbol and a number; an int of a set; a long -/
abbrev b_V : Type := Value ⊕ (Nat × Nat × Int × b_I)
abbrev b_E : Type := List b_I
/-- n symbols are in use, and stand for ρ -/
def b_rv (n : Nat) (ρ : Nat → Int32) (a : b_V) (v : Value) : Prop := match a with
  | .inl w => v = w
  | .inr (0, id, off, _) => id < n ∧ ∃ x : Int32, v = .int x ∧ x.toInt = (ρ id).toInt + off
  | .inr (1, _, _, I) => ∃ x : Int32, v = .int x ∧ b_in I x.toInt
  | .inr (2, _, _, I) => ∃ x : Int32, v = .long x.toInt64 ∧ b_in I x.toInt
  | .inr (3, _) => ∃ x : Int64, v = .long x
  | _ => False
def b_ok (ρ : Nat → Int32) (E : b_E) : Prop := ∀ (id : Nat) (I : b_I), E[id]? = some I → b_in I (ρ id).toInt
def b_shift (off : Int) (I : b_I) : b_I := I.map (fun p => (p.1 + off, p.2 + off))
theorem b_shift_ok {off x : Int} {I : b_I} (h : b_in I x) : b_in (b_shift off I) (x + off) := by
  obtain ⟨p, hp, h1, h2⟩ := h
  exact ⟨(p.1 + off, p.2 + off), List.mem_map.mpr ⟨p, hp, rfl⟩, by dsimp only; omega, by dsimp only; omega⟩
/-- the set in which an int lies -/
def b_st (E : b_E) (a : b_V) : Option b_I := match a with
  | .inl (.int x) => some [(x.toInt, x.toInt)]
  | .inr (0, id, off, _) => match E[id]? with
    | some I => some (b_shift off I)
    | none => none
  | .inr (1, _, _, I) => some I
  | _ => none
theorem b_st_ok {n : Nat} {ρ : Nat → Int32} {E : b_E} {a : b_V} {v : Value} {I : b_I} (hE : b_ok ρ E) (h : b_rv n ρ a v) (hs : b_st E a = some I) : ∃ x : Int32, v = .int x ∧ b_in I x.toInt := by
  unfold b_st at hs
  split at hs
  · next x => cases hs; exact ⟨x, h, b_one _⟩
  · next id off z =>
    split at hs
    · next J hJ =>
      cases hs
      obtain ⟨-, x, rfl, hx⟩ := h
      exact ⟨x, rfl, by rw [hx]; exact b_shift_ok (hE id J hJ)⟩
    · cases hs
  · cases hs; exact h
  · cases hs
/-- the set in which a long lies that is an int -/
def b_lt (a : b_V) : Option b_I := match a with
  | .inl (.long x) => some [(x.toInt, x.toInt)]
  | .inr (2, _, _, I) => some I
  | _ => none
theorem b_lt_ok {n : Nat} {ρ : Nat → Int32} {a : b_V} {v : Value} {I : b_I} (h : b_rv n ρ a v) (hs : b_lt a = some I) : ∃ x : Int64, v = .long x ∧ b_in I x.toInt := by
  unfold b_lt at hs
  split at hs
  · next x => cases hs; exact ⟨x, h, b_one _⟩
  · next u w I =>
    cases hs
    obtain ⟨x, rfl, hx⟩ := h
    exact ⟨_, rfl, by rw [show x.toInt64.toInt = x.toInt by simp]; exact hx⟩
  · cases hs
/-- one symbol more -/
def b_up (ρ : Nat → Int32) (n : Nat) (x : Int32) : Nat → Int32 := fun i => if i = n then x else ρ i
theorem b_up_rv {n : Nat} {ρ : Nat → Int32} {a : b_V} {v : Value} (x : Int32) (h : b_rv n ρ a v) : b_rv (n + 1) (b_up ρ n x) a v := by
  unfold b_rv at h ⊢
  split at h
  · exact h
  · next id off z =>
    obtain ⟨h1, y, h2, h3⟩ := h
    refine ⟨by omega, y, h2, ?_⟩
    rw [h3]
    unfold b_up
    rw [if_neg (by omega)]
  · exact h
  · exact h
  · exact h
  · exact h.elim
theorem b_up_ok {ρ : Nat → Int32} {E : b_E} {I : b_I} {x : Int32} (hE : b_ok ρ E) (hx : b_in I x.toInt) : b_ok (b_up ρ E.length x) (E ++ [I]) := by
  intro id J hJ
  unfold b_up
  by_cases hl : id < E.length
  · rw [List.getElem?_append_left hl] at hJ
    rw [if_neg (by omega)]
    exact hE id J hJ
  · rw [List.getElem?_append_right (by omega)] at hJ
    have hz : id - E.length < 1 := (List.getElem?_eq_some_iff.mp hJ).1
    have hid : id = E.length := by omega
    subst hid
    rw [Nat.sub_self] at hJ
    cases hJ
    rw [if_pos rfl]
    exact hx
theorem b_ok_set {ρ : Nat → Int32} {E : b_E} {id : Nat} {I : b_I} (hE : b_ok ρ E) (hx : b_in I (ρ id).toInt) : b_ok ρ (E.set id I) := by
  intro j J hJ
  by_cases hj : j = id
  · subst hj
    have hl : j < E.length := by
      have := (List.getElem?_eq_some_iff.mp hJ).1
      simpa using this
    rw [List.getElem?_set_self hl] at hJ
    cases hJ
    exact hx
  · rw [List.getElem?_set_ne (Ne.symm hj)] at hJ
    exact hE j J hJ
end
section
/-! CELLS BY TYPES: for each place the set of ints that it may hold; references stay -/
/-- the set of a place of a row, by stretches of places -/
def b_seg (l : List ((Int × Int) × b_I)) (j : Nat) : b_I := (l.filter (fun s => decide (s.1.1 ≤ (j : Int)) && decide ((j : Int) ≤ s.1.2))).flatMap (fun s => s.2)
/-- the set of all places of J -/
def b_segU (l : List ((Int × Int) × b_I)) (J : b_I) : b_I := (l.filter (fun s => J.any (fun p => decide (s.1.1 ≤ p.2) && decide (p.1 ≤ s.1.2)))).flatMap (fun s => s.2)
theorem b_segU_ok {l : List ((Int × Int) × b_I)} {J : b_I} {j : Nat} {x : Int} (hj : b_in J (j : Int)) (hx : b_in (b_seg l j) x) : b_in (b_segU l J) x := by
  obtain ⟨p, hp, h1, h2⟩ := hx
  obtain ⟨s, hs, hps⟩ := List.mem_flatMap.mp hp
  obtain ⟨hs1, hs2⟩ := List.mem_filter.mp hs
  rw [Bool.and_eq_true, decide_eq_true_eq, decide_eq_true_eq] at hs2
  obtain ⟨q, hq, h3, h4⟩ := hj
  refine ⟨p, List.mem_flatMap.mpr ⟨s, List.mem_filter.mpr ⟨hs1, List.any_eq_true.mpr ⟨q, hq, ?_⟩⟩, hps⟩, h1, h2⟩
  rw [Bool.and_eq_true, decide_eq_true_eq, decide_eq_true_eq]
  omega
/-- a set that lies in the set of every place of J -/
def b_segA (l : List ((Int × Int) × b_I)) (len : Nat) (J I : b_I) : Bool := (List.range len).all (fun j => !(J.any (fun p => decide (p.1 ≤ (j : Int)) && decide ((j : Int) ≤ p.2))) || b_sub I (b_seg l j))
theorem b_segA_ok {l : List ((Int × Int) × b_I)} {len : Nat} {J I : b_I} {j : Nat} {x : Int} (h : b_segA l len J I = true) (hl : j < len) (hj : b_in J (j : Int)) (hx : b_in I x) : b_in (b_seg l j) x := by
  have h1 : (!(J.any (fun p => decide (p.1 ≤ (j : Int)) && decide ((j : Int) ≤ p.2))) || b_sub I (b_seg l j)) = true := List.all_eq_true.mp h j (List.mem_range.mpr hl)
  obtain ⟨q, hq, h3, h4⟩ := hj
  have h2 : J.any (fun p => decide (p.1 ≤ (j : Int)) && decide ((j : Int) ≤ p.2)) = true := List.any_eq_true.mpr ⟨q, hq, by rw [Bool.and_eq_true, decide_eq_true_eq, decide_eq_true_eq]; omega⟩
  rw [h2] at h1
  exact b_sub_ok (by simpa using h1) hx
abbrev b_Y : Type := (Bool × Nat × List ((Int × Int) × b_I)) ⊕ (Nat × List (Value ⊕ b_I))
def b_fv (f : Value ⊕ b_I) (v : Value) : Prop := match f with
  | .inl w => v = w
  | .inr I => ∃ x : Int32, v = .int x ∧ b_in I x.toInt
def b_cell (T : b_Y) (c : e_C) : Prop := match T, c with
  | .inl t, .inl a => a.1 = t.1 ∧ a.2.length = t.2.1 ∧ ∀ (j : Nat) (x : Int32), a.2[j]? = some x → b_in (b_seg t.2.2 j) x.toInt
  | .inr t, .inr o => o.1 = t.1 ∧ o.2.length = t.2.length ∧ ∀ (j : Nat) (f : Value ⊕ b_I) (v : Value), t.2[j]? = some f → o.2[j]? = some v → b_fv f v
  | _, _ => False
def b_mem (M : List b_Y) (mem : List e_C) : Prop := mem.length = M.length ∧ ∀ (q : Nat) (T : b_Y) (c : e_C), M[q]? = some T → mem[q]? = some c → b_cell T c
theorem b_mem.at {M : List b_Y} {mem : List e_C} {q : Nat} {T : b_Y} (h : b_mem M mem) (hq : M[q]? = some T) : ∃ c, mem[q]? = some c ∧ b_cell T c := by
  have hl : q < mem.length := by
    have := (List.getElem?_eq_some_iff.mp hq).1
    rw [h.1]
    exact this
  exact ⟨mem[q], List.getElem?_eq_getElem hl, h.2 q T _ hq (List.getElem?_eq_getElem hl)⟩
theorem b_mem.arr {M : List b_Y} {mem : List e_C} {q : Nat} {t : Bool × Nat × List ((Int × Int) × b_I)} (h : b_mem M mem) (hq : M[q]? = some (.inl t)) : ∃ a : Bool × List Int32, mem[q]? = some (.inl a) ∧ a.1 = t.1 ∧ a.2.length = t.2.1 ∧ ∀ (j : Nat) (x : Int32), a.2[j]? = some x → b_in (b_seg t.2.2 j) x.toInt := by
  obtain ⟨c, h1, h2⟩ := h.at hq
  cases c with
  | inl a => exact ⟨a, h1, h2⟩
  | inr o => exact h2.elim
theorem b_mem.obj {M : List b_Y} {mem : List e_C} {q : Nat} {t : Nat × List (Value ⊕ b_I)} (h : b_mem M mem) (hq : M[q]? = some (.inr t)) : ∃ o : Nat × List Value, mem[q]? = some (.inr o) ∧ o.1 = t.1 ∧ o.2.length = t.2.length ∧ ∀ (j : Nat) (f : Value ⊕ b_I) (v : Value), t.2[j]? = some f → o.2[j]? = some v → b_fv f v := by
  obtain ⟨c, h1, h2⟩ := h.at hq
  cases c with
  | inl a => exact h2.elim
  | inr o => exact ⟨o, h1, h2⟩
theorem b_mem.set {M : List b_Y} {mem : List e_C} {q : Nat} {T : b_Y} {c : e_C} (h : b_mem M mem) (hq : M[q]? = some T) (hc : b_cell T c) : b_mem M (mem.set q c) := by
  refine ⟨by rw [List.length_set]; exact h.1, fun k U d hk hd => ?_⟩
  by_cases hkq : k = q
  · subst hkq
    have hl : k < mem.length := by
      have := (List.getElem?_eq_some_iff.mp hq).1
      rw [h.1]
      exact this
    rw [List.getElem?_set_self hl] at hd
    cases hd
    cases hq.symm.trans hk
    exact hc
  · rw [List.getElem?_set_ne (Ne.symm hkq)] at hd
    exact h.2 k U d hk hd
/-- what a place holds -/
def e_pl (mem : List e_C) (q j : Nat) : Option Value := match mem[q]? with
  | some (.inl a) => (a.2[j]?).map Value.int
  | some (.inr o) => o.2[j]?
  | none => none
/-- an element is stored: the cells keep their types if it is of the place's set, every other place stays -/
theorem b_sta {M : List b_Y} {mem : List e_C} {q j : Nat} {t : Bool × Nat × List ((Int × Int) × b_I)} {a : Bool × List Int32} {x : Int32} (h : b_mem M mem) (hq : M[q]? = some (.inl t)) (ha : mem[q]? = some (.inl a)) (hx : b_in (b_seg t.2.2 j) x.toInt) (hj : j < a.2.length) :
    b_mem M (mem.set q (.inl (a.1, a.2.set j x))) ∧ e_pl (mem.set q (.inl (a.1, a.2.set j x))) q j = some (.int x) ∧ ∀ p i, ¬ (p = q ∧ i = j) → e_pl (mem.set q (.inl (a.1, a.2.set j x))) p i = e_pl mem p i := by
  obtain ⟨a', h1, h2, h3, h4⟩ := h.arr hq
  cases ha.symm.trans h1
  have hl : q < mem.length := (List.getElem?_eq_some_iff.mp ha).1
  refine ⟨h.set hq ⟨h2, by rw [List.length_set]; exact h3, fun i y hi => ?_⟩, ?_, fun p i hpi => ?_⟩
  · by_cases hij : i = j
    · subst hij
      rw [List.getElem?_set_self hj] at hi
      cases hi
      exact hx
    · rw [List.getElem?_set_ne (Ne.symm hij)] at hi
      exact h4 i y hi
  · unfold e_pl
    rw [List.getElem?_set_self hl]
    dsimp only
    rw [List.getElem?_set_self hj]
    rfl
  · unfold e_pl
    by_cases hpq : p = q
    · subst hpq
      rw [List.getElem?_set_self hl, ha]
      dsimp only
      rw [List.getElem?_set_ne (fun e => hpi ⟨rfl, e.symm⟩)]
    · rw [List.getElem?_set_ne (Ne.symm hpq)]
/-- a field is put -/
theorem b_stf {M : List b_Y} {mem : List e_C} {q j : Nat} {t : Nat × List (Value ⊕ b_I)} {o : Nat × List Value} {f : Value ⊕ b_I} {v : Value} (h : b_mem M mem) (hq : M[q]? = some (.inr t)) (ho : mem[q]? = some (.inr o)) (hf : t.2[j]? = some f) (hv : b_fv f v) (hj : j < o.2.length) :
    b_mem M (mem.set q (.inr (o.1, o.2.set j v))) ∧ e_pl (mem.set q (.inr (o.1, o.2.set j v))) q j = some v ∧ ∀ p i, ¬ (p = q ∧ i = j) → e_pl (mem.set q (.inr (o.1, o.2.set j v))) p i = e_pl mem p i := by
  obtain ⟨o', h1, h2, h3, h4⟩ := h.obj hq
  cases ho.symm.trans h1
  have hl : q < mem.length := (List.getElem?_eq_some_iff.mp ho).1
  refine ⟨h.set hq ⟨h2, by rw [List.length_set]; exact h3, fun i g w hg hi => ?_⟩, ?_, fun p i hpi => ?_⟩
  · by_cases hij : i = j
    · subst hij
      rw [List.getElem?_set_self hj] at hi
      cases hi
      cases hf.symm.trans hg
      exact hv
    · rw [List.getElem?_set_ne (Ne.symm hij)] at hi
      exact h4 i g w hg hi
  · unfold e_pl
    rw [List.getElem?_set_self hl]
    dsimp only
    rw [List.getElem?_set_self hj]
  · unfold e_pl
    by_cases hpq : p = q
    · subst hpq
      rw [List.getElem?_set_self hl, ho]
      dsimp only
      rw [List.getElem?_set_ne (fun e => hpi ⟨rfl, e.symm⟩)]
    · rw [List.getElem?_set_ne (Ne.symm hpq)]
/-- what is known of places beside their types -/
def b_ov (n : Nat) (ρ : Nat → Int32) (O : List ((Nat × Nat) × b_V)) (mem : List e_C) : Prop := ∀ e ∈ O, ∃ v, e_pl mem e.1.1 e.1.2 = some v ∧ b_rv n ρ e.2 v
def b_kill (O : List ((Nat × Nat) × b_V)) (q : Nat) (J : b_I) : List ((Nat × Nat) × b_V) := O.filter (fun e => !(e.1.1 == q && J.any (fun p => decide (p.1 ≤ (e.1.2 : Int)) && decide ((e.1.2 : Int) ≤ p.2))))
theorem b_ov_kill {n : Nat} {ρ : Nat → Int32} {O : List ((Nat × Nat) × b_V)} {mem mem' : List e_C} {q j : Nat} {J : b_I} (h : b_ov n ρ O mem) (hj : b_in J (j : Int)) (hk : ∀ p i, ¬ (p = q ∧ i = j) → e_pl mem' p i = e_pl mem p i) : b_ov n ρ (b_kill O q J) mem' := by
  intro e he
  obtain ⟨h1, h2⟩ := List.mem_filter.mp he
  obtain ⟨v, h3, h4⟩ := h e h1
  refine ⟨v, ?_, h4⟩
  rw [hk e.1.1 e.1.2 ?_]
  · exact h3
  · rintro ⟨e1, e2⟩
    obtain ⟨p, hp, g1, g2⟩ := hj
    have hany : J.any (fun p => decide (p.1 ≤ (e.1.2 : Int)) && decide ((e.1.2 : Int) ≤ p.2)) = true := List.any_eq_true.mpr ⟨p, hp, by rw [e2]; simp; omega⟩
    rw [hany] at h2
    simp [e1] at h2
theorem b_ov_up {n : Nat} {ρ : Nat → Int32} {O : List ((Nat × Nat) × b_V)} {mem : List e_C} (x : Int32) (h : b_ov n ρ O mem) : b_ov (n + 1) (b_up ρ n x) O mem := by
  intro e he
  obtain ⟨v, h1, h2⟩ := h e he
  exact ⟨v, h1, b_up_rv x h2⟩
end
section
/-! LOCALS AND STACKS BY SETS -/
def b_cat (a : b_V) : Nat := match a with
  | .inl v => v.category
  | .inr (2, _) => 2
  | .inr (3, _) => 2
  | _ => 1
def b_rq (n : Nat) (ρ : Nat → Int32) (q : Nat × b_V) (r : Nat × Value) : Prop := q.1 = r.1 ∧ b_rv n ρ q.2 r.2
def b_get : List (Nat × b_V) → Nat → Option b_V
  | [], _ => none
  | q :: r, i => bif q.1 == i then some q.2 else b_get r i
def b_put1 (lv : List (Nat × b_V)) (i : Nat) (v : b_V) : List (Nat × b_V) := (i, v) :: lv.filter (fun q => !(q.1 == i) && !(q.1 + 1 == i && b_cat q.2 == 2))
def b_put2 (lv : List (Nat × b_V)) (i : Nat) (v : b_V) : List (Nat × b_V) := (i, v) :: lv.filter (fun q => !(q.1 == i) && (!(q.1 == i + 1) && !(q.1 + 1 == i && b_cat q.2 == 2)))
def b_args : Nat → List b_V → List (Nat × b_V)
  | _, [] => []
  | i, v :: vs => (i, v) :: b_args (if b_cat v = 2 then i + 2 else i + 1) vs
section BV
variable {n : Nat} {ρ : Nat → Int32}
theorem b_cat_ok {a : b_V} {v : Value} (h : b_rv n ρ a v) : v.category = b_cat a := by
  unfold b_rv at h
  split at h
  · rw [h]; rfl
  · obtain ⟨-, x, rfl, -⟩ := h; rfl
  · obtain ⟨x, rfl, -⟩ := h; rfl
  · obtain ⟨x, rfl, -⟩ := h; rfl
  · obtain ⟨x, rfl⟩ := h; rfl
  · exact h.elim
theorem b_get_ok : ∀ {lv : List (Nat × b_V)} {lw : List (Nat × Value)} {i : Nat} {a : b_V}, a_l2 (b_rq n ρ) lv lw → b_get lv i = some a → ∃ v, e_get lw i = some v ∧ b_rv n ρ a v
  | [], _, _, _, _, h => by cases h
  | q :: r, lw, i, a, h, hg => by
    obtain ⟨b, m, rfl, h1, h2⟩ := a_l2_c h
    unfold b_get at hg
    unfold e_get
    rw [← h1.1]
    cases hq : q.1 == i with
    | true => rw [hq] at hg; cases hg; exact ⟨b.2, rfl, h1.2⟩
    | false => rw [hq] at hg; exact b_get_ok h2 hg
theorem b_filter_ok (f : Nat × b_V → Bool) (g : Nat × Value → Bool) (hfg : ∀ q r, b_rq n ρ q r → f q = g r) : ∀ {lv : List (Nat × b_V)} {lw : List (Nat × Value)}, a_l2 (b_rq n ρ) lv lw → a_l2 (b_rq n ρ) (lv.filter f) (lw.filter g)
  | [], _, h => by rw [a_l2_n h]; exact trivial
  | q :: r, lw, h => by
    obtain ⟨b, m, rfl, h1, h2⟩ := a_l2_c h
    rw [List.filter_cons, List.filter_cons, hfg q b h1]
    split
    · exact ⟨h1, b_filter_ok f g hfg h2⟩
    · exact b_filter_ok f g hfg h2
theorem b_put1_ok {lv : List (Nat × b_V)} {lw : List (Nat × Value)} {i : Nat} {a : b_V} {v : Value} (h : a_l2 (b_rq n ρ) lv lw) (hv : b_rv n ρ a v) : a_l2 (b_rq n ρ) (b_put1 lv i a) (e_put1 lw i v) :=
  ⟨⟨rfl, hv⟩, b_filter_ok _ _ (fun q r hqr => by rw [hqr.1, b_cat_ok hqr.2]) h⟩
theorem b_put2_ok {lv : List (Nat × b_V)} {lw : List (Nat × Value)} {i : Nat} {a : b_V} {v : Value} (h : a_l2 (b_rq n ρ) lv lw) (hv : b_rv n ρ a v) : a_l2 (b_rq n ρ) (b_put2 lv i a) (e_put2 lw i v) :=
  ⟨⟨rfl, hv⟩, b_filter_ok _ _ (fun q r hqr => by rw [hqr.1, b_cat_ok hqr.2]) h⟩
theorem b_args_ok : ∀ {as : List b_V} {vs : List Value} (i : Nat), a_l2 (b_rv n ρ) as vs → a_l2 (b_rq n ρ) (b_args i as) (lv_args i vs)
  | [], _, _, h => by rw [a_l2_n h]; exact trivial
  | a :: as, vs, i, h => by
    obtain ⟨b, m, rfl, h1, h2⟩ := a_l2_c h
    unfold b_args lv_args
    rw [b_cat_ok h1]
    exact ⟨⟨rfl, h1⟩, b_args_ok _ h2⟩
theorem b_cats_ok : ∀ {as : List b_V} {vs : List Value}, a_l2 (b_rv n ρ) as vs → (vs.map fun v => v.category).sum = (as.map b_cat).sum
  | [], _, h => by rw [a_l2_n h]; rfl
  | a :: as, vs, h => by
    obtain ⟨b, m, rfl, h1, h2⟩ := a_l2_c h
    rw [List.map_cons, List.map_cons, List.sum_cons, List.sum_cons, b_cat_ok h1, b_cats_ok h2]
end BV
end
section
/-! ARITHMETIC BY SETS -/
section BA
variable {n : Nat} {ρ : Nat → Int32} {E : b_E}
/-- an int that can only be one is known -/
def b_nrm (E : b_E) (a : b_V) : Option b_V := match b_st E a with
  | some [p] => bif decide (p.1 = p.2) then some (.inl (.int (Int32.ofInt p.1))) else some a
  | some _ => some a
  | none => none
theorem b_nrm_ok (hE : b_ok ρ E) {a b : b_V} {v : Value} (h : b_rv n ρ a v) (hn : b_nrm E a = some b) : ∃ x : Int32, v = .int x ∧ b_rv n ρ b (.int x) := by
  unfold b_nrm at hn
  split at hn
  · next p hp =>
    obtain ⟨x, rfl, q, hq, h1, h2⟩ := b_st_ok hE h hp
    cases List.mem_singleton.mp hq
    simp only [Bool.cond_eq_ite, decide_eq_true_eq] at hn
    split at hn
    · next he =>
      cases hn
      refine ⟨x, rfl, ?_⟩
      have : x.toInt = p.1 := by omega
      show Value.int x = Value.int (Int32.ofInt p.1)
      rw [← this, Int32.ofInt_toInt]
    · cases hn; exact ⟨x, rfl, h⟩
  · next I _ hI =>
    cases hn
    obtain ⟨x, rfl, -⟩ := b_st_ok hE h hI
    exact ⟨x, rfl, h⟩
  · cases hn
/-- two ints, by a function of sets -/
def b_i2v (E : b_E) (f : Int32 → Int32 → Int32) (S : b_I → b_I → b_I) (a b : b_V) : Option b_V := match a, b with
  | .inl (.int x), .inl (.int y) => some (.inl (.int (f x y)))
  | a, b => match b_st E a, b_st E b with
    | some I, some J => some (.inr (1, 0, 0, S I J))
    | _, _ => none
theorem b_i2v_ok (hE : b_ok ρ E) {f : Int32 → Int32 → Int32} {S : b_I → b_I → b_I} (hS : ∀ (I J : b_I) (x y : Int32), b_in I x.toInt → b_in J y.toInt → b_in (S I J) (f x y).toInt) {a b c : b_V} {v w : Value} (ha : b_rv n ρ a v) (hb : b_rv n ρ b w) (h : b_i2v E f S a b = some c) : ∃ x y : Int32, v = .int x ∧ w = .int y ∧ b_rv n ρ c (.int (f x y)) := by
  unfold b_i2v at h
  split at h
  · next x y => cases h; exact ⟨x, y, ha, hb, rfl⟩
  · split at h
    · next I J hI hJ =>
      cases h
      obtain ⟨x, rfl, h1⟩ := b_st_ok hE ha hI
      obtain ⟨y, rfl, h2⟩ := b_st_ok hE hb hJ
      exact ⟨x, y, rfl, rfl, _, rfl, hS I J x y h1 h2⟩
    · cases h
def b_rngI (I : b_I) : Bool := I.all (fun p => decide (b_lo ≤ p.1) && decide (p.2 ≤ b_hi))
theorem b_rngI_ok {I : b_I} {x : Int} (h : b_rngI I = true) (hx : b_in I x) : -2147483648 ≤ x ∧ x ≤ 2147483647 := by
  obtain ⟨p, hp, h1, h2⟩ := hx
  have h3 : (decide (b_lo ≤ p.1) && decide (p.2 ≤ b_hi)) = true := List.all_eq_true.mp h p hp
  rw [Bool.and_eq_true, decide_eq_true_eq, decide_eq_true_eq] at h3
  unfold b_lo b_hi at h3
  omega
/-- a symbol and a number, added to a number -/
def b_addv (E : b_E) (a b : b_V) : Option b_V := match a, b with
  | .inr (0, id, off, z), .inl (.int y) => match E[id]? with
    | some I => bif b_rngI (b_shift (off + y.toInt) I) then some (.inr (0, id, off + y.toInt, z)) else b_i2v E (fun x y => x + y) b_add a b
    | none => none
  | a, b => b_i2v E (fun x y => x + y) b_add a b
theorem b_addv_ok (hE : b_ok ρ E) {a b c : b_V} {v w : Value} (ha : b_rv n ρ a v) (hb : b_rv n ρ b w) (h : b_addv E a b = some c) : ∃ x y : Int32, v = .int x ∧ w = .int y ∧ b_rv n ρ c (.int (x + y)) := by
  unfold b_addv at h
  split at h
  · next id off z y =>
    split at h
    · next I hI =>
      cases hr : b_rngI (b_shift (off + y.toInt) I) with
      | true =>
        rw [hr] at h
        cases h
        obtain ⟨h1, x, rfl, hx⟩ := ha
        cases hb
        have h2 := b_rngI_ok hr (b_shift_ok (off := off + y.toInt) (hE id I hI))
        refine ⟨x, y, rfl, rfl, h1, _, rfl, ?_⟩
        rw [Int32.toInt_add, b_bmod (by omega) (by omega), hx]
        omega
      | false =>
        rw [hr] at h
        exact b_i2v_ok hE (fun I J x y h1 h2 => b_add_ok h1 h2) ha hb h
    · cases h
  · exact b_i2v_ok hE (fun I J x y h1 h2 => b_add_ok h1 h2) ha hb h
/-- times a known number -/
def b_mulv (E : b_E) (a b : b_V) : Option b_V := match a, b with
  | .inl (.int x), .inl (.int y) => some (.inl (.int (x * y)))
  | a, .inl (.int y) => match b_st E a with
    | some I => some (.inr (1, 0, 0, b_mulc I y.toInt))
    | none => none
  | .inl (.int x), b => match b_st E b with
    | some J => some (.inr (1, 0, 0, b_mulc J x.toInt))
    | none => none
  | a, b => b_i2v E (fun x y => x * y) (fun _ _ => b_any) a b
theorem b_mulv_ok (hE : b_ok ρ E) {a b c : b_V} {v w : Value} (ha : b_rv n ρ a v) (hb : b_rv n ρ b w) (h : b_mulv E a b = some c) : ∃ x y : Int32, v = .int x ∧ w = .int y ∧ b_rv n ρ c (.int (x * y)) := by
  unfold b_mulv at h
  split at h
  · next x y => cases h; exact ⟨x, y, ha, hb, rfl⟩
  · next y _ =>
    split at h
    · next I hI =>
      cases h
      obtain ⟨x, rfl, h1⟩ := b_st_ok hE ha hI
      exact ⟨x, y, rfl, hb, _, rfl, b_mulc_ok h1⟩
    · cases h
  · split at h
    · next J hJ =>
      cases h
      obtain ⟨y, rfl, h1⟩ := b_st_ok hE hb hJ
      refine ⟨_, y, ha, rfl, _, rfl, ?_⟩
      rw [Int32.mul_comm]
      exact b_mulc_ok h1
    · cases h
  · exact b_i2v_ok hE (fun I J x y _ _ => b_any_ok _) ha hb h
/-- divided by a known number that isn't 0 -/
def b_dvv (E : b_E) (f : Int32 → Int32 → Int32) (S : b_I → Int → b_I) (a b : b_V) : Option b_V := match a, b with
  | .inl (.int x), .inl (.int y) => bif decide (y = 0) then none else some (.inl (.int (f x y)))
  | a, .inl (.int y) => match b_st E a with
    | some I => bif decide (y = 0) then none else some (.inr (1, 0, 0, S I y.toInt))
    | none => none
  | _, _ => none
theorem b_dvv_ok (hE : b_ok ρ E) {f : Int32 → Int32 → Int32} {S : b_I → Int → b_I} (hS : ∀ (I : b_I) (x y : Int32), b_in I x.toInt → b_in (S I y.toInt) (f x y).toInt) {a b c : b_V} {v w : Value} (ha : b_rv n ρ a v) (hb : b_rv n ρ b w) (h : b_dvv E f S a b = some c) : ∃ x y : Int32, v = .int x ∧ w = .int y ∧ ¬ y = 0 ∧ b_rv n ρ c (.int (f x y)) := by
  unfold b_dvv at h
  simp only [Bool.cond_eq_ite, decide_eq_true_eq] at h
  split at h
  · next x y =>
    split at h
    · cases h
    · next hy => cases h; exact ⟨x, y, ha, hb, hy, rfl⟩
  · next y _ =>
    split at h
    · next I hI =>
      split at h
      · cases h
      · next hy =>
        cases h
        obtain ⟨x, rfl, h1⟩ := b_st_ok hE ha hI
        exact ⟨x, y, rfl, hb, hy, _, rfl, hS I x y h1⟩
    · cases h
  · cases h
/-- and with an int that isn't negative -/
def b_andS (I J : b_I) : b_I := bif b_nn I then [(0, b_max I 0)] else bif b_nn J then [(0, b_max J 0)] else b_any
theorem b_and_le {x y : Int32} (hx : 0 ≤ x.toInt) : 0 ≤ (x &&& y).toInt ∧ (x &&& y).toInt ≤ x.toInt := by
  obtain ⟨a, ha, rfl⟩ := nI_of (x := x) (by rw [Int32.lt_iff_toInt_lt]; simp; omega)
  have e : (nI a &&& y) = nI (a &&& y.toBitVec.toNat) := by
    apply Int32.toBitVec_inj.mp
    apply BitVec.eq_of_toNat_eq
    rw [Int32.toBitVec_and, BitVec.toNat_and, pk_tn (by omega)]
    have hle : a &&& y.toBitVec.toNat ≤ a := Nat.and_le_left
    rw [pk_tn (by omega)]
  have hle : a &&& y.toBitVec.toNat ≤ a := Nat.and_le_left
  rw [e, nI_toInt (by omega), nI_toInt ha]
  omega
theorem b_and_ok {I J : b_I} {x y : Int32} (hx : b_in I x.toInt) (hy : b_in J y.toInt) : b_in (b_andS I J) (x &&& y).toInt := by
  unfold b_andS
  cases h1 : b_nn I with
  | true =>
    obtain ⟨g1, g2⟩ := b_and_le (y := y) (b_nn_ok h1 hx)
    exact ⟨_, List.mem_singleton.mpr rfl, g1, Int.le_trans g2 (b_max_ok hx)⟩
  | false =>
    cases h2 : b_nn J with
    | true =>
      obtain ⟨g1, g2⟩ := b_and_le (y := x) (b_nn_ok h2 hy)
      rw [Int32.and_comm]
      exact ⟨_, List.mem_singleton.mpr rfl, g1, Int.le_trans g2 (b_max_ok hy)⟩
    | false => exact b_any_ok _
end BA
end
section
/-! LOADS BY TYPES -/
abbrev b_O : Type := List ((Nat × Nat) × b_V)
def b_fnd : b_O → Nat → Nat → Option b_V
  | [], _, _ => none
  | e :: r, q, j => bif e.1.1 == q && e.1.2 == j then some e.2 else b_fnd r q j
theorem b_fnd_ok {n : Nat} {ρ : Nat → Int32} {mem : List e_C} : ∀ {O : b_O} {q j : Nat} {a : b_V}, b_ov n ρ O mem → b_fnd O q j = some a → ∃ v, e_pl mem q j = some v ∧ b_rv n ρ a v
  | [], _, _, _, _, h => by cases h
  | e :: r, q, j, a, hO, h => by
    unfold b_fnd at h
    cases hc : (e.1.1 == q && e.1.2 == j) with
    | true =>
      rw [hc] at h
      cases h
      rw [Bool.and_eq_true, beq_iff_eq, beq_iff_eq] at hc
      obtain ⟨v, h1, h2⟩ := hO e List.mem_cons_self
      rw [hc.1, hc.2] at h1
      exact ⟨v, h1, h2⟩
    | false =>
      rw [hc] at h
      exact b_fnd_ok (fun e' he' => hO e' (List.mem_cons_of_mem _ he')) h
/-- more symbols, and what was told of a value is told still -/
def b_ext (n : Nat) (ρ : Nat → Int32) (n' : Nat) (ρ' : Nat → Int32) : Prop := ∀ (a : b_V) (v : Value), b_rv n ρ a v → b_rv n' ρ' a v
theorem b_ext.rf {n : Nat} {ρ : Nat → Int32} : b_ext n ρ n ρ := fun _ _ h => h
theorem b_ext.up {n : Nat} {ρ : Nat → Int32} (x : Int32) : b_ext n ρ (n + 1) (b_up ρ n x) := fun _ _ h => b_up_rv x h
/-- a symbol for what a place holds, of which nothing is known but its set -/
theorem b_fresh {ρ : Nat → Int32} {E : b_E} {O : b_O} {mem : List e_C} {q j : Nat} {I : b_I} {x : Int32} (hE : b_ok ρ E) (hO : b_ov E.length ρ O mem) (hp : e_pl mem q j = some (.int x)) (hx : b_in I x.toInt) :
    ∃ ρ' : Nat → Int32, b_ok ρ' (E ++ [I]) ∧ b_ext E.length ρ (E ++ [I]).length ρ' ∧ b_ov (E ++ [I]).length ρ' (((q, j), .inr (0, E.length, 0, [])) :: O) mem ∧ b_rv (E ++ [I]).length ρ' (.inr (0, E.length, 0, [])) (.int x) := by
  have hl : (E ++ [I]).length = E.length + 1 := by simp
  rw [hl]
  have hv : b_rv (E.length + 1) (b_up ρ E.length x) (.inr (0, E.length, 0, [])) (.int x) := by
    refine ⟨by omega, x, rfl, ?_⟩
    unfold b_up
    rw [if_pos rfl]
    omega
  refine ⟨b_up ρ E.length x, b_up_ok hE hx, b_ext.up x, ?_, hv⟩
  intro e he
  rcases List.mem_cons.mp he with rfl | he
  · exact ⟨.int x, hp, hv⟩
  · exact b_ov_up x hO e he
def b_ldA (M : List b_Y) (E : b_E) (O : b_O) (z : Bool) (q : Nat) (i : b_V) : Option (b_E × b_O × b_V) := match M[q]? with
  | some (.inl t) => bif t.1 == z then (match i with
    | .inl (.int j) => bif !decide (j < 0) && Nat.blt j.toNatClampNeg t.2.1 then (match b_fnd O q j.toNatClampNeg with
      | some a => match b_st E a with
        | some _ => some (E, O, a)
        | none => none
      | none => some (E ++ [b_seg t.2.2 j.toNatClampNeg], ((q, j.toNatClampNeg), .inr (0, E.length, 0, [])) :: O, .inr (0, E.length, 0, []))) else none
    | i => match b_st E i with
      | some J => bif b_sub J [(0, (t.2.1 : Int) - 1)] then some (E, O, .inr (1, 0, 0, b_segU t.2.2 J)) else none
      | none => none) else none
  | _ => none
theorem b_clamp {j : Int32} {N : Nat} (h : b_in [(0, (N : Int) - 1)] j.toInt) : ¬ j < 0 ∧ j.toNatClampNeg < N ∧ ((j.toNatClampNeg : Nat) : Int) = j.toInt := by
  obtain ⟨p, hp, h1, h2⟩ := h
  cases List.mem_singleton.mp hp
  dsimp only at h1 h2
  have e : ((j.toNatClampNeg : Nat) : Int) = j.toInt := by
    show ((j.toInt.toNat : Nat) : Int) = j.toInt
    omega
  refine ⟨fun q => ?_, by omega, e⟩
  have := Int32.lt_iff_toInt_lt.mp q
  simp at this
  omega
theorem b_ldA_ok {M : List b_Y} {ρ : Nat → Int32} {E E' : b_E} {O O' : b_O} {mem : List e_C} {z : Bool} {q : Nat} {i a : b_V} {w : Value} (hE : b_ok ρ E) (hM : b_mem M mem) (hO : b_ov E.length ρ O mem) (hi : b_rv E.length ρ i w) (h : b_ldA M E O z q i = some (E', O', a)) :
    ∃ (ρ' : Nat → Int32) (j x : Int32) (r : Bool × List Int32), b_ok ρ' E' ∧ b_ext E.length ρ E'.length ρ' ∧ b_ov E'.length ρ' O' mem ∧ w = .int j ∧ mem[q]? = some (.inl r) ∧ r.1 = z ∧ ¬ j < 0 ∧ r.2[j.toNatClampNeg]? = some x ∧ b_rv E'.length ρ' a (.int x) := by
  unfold b_ldA at h
  simp only [Bool.cond_eq_ite] at h
  split at h
  · next t ht =>
    obtain ⟨r, m1, m2, m3, m4⟩ := hM.arr ht
    split at h
    · next hz =>
      have hz : t.1 = z := by simpa using hz
      split at h
      · next j =>
        cases hi
        split at h
        · next hj =>
          rw [Bool.and_eq_true, Bool.not_eq_true', decide_eq_false_iff_not, Nat.blt_eq] at hj
          have hlt : j.toNatClampNeg < r.2.length := by rw [m3]; exact hj.2
          have hx := List.getElem?_eq_getElem hlt
          have hp : e_pl mem q j.toNatClampNeg = some (.int r.2[j.toNatClampNeg]) := by
            unfold e_pl
            rw [m1]
            dsimp only
            rw [hx]
            rfl
          split at h
          · next b hb =>
            split at h
            · next I hI =>
              cases h
              obtain ⟨v, h1, h2⟩ := b_fnd_ok hO hb
              cases hp.symm.trans h1
              exact ⟨ρ, j, _, r, hE, b_ext.rf, hO, rfl, m1, m2.trans hz, hj.1, hx, h2⟩
            · cases h
          · cases h
            obtain ⟨ρ', g1, g2, g3, g4⟩ := b_fresh hE hO hp (m4 _ _ hx)
            exact ⟨ρ', j, _, r, g1, g2, g3, rfl, m1, m2.trans hz, hj.1, hx, g4⟩
        · cases h
      · split at h
        · next J hJ =>
          split at h
          · next hs =>
            cases h
            obtain ⟨j, rfl, hj⟩ := b_st_ok hE hi hJ
            obtain ⟨c1, c2, c3⟩ := b_clamp (b_sub_ok hs hj)
            have hlt : j.toNatClampNeg < r.2.length := by rw [m3]; exact c2
            have hx := List.getElem?_eq_getElem hlt
            exact ⟨ρ, j, _, r, hE, b_ext.rf, hO, rfl, m1, m2.trans hz, c1, hx, _, rfl, b_segU_ok (by rw [c3]; exact hj) (m4 _ _ hx)⟩
          · cases h
        · cases h
    · cases h
  · cases h
end
section
/-! FIELDS; STORES BY TYPES -/
def b_ldF (M : List b_Y) (E : b_E) (O : b_O) (cn j q : Nat) : Option (b_E × b_O × b_V) := match M[q]? with
  | some (.inr t) => bif t.1 == cn then (match t.2[j]? with
    | some (.inl v) => some (E, O, .inl v)
    | some (.inr I) => match b_fnd O q j with
      | some a => match b_st E a with
        | some _ => some (E, O, a)
        | none => none
      | none => some (E ++ [I], ((q, j), .inr (0, E.length, 0, [])) :: O, .inr (0, E.length, 0, []))
    | none => none) else none
  | _ => none
theorem b_ldF_ok {M : List b_Y} {ρ : Nat → Int32} {E E' : b_E} {O O' : b_O} {mem : List e_C} {cn j q : Nat} {a : b_V} (hE : b_ok ρ E) (hM : b_mem M mem) (hO : b_ov E.length ρ O mem) (h : b_ldF M E O cn j q = some (E', O', a)) :
    ∃ (ρ' : Nat → Int32) (v : Value) (o : Nat × List Value), b_ok ρ' E' ∧ b_ext E.length ρ E'.length ρ' ∧ b_ov E'.length ρ' O' mem ∧ mem[q]? = some (.inr o) ∧ o.1 = cn ∧ o.2[j]? = some v ∧ b_rv E'.length ρ' a v := by
  unfold b_ldF at h
  simp only [Bool.cond_eq_ite] at h
  split at h
  · next t ht =>
    obtain ⟨o, m1, m2, m3, m4⟩ := hM.obj ht
    split at h
    · next hc =>
      have hc : t.1 = cn := by simpa using hc
      split at h
      · next v hv =>
        cases h
        have hj : j < o.2.length := by rw [m3]; exact (List.getElem?_eq_some_iff.mp hv).1
        have hx := List.getElem?_eq_getElem hj
        have : o.2[j] = v := m4 j _ _ hv hx
        rw [this] at hx
        exact ⟨ρ, v, o, hE, b_ext.rf, hO, m1, m2.trans hc, hx, rfl⟩
      · next I hI =>
        have hj : j < o.2.length := by rw [m3]; exact (List.getElem?_eq_some_iff.mp hI).1
        have hx := List.getElem?_eq_getElem hj
        obtain ⟨x, ex, hxI⟩ := m4 j _ _ hI hx
        rw [ex] at hx
        have hp : e_pl mem q j = some (.int x) := by
          unfold e_pl
          rw [m1]
          exact hx
        split at h
        · next b hb =>
          split at h
          · cases h
            obtain ⟨v, h1, h2⟩ := b_fnd_ok hO hb
            cases hp.symm.trans h1
            exact ⟨ρ, _, o, hE, b_ext.rf, hO, m1, m2.trans hc, hx, h2⟩
          · cases h
        · cases h
          obtain ⟨ρ', g1, g2, g3, g4⟩ := b_fresh hE hO hp hxI
          exact ⟨ρ', _, o, g1, g2, g3, m1, m2.trans hc, hx, g4⟩
      · cases h
    · cases h
  · cases h
/-- is a protected place among them -/
def b_hit (pr : List (Nat × Nat)) (q : Nat) (J : b_I) : Bool := pr.any (fun p => p.1 == q && J.any (fun s => decide (s.1 ≤ (p.2 : Int)) && decide ((p.2 : Int) ≤ s.2)))
theorem b_hit_ok {pr : List (Nat × Nat)} {q j : Nat} {J : b_I} (h : b_hit pr q J = false) (hj : b_in J (j : Int)) : ∀ p ∈ pr, ¬ (p.1 = q ∧ p.2 = j) := by
  rintro p hp ⟨rfl, rfl⟩
  obtain ⟨s, hs, h1, h2⟩ := hj
  have : b_hit pr p.1 J = true := List.any_eq_true.mpr ⟨p, hp, by
    rw [Bool.and_eq_true]
    exact ⟨by simp, List.any_eq_true.mpr ⟨s, hs, by rw [Bool.and_eq_true, decide_eq_true_eq, decide_eq_true_eq]; exact ⟨h1, h2⟩⟩⟩⟩
  rw [this] at h
  cases h
def b_kn (i v : b_V) (q : Nat) (O : b_O) : b_O := match i with
  | .inl (.int j) => ((q, j.toNatClampNeg), v) :: O
  | _ => O
def b_stA (M : List b_Y) (pr : List (Nat × Nat)) (ro : Nat) (E : b_E) (O : b_O) (z : Bool) (q : Nat) (i v : b_V) : Option b_O := match M[q]?, b_st E i, b_st E v with
  | some (.inl t), some J, some I => bif t.1 == z && (b_sub J [(0, (t.2.1 : Int) - 1)] && (b_segA t.2.2 t.2.1 J I && (Nat.ble ro q && (!b_hit pr q J && (!z || b_sub I [(0, 1)]))))) then some (b_kn i v q (b_kill O q J)) else none
  | _, _, _ => none
theorem b_stA_ok {M : List b_Y} {pr : List (Nat × Nat)} {ro : Nat} {ρ : Nat → Int32} {E : b_E} {O O' : b_O} {mem : List e_C} {z : Bool} {q : Nat} {i v : b_V} {w u : Value} (hE : b_ok ρ E) (hM : b_mem M mem) (hO : b_ov E.length ρ O mem) (hi : b_rv E.length ρ i w) (hv : b_rv E.length ρ v u) (h : b_stA M pr ro E O z q i v = some O') :
    ∃ (j x : Int32) (r : Bool × List Int32), w = .int j ∧ u = .int x ∧ mem[q]? = some (.inl r) ∧ r.1 = z ∧ ¬ j < 0 ∧ j.toNatClampNeg < r.2.length ∧ ro ≤ q ∧ (z = true → e_fit .boolean (.int x) = true) ∧
      b_mem M (mem.set q (.inl (r.1, r.2.set j.toNatClampNeg x))) ∧ b_ov E.length ρ O' (mem.set q (.inl (r.1, r.2.set j.toNatClampNeg x))) ∧ ∀ p ∈ pr, e_pl (mem.set q (.inl (r.1, r.2.set j.toNatClampNeg x))) p.1 p.2 = e_pl mem p.1 p.2 := by
  unfold b_stA at h
  simp only [Bool.cond_eq_ite] at h
  split at h
  · next t J I ht hJ hI =>
    split at h
    · next hc =>
      cases h
      simp only [Bool.and_eq_true, beq_iff_eq, Nat.ble_eq, Bool.not_eq_true'] at hc
      obtain ⟨c1, c2, c3, c4, c5, c6⟩ := hc
      obtain ⟨r, m1, m2, m3, m4⟩ := hM.arr ht
      obtain ⟨j, rfl, hj⟩ := b_st_ok hE hi hJ
      obtain ⟨x, rfl, hx⟩ := b_st_ok hE hv hI
      obtain ⟨d1, d2, d3⟩ := b_clamp (b_sub_ok c2 hj)
      have hjJ : b_in J ((j.toNatClampNeg : Nat) : Int) := by rw [d3]; exact hj
      have hlt : j.toNatClampNeg < r.2.length := by rw [m3]; exact d2
      obtain ⟨s1, s2, s3⟩ := b_sta hM ht m1 (b_segA_ok c3 d2 hjJ hx) hlt
      refine ⟨j, x, r, rfl, rfl, m1, m2.trans c1, d1, hlt, c4, fun hz => ?_, s1, ?_, fun p hp => s3 p.1 p.2 (b_hit_ok c5 hjJ p hp)⟩
      · rw [hz] at c6
        obtain ⟨p, hp, g1, g2⟩ := b_sub_ok (by simpa using c6) hx
        cases List.mem_singleton.mp hp
        dsimp only at g1 g2
        unfold e_fit
        rw [Bool.or_eq_true, decide_eq_true_eq, decide_eq_true_eq]
        rcases (show x.toInt = 0 ∨ x.toInt = 1 by omega) with e | e
        · exact Or.inl (Int32.toInt_inj.mp e)
        · exact Or.inr (Int32.toInt_inj.mp e)
      · have hk := b_ov_kill (J := J) hO hjJ s3
        unfold b_kn
        split
        · next j' =>
          cases hi
          intro e he
          rcases List.mem_cons.mp he with rfl | he
          · exact ⟨.int x, s2, hv⟩
          · exact hk e he
        · exact hk
    · cases h
  · cases h
def b_tyI (ty : FieldType) (K : b_I) : Bool := match ty with
  | .int => true
  | .boolean => b_sub K [(0, 1)]
  | _ => false
theorem b_bool {x : Int32} {K : b_I} (h : b_sub K [(0, 1)] = true) (hx : b_in K x.toInt) : e_fit .boolean (.int x) = true := by
  obtain ⟨p, hp, g1, g2⟩ := b_sub_ok h hx
  cases List.mem_singleton.mp hp
  dsimp only at g1 g2
  unfold e_fit
  rw [Bool.or_eq_true, decide_eq_true_eq, decide_eq_true_eq]
  rcases (show x.toInt = 0 ∨ x.toInt = 1 by omega) with e | e
  · exact Or.inl (Int32.toInt_inj.mp e)
  · exact Or.inr (Int32.toInt_inj.mp e)
theorem b_tyI_ok {ty : FieldType} {x : Int32} {K : b_I} (h : b_tyI ty K = true) (hx : b_in K x.toInt) : e_fit ty (.int x) = true := by
  unfold b_tyI at h
  split at h
  · rfl
  · exact b_bool h hx
  · cases h
def b_stF (M : List b_Y) (pr : List (Nat × Nat)) (ro : Nat) (E : b_E) (O : b_O) (cn j : Nat) (ty : FieldType) (q : Nat) (v : b_V) : Option b_O := match M[q]?, b_st E v with
  | some (.inr t), some K => match t.2[j]? with
    | some (.inr I) => bif t.1 == cn && (b_sub K I && (b_tyI ty K && (Nat.ble ro q && !b_hit pr q [((j : Int), (j : Int))]))) then some (((q, j), v) :: b_kill O q [((j : Int), (j : Int))]) else none
    | _ => none
  | _, _ => none
theorem b_stF_ok {M : List b_Y} {pr : List (Nat × Nat)} {ro : Nat} {ρ : Nat → Int32} {E : b_E} {O O' : b_O} {mem : List e_C} {cn j q : Nat} {ty : FieldType} {v : b_V} {u : Value} (hE : b_ok ρ E) (hM : b_mem M mem) (hO : b_ov E.length ρ O mem) (hv : b_rv E.length ρ v u) (h : b_stF M pr ro E O cn j ty q v = some O') :
    ∃ (x : Int32) (o : Nat × List Value), u = .int x ∧ mem[q]? = some (.inr o) ∧ o.1 = cn ∧ j < o.2.length ∧ ro ≤ q ∧ e_fit ty (.int x) = true ∧
      b_mem M (mem.set q (.inr (o.1, o.2.set j (.int x)))) ∧ b_ov E.length ρ O' (mem.set q (.inr (o.1, o.2.set j (.int x)))) ∧ ∀ p ∈ pr, e_pl (mem.set q (.inr (o.1, o.2.set j (.int x)))) p.1 p.2 = e_pl mem p.1 p.2 := by
  unfold b_stF at h
  simp only [Bool.cond_eq_ite] at h
  split at h
  · next t K ht hK =>
    split at h
    · next I hI =>
      split at h
      · next hc =>
        cases h
        simp only [Bool.and_eq_true, beq_iff_eq, Nat.ble_eq, Bool.not_eq_true'] at hc
        obtain ⟨c1, c2, c3, c4, c5⟩ := hc
        obtain ⟨o, m1, m2, m3, m4⟩ := hM.obj ht
        obtain ⟨x, rfl, hx⟩ := b_st_ok hE hv hK
        have hlt : j < o.2.length := by rw [m3]; exact (List.getElem?_eq_some_iff.mp hI).1
        obtain ⟨s1, s2, s3⟩ := b_stf (v := .int x) hM ht m1 hI ⟨x, rfl, b_sub_ok c2 hx⟩ hlt
        refine ⟨x, o, rfl, m1, m2.trans c1, hlt, c4, b_tyI_ok c3 hx, s1, ?_, fun p hp => s3 p.1 p.2 (b_hit_ok c5 (b_one _) p hp)⟩
        have hk := b_ov_kill (J := [((j : Int), (j : Int))]) hO (b_one _) s3
        intro e he
        rcases List.mem_cons.mp he with rfl | he
        · exact ⟨.int x, s2, hv⟩
        · exact hk e he
      · cases h
    · cases h
  · cases h
end
section
/-! WHAT A COMPARISON LEAVES OF TWO SETS -/
/-- of the first, by the second's least and greatest; by its one number, if it is one -/
def b_wk (c : ClassFile.Cond) (I J : b_I) (t : Bool) : b_I := match J with
  | [p] => bif decide (p.1 = p.2) then b_pcs c p.1 I t else b_wk2 c I [p] t
  | J => b_wk2 c I J t
where b_wk2 (c : ClassFile.Cond) (I J : b_I) (t : Bool) : b_I := match c, t with
  | .lt, true => b_cut b_lo (b_max J b_lo - 1) I
  | .lt, false => b_cut (b_min J b_hi) b_hi I
  | .ge, true => b_cut (b_min J b_hi) b_hi I
  | .ge, false => b_cut b_lo (b_max J b_lo - 1) I
  | .gt, true => b_cut (b_min J b_hi + 1) b_hi I
  | .gt, false => b_cut b_lo (b_max J b_lo) I
  | .le, true => b_cut b_lo (b_max J b_lo) I
  | .le, false => b_cut (b_min J b_hi + 1) b_hi I
  | .eq, true => b_cut (b_min J b_hi) (b_max J b_lo) I
  | .ne, false => b_cut (b_min J b_hi) (b_max J b_lo) I
  | _, _ => I
theorem b_wk2_ok {c : ClassFile.Cond} {x y : Int32} {I J : b_I} {t : Bool} (hx : b_in I x.toInt) (hy : b_in J y.toInt) (ht : e_c2 c x y = t) : b_in (b_wk.b_wk2 c I J t) x.toInt := by
  have r1 := Int32.le_toInt x
  have r2 := Int32.toInt_lt x
  have hl : b_lo ≤ x.toInt := by unfold b_lo; omega
  have hh : x.toInt ≤ b_hi := by unfold b_hi; omega
  have m1 := b_min_ok (d := b_hi) hy
  have m2 := b_max_ok (d := b_lo) hy
  cases c <;> cases t <;> simp only [e_c2, decide_eq_true_eq, decide_eq_false_iff_not, Bool.not_eq_true', Bool.not_eq_false', Int32.lt_iff_toInt_lt, Int32.le_iff_toInt_le, ← Int32.toInt_inj] at ht <;> simp only [b_wk.b_wk2] <;> first | exact hx | exact b_cut_ok hx (by omega) (by omega)
theorem b_wk_ok {c : ClassFile.Cond} {x y : Int32} {I J : b_I} {t : Bool} (hx : b_in I x.toInt) (hy : b_in J y.toInt) (ht : e_c2 c x y = t) : b_in (b_wk c I J t) x.toInt := by
  unfold b_wk
  split
  · next p =>
    simp only [Bool.cond_eq_ite, decide_eq_true_eq]
    split
    · next hp =>
      obtain ⟨q, hq, h1, h2⟩ := hy
      cases List.mem_singleton.mp hq
      have e : p.1 = y.toInt := by omega
      rw [e, ← ht]
      exact b_pcs_ok hx
    · exact b_wk2_ok hx hy ht
  · exact b_wk2_ok hx hy ht
/-- a symbol's set is narrowed -/
def b_nar (E : b_E) (a : b_V) (I : b_I) : b_E := match a with
  | .inr (0, id, off, _) => E.set id (b_shift (-off) I)
  | _ => E
theorem b_nar_len (E : b_E) (a : b_V) (I : b_I) : (b_nar E a I).length = E.length := by
  unfold b_nar
  split
  · simp
  · rfl
theorem b_nar_ok {n : Nat} {ρ : Nat → Int32} {E : b_E} {a : b_V} {x : Int32} {I : b_I} (hE : b_ok ρ E) (ha : b_rv n ρ a (.int x)) (hx : b_in I x.toInt) : b_ok ρ (b_nar E a I) := by
  unfold b_nar
  split
  · next id off z =>
    obtain ⟨-, y, hy, hyx⟩ := ha
    cases hy
    refine b_ok_set hE ?_
    have := b_shift_ok (off := -off) hx
    rw [hyx] at this
    rw [show (ρ id).toInt + off + -off = (ρ id).toInt by omega] at this
    exact this
  · exact hE
def b_fl (c : ClassFile.Cond) : ClassFile.Cond := match c with
  | .lt => .gt
  | .gt => .lt
  | .le => .ge
  | .ge => .le
  | c => c
theorem b_fl_ok (c : ClassFile.Cond) (x y : Int32) : e_c2 (b_fl c) y x = e_c2 c x y := by
  cases c <;> simp only [b_fl, e_c2, eq_comm]
/-- one outcome of a comparison: none, if it can't be -/
def b_way (E : b_E) (c : ClassFile.Cond) (a b : b_V) (I J : b_I) (t : Bool) : Option b_E :=
  match b_wk c I J t, b_wk (b_fl c) J I t with
  | [], _ => none
  | _, [] => none
  | I', J' => some (b_nar (b_nar E a I') b J')
theorem b_way_ok {n : Nat} {ρ : Nat → Int32} {E : b_E} {c : ClassFile.Cond} {a b : b_V} {I J : b_I} {t : Bool} {x y : Int32} (hE : b_ok ρ E) (ha : b_rv n ρ a (.int x)) (hb : b_rv n ρ b (.int y)) (hx : b_in I x.toInt) (hy : b_in J y.toInt) (ht : e_c2 c x y = t) : ∃ E', b_way E c a b I J t = some E' ∧ b_ok ρ E' ∧ E'.length = E.length := by
  have h1 := b_wk_ok hx hy ht
  have h2 := b_wk_ok (c := b_fl c) (t := t) hy hx ((b_fl_ok c x y).trans ht)
  unfold b_way
  split
  · next he => rw [he] at h1; obtain ⟨p, hp, -⟩ := h1; exact absurd hp List.not_mem_nil
  · next he _ => rw [he] at h2; obtain ⟨p, hp, -⟩ := h2; exact absurd hp List.not_mem_nil
  · exact ⟨_, rfl, b_nar_ok (b_nar_ok hE ha h1) hb h2, by rw [b_nar_len, b_nar_len]⟩
end
section
/-! STEPS THAT TOUCH NO CELL, BY SETS -/
abbrev b_H : Type := List (Nat × b_V) × List b_V
section BP
variable {n : Nat} {ρ : Nat → Int32} {E : b_E}
def b_one1 (st : List b_V) (f : b_V → Option b_V) : Option (List b_V) := match st with
  | a :: r => match f a with
    | some c => some (c :: r)
    | none => none
  | _ => none
def b_one2 (st : List b_V) (f : b_V → b_V → Option b_V) : Option (List b_V) := match st with
  | b :: a :: r => match f a b with
    | some c => some (c :: r)
    | none => none
  | _ => none
theorem b_one2_ok {st st2 : List b_V} {st' : List Value} {f : b_V → b_V → Option b_V} {g : Int32 → Int32 → Int32} (hs : a_l2 (b_rv n ρ) st st') (hf : ∀ a b c v w, b_rv n ρ a v → b_rv n ρ b w → f a b = some c → ∃ x y : Int32, v = .int x ∧ w = .int y ∧ b_rv n ρ c (.int (g x y))) (h : b_one2 st f = some st2) {pc : Nat} {lw : List (Nat × Value)} {mem : List e_C} :
    ∃ s2, e_i2 pc lw st' mem g = some (pc, lw, s2, mem) ∧ a_l2 (b_rv n ρ) st2 s2 := by
  unfold b_one2 at h
  split at h
  · next b a r =>
    obtain ⟨w, t, rfl, h1, h2⟩ := a_l2_c hs
    obtain ⟨v, t, rfl, h3, h4⟩ := a_l2_c h2
    split at h
    · next c hc =>
      cases h
      obtain ⟨x, y, rfl, rfl, h5⟩ := hf a b c v w h3 h1 hc
      exact ⟨_, rfl, h5, h4⟩
    · cases h
  · cases h
theorem b_one2z_ok {st st2 : List b_V} {st' : List Value} {f : b_V → b_V → Option b_V} {g : Int32 → Int32 → Int32} (hs : a_l2 (b_rv n ρ) st st') (hf : ∀ a b c v w, b_rv n ρ a v → b_rv n ρ b w → f a b = some c → ∃ x y : Int32, v = .int x ∧ w = .int y ∧ ¬ y = 0 ∧ b_rv n ρ c (.int (g x y))) (h : b_one2 st f = some st2) {pc : Nat} {lw : List (Nat × Value)} {mem : List e_C} :
    ∃ s2, e_i2z pc lw st' mem g = some (pc, lw, s2, mem) ∧ a_l2 (b_rv n ρ) st2 s2 := by
  unfold b_one2 at h
  split at h
  · next b a r =>
    obtain ⟨w, t, rfl, h1, h2⟩ := a_l2_c hs
    obtain ⟨v, t, rfl, h3, h4⟩ := a_l2_c h2
    split at h
    · next c hc =>
      cases h
      obtain ⟨x, y, rfl, rfl, hy, h5⟩ := hf a b c v w h3 h1 hc
      unfold e_i2z
      dsimp only
      rw [decide_eq_false hy]
      exact ⟨_, rfl, h5, h4⟩
    · cases h
  · cases h
/-- an int load: known where it can be but one -/
def b_ilo (E : b_E) (lv : List (Nat × b_V)) (st : List b_V) (i : Nat) : Option (List b_V) := match b_get lv i with
  | some a => match b_nrm E a with
    | some c => some (c :: st)
    | none => none
  | none => none
theorem b_ilo_ok (hE : b_ok ρ E) {lv : List (Nat × b_V)} {lw : List (Nat × Value)} {st st2 : List b_V} {st' : List Value} {i : Nat} (hl : a_l2 (b_rq n ρ) lv lw) (hs : a_l2 (b_rv n ρ) st st') (h : b_ilo E lv st i = some st2) {pc : Nat} {mem : List e_C} : ∃ s2, e_iload pc lw st' mem i = some (pc, lw, s2, mem) ∧ a_l2 (b_rv n ρ) st2 s2 := by
  unfold b_ilo at h
  split at h
  · next a ha =>
    obtain ⟨v, h1, h2⟩ := b_get_ok hl ha
    split at h
    · next c hc =>
      cases h
      obtain ⟨x, rfl, h3⟩ := b_nrm_ok hE h2 hc
      unfold e_iload
      rw [h1]
      exact ⟨_, rfl, h3, hs⟩
    · cases h
  · cases h
def b_alo (lv : List (Nat × b_V)) (st : List b_V) (i : Nat) : Option (List b_V) := match b_get lv i with
  | some (.inl (.ref q)) => some (.inl (.ref q) :: st)
  | _ => none
theorem b_alo_ok {lv : List (Nat × b_V)} {lw : List (Nat × Value)} {st st2 : List b_V} {st' : List Value} {i : Nat} (hl : a_l2 (b_rq n ρ) lv lw) (hs : a_l2 (b_rv n ρ) st st') (h : b_alo lv st i = some st2) {pc : Nat} {mem : List e_C} : ∃ s2, e_aload pc lw st' mem i = some (pc, lw, s2, mem) ∧ a_l2 (b_rv n ρ) st2 s2 := by
  unfold b_alo at h
  split at h
  · next q ha =>
    cases h
    obtain ⟨v, h1, h2⟩ := b_get_ok hl ha
    have h3 : v = .ref q := h2
    subst h3
    unfold e_aload
    rw [h1]
    exact ⟨_, rfl, rfl, hs⟩
  · cases h
def b_isto (E : b_E) (lv : List (Nat × b_V)) (st : List b_V) (nL i : Nat) : Option b_H := match st with
  | a :: r => match b_st E a with
    | some _ => bif Nat.blt i nL then some (b_put1 lv i a, r) else none
    | none => none
  | _ => none
theorem b_isto_ok (hE : b_ok ρ E) {lv lv2 : List (Nat × b_V)} {lw : List (Nat × Value)} {st st2 : List b_V} {st' : List Value} {nL i : Nat} (hl : a_l2 (b_rq n ρ) lv lw) (hs : a_l2 (b_rv n ρ) st st') (h : b_isto E lv st nL i = some (lv2, st2)) {pc : Nat} {mem : List e_C} : ∃ w2 s2, e_istore pc lw st' mem nL i = some (pc, w2, s2, mem) ∧ a_l2 (b_rq n ρ) lv2 w2 ∧ a_l2 (b_rv n ρ) st2 s2 := by
  unfold b_isto at h
  split at h
  · next a r =>
    obtain ⟨v, t, rfl, h1, h2⟩ := a_l2_c hs
    split at h
    · next I hI =>
      obtain ⟨x, rfl, -⟩ := b_st_ok hE h1 hI
      cases hn : Nat.blt i nL with
      | false => rw [hn] at h; cases h
      | true =>
        rw [hn] at h
        cases h
        unfold e_istore
        dsimp only
        rw [hn]
        exact ⟨_, _, rfl, b_put1_ok hl h1, h2⟩
    · cases h
  · cases h
/-- a counter goes on: a symbol and a number stay one -/
def b_inc (E : b_E) (lv : List (Nat × b_V)) (nL i : Nat) (d : Int) : Option (List (Nat × b_V)) := match b_get lv i with
  | some a => match b_addv E a (.inl (.int (Int32.ofInt d))) with
    | some c => bif Nat.blt i nL then some (b_put1 lv i c) else none
    | none => none
  | none => none
theorem b_inc_ok (hE : b_ok ρ E) {lv lv2 : List (Nat × b_V)} {lw : List (Nat × Value)} {st' : List Value} {nL i : Nat} {d : Int} (hl : a_l2 (b_rq n ρ) lv lw) (h : b_inc E lv nL i d = some lv2) {pc : Nat} {mem : List e_C} : ∃ w2, e_iinc pc lw st' mem nL i d = some (pc, w2, st', mem) ∧ a_l2 (b_rq n ρ) lv2 w2 := by
  unfold b_inc at h
  split at h
  · next a ha =>
    obtain ⟨v, h1, h2⟩ := b_get_ok hl ha
    split at h
    · next c hc =>
      obtain ⟨x, y, rfl, hy, h3⟩ := b_addv_ok hE h2 (show b_rv n ρ (.inl (.int (Int32.ofInt d))) (.int (Int32.ofInt d)) from rfl) hc
      cases hy
      cases hn : Nat.blt i nL with
      | false => rw [hn] at h; cases h
      | true =>
        rw [hn] at h
        cases h
        unfold e_iinc
        rw [h1]
        dsimp only
        rw [hn]
        exact ⟨_, rfl, b_put1_ok hl h3⟩
    · cases h
  · cases h
end BP
end
section
/-! LONGS, DUPS, SHIFTS, BY SETS -/
section BQ
variable {n : Nat} {ρ : Nat → Int32} {E : b_E}
def b_isL (a : b_V) : Bool := match a with
  | .inl (.long _) => true
  | .inr (2, _) => true
  | .inr (3, _) => true
  | _ => false
theorem b_isL_ok {a : b_V} {v : Value} (h : b_rv n ρ a v) (hl : b_isL a = true) : ∃ x : Int64, v = .long x := by
  unfold b_isL at hl
  split at hl
  · next x => exact ⟨x, h⟩
  · next z => obtain ⟨u, w, I⟩ := z; obtain ⟨x, h, -⟩ := h; exact ⟨_, h⟩
  · exact h
  · cases hl
def b_anyL : b_V := .inr (3, 0, 0, [])
theorem b_anyL_ok (x : Int64) : b_rv n ρ b_anyL (.long x) := ⟨x, rfl⟩
def b_llo (lv : List (Nat × b_V)) (st : List b_V) (i : Nat) : Option (List b_V) := match b_get lv i with
  | some a => bif b_isL a then some (a :: st) else none
  | none => none
theorem b_llo_ok {lv : List (Nat × b_V)} {lw : List (Nat × Value)} {st st2 : List b_V} {st' : List Value} {i : Nat} (hl : a_l2 (b_rq n ρ) lv lw) (hs : a_l2 (b_rv n ρ) st st') (h : b_llo lv st i = some st2) {pc : Nat} {mem : List e_C} : ∃ s2, e_lload pc lw st' mem i = some (pc, lw, s2, mem) ∧ a_l2 (b_rv n ρ) st2 s2 := by
  unfold b_llo at h
  simp only [Bool.cond_eq_ite] at h
  split at h
  · next a ha =>
    obtain ⟨v, h1, h2⟩ := b_get_ok hl ha
    split at h
    · next hL =>
      cases h
      obtain ⟨x, rfl⟩ := b_isL_ok h2 hL
      unfold e_lload
      rw [h1]
      exact ⟨_, rfl, h2, hs⟩
    · cases h
  · cases h
def b_lsto (lv : List (Nat × b_V)) (st : List b_V) (nL i : Nat) : Option b_H := match st with
  | a :: r => bif b_isL a && Nat.blt (i + 1) nL then some (b_put2 lv i a, r) else none
  | _ => none
theorem b_lsto_ok {lv lv2 : List (Nat × b_V)} {lw : List (Nat × Value)} {st st2 : List b_V} {st' : List Value} {nL i : Nat} (hl : a_l2 (b_rq n ρ) lv lw) (hs : a_l2 (b_rv n ρ) st st') (h : b_lsto lv st nL i = some (lv2, st2)) {pc : Nat} {mem : List e_C} : ∃ w2 s2, e_lstore pc lw st' mem nL i = some (pc, w2, s2, mem) ∧ a_l2 (b_rq n ρ) lv2 w2 ∧ a_l2 (b_rv n ρ) st2 s2 := by
  unfold b_lsto at h
  simp only [Bool.cond_eq_ite, Bool.and_eq_true] at h
  split at h
  · next a r =>
    obtain ⟨v, t, rfl, h1, h2⟩ := a_l2_c hs
    split at h
    · next hc =>
      cases h
      obtain ⟨x, rfl⟩ := b_isL_ok h1 hc.1
      unfold e_lstore
      dsimp only
      rw [hc.2]
      exact ⟨_, _, rfl, b_put2_ok hl h1, h2⟩
    · cases h
  · cases h
def b_asto (lv : List (Nat × b_V)) (st : List b_V) (nL i : Nat) : Option b_H := match st with
  | .inl (.ref q) :: r => bif Nat.blt i nL then some (b_put1 lv i (.inl (.ref q)), r) else none
  | _ => none
theorem b_asto_ok {lv lv2 : List (Nat × b_V)} {lw : List (Nat × Value)} {st st2 : List b_V} {st' : List Value} {nL i : Nat} (hl : a_l2 (b_rq n ρ) lv lw) (hs : a_l2 (b_rv n ρ) st st') (h : b_asto lv st nL i = some (lv2, st2)) {pc : Nat} {mem : List e_C} : ∃ w2 s2, e_astore pc lw st' mem nL i = some (pc, w2, s2, mem) ∧ a_l2 (b_rq n ρ) lv2 w2 ∧ a_l2 (b_rv n ρ) st2 s2 := by
  unfold b_asto at h
  split at h
  · next q r =>
    obtain ⟨v, t, rfl, h1, h2⟩ := a_l2_c hs
    have h3 : v = .ref q := h1
    subst h3
    cases hn : Nat.blt i nL with
    | false => rw [hn] at h; cases h
    | true =>
      rw [hn] at h
      cases h
      unfold e_astore
      dsimp only
      rw [hn]
      exact ⟨_, _, rfl, b_put1_ok hl h1, h2⟩
  · cases h
def b_i2l (E : b_E) (st : List b_V) : Option (List b_V) := match st with
  | .inl (.int x) :: r => some (.inl (.long x.toInt64) :: r)
  | a :: r => match b_st E a with
    | some I => some (.inr (2, 0, 0, I) :: r)
    | none => none
  | _ => none
theorem b_i2l_ok (hE : b_ok ρ E) {st st2 : List b_V} {st' : List Value} (hs : a_l2 (b_rv n ρ) st st') (h : b_i2l E st = some st2) {pc : Nat} {lw : List (Nat × Value)} {mem : List e_C} : ∃ s2, e_i2l pc lw st' mem = some (pc, lw, s2, mem) ∧ a_l2 (b_rv n ρ) st2 s2 := by
  unfold b_i2l at h
  split at h
  · obtain ⟨v, t, rfl, h1, h2⟩ := a_l2_c hs
    cases h1
    cases h
    exact ⟨_, rfl, rfl, h2⟩
  · obtain ⟨v, t, rfl, h1, h2⟩ := a_l2_c hs
    split at h
    · next I hI =>
      cases h
      obtain ⟨x, rfl, hx⟩ := b_st_ok hE h1 hI
      exact ⟨_, rfl, ⟨x, rfl, hx⟩, h2⟩
    · cases h
  · cases h
def b_i1 (E : b_E) (f : Int32 → Int32) (st : List b_V) : Option (List b_V) := match st with
  | .inl (.int x) :: r => some (.inl (.int (f x)) :: r)
  | a :: r => match b_st E a with
    | some _ => some (.inr (1, 0, 0, b_any) :: r)
    | none => none
  | _ => none
theorem b_i1_ok (hE : b_ok ρ E) {f : Int32 → Int32} {st st2 : List b_V} {st' : List Value} (hs : a_l2 (b_rv n ρ) st st') (h : b_i1 E f st = some st2) {pc : Nat} {lw : List (Nat × Value)} {mem : List e_C} : ∃ s2, e_i1 pc lw st' mem f = some (pc, lw, s2, mem) ∧ a_l2 (b_rv n ρ) st2 s2 := by
  unfold b_i1 at h
  split at h
  · obtain ⟨v, t, rfl, h1, h2⟩ := a_l2_c hs
    cases h1
    cases h
    exact ⟨_, rfl, rfl, h2⟩
  · obtain ⟨v, t, rfl, h1, h2⟩ := a_l2_c hs
    split at h
    · next I hI =>
      cases h
      obtain ⟨x, rfl, hx⟩ := b_st_ok hE h1 hI
      exact ⟨_, rfl, ⟨_, rfl, b_any_ok _⟩, h2⟩
    · cases h
  · cases h
def b_l2o (f : Int64 → Int64 → Int64) (st : List b_V) : Option (List b_V) := match st with
  | .inl (.long y) :: .inl (.long x) :: r => some (.inl (.long (f x y)) :: r)
  | b :: a :: r => bif b_isL a && b_isL b then some (b_anyL :: r) else none
  | _ => none
theorem b_l2o_ok {f : Int64 → Int64 → Int64} {st st2 : List b_V} {st' : List Value} (hs : a_l2 (b_rv n ρ) st st') (h : b_l2o f st = some st2) {pc : Nat} {lw : List (Nat × Value)} {mem : List e_C} : ∃ s2, e_l2 pc lw st' mem f = some (pc, lw, s2, mem) ∧ a_l2 (b_rv n ρ) st2 s2 := by
  unfold b_l2o at h
  simp only [Bool.cond_eq_ite, Bool.and_eq_true] at h
  split at h
  · obtain ⟨v, t, rfl, h1, h2⟩ := a_l2_c hs
    obtain ⟨w, t, rfl, h3, h4⟩ := a_l2_c h2
    cases h1
    cases h3
    cases h
    exact ⟨_, rfl, rfl, h4⟩
  · obtain ⟨v, t, rfl, h1, h2⟩ := a_l2_c hs
    obtain ⟨w, t, rfl, h3, h4⟩ := a_l2_c h2
    split at h
    · next hc =>
      cases h
      obtain ⟨x, rfl⟩ := b_isL_ok h3 hc.1
      obtain ⟨y, rfl⟩ := b_isL_ok h1 hc.2
      exact ⟨_, rfl, b_anyL_ok _, h4⟩
    · cases h
  · cases h
def b_dup (st : List b_V) : Option (List b_V) := match st with
  | v :: r => bif b_cat v == 1 then some (v :: v :: r) else none
  | _ => none
theorem b_dup_ok {st st2 : List b_V} {st' : List Value} (hs : a_l2 (b_rv n ρ) st st') (h : b_dup st = some st2) {pc : Nat} {lw : List (Nat × Value)} {mem : List e_C} : ∃ s2, e_dup pc lw st' mem = some (pc, lw, s2, mem) ∧ a_l2 (b_rv n ρ) st2 s2 := by
  unfold b_dup at h
  simp only [Bool.cond_eq_ite] at h
  split at h
  · obtain ⟨v, t, rfl, h1, h2⟩ := a_l2_c hs
    split at h
    · next hc =>
      cases h
      unfold e_dup
      simp only [Bool.cond_eq_ite]
      rw [if_pos (by rw [b_cat_ok h1]; exact hc)]
      exact ⟨_, rfl, h1, h1, h2⟩
    · cases h
  · cases h
def b_pop (st : List b_V) : Option (List b_V) := match st with
  | v :: r => bif b_cat v == 1 then some r else none
  | _ => none
theorem b_pop_ok {st st2 : List b_V} {st' : List Value} (hs : a_l2 (b_rv n ρ) st st') (h : b_pop st = some st2) {pc : Nat} {lw : List (Nat × Value)} {mem : List e_C} : ∃ s2, e_pop pc lw st' mem = some (pc, lw, s2, mem) ∧ a_l2 (b_rv n ρ) st2 s2 := by
  unfold b_pop at h
  simp only [Bool.cond_eq_ite] at h
  split at h
  · obtain ⟨v, t, rfl, h1, h2⟩ := a_l2_c hs
    split at h
    · next hc =>
      cases h
      unfold e_pop
      simp only [Bool.cond_eq_ite]
      rw [if_pos (by rw [b_cat_ok h1]; exact hc)]
      exact ⟨_, rfl, h2⟩
    · cases h
  · cases h
def b_dup2 (st : List b_V) : Option (List b_V) := match st with
  | v :: w :: r => bif b_cat v == 1 && b_cat w == 1 then some (v :: w :: v :: w :: r) else none
  | _ => none
theorem b_dup2_ok {st st2 : List b_V} {st' : List Value} (hs : a_l2 (b_rv n ρ) st st') (h : b_dup2 st = some st2) {pc : Nat} {lw : List (Nat × Value)} {mem : List e_C} : ∃ s2, e_dup2 pc lw st' mem = some (pc, lw, s2, mem) ∧ a_l2 (b_rv n ρ) st2 s2 := by
  unfold b_dup2 at h
  simp only [Bool.cond_eq_ite] at h
  split at h
  · obtain ⟨v, t, rfl, h1, h2⟩ := a_l2_c hs
    obtain ⟨w, t, rfl, h3, h4⟩ := a_l2_c h2
    split at h
    · next hc =>
      cases h
      unfold e_dup2
      simp only [Bool.cond_eq_ite]
      rw [if_pos (by rw [b_cat_ok h1, b_cat_ok h3]; exact hc)]
      exact ⟨_, rfl, h1, h3, h1, h3, h4⟩
    · cases h
  · cases h
/-- 1 shifted by a small number -/
theorem b_shl1 : ∀ k, k < 31 → ((1 : Int32) <<< (nI k &&& 31)).toInt = (2 ^ k : Nat) := by decide +kernel
def b_shlv (E : b_E) (a b : b_V) : Option b_V := match a, b with
  | .inl (.int x), .inl (.int y) => some (.inl (.int (x <<< (y &&& 31))))
  | .inl (.int x), b => match b_st E b with
    | some J => bif decide (x = 1) && b_sub J [(0, 30)] then some (.inr (1, 0, 0, [((2 ^ (b_min J 30).toNat : Nat), (2 ^ (b_max J 0).toNat : Nat))])) else some (.inr (1, 0, 0, b_any))
    | none => none
  | a, b => b_i2v E (fun x y => x <<< (y &&& 31)) (fun _ _ => b_any) a b
theorem b_shlv_ok (hE : b_ok ρ E) {a b c : b_V} {v w : Value} (ha : b_rv n ρ a v) (hb : b_rv n ρ b w) (h : b_shlv E a b = some c) : ∃ x y : Int32, v = .int x ∧ w = .int y ∧ b_rv n ρ c (.int (x <<< (y &&& 31))) := by
  unfold b_shlv at h
  simp only [Bool.cond_eq_ite, Bool.and_eq_true, decide_eq_true_eq] at h
  split at h
  · next x y => cases h; exact ⟨x, y, ha, hb, rfl⟩
  · split at h
    · next J hJ =>
      obtain ⟨y, rfl, hy⟩ := b_st_ok hE hb hJ
      split at h
      · next hc =>
        cases h
        refine ⟨_, y, ha, rfl, _, rfl, ?_⟩
        rw [hc.1]
        obtain ⟨p, hp, g1, g2⟩ := b_sub_ok hc.2 hy
        cases List.mem_singleton.mp hp
        dsimp only at g1 g2
        obtain ⟨k, hk, rfl⟩ := nI_of (x := y) (by rw [Int32.lt_iff_toInt_lt]; simp; omega)
        rw [nI_toInt hk] at g2 hy
        rw [b_shl1 k (by omega)]
        have m1 := b_min_ok (d := 30) hy
        have m2 := b_max_ok (d := 0) hy
        refine ⟨_, List.mem_singleton.mpr rfl, ?_, ?_⟩
        · exact Int.ofNat_le.mpr (Nat.pow_le_pow_right (by omega) (by omega))
        · exact Int.ofNat_le.mpr (Nat.pow_le_pow_right (by omega) (by omega))
      · cases h
        exact ⟨_, y, ha, rfl, _, rfl, b_any_ok _⟩
    · cases h
  · exact b_i2v_ok hE (fun I J x y _ _ => b_any_ok _) ha hb h
end BQ
end
section
/-! ONE STEP BY SETS -/
section BS
variable {ρ : Nat → Int32} {E : b_E}
def b_cmpS (I J : b_I) : b_I := [((bif decide (b_max J (-9223372036854775808) < b_min I 9223372036854775807) then 1 else bif decide (b_max J (-9223372036854775808) ≤ b_min I 9223372036854775807) then 0 else -1), (bif decide (b_max I (-9223372036854775808) < b_min J 9223372036854775807) then -1 else bif decide (b_max I (-9223372036854775808) ≤ b_min J 9223372036854775807) then 0 else 1))]
theorem b_cmpS_ok {I J : b_I} {x y : Int64} (hx : b_in I x.toInt) (hy : b_in J y.toInt) : b_in (b_cmpS I J) (lg_cmp x y).toInt := by
  have m1 := b_min_ok (d := 9223372036854775807) hx
  have m2 := b_max_ok (d := -9223372036854775808) hx
  have m3 := b_min_ok (d := 9223372036854775807) hy
  have m4 := b_max_ok (d := -9223372036854775808) hy
  refine ⟨_, List.mem_singleton.mpr rfl, ?_, ?_⟩ <;> unfold lg_cmp <;> simp only [Bool.cond_eq_ite, decide_eq_true_eq, gt_iff_lt, Int64.lt_iff_toInt_lt, ← Int64.toInt_inj] <;> (repeat' split) <;> first | omega | decide | (exfalso; omega)
def b_lcm (E : b_E) (st : List b_V) : Option (List b_V) := match st with
  | b :: a :: r => match b_lt a, b_lt b with
    | some I, some J => match b_nrm E (.inr (1, 0, 0, b_cmpS I J)) with
      | some c => some (c :: r)
      | none => none
    | _, _ => bif b_isL a && b_isL b then some (.inr (1, 0, 0, [(-1, 1)]) :: r) else none
  | _ => none
theorem b_lcm_ok {n : Nat} (hE : b_ok ρ E) {st st2 : List b_V} {st' : List Value} (hs : a_l2 (b_rv n ρ) st st') (h : b_lcm E st = some st2) {pc : Nat} {lw : List (Nat × Value)} {mem : List e_C} : ∃ s2, e_lcmp pc lw st' mem = some (pc, lw, s2, mem) ∧ a_l2 (b_rv n ρ) st2 s2 := by
  unfold b_lcm at h
  simp only [Bool.cond_eq_ite, Bool.and_eq_true] at h
  split at h
  · next b a r =>
    obtain ⟨w, t, rfl, h1, h2⟩ := a_l2_c hs
    obtain ⟨v, t, rfl, h3, h4⟩ := a_l2_c h2
    split at h
    · next I J hI hJ =>
      obtain ⟨x, rfl, hx⟩ := b_lt_ok h3 hI
      obtain ⟨y, rfl, hy⟩ := b_lt_ok h1 hJ
      split at h
      · next c hc =>
        cases h
        obtain ⟨z, hz, h5⟩ := b_nrm_ok hE (show b_rv n ρ (.inr (1, 0, 0, b_cmpS I J)) (.int (lg_cmp x y)) from ⟨_, rfl, b_cmpS_ok hx hy⟩) hc
        cases hz
        exact ⟨_, rfl, h5, h4⟩
      · cases h
    · split at h
      · next hc =>
        cases h
        obtain ⟨x, rfl⟩ := b_isL_ok h3 hc.1
        obtain ⟨y, rfl⟩ := b_isL_ok h1 hc.2
        refine ⟨_, rfl, ⟨_, rfl, ?_⟩, h4⟩
        refine ⟨_, List.mem_singleton.mpr rfl, ?_, ?_⟩ <;> unfold lg_cmp <;> (repeat' split) <;> decide
      · cases h
  · cases h
abbrev b_G : Type := b_E × b_O × Nat × List (Nat × b_V) × List b_V
def b_u (E : b_E) (O : b_O) (pc : Nat) (lv : List (Nat × b_V)) (x : Option (List b_V)) : Option b_G := match x with
  | some s => some (E, O, pc, lv, s)
  | none => none
def b_w (E : b_E) (O : b_O) (pc : Nat) (x : Option b_H) : Option b_G := match x with
  | some s => some (E, O, pc, s.1, s.2)
  | none => none
/-- what a step must give -/
def b_Ok (M : List b_Y) (pr : List (Nat × Nat)) (ρ : Nat → Int32) (E : b_E) (mem : List e_C) (G : b_G) (x : Option e_F) : Prop := ∃ (ρ' : Nat → Int32) (lw : List (Nat × Value)) (st : List Value) (mem2 : List e_C), x = some (G.2.2.1, lw, st, mem2) ∧ b_ok ρ' G.1 ∧ b_ext E.length ρ G.1.length ρ' ∧ b_mem M mem2 ∧ b_ov G.1.length ρ' G.2.1 mem2 ∧ a_l2 (b_rq G.1.length ρ') G.2.2.2.1 lw ∧ a_l2 (b_rv G.1.length ρ') G.2.2.2.2 st ∧ ∀ p ∈ pr, e_pl mem2 p.1 p.2 = e_pl mem p.1 p.2
theorem b_u_ok {M : List b_Y} {pr : List (Nat × Nat)} {O : b_O} {pc : Nat} {lv : List (Nat × b_V)} {lw : List (Nat × Value)} {mem : List e_C} {x : Option (List b_V)} {y : Option e_F} {G : b_G} (hE : b_ok ρ E) (hM : b_mem M mem) (hO : b_ov E.length ρ O mem) (hl : a_l2 (b_rq E.length ρ) lv lw) (hx : ∀ s, x = some s → ∃ s2, y = some (pc, lw, s2, mem) ∧ a_l2 (b_rv E.length ρ) s s2) (h : b_u E O pc lv x = some G) : b_Ok M pr ρ E mem G y := by
  unfold b_u at h
  split at h
  · next s =>
    cases h
    obtain ⟨s2, h1, h2⟩ := hx s rfl
    exact ⟨ρ, lw, s2, mem, h1, hE, b_ext.rf, hM, hO, hl, h2, fun _ _ => rfl⟩
  · cases h
theorem b_w_ok {M : List b_Y} {pr : List (Nat × Nat)} {O : b_O} {pc : Nat} {mem : List e_C} {x : Option b_H} {y : Option e_F} {G : b_G} (hE : b_ok ρ E) (hM : b_mem M mem) (hO : b_ov E.length ρ O mem) (hx : ∀ s, x = some s → ∃ w2 s2, y = some (pc, w2, s2, mem) ∧ a_l2 (b_rq E.length ρ) s.1 w2 ∧ a_l2 (b_rv E.length ρ) s.2 s2) (h : b_w E O pc x = some G) : b_Ok M pr ρ E mem G y := by
  unfold b_w at h
  split at h
  · next s =>
    cases h
    obtain ⟨w2, s2, h1, h2, h3⟩ := hx s rfl
    exact ⟨ρ, w2, s2, mem, h1, hE, b_ext.rf, hM, hO, h2, h3, fun _ _ => rfl⟩
  · cases h
def b_incH (E : b_E) (lv : List (Nat × b_V)) (st : List b_V) (nL i : Nat) (d : Int) : Option b_H := match b_inc E lv nL i d with
  | some l => some (l, st)
  | none => none
def b_pure (P : e_Pg) (k : Nat) (i : Instr) (E : b_E) (O : b_O) (pc : Nat) (lv : List (Nat × b_V)) (st : List b_V) : Option b_G := match i with
  | .aload n => b_u E O (pc + 2) lv (b_alo lv st n)
  | .aload_n n => b_u E O (pc + 1) lv (b_alo lv st n.val)
  | .astore n => b_w E O (pc + 2) (b_asto lv st (e_mth P k).2.2.1 n)
  | .astore_n n => b_w E O (pc + 1) (b_asto lv st (e_mth P k).2.2.1 n.val)
  | .bipush n => some (E, O, pc + 2, lv, .inl (.int (Int8.ofInt n).toInt32) :: st)
  | .dup => b_u E O (pc + 1) lv (b_dup st)
  | .dup2 => b_u E O (pc + 1) lv (b_dup2 st)
  | .i2b => b_u E O (pc + 1) lv (b_i1 E (fun x => x.toInt8.toInt32) st)
  | .i2l => b_u E O (pc + 1) lv (b_i2l E st)
  | .i2s => b_u E O (pc + 1) lv (b_i1 E (fun x => x.toInt16.toInt32) st)
  | .iadd => b_u E O (pc + 1) lv (b_one2 st (b_addv E))
  | .iand => b_u E O (pc + 1) lv (b_one2 st (b_i2v E (fun x y => x &&& y) b_andS))
  | .iconst n => some (E, O, pc + 1, lv, .inl (.int (Int32.ofInt n)) :: st)
  | .idiv => b_u E O (pc + 1) lv (b_one2 st (b_dvv E (fun x y => x / y) b_div))
  | .iinc n d => b_w E O (pc + 3) (b_incH E lv st (e_mth P k).2.2.1 n d)
  | .iload n => b_u E O (pc + 2) lv (b_ilo E lv st n)
  | .iload_n n => b_u E O (pc + 1) lv (b_ilo E lv st n.val)
  | .imul => b_u E O (pc + 1) lv (b_one2 st (b_mulv E))
  | .ior => b_u E O (pc + 1) lv (b_one2 st (b_i2v E (fun x y => x ||| y) (fun _ _ => b_any)))
  | .irem => b_u E O (pc + 1) lv (b_one2 st (b_dvv E (fun x y => x - x / y * y) b_rem))
  | .ishl => b_u E O (pc + 1) lv (b_one2 st (b_shlv E))
  | .ishr => b_u E O (pc + 1) lv (b_one2 st (b_i2v E (fun x y => x >>> (y &&& 31)) (fun _ _ => b_any)))
  | .istore n => b_w E O (pc + 2) (b_isto E lv st (e_mth P k).2.2.1 n)
  | .istore_n n => b_w E O (pc + 1) (b_isto E lv st (e_mth P k).2.2.1 n.val)
  | .isub => b_u E O (pc + 1) lv (b_one2 st (b_i2v E (fun x y => x - y) b_sbt))
  | .iushr => b_u E O (pc + 1) lv (b_one2 st (b_i2v E (fun x y => (x.toUInt32 >>> (y.toUInt32 &&& Int32.toUInt32 31)).toInt32) (fun _ _ => b_any)))
  | .ixor => b_u E O (pc + 1) lv (b_one2 st (b_i2v E (fun x y => x ^^^ y) (fun _ _ => b_any)))
  | .ladd => b_u E O (pc + 1) lv (b_l2o (fun x y => x + y) st)
  | .lcmp => b_u E O (pc + 1) lv (b_lcm E st)
  | .lconst n => some (E, O, pc + 1, lv, .inl (.long (Int64.ofNat n.val)) :: st)
  | .lload n => b_u E O (pc + 2) lv (b_llo lv st n)
  | .lload_n n => b_u E O (pc + 1) lv (b_llo lv st n.val)
  | .lmul => b_u E O (pc + 1) lv (b_l2o (fun x y => x * y) st)
  | .lstore n => b_w E O (pc + 2) (b_lsto lv st (e_mth P k).2.2.1 n)
  | .lstore_n n => b_w E O (pc + 1) (b_lsto lv st (e_mth P k).2.2.1 n.val)
  | .pop => b_u E O (pc + 1) lv (b_pop st)
  | .sipush n => some (E, O, pc + 3, lv, .inl (.int (Int16.ofInt n).toInt32) :: st)
  | _ => none
theorem b_pure_ok {P : e_Pg} {M : List b_Y} {pr : List (Nat × Nat)} {k : Nat} {i : Instr} {O : b_O} {pc : Nat} {lv : List (Nat × b_V)} {lw : List (Nat × Value)} {st : List b_V} {st' : List Value} {mem : List e_C} {G : b_G} (hE : b_ok ρ E) (hM : b_mem M mem) (hO : b_ov E.length ρ O mem) (hl : a_l2 (b_rq E.length ρ) lv lw) (hs : a_l2 (b_rv E.length ρ) st st') (h : b_pure P k i E O pc lv st = some G) : b_Ok M pr ρ E mem G (e_step P k i pc lw st' mem) := by
  cases i with
  | aload n => exact b_u_ok hE hM hO hl (fun s hx => b_alo_ok hl hs hx) h
  | aload_n n => exact b_u_ok hE hM hO hl (fun s hx => b_alo_ok hl hs hx) h
  | iload n => exact b_u_ok hE hM hO hl (fun s hx => b_ilo_ok hE hl hs hx) h
  | iload_n n => exact b_u_ok hE hM hO hl (fun s hx => b_ilo_ok hE hl hs hx) h
  | lload n => exact b_u_ok hE hM hO hl (fun s hx => b_llo_ok hl hs hx) h
  | lload_n n => exact b_u_ok hE hM hO hl (fun s hx => b_llo_ok hl hs hx) h
  | astore n => exact b_w_ok hE hM hO (fun s hx => b_asto_ok hl hs hx) h
  | astore_n n => exact b_w_ok hE hM hO (fun s hx => b_asto_ok hl hs hx) h
  | istore n => exact b_w_ok hE hM hO (fun s hx => b_isto_ok hE hl hs hx) h
  | istore_n n => exact b_w_ok hE hM hO (fun s hx => b_isto_ok hE hl hs hx) h
  | lstore n => exact b_w_ok hE hM hO (fun s hx => b_lsto_ok hl hs hx) h
  | lstore_n n => exact b_w_ok hE hM hO (fun s hx => b_lsto_ok hl hs hx) h
  | dup  => exact b_u_ok hE hM hO hl (fun s hx => b_dup_ok hs hx) h
  | dup2  => exact b_u_ok hE hM hO hl (fun s hx => b_dup2_ok hs hx) h
  | pop  => exact b_u_ok hE hM hO hl (fun s hx => b_pop_ok hs hx) h
  | i2b  => exact b_u_ok hE hM hO hl (fun s hx => b_i1_ok hE hs hx) h
  | i2s  => exact b_u_ok hE hM hO hl (fun s hx => b_i1_ok hE hs hx) h
  | i2l  => exact b_u_ok hE hM hO hl (fun s hx => b_i2l_ok hE hs hx) h
  | iadd  => exact b_u_ok hE hM hO hl (fun s hx => b_one2_ok (g := fun x y => x + y) hs (fun a b c v w ha hb hc => b_addv_ok hE ha hb hc) hx) h
  | imul  => exact b_u_ok hE hM hO hl (fun s hx => b_one2_ok (g := fun x y => x * y) hs (fun a b c v w ha hb hc => b_mulv_ok hE ha hb hc) hx) h
  | ishl  => exact b_u_ok hE hM hO hl (fun s hx => b_one2_ok (g := fun x y => x <<< (y &&& 31)) hs (fun a b c v w ha hb hc => b_shlv_ok hE ha hb hc) hx) h
  | iand  => exact b_u_ok hE hM hO hl (fun s hx => b_one2_ok (g := fun x y => x &&& y) hs (fun a b c v w ha hb hc => b_i2v_ok hE (f := fun x y => x &&& y) (S := b_andS) (fun I J x y h1 h2 => b_and_ok h1 h2) ha hb hc) hx) h
  | isub  => exact b_u_ok hE hM hO hl (fun s hx => b_one2_ok (g := fun x y => x - y) hs (fun a b c v w ha hb hc => b_i2v_ok hE (f := fun x y => x - y) (S := b_sbt) (fun I J x y h1 h2 => b_sbt_ok h1 h2) ha hb hc) hx) h
  | ior  => exact b_u_ok hE hM hO hl (fun s hx => b_one2_ok (g := fun x y => x ||| y) hs (fun a b c v w ha hb hc => b_i2v_ok hE (f := fun x y => x ||| y) (S := fun _ _ => b_any) (fun I J x y h1 h2 => b_any_ok _) ha hb hc) hx) h
  | ixor  => exact b_u_ok hE hM hO hl (fun s hx => b_one2_ok (g := fun x y => x ^^^ y) hs (fun a b c v w ha hb hc => b_i2v_ok hE (f := fun x y => x ^^^ y) (S := fun _ _ => b_any) (fun I J x y h1 h2 => b_any_ok _) ha hb hc) hx) h
  | ishr  => exact b_u_ok hE hM hO hl (fun s hx => b_one2_ok (g := fun x y => x >>> (y &&& 31)) hs (fun a b c v w ha hb hc => b_i2v_ok hE (f := fun x y => x >>> (y &&& 31)) (S := fun _ _ => b_any) (fun I J x y h1 h2 => b_any_ok _) ha hb hc) hx) h
  | iushr  => exact b_u_ok hE hM hO hl (fun s hx => b_one2_ok (g := fun x y => (x.toUInt32 >>> (y.toUInt32 &&& Int32.toUInt32 31)).toInt32) hs (fun a b c v w ha hb hc => b_i2v_ok hE (f := fun x y => (x.toUInt32 >>> (y.toUInt32 &&& Int32.toUInt32 31)).toInt32) (S := fun _ _ => b_any) (fun I J x y h1 h2 => b_any_ok _) ha hb hc) hx) h
  | idiv  => exact b_u_ok hE hM hO hl (fun s hx => b_one2z_ok (g := fun x y => x / y) hs (fun a b c v w ha hb hc => b_dvv_ok hE (f := fun x y => x / y) (S := b_div) (fun I x y h1 => b_div_ok h1) ha hb hc) hx) h
  | irem  => exact b_u_ok hE hM hO hl (fun s hx => b_one2z_ok (g := fun x y => x - x / y * y) hs (fun a b c v w ha hb hc => b_dvv_ok hE (f := fun x y => x - x / y * y) (S := b_rem) (fun I x y h1 => b_rem_ok h1) ha hb hc) hx) h
  | ladd  => exact b_u_ok hE hM hO hl (fun s hx => b_l2o_ok hs hx) h
  | lmul  => exact b_u_ok hE hM hO hl (fun s hx => b_l2o_ok hs hx) h
  | lcmp  => exact b_u_ok hE hM hO hl (fun s hx => b_lcm_ok hE hs hx) h
  | bipush n =>
    unfold b_pure at h
    cases h
    exact ⟨ρ, lw, _, mem, rfl, hE, b_ext.rf, hM, hO, hl, ⟨rfl, hs⟩, fun _ _ => rfl⟩
  | iconst n =>
    unfold b_pure at h
    cases h
    exact ⟨ρ, lw, _, mem, rfl, hE, b_ext.rf, hM, hO, hl, ⟨rfl, hs⟩, fun _ _ => rfl⟩
  | sipush n =>
    unfold b_pure at h
    cases h
    exact ⟨ρ, lw, _, mem, rfl, hE, b_ext.rf, hM, hO, hl, ⟨rfl, hs⟩, fun _ _ => rfl⟩
  | lconst n =>
    unfold b_pure at h
    cases h
    exact ⟨ρ, lw, _, mem, rfl, hE, b_ext.rf, hM, hO, hl, ⟨rfl, hs⟩, fun _ _ => rfl⟩
  | iinc m d =>
    refine b_w_ok hE hM hO (fun s hx => ?_) h
    unfold b_incH at hx
    split at hx
    · next l hl2 =>
      cases hx
      obtain ⟨w2, h1, h2⟩ := b_inc_ok hE hl hl2
      exact ⟨w2, st', h1, h2, hs⟩
    · cases hx
  | _ => exact absurd (show (none : Option b_G) = some G from h) (by simp)
end BS
end
section
/-! STEPS THAT READ AND WRITE CELLS, BY TYPES -/
section BH
variable {ρ : Nat → Int32} {E : b_E}
def b_ldr (pc : Nat) (lv : List (Nat × b_V)) (r : List b_V) (x : Option (b_E × b_O × b_V)) : Option b_G := match x with
  | some y => some (y.1, y.2.1, pc, lv, y.2.2 :: r)
  | none => none
def b_str (E : b_E) (pc : Nat) (lv : List (Nat × b_V)) (r : List b_V) (x : Option b_O) : Option b_G := match x with
  | some O => some (E, O, pc, lv, r)
  | none => none
def b_hp (P : e_Pg) (M : List b_Y) (pr : List (Nat × Nat)) (k : Nat) (i : Instr) (E : b_E) (O : b_O) (pc : Nat) (lv : List (Nat × b_V)) (st : List b_V) : Option b_G := match i, st with
  | .iaload, j :: .inl (.ref q) :: r => b_ldr (pc + 1) lv r (b_ldA M E O false q j)
  | .baload, j :: .inl (.ref q) :: r => b_ldr (pc + 1) lv r (b_ldA M E O true q j)
  | .iastore, v :: j :: .inl (.ref q) :: r => b_str E (pc + 1) lv r (b_stA M pr (e_ro P) E O false q j v)
  | .bastore, v :: j :: .inl (.ref q) :: r => b_str E (pc + 1) lv r (b_stA M pr (e_ro P) E O true q j v)
  | .getfield n, .inl (.ref q) :: r => match e_fld P k n with
    | some f => b_ldr (pc + 3) lv r (b_ldF M E O f.1 f.2.1 q)
    | none => none
  | .putfield n, v :: .inl (.ref q) :: r => match e_fld P k n with
    | some f => bif f.2.2.2 then none else b_str E (pc + 3) lv r (b_stF M pr (e_ro P) E O f.1 f.2.1 f.2.2.1 q v)
    | none => none
  | _, _ => none
theorem b_ldA_st {P : e_Pg} {M : List b_Y} {pr : List (Nat × Nat)} {O : b_O} {pc q : Nat} {z : Bool} {j : b_V} {lv : List (Nat × b_V)} {lw : List (Nat × Value)} {r : List b_V} {st' : List Value} {mem : List e_C} {G : b_G} (hE : b_ok ρ E) (hM : b_mem M mem) (hO : b_ov E.length ρ O mem) (hl : a_l2 (b_rq E.length ρ) lv lw) (hs : a_l2 (b_rv E.length ρ) (j :: .inl (.ref q) :: r) st') (h : b_ldr pc lv r (b_ldA M E O z q j) = some G) : b_Ok M pr ρ E mem G (e_ald pc lw st' mem z) := by
  obtain ⟨w, t, rfl, h1, h2⟩ := a_l2_c hs
  obtain ⟨u, t, rfl, h3, h4⟩ := a_l2_c h2
  cases h3
  unfold b_ldr at h
  split at h
  · next y hy =>
    cases h
    obtain ⟨ρ', jj, x, a, g1, g2, g3, rfl, g5, g6, g7, g8, g9⟩ := b_ldA_ok hE hM hO h1 (show b_ldA M E O z q j = some (y.1, y.2.1, y.2.2) from hy)
    refine ⟨ρ', lw, .int x :: t, mem, ?_, g1, g2, hM, g3, a_l2_mono (fun a b hab => ⟨hab.1, g2 _ _ hab.2⟩) hl, ⟨g9, a_l2_mono (fun a b hab => g2 _ _ hab) h4⟩, fun _ _ => rfl⟩
    unfold e_ald
    simp only [Bool.cond_eq_ite, g5]
    rw [if_pos (by rw [Bool.and_eq_true, beq_iff_eq, Bool.not_eq_true', decide_eq_false_iff_not]; exact ⟨g6, g7⟩), g8]
  · cases h
theorem b_stA_st {P : e_Pg} {M : List b_Y} {pr : List (Nat × Nat)} {O : b_O} {pc q ro : Nat} {z : Bool} {j v : b_V} {lv : List (Nat × b_V)} {lw : List (Nat × Value)} {r : List b_V} {st' : List Value} {mem : List e_C} {G : b_G} (hE : b_ok ρ E) (hM : b_mem M mem) (hO : b_ov E.length ρ O mem) (hl : a_l2 (b_rq E.length ρ) lv lw) (hs : a_l2 (b_rv E.length ρ) (v :: j :: .inl (.ref q) :: r) st') (h : b_str E pc lv r (b_stA M pr ro E O z q j v) = some G) : b_Ok M pr ρ E mem G (e_ast pc lw st' mem ro z) := by
  obtain ⟨w, t, rfl, h1, h2⟩ := a_l2_c hs
  obtain ⟨u, t, rfl, h3, h4⟩ := a_l2_c h2
  obtain ⟨s, t, rfl, h5, h6⟩ := a_l2_c h4
  cases h5
  unfold b_str at h
  split at h
  · next O' hO' =>
    cases h
    obtain ⟨jj, x, a, rfl, rfl, g1, g2, g3, g4, g5, g6, g7, g8, g9⟩ := b_stA_ok hE hM hO h3 h1 hO'
    refine ⟨ρ, lw, t, _, ?_, hE, b_ext.rf, g7, g8, hl, h6, g9⟩
    unfold e_ast
    simp only [Bool.cond_eq_ite, g1]
    rw [if_pos (by
      simp only [Bool.and_eq_true, beq_iff_eq, Bool.not_eq_true', decide_eq_false_iff_not, Nat.blt_eq, Nat.ble_eq]
      refine ⟨g2, g3, g4, g5, ?_⟩
      cases z with
      | false => rfl
      | true => exact g6 rfl)]
  · cases h
theorem b_ldF_st {M : List b_Y} {pr : List (Nat × Nat)} {O : b_O} {pc q : Nat} {f : Nat × Nat × FieldType × Bool} {lv : List (Nat × b_V)} {lw : List (Nat × Value)} {r : List b_V} {st' : List Value} {mem : List e_C} {G : b_G} (hE : b_ok ρ E) (hM : b_mem M mem) (hO : b_ov E.length ρ O mem) (hl : a_l2 (b_rq E.length ρ) lv lw) (hs : a_l2 (b_rv E.length ρ) (.inl (.ref q) :: r) st') (h : b_ldr pc lv r (b_ldF M E O f.1 f.2.1 q) = some G) : b_Ok M pr ρ E mem G (e_getf pc lw st' mem (some f)) := by
  obtain ⟨u, t, rfl, h3, h4⟩ := a_l2_c hs
  cases h3
  unfold b_ldr at h
  split at h
  · next y hy =>
    cases h
    obtain ⟨ρ', v, o, g1, g2, g3, g4, g5, g6, g7⟩ := b_ldF_ok hE hM hO (show b_ldF M E O f.1 f.2.1 q = some (y.1, y.2.1, y.2.2) from hy)
    refine ⟨ρ', lw, v :: t, mem, ?_, g1, g2, hM, g3, a_l2_mono (fun a b hab => ⟨hab.1, g2 _ _ hab.2⟩) hl, ⟨g7, a_l2_mono (fun a b hab => g2 _ _ hab) h4⟩, fun _ _ => rfl⟩
    unfold e_getf
    simp only [Bool.cond_eq_ite, g4]
    rw [if_pos (by rw [beq_iff_eq]; exact g5), g6]
  · cases h
theorem b_stF_st {M : List b_Y} {pr : List (Nat × Nat)} {O : b_O} {pc q ro : Nat} {f : Nat × Nat × FieldType × Bool} {v : b_V} {lv : List (Nat × b_V)} {lw : List (Nat × Value)} {r : List b_V} {st' : List Value} {mem : List e_C} {G : b_G} (hE : b_ok ρ E) (hM : b_mem M mem) (hO : b_ov E.length ρ O mem) (hl : a_l2 (b_rq E.length ρ) lv lw) (hs : a_l2 (b_rv E.length ρ) (v :: .inl (.ref q) :: r) st') (hf : f.2.2.2 = false) (h : b_str E pc lv r (b_stF M pr ro E O f.1 f.2.1 f.2.2.1 q v) = some G) : b_Ok M pr ρ E mem G (e_putf pc lw st' mem ro (some f)) := by
  obtain ⟨w, t, rfl, h1, h2⟩ := a_l2_c hs
  obtain ⟨u, t, rfl, h3, h4⟩ := a_l2_c h2
  cases h3
  unfold b_str at h
  split at h
  · next O' hO' =>
    cases h
    obtain ⟨x, o, rfl, g1, g2, g3, g4, g5, g6, g7, g8⟩ := b_stF_ok hE hM hO h1 hO'
    refine ⟨ρ, lw, t, _, ?_, hE, b_ext.rf, g6, g7, hl, h4, g8⟩
    unfold e_putf
    simp only [Bool.cond_eq_ite, g1]
    rw [if_pos (by
      simp only [Bool.and_eq_true, beq_iff_eq, Bool.not_eq_true', Nat.blt_eq, Nat.ble_eq]
      exact ⟨g2, g3, g5, hf, g4⟩)]
  · cases h
theorem b_hp_ok {P : e_Pg} {M : List b_Y} {pr : List (Nat × Nat)} {k : Nat} {i : Instr} {O : b_O} {pc : Nat} {lv : List (Nat × b_V)} {lw : List (Nat × Value)} {st : List b_V} {st' : List Value} {mem : List e_C} {G : b_G} (hE : b_ok ρ E) (hM : b_mem M mem) (hO : b_ov E.length ρ O mem) (hl : a_l2 (b_rq E.length ρ) lv lw) (hs : a_l2 (b_rv E.length ρ) st st') (h : b_hp P M pr k i E O pc lv st = some G) : b_Ok M pr ρ E mem G (e_step P k i pc lw st' mem) := by
  unfold b_hp at h
  split at h
  · exact b_ldA_st (P := P) hE hM hO hl hs h
  · exact b_ldA_st (P := P) hE hM hO hl hs h
  · exact b_stA_st (P := P) hE hM hO hl hs h
  · exact b_stA_st (P := P) hE hM hO hl hs h
  · split at h
    · next f hf =>
      unfold e_step
      dsimp only
      rw [hf]
      exact b_ldF_st hE hM hO hl hs h
    · cases h
  · split at h
    · next f hf =>
      simp only [Bool.cond_eq_ite] at h
      split at h
      · cases h
      · next hb =>
        unfold e_step
        dsimp only
        rw [hf]
        exact b_stF_st hE hM hO hl hs (by simpa using hb) h
    · cases h
  · cases h
end BH
end
section
/-! THE WAYS OF A BRANCH, BY SETS -/
section BW
variable {n : Nat} {ρ : Nat → Int32} {E : b_E}
def b_iff (E : b_E) (c : ClassFile.Cond) (a b : b_V) : Option (List (b_E × Bool)) := match b_st E a, b_st E b with
  | some I, some J => some ((b_way E c a b I J true).toList.map (fun e => (e, true)) ++ (b_way E c a b I J false).toList.map (fun e => (e, false)))
  | _, _ => none
theorem b_iff_ok (hE : b_ok ρ E) {c : ClassFile.Cond} {a b : b_V} {v w : Value} {l : List (b_E × Bool)} (ha : b_rv n ρ a v) (hb : b_rv n ρ b w) (h : b_iff E c a b = some l) : ∃ x y : Int32, v = .int x ∧ w = .int y ∧ ∃ q ∈ l, b_ok ρ q.1 ∧ q.1.length = E.length ∧ e_c2 c x y = q.2 := by
  unfold b_iff at h
  split at h
  · next I J hI hJ =>
    cases h
    obtain ⟨x, rfl, hx⟩ := b_st_ok hE ha hI
    obtain ⟨y, rfl, hy⟩ := b_st_ok hE hb hJ
    refine ⟨x, y, rfl, rfl, ?_⟩
    cases ht : e_c2 c x y with
    | true =>
      obtain ⟨E', h1, h2, h3⟩ := b_way_ok hE ha hb hx hy ht
      exact ⟨(E', true), List.mem_append_left _ (by rw [h1]; simp), h2, h3, rfl⟩
    | false =>
      obtain ⟨E', h1, h2, h3⟩ := b_way_ok hE ha hb hx hy ht
      exact ⟨(E', false), List.mem_append_right _ (by rw [h1]; simp), h2, h3, rfl⟩
  · cases h
abbrev b_Fr : Type := Nat × Nat × List (Nat × b_V) × List b_V
abbrev b_S : Type := b_E × b_O × b_Fr × List b_Fr
def b_rf (n : Nat) (ρ : Nat → Int32) (f : b_Fr) (g : e_Fr) : Prop := f.1 = g.1 ∧ f.2.1 = g.2.1 ∧ a_l2 (b_rq n ρ) f.2.2.1 g.2.2.1 ∧ a_l2 (b_rv n ρ) f.2.2.2 g.2.2.2
theorem b_rf.ext {n n' : Nat} {ρ ρ' : Nat → Int32} (h : b_ext n ρ n' ρ') {f : b_Fr} {g : e_Fr} (hf : b_rf n ρ f g) : b_rf n' ρ' f g := ⟨hf.1, hf.2.1, a_l2_mono (fun a b hab => ⟨hab.1, h _ _ hab.2⟩) hf.2.2.1, a_l2_mono (fun a b hab => h _ _ hab) hf.2.2.2⟩
/-- a state by sets, and what it is of; mem0: the cells at the beginning, whose protected places stay -/
def b_RS (M : List b_Y) (pr : List (Nat × Nat)) (mem0 : List e_C) (ρ : Nat → Int32) (S : b_S) (C : e_Cf) : Prop := b_ok ρ S.1 ∧ b_mem M C.1 ∧ b_ov S.1.length ρ S.2.1 C.1 ∧ b_rf S.1.length ρ S.2.2.1 C.2.1 ∧ a_l2 (b_rf S.1.length ρ) S.2.2.2 C.2.2 ∧ ∀ p ∈ pr, e_pl C.1 p.1 p.2 = e_pl mem0 p.1 p.2
/-- a step of b_Ok goes on to a state -/
theorem b_Ok.on {M : List b_Y} {pr : List (Nat × Nat)} {mem0 mem : List e_C} {G : b_G} {k : Nat} {x : Option e_F} {gs : List b_Fr} {gs' : List e_Fr} (h : b_Ok M pr ρ E mem G x) (hg : a_l2 (b_rf E.length ρ) gs gs') (hp : ∀ p ∈ pr, e_pl mem p.1 p.2 = e_pl mem0 p.1 p.2) : ∃ (ρ' : Nat → Int32) (C : e_Cf), e_nxg k gs' x = some C ∧ b_RS M pr mem0 ρ' (G.1, G.2.1, (k, G.2.2.1, G.2.2.2.1, G.2.2.2.2), gs) C := by
  obtain ⟨ρ', lw, st, mem2, rfl, h1, h2, h3, h4, h5, h6, h7⟩ := h
  exact ⟨ρ', _, rfl, h1, h3, h4, ⟨rfl, rfl, h5, h6⟩, a_l2_mono (fun a b hab => hab.ext h2) hg, fun p hp' => (h7 p hp').trans (hp p hp')⟩
end BW
end
section
/-! CALLS THAT ARE GONE THROUGH, RETURNS, BY SETS -/
section BC
variable {n : Nat} {ρ : Nat → Int32} {E : b_E}
def b_low (st : List b_V) : Bool := Nat.ble (st.map b_cat).sum 8
def b_room (P : e_Pg) (k j : Nat) (vs : List b_V) : Bool := Nat.ble (vs.map b_cat).sum (e_mth P j).2.2.1 && (Nat.ble ((e_rmo P j).1 + 1) (e_rmo P k).1 && Nat.ble (8 + ((e_mth P j).2.2.1 + 11) + (e_rmo P j).2.1) (e_rmo P k).2.1)
theorem b_low_ok {st : List b_V} {st' : List Value} (hs : a_l2 (b_rv n ρ) st st') (h : b_low st = true) : e_low st' = true := by
  unfold e_low
  rw [b_cats_ok hs]
  exact h
theorem b_room_ok {P : e_Pg} {k j : Nat} {as : List b_V} {vs : List Value} (hs : a_l2 (b_rv n ρ) as vs) (h : b_room P k j as = true) : e_room P k j vs = true := by
  unfold e_room
  rw [b_cats_ok hs]
  exact h
/-- a call of an object's method: callee's frame, caller's frame -/
def b_nxi (P : e_Pg) (M : List b_Y) (k pc : Nat) (lv : List (Nat × b_V)) (st : List b_V) (sp : Bool) (i : Nat) : Option (b_Fr × b_Fr) := match e_cal P k i with
  | none => none
  | some f => match st.drop f.2.1 with
    | .inl (.ref q) :: rest => match M[q]? with
      | some (.inr t) => bif !(f.1 == 0) && (t.1 == f.2.2.1 && (!(f.2.2.1 == 99) && (b_low rest && (b_room P k f.1 (.inl (.ref q) :: (st.take f.2.1).reverse) && (sp == (e_rmo P f.1).2.2))))) then some ((f.1, 0, b_args 0 (.inl (.ref q) :: (st.take f.2.1).reverse), []), (k, pc + 3, lv, rest)) else none
      | _ => none
    | _ => none
theorem b_nxi_ok {P : e_Pg} {M : List b_Y} {k pc i : Nat} {sp : Bool} {lv : List (Nat × b_V)} {lw : List (Nat × Value)} {st : List b_V} {st' : List Value} {mem : List e_C} {gs' : List e_Fr} {F : b_Fr × b_Fr} (hM : b_mem M mem) (hl : a_l2 (b_rq n ρ) lv lw) (hs : a_l2 (b_rv n ρ) st st') (h : b_nxi P M k pc lv st sp i = some F) : ∃ f g : e_Fr, e_nxi P k pc lw st' mem gs' sp i = some (mem, f, g :: gs') ∧ b_rf n ρ F.1 f ∧ b_rf n ρ F.2 g := by
  unfold b_nxi at h
  simp only [Bool.cond_eq_ite] at h
  split at h
  · cases h
  · next f hf =>
    split at h
    · next q rest hq =>
      have hd := a_l2_drop f.2.1 hs
      rw [hq] at hd
      obtain ⟨v, t, ht, h1, h2⟩ := a_l2_c hd
      cases h1
      split at h
      · next ty hty =>
        obtain ⟨o, m1, m2, -⟩ := hM.obj hty
        split at h
        · next hc =>
          cases h
          simp only [Bool.and_eq_true, Bool.not_eq_true'] at hc
          obtain ⟨c0, c1, c2, c3, c4, c5⟩ := hc
          have hargs : a_l2 (b_rv n ρ) (.inl (.ref q) :: (st.take f.2.1).reverse) (.ref q :: (st'.take f.2.1).reverse) := ⟨rfl, a_l2_rev (a_l2_take f.2.1 hs)⟩
          unfold e_nxi
          simp only [Bool.cond_eq_ite, hf, ht]
          rw [if_neg (by rw [c0]; decide)]
          simp only [m1]
          rw [if_pos (by simp only [Bool.and_eq_true, Bool.not_eq_true']; exact ⟨by rw [m2]; exact c1, c2, b_low_ok h2 c3, b_room_ok hargs c4, c5⟩)]
          exact ⟨_, _, rfl, ⟨rfl, rfl, b_args_ok 0 hargs, trivial⟩, ⟨rfl, rfl, hl, h2⟩⟩
        · cases h
      · cases h
    · cases h
def b_nxs (P : e_Pg) (k pc : Nat) (lv : List (Nat × b_V)) (st : List b_V) (i : Nat) : Option (b_Fr × b_Fr) := match e_cal P k i with
  | none => none
  | some f => bif !(f.1 == 0) && (Nat.ble f.2.1 st.length && (b_low (st.drop f.2.1) && (b_room P k f.1 (st.take f.2.1).reverse && f.2.2.1 == 99))) then some ((f.1, 0, b_args 0 (st.take f.2.1).reverse, []), (k, pc + 3, lv, st.drop f.2.1)) else none
theorem b_nxs_ok {P : e_Pg} {k pc i : Nat} {lv : List (Nat × b_V)} {lw : List (Nat × Value)} {st : List b_V} {st' : List Value} {mem : List e_C} {gs' : List e_Fr} {F : b_Fr × b_Fr} (hl : a_l2 (b_rq n ρ) lv lw) (hs : a_l2 (b_rv n ρ) st st') (h : b_nxs P k pc lv st i = some F) : ∃ f g : e_Fr, e_nxs P k pc lw st' mem gs' i = some (mem, f, g :: gs') ∧ b_rf n ρ F.1 f ∧ b_rf n ρ F.2 g := by
  unfold b_nxs at h
  simp only [Bool.cond_eq_ite] at h
  split at h
  · cases h
  · next f hf =>
    split at h
    · next hc =>
      cases h
      simp only [Bool.and_eq_true, Bool.not_eq_true'] at hc
      obtain ⟨c0, c1, c2, c3, c4⟩ := hc
      have hargs := a_l2_rev (a_l2_take f.2.1 hs)
      unfold e_nxs
      simp only [Bool.cond_eq_ite, hf]
      rw [if_neg (by rw [c0]; decide), if_pos (by simp only [Bool.and_eq_true]; exact ⟨by rw [a_l2_len hs]; exact c1, b_low_ok (a_l2_drop f.2.1 hs) c2, b_room_ok hargs c3, c4⟩)]
      exact ⟨_, _, rfl, ⟨rfl, rfl, b_args_ok 0 hargs, trivial⟩, ⟨rfl, rfl, hl, a_l2_drop f.2.1 hs⟩⟩
    · cases h
def b_ret (E : b_E) (ty : Option FieldType) (i : Instr) (st : List b_V) : Option (Option b_V) := match i, ty, st with
  | .ireturn, some .int, [a] => bif (b_st E a).isSome then some (some a) else none
  | .ireturn, some .boolean, [a] => match b_st E a with
    | some K => bif b_sub K [(0, 1)] then some (some a) else none
    | none => none
  | .lreturn, some .long, [a] => bif b_isL a then some (some a) else none
  | .areturn, some (.object _), [.inl (.ref x)] => some (some (.inl (.ref x)))
  | .return_, none, [] => some none
  | _, _, _ => none
theorem b_ret_ok (hE : b_ok ρ E) {ty : Option FieldType} {i : Instr} {st : List b_V} {st' : List Value} {r : Option b_V} (hs : a_l2 (b_rv n ρ) st st') (h : b_ret E ty i st = some r) : ∃ r' : Option Value, e_ret ty i st' = some r' ∧ a_l2 (b_rv n ρ) r.toList r'.toList := by
  unfold b_ret at h
  simp only [Bool.cond_eq_ite] at h
  split at h
  · next a =>
    obtain ⟨v, t, rfl, h1, h2⟩ := a_l2_c hs
    cases a_l2_n h2
    split at h
    · next hi =>
      cases h
      obtain ⟨p, hp⟩ := Option.isSome_iff_exists.mp hi
      obtain ⟨x, rfl, -⟩ := b_st_ok hE h1 hp
      exact ⟨_, rfl, h1, trivial⟩
    · cases h
  · next a =>
    obtain ⟨v, t, rfl, h1, h2⟩ := a_l2_c hs
    cases a_l2_n h2
    split at h
    · next K hK =>
      split at h
      · next hb =>
        cases h
        obtain ⟨x, rfl, hx⟩ := b_st_ok hE h1 hK
        refine ⟨some (.int x), ?_, h1, trivial⟩
        unfold e_ret
        simp only [b_bool hb hx, cond_true]
      · cases h
    · cases h
  · next a =>
    obtain ⟨v, t, rfl, h1, h2⟩ := a_l2_c hs
    cases a_l2_n h2
    split at h
    · next hi =>
      cases h
      obtain ⟨x, rfl⟩ := b_isL_ok h1 hi
      exact ⟨_, rfl, h1, trivial⟩
    · cases h
  · obtain ⟨v, t, rfl, h1, h2⟩ := a_l2_c hs
    cases a_l2_n h2
    cases h1
    cases h
    exact ⟨_, rfl, rfl, trivial⟩
  · cases a_l2_n hs
    cases h
    exact ⟨_, rfl, trivial⟩
  · cases h
end BC
end
section
/-! THE NEXT STATES BY SETS (no return, no switch yet) -/
section BN
variable {ρ : Nat → Int32} {E : b_E}
def b_gon (k : Nat) (gs : List b_Fr) (x : Option b_G) : Option (List b_S) := match x with
  | some G => some [(G.1, G.2.1, (k, G.2.2.1, G.2.2.2.1, G.2.2.2.2), gs)]
  | none => none
def b_clg (E : b_E) (O : b_O) (gs : List b_Fr) (x : Option (b_Fr × b_Fr)) : Option (List b_S) := match x with
  | some F => some [(E, O, F.1, F.2 :: gs)]
  | none => none
def b_ifs (O : b_O) (k pc : Nat) (o : Int) (lv : List (Nat × b_V)) (r : List b_V) (gs : List b_Fr) (x : Option (List (b_E × Bool))) : Option (List b_S) := match x, e_tgt pc o with
  | some l, some t => some (l.map (fun q => (q.1, O, (k, (bif q.2 then t else pc + 3), lv, r), gs)))
  | _, _ => none
theorem b_ifs_ok {M : List b_Y} {pr : List (Nat × Nat)} {mem0 mem : List e_C} {O : b_O} {k pc : Nat} {o : Int} {lv : List (Nat × b_V)} {lw : List (Nat × Value)} {r : List b_V} {r' : List Value} {gs : List b_Fr} {gs' : List e_Fr} {x : Option (List (b_E × Bool))} {b : Bool} {L : List b_S} (hM : b_mem M mem) (hO : b_ov E.length ρ O mem) (hl : a_l2 (b_rq E.length ρ) lv lw) (hs : a_l2 (b_rv E.length ρ) r r') (hg : a_l2 (b_rf E.length ρ) gs gs') (hp : ∀ p ∈ pr, e_pl mem p.1 p.2 = e_pl mem0 p.1 p.2)
    (hx : ∀ l, x = some l → ∃ q ∈ l, b_ok ρ q.1 ∧ q.1.length = E.length ∧ b = q.2) (h : b_ifs O k pc o lv r gs x = some L) : ∃ C : e_Cf, e_nxg k gs' (e_if b pc o lw r' mem) = some C ∧ ∃ S ∈ L, b_RS M pr mem0 ρ S C := by
  unfold b_ifs at h
  split at h
  · next l t ht =>
    cases h
    obtain ⟨q, hq, h1, h2, rfl⟩ := hx l rfl
    unfold e_if
    rw [ht]
    rw [← h2] at hO hl hs hg
    cases hq2 : q.2 with
    | true => exact ⟨_, rfl, _, List.mem_map.mpr ⟨q, hq, rfl⟩, h1, hM, hO, ⟨rfl, by rw [hq2]; rfl, hl, hs⟩, hg, hp⟩
    | false => exact ⟨_, rfl, _, List.mem_map.mpr ⟨q, hq, rfl⟩, h1, hM, hO, ⟨rfl, by rw [hq2]; rfl, hl, hs⟩, hg, hp⟩
  · cases h
theorem b_gon_ok {M : List b_Y} {pr : List (Nat × Nat)} {mem0 mem : List e_C} {k : Nat} {gs : List b_Fr} {gs' : List e_Fr} {x : Option b_G} {y : Option e_F} {L : List b_S} (hg : a_l2 (b_rf E.length ρ) gs gs') (hp : ∀ p ∈ pr, e_pl mem p.1 p.2 = e_pl mem0 p.1 p.2) (hx : ∀ G, x = some G → b_Ok M pr ρ E mem G y) (h : b_gon k gs x = some L) : ∃ C : e_Cf, e_nxg k gs' y = some C ∧ ∃ S ∈ L, ∃ ρ', b_RS M pr mem0 ρ' S C := by
  unfold b_gon at h
  split at h
  · next G =>
    cases h
    obtain ⟨ρ', C, h1, h2⟩ := (hx G rfl).on (k := k) hg hp
    exact ⟨C, h1, _, List.mem_singleton.mpr rfl, ρ', h2⟩
  · cases h
end BN
end
