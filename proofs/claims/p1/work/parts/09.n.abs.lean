/-! A MACHINE OF PICTURES: values known, or one of the script's ints, or an int between two bounds; all ways of a branch that can be gone -/
abbrev a_V : Type := Value ⊕ (Nat × Nat × Int × Int)
abbrev a_C : Type := (Bool × List a_V) ⊕ (Nat × List a_V)
abbrev a_E : Type := List (Int × Int)
def a_rv (ρ : Nat → Int32) (a : a_V) (v : Value) : Prop := match a with
  | .inl w => v = w
  | .inr (0, id, _) => v = .int (ρ id)
  | .inr (1, id, _) => v = .long (ρ id).toInt64
  | .inr (2, _, lo, hi) => ∃ x : Int32, v = .int x ∧ lo ≤ x.toInt ∧ x.toInt ≤ hi
  | .inr (3, _, lo, hi) => ∃ x : Int32, v = .long x.toInt64 ∧ lo ≤ x.toInt ∧ x.toInt ≤ hi
  | _ => False
def a_iv (E : a_E) (a : a_V) : Option (Int × Int) := match a with
  | .inl (.int x) => some (x.toInt, x.toInt)
  | .inr (0, id, _) => E[id]?
  | .inr (2, _, lo, hi) => some (lo, hi)
  | _ => none
def a_lg (E : a_E) (a : a_V) : Option (Int × Int) := match a with
  | .inl (.long x) => some (x.toInt, x.toInt)
  | .inr (1, id, _) => E[id]?
  | .inr (3, _, lo, hi) => some (lo, hi)
  | _ => none
def a_cat (a : a_V) : Nat := match a with
  | .inl v => v.category
  | .inr (1, _) => 2
  | .inr (3, _) => 2
  | _ => 1
def a_full : a_V := .inr (2, 0, -2147483648, 2147483647)
/-- an int that can only be one is known -/
def a_nm (E : a_E) (a : a_V) : Option a_V := match a_iv E a with
  | some p => bif decide (p.1 = p.2) then some (.inl (.int (Int32.ofInt p.1))) else some a
  | none => none
def a_get : List (Nat × a_V) → Nat → Option a_V
  | [], _ => none
  | q :: r, i => bif q.1 == i then some q.2 else a_get r i
def a_put1 (lv : List (Nat × a_V)) (i : Nat) (v : a_V) : List (Nat × a_V) := (i, v) :: lv.filter (fun q => !(q.1 == i) && !(q.1 + 1 == i && a_cat q.2 == 2))
def a_put2 (lv : List (Nat × a_V)) (i : Nat) (v : a_V) : List (Nat × a_V) := (i, v) :: lv.filter (fun q => !(q.1 == i) && (!(q.1 == i + 1) && !(q.1 + 1 == i && a_cat q.2 == 2)))
abbrev a_F : Type := Nat × List (Nat × a_V) × List a_V × List a_C
section AOPS
variable (E : a_E) (pc : Nat) (lv : List (Nat × a_V)) (st : List a_V) (mem : List a_C)
def a_psh (x : Option a_V) : Option a_F := match x with
  | some a => some (pc, lv, a :: st, mem)
  | none => none
def a_iload (i : Nat) : Option a_F := match a_get lv i with
  | some a => a_psh pc lv st mem (a_nm E a)
  | none => none
def a_lload (i : Nat) : Option a_F := match a_get lv i with
  | some a => match a_lg E a with
    | some _ => some (pc, lv, a :: st, mem)
    | none => none
  | none => none
def a_aload (i : Nat) : Option a_F := match a_get lv i with
  | some (.inl (.ref q)) => some (pc, lv, .inl (.ref q) :: st, mem)
  | _ => none
def a_istore (nL i : Nat) : Option a_F := match st with
  | a :: r => match a_iv E a with
    | some _ => bif Nat.blt i nL then some (pc, a_put1 lv i a, r, mem) else none
    | none => none
  | _ => none
def a_lstore (nL i : Nat) : Option a_F := match st with
  | a :: r => match a_lg E a with
    | some _ => bif Nat.blt (i + 1) nL then some (pc, a_put2 lv i a, r, mem) else none
    | none => none
  | _ => none
def a_astore (nL i : Nat) : Option a_F := match st with
  | .inl (.ref q) :: r => bif Nat.blt i nL then some (pc, a_put1 lv i (.inl (.ref q)), r, mem) else none
  | _ => none
def a_iinc (nL i : Nat) (n : Int) : Option a_F := match a_get lv i with
  | some (.inl (.int x)) => bif Nat.blt i nL then some (pc, a_put1 lv i (.inl (.int (x + Int32.ofInt n))), st, mem) else none
  | _ => none
def a_i1 (f : Int32 → Int32) : Option a_F := match st with
  | .inl (.int x) :: r => some (pc, lv, .inl (.int (f x)) :: r, mem)
  | a :: r => match a_iv E a with
    | some _ => some (pc, lv, a_full :: r, mem)
    | none => none
  | _ => none
def a_i2l : Option a_F := match st with
  | .inl (.int x) :: r => some (pc, lv, .inl (.long x.toInt64) :: r, mem)
  | .inr (0, id, z) :: r => some (pc, lv, .inr (1, id, z) :: r, mem)
  | .inr (2, id, z) :: r => some (pc, lv, .inr (3, id, z) :: r, mem)
  | _ => none
def a_i2 (f : Int32 → Int32 → Int32) : Option a_F := match st with
  | .inl (.int y) :: .inl (.int x) :: r => some (pc, lv, .inl (.int (f x y)) :: r, mem)
  | b :: a :: r => match a_iv E a, a_iv E b with
    | some _, some _ => some (pc, lv, a_full :: r, mem)
    | _, _ => none
  | _ => none
def a_div (p : Int × Int) (y : Int32) : a_V := bif decide (0 ≤ p.1) && decide (0 < y.toInt) then .inr (2, 0, p.1 / y.toInt, p.2 / y.toInt) else a_full
def a_rem (p : Int × Int) (y : Int32) : a_V := bif decide (0 ≤ p.1) && decide (0 < y.toInt) then .inr (2, 0, 0, y.toInt - 1) else a_full
def a_i2z (f : Int32 → Int32 → Int32) (g : Int × Int → Int32 → a_V) : Option a_F := match st with
  | .inl (.int y) :: .inl (.int x) :: r => bif decide (y = 0) then none else some (pc, lv, .inl (.int (f x y)) :: r, mem)
  | .inl (.int y) :: a :: r => match a_iv E a with
    | some p => bif decide (y = 0) then none else some (pc, lv, g p y :: r, mem)
    | none => none
  | _ => none
def a_l2o (f : Int64 → Int64 → Int64) : Option a_F := match st with
  | .inl (.long y) :: .inl (.long x) :: r => some (pc, lv, .inl (.long (f x y)) :: r, mem)
  | _ => none
def a_l2z (f : Int64 → Int64 → Int64) : Option a_F := match st with
  | .inl (.long y) :: .inl (.long x) :: r => bif decide (y = 0) then none else some (pc, lv, .inl (.long (f x y)) :: r, mem)
  | _ => none
def a_cmp (p q : Int × Int) : a_V := .inr (2, 0, (bif decide (q.2 < p.1) then 1 else bif decide (q.2 ≤ p.1) then 0 else -1), (bif decide (p.2 < q.1) then -1 else bif decide (p.2 ≤ q.1) then 0 else 1))
def a_lcmp : Option a_F := match st with
  | b :: a :: r => match a_lg E a, a_lg E b with
    | some p, some q => a_psh pc lv r mem (a_nm E (a_cmp p q))
    | _, _ => none
  | _ => none
def a_dup : Option a_F := match st with
  | v :: r => bif a_cat v == 1 then some (pc, lv, v :: v :: r, mem) else none
  | _ => none
def a_pop : Option a_F := match st with
  | v :: r => bif a_cat v == 1 then some (pc, lv, r, mem) else none
  | _ => none
def a_dup2 : Option a_F := match st with
  | v :: w :: r => bif a_cat v == 1 && a_cat w == 1 then some (pc, lv, v :: w :: v :: w :: r, mem) else none
  | _ => none
def a_alen : Option a_F := match st with
  | .inl (.ref q) :: r => match mem[q]? with
    | some (.inl a) => some (pc, lv, .inl (.int (Int32.ofNat a.2.length)) :: r, mem)
    | _ => none
  | _ => none
def a_ald (z : Bool) : Option a_F := match st with
  | .inl (.int j) :: .inl (.ref q) :: r => match mem[q]? with
    | some (.inl a) => bif a.1 == z && !decide (j < 0) then (match a.2[j.toNatClampNeg]? with
      | some x => some (pc, lv, x :: r, mem)
      | none => none) else none
    | _ => none
  | _ => none
/-- may it be put into a place of that type -/
def a_fit (ty : FieldType) (a : a_V) : Bool := match a with
  | .inl v => e_fit ty v
  | .inr _ => decide (ty = .int) && (a_iv E a).isSome
def a_zt (z : Bool) : FieldType := bif z then .boolean else .int
def a_ast (ro : Nat) (z : Bool) : Option a_F := match st with
  | x :: .inl (.int j) :: .inl (.ref q) :: r => match mem[q]? with
    | some (.inl a) => bif a.1 == z && (!decide (j < 0) && (Nat.blt j.toNatClampNeg a.2.length && (Nat.ble ro q && a_fit E (a_zt z) x))) then some (pc, lv, r, mem.set q (.inl (a.1, a.2.set j.toNatClampNeg x))) else none
    | _ => none
  | _ => none
def a_getf (x : Option (Nat × Nat × FieldType × Bool)) : Option a_F := match x, st with
  | some f, .inl (.ref q) :: r => match mem[q]? with
    | some (.inr o) => bif o.1 == f.1 then (match o.2[f.2.1]? with
      | some v => some (pc, lv, v :: r, mem)
      | none => none) else none
    | _ => none
  | _, _ => none
def a_putf (ro : Nat) (x : Option (Nat × Nat × FieldType × Bool)) : Option a_F := match x, st with
  | some f, v :: .inl (.ref q) :: r => match mem[q]? with
    | some (.inr o) => bif o.1 == f.1 && (Nat.blt f.2.1 o.2.length && (a_fit E f.2.2.1 v && (!f.2.2.2 && Nat.ble ro q))) then some (pc, lv, r, mem.set q (.inr (o.1, o.2.set f.2.1 v))) else none
    | _ => none
  | _, _ => none
def a_newo (x : Option (Nat × List Value)) : Option a_F := match x with
  | some o => some (pc, lv, .inl (.ref mem.length) :: st, mem ++ [.inr (o.1, o.2.map .inl)])
  | none => none
def a_newa (z : Bool) : Option a_F := match st with
  | .inl (.int n) :: r => bif !decide (n < 0) && decide (n ≤ 65535) then some (pc, lv, .inl (.ref mem.length) :: r, mem ++ [.inl (z, List.replicate n.toNatClampNeg (.inl (.int 0)))]) else none
  | _ => none
def a_ldi (x : Option Value) : Option a_F := match x with
  | some (.int v) => some (pc, lv, .inl (.int v) :: st, mem)
  | _ => none
def a_ldl (x : Option Value) : Option a_F := match x with
  | some (.long v) => some (pc, lv, .inl (.long v) :: st, mem)
  | _ => none
def a_low (st : List a_V) : Bool := Nat.ble (st.map a_cat).sum 8
def a_acp (ro : Nat) : Option a_F := match st with
  | .inl (.int n) :: .inl (.int dp) :: .inl (.ref q1) :: .inl (.int sp) :: .inl (.ref q0) :: r => match mem[q0]?, mem[q1]? with
    | some (.inl a), some (.inl b) => bif !a.1 && (!b.1 && (!decide (sp < 0) && (!decide (dp < 0) && (!decide (n < 0) && (Nat.ble (sp.toNatClampNeg + n.toNatClampNeg) a.2.length && (Nat.ble (dp.toNatClampNeg + n.toNatClampNeg) b.2.length && (Nat.ble ro q1 && a_low r))))))) then some (pc, lv, r, mem.set q1 (.inl (b.1, e_wr ((a.2.drop sp.toNatClampNeg).take n.toNatClampNeg) dp.toNatClampNeg b.2))) else none
    | _, _ => none
  | _ => none
def a_min : Option a_F := match st with
  | .inl (.int y) :: .inl (.int x) :: r => bif a_low r then some (pc, lv, .inl (.int (if y < x then y else x)) :: r, mem) else none
  | _ => none
def a_jmp (off : Int) : Option a_F := match e_tgt pc off with
  | some t => some (t, lv, st, mem)
  | none => none
end AOPS
/-- one instruction with one way on -/
def a_step (P : e_Pg) (k : Nat) (i : Instr) (E : a_E) (pc : Nat) (lv : List (Nat × a_V)) (st : List a_V) (mem : List a_C) : Option a_F := match i with
  | .aload n => a_aload (pc + 2) lv st mem n
  | .aload_n n => a_aload (pc + 1) lv st mem n.val
  | .arraylength => a_alen (pc + 1) lv st mem
  | .astore n => a_astore (pc + 2) lv st mem (e_mth P k).2.2.1 n
  | .astore_n n => a_astore (pc + 1) lv st mem (e_mth P k).2.2.1 n.val
  | .baload => a_ald (pc + 1) lv st mem true
  | .bastore => a_ast E (pc + 1) lv st mem (e_ro P) true
  | .bipush n => some (pc + 2, lv, .inl (.int (Int8.ofInt n).toInt32) :: st, mem)
  | .dup => a_dup (pc + 1) lv st mem
  | .dup2 => a_dup2 (pc + 1) lv st mem
  | .getfield n => a_getf (pc + 3) lv st mem (e_fld P k n)
  | .goto o => a_jmp pc lv st mem o
  | .i2b => a_i1 E (pc + 1) lv st mem (fun x => x.toInt8.toInt32)
  | .i2l => a_i2l (pc + 1) lv st mem
  | .i2s => a_i1 E (pc + 1) lv st mem (fun x => x.toInt16.toInt32)
  | .iadd => a_i2 E (pc + 1) lv st mem (fun x y => x + y)
  | .iaload => a_ald (pc + 1) lv st mem false
  | .iand => a_i2 E (pc + 1) lv st mem (fun x y => x &&& y)
  | .iastore => a_ast E (pc + 1) lv st mem (e_ro P) false
  | .iconst n => some (pc + 1, lv, .inl (.int (Int32.ofInt n)) :: st, mem)
  | .idiv => a_i2z E (pc + 1) lv st mem (fun x y => x / y) a_div
  | .iinc n d => a_iinc (pc + 3) lv st mem (e_mth P k).2.2.1 n d
  | .iload n => a_iload E (pc + 2) lv st mem n
  | .iload_n n => a_iload E (pc + 1) lv st mem n.val
  | .imul => a_i2 E (pc + 1) lv st mem (fun x y => x * y)
  | .ior => a_i2 E (pc + 1) lv st mem (fun x y => x ||| y)
  | .irem => a_i2z E (pc + 1) lv st mem (fun x y => x - x / y * y) a_rem
  | .ishl => a_i2 E (pc + 1) lv st mem (fun x y => x <<< (y &&& 31))
  | .ishr => a_i2 E (pc + 1) lv st mem (fun x y => x >>> (y &&& 31))
  | .istore n => a_istore E (pc + 2) lv st mem (e_mth P k).2.2.1 n
  | .istore_n n => a_istore E (pc + 1) lv st mem (e_mth P k).2.2.1 n.val
  | .isub => a_i2 E (pc + 1) lv st mem (fun x y => x - y)
  | .iushr => a_i2 E (pc + 1) lv st mem (fun x y => (x.toUInt32 >>> (y.toUInt32 &&& Int32.toUInt32 31)).toInt32)
  | .ixor => a_i2 E (pc + 1) lv st mem (fun x y => x ^^^ y)
  | .ladd => a_l2o (pc + 1) lv st mem (fun x y => x + y)
  | .lcmp => a_lcmp E (pc + 1) lv st mem
  | .lconst n => some (pc + 1, lv, .inl (.long (Int64.ofNat n.val)) :: st, mem)
  | .ldc n => a_ldi (pc + 2) lv st mem (e_con P k n)
  | .ldc_w n => a_ldi (pc + 3) lv st mem (e_con P k n)
  | .ldc2_w n => a_ldl (pc + 3) lv st mem (e_con P k n)
  | .ldiv => a_l2z (pc + 1) lv st mem (fun x y => x / y)
  | .lload n => a_lload E (pc + 2) lv st mem n
  | .lload_n n => a_lload E (pc + 1) lv st mem n.val
  | .lmul => a_l2o (pc + 1) lv st mem (fun x y => x * y)
  | .lrem => a_l2z (pc + 1) lv st mem (fun x y => x - x / y * y)
  | .lstore n => a_lstore E (pc + 2) lv st mem (e_mth P k).2.2.1 n
  | .lstore_n n => a_lstore E (pc + 1) lv st mem (e_mth P k).2.2.1 n.val
  | .new n => a_newo (pc + 3) lv st mem (e_new P k n)
  | .newarray t => match t with
    | .int => a_newa (pc + 2) lv st mem false
    | .boolean => a_newa (pc + 2) lv st mem true
    | _ => none
  | .pop => a_pop (pc + 1) lv st mem
  | .putfield n => a_putf E (pc + 3) lv st mem (e_ro P) (e_fld P k n)
  | .sipush n => some (pc + 3, lv, .inl (.int (Int16.ofInt n).toInt32) :: st, mem)
  | _ => none
/-- which way a comparison goes, where the bounds tell -/
def a_dec (c : ClassFile.Cond) (p q : Int × Int) : Option Bool := match c with
  | .lt => bif decide (p.2 < q.1) then some true else bif decide (q.2 ≤ p.1) then some false else none
  | .ge => bif decide (q.2 ≤ p.1) then some true else bif decide (p.2 < q.1) then some false else none
  | .gt => bif decide (q.2 < p.1) then some true else bif decide (p.2 ≤ q.1) then some false else none
  | .le => bif decide (p.2 ≤ q.1) then some true else bif decide (q.2 < p.1) then some false else none
  | .eq => bif decide (p.1 = p.2) && (decide (q.1 = q.2) && decide (p.1 = q.1)) then some true else bif decide (p.2 < q.1) || decide (q.2 < p.1) then some false else none
  | .ne => bif decide (p.1 = p.2) && (decide (q.1 = q.2) && decide (p.1 = q.1)) then some false else bif decide (p.2 < q.1) || decide (q.2 < p.1) then some true else none
/-- the pieces into which a comparison with v cuts an interval -/
def a_pcs (c : ClassFile.Cond) (v : Int) (p : Int × Int) : List ((Int × Int) × Bool) := match c with
  | .lt => [((p.1, min p.2 (v - 1)), true), ((max p.1 v, p.2), false)]
  | .ge => [((max p.1 v, p.2), true), ((p.1, min p.2 (v - 1)), false)]
  | .gt => [((max p.1 (v + 1), p.2), true), ((p.1, min p.2 v), false)]
  | .le => [((p.1, min p.2 v), true), ((max p.1 (v + 1), p.2), false)]
  | .eq => [((v, v), true), ((p.1, min p.2 (v - 1)), false), ((max p.1 (v + 1), p.2), false)]
  | .ne => [((v, v), false), ((p.1, min p.2 (v - 1)), true), ((max p.1 (v + 1), p.2), true)]
def a_flip (c : ClassFile.Cond) : ClassFile.Cond := match c with
  | .lt => .gt
  | .gt => .lt
  | .le => .ge
  | .ge => .le
  | c => c
def a_cut (E : a_E) (id : Nat) (l : List ((Int × Int) × Bool)) : List (a_E × Bool) := (l.filter (fun q => decide (q.1.1 ≤ q.1.2))).map (fun q => (E.set id q.1, q.2))
def a_br2 (E : a_E) (c : ClassFile.Cond) (a b : a_V) (p q : Int × Int) : List (a_E × Bool) := match a, b with
  | .inr (0, id, _), .inl _ => a_cut E id (a_pcs c q.1 p)
  | .inl _, .inr (0, id, _) => a_cut E id (a_pcs (a_flip c) p.1 q)
  | _, _ => [(E, true), (E, false)]
def a_br (E : a_E) (c : ClassFile.Cond) (a b : a_V) : Option (List (a_E × Bool)) := match a_iv E a, a_iv E b with
  | some p, some q => match a_dec c p q with
    | some t => some [(E, t)]
    | none => some (a_br2 E c a b p q)
  | _, _ => none
abbrev a_Fr : Type := Nat × Nat × List (Nat × a_V) × List a_V
abbrev a_S : Type := a_E × List a_C × a_Fr × List a_Fr
def a_ifs (k pc : Nat) (o : Int) (lv : List (Nat × a_V)) (r : List a_V) (mem : List a_C) (gs : List a_Fr) (x : Option (List (a_E × Bool))) : Option (List a_S) := match x, e_tgt pc o with
  | some l, some t => some (l.map (fun q => (q.1, mem, (k, (bif q.2 then t else pc + 3), lv, r), gs)))
  | _, _ => none
/-- the ways of a switch -/
def a_twy (d lo hi : Int) (offs : List Int) (p : Int × Int) : List ((Int × Int) × Int) :=
  (((List.range offs.length).map (fun j : Nat => ((lo + (j : Int), lo + (j : Int)), offs.getD j 0))).filter (fun q => decide (p.1 ≤ q.1.1) && decide (q.1.2 ≤ p.2))) ++
  ([((p.1, min p.2 (lo - 1)), d), ((max p.1 (hi + 1), p.2), d)].filter (fun q => decide (q.1.1 ≤ q.1.2)))
def a_set (E : a_E) (a : a_V) (p : Int × Int) : a_E := match a with
  | .inr (0, id, _) => E.set id p
  | _ => E
def a_tgs (E : a_E) (a : a_V) (k pc : Nat) (lv : List (Nat × a_V)) (r : List a_V) (mem : List a_C) (gs : List a_Fr) : List ((Int × Int) × Int) → Option (List a_S)
  | [] => some []
  | q :: l => match e_tgt pc q.2, a_tgs E a k pc lv r mem gs l with
    | some t, some m => some ((a_set E a q.1, mem, (k, t, lv, r), gs) :: m)
    | _, _ => none
def a_tsw (E : a_E) (k pc : Nat) (d lo hi : Int) (offs : Array Int) (lv : List (Nat × a_V)) (st : List a_V) (mem : List a_C) (gs : List a_Fr) : Option (List a_S) := match st with
  | a :: r => match a_iv E a with
    | some p => bif decide (hi - lo + 1 = offs.toList.length) then a_tgs E a k pc lv r mem gs (a_twy d lo hi offs.toList p) else none
    | none => none
  | _ => none
/-- a load of one of the script's ints that can be but few: each of them by itself -/
def a_few (E : a_E) (a : Option a_V) : Option (Nat × Int × Int) := match a with
  | some (.inr (0, id, _)) => match E[id]? with
    | some p => bif decide (p.1 < p.2) && decide (p.2 ≤ p.1 + 7) then some (id, p) else none
    | none => none
  | _ => none
def a_ld (E : a_E) (k : Nat) (pc n : Nat) (i : Nat) (lv : List (Nat × a_V)) (st : List a_V) (mem : List a_C) (gs : List a_Fr) : Option (List a_S) := match a_few E (a_get lv i) with
  | some q => some ((List.range ((q.2.2 - q.2.1).toNat + 1)).map (fun j : Nat => (E.set q.1 (q.2.1 + (j : Int), q.2.1 + (j : Int)), mem, (k, pc, lv, st), gs)))
  | none => match a_iload E (pc + n) lv st mem i with
    | some F => some [(E, F.2.2.2, (k, F.1, F.2.1, F.2.2.1), gs)]
    | none => none
def a_args : Nat → List a_V → List (Nat × a_V)
  | _, [] => []
  | i, v :: vs => (i, v) :: a_args (if a_cat v = 2 then i + 2 else i + 1) vs
def a_room (P : e_Pg) (k j : Nat) (vs : List a_V) : Bool := Nat.ble (vs.map a_cat).sum (e_mth P j).2.2.1 && (Nat.ble ((e_rmo P j).1 + 1) (e_rmo P k).1 && Nat.ble (8 + ((e_mth P j).2.2.1 + 11) + (e_rmo P j).2.1) (e_rmo P k).2.1)
def a_nxi (P : e_Pg) (E : a_E) (k pc : Nat) (lv : List (Nat × a_V)) (st : List a_V) (mem : List a_C) (gs : List a_Fr) (sp : Bool) (i : Nat) : Option (List a_S) := match e_cal P k i with
  | none => none
  | some f => match st.drop f.2.1 with
    | .inl (.ref q) :: rest => bif f.1 == 0 then (bif sp && (f.2.1 == 0 && (f.2.2.1 == 0 && (a_low rest && (Nat.ble 1 (e_rmo P k).1 && Nat.ble 20 (e_rmo P k).2.1)))) then some [(E, mem, (k, pc + 3, lv, rest), gs)] else none) else
        match mem[q]? with
        | some (.inr o) => bif o.1 == f.2.2.1 && (!(f.2.2.1 == 99) && (a_low rest && (a_room P k f.1 (.inl (.ref q) :: (st.take f.2.1).reverse) && (sp == (e_rmo P f.1).2.2)))) then some [(E, mem, (f.1, 0, a_args 0 (.inl (.ref q) :: (st.take f.2.1).reverse), []), (k, pc + 3, lv, rest) :: gs)] else none
        | _ => none
    | _ => none
def a_nxg (E : a_E) (k : Nat) (gs : List a_Fr) (x : Option a_F) : Option (List a_S) := match x with
  | some f => some [(E, f.2.2.2, (k, f.1, f.2.1, f.2.2.1), gs)]
  | none => none
def a_bli (P : e_Pg) (k cd : Nat) (pc : Nat) (lv : List (Nat × a_V)) (st : List a_V) (mem : List a_C) : Option a_F := bif Nat.ble 1 (e_rmo P k).1 && Nat.ble 26 (e_rmo P k).2.1 then (bif cd == 98 then a_acp (pc + 3) lv st mem (e_ro P) else bif cd == 97 then a_min (pc + 3) lv st mem else none) else none
def a_nxs (P : e_Pg) (E : a_E) (k pc : Nat) (lv : List (Nat × a_V)) (st : List a_V) (mem : List a_C) (gs : List a_Fr) (i : Nat) : Option (List a_S) := match e_cal P k i with
  | none => none
  | some f => bif f.1 == 0 then a_nxg E k gs (a_bli P k f.2.2.1 pc lv st mem) else (bif Nat.ble f.2.1 st.length && (a_low (st.drop f.2.1) && (a_room P k f.1 (st.take f.2.1).reverse && f.2.2.1 == 99)) then some [(E, mem, (f.1, 0, a_args 0 (st.take f.2.1).reverse, []), (k, pc + 3, lv, st.drop f.2.1) :: gs)] else none)
def a_ret (E : a_E) (ty : Option FieldType) (i : Instr) (st : List a_V) : Option (Option a_V) := match i, ty, st with
  | .ireturn, some .int, [a] => bif (a_iv E a).isSome then some (some a) else none
  | .ireturn, some .boolean, [.inl (.int x)] => bif e_fit .boolean (.int x) then some (some (.inl (.int x))) else none
  | .lreturn, some .long, [a] => bif (a_lg E a).isSome then some (some a) else none
  | .areturn, some (.object _), [.inl (.ref x)] => some (some (.inl (.ref x)))
  | .return_, none, [] => some none
  | _, _, _ => none
def a_sz (c : a_C) : Nat := match c with
  | .inl a => a.2.length
  | .inr o => o.2.length
def a_sl (mem : List a_C) : Nat := (mem.map a_sz).sum
/-- the end: the answer is known to be 1, the cells aren't too many -/
def a_fin (lc ls : Nat) (mem : List a_C) (r : a_V) : Bool := match r with
  | .inl (.int x) => decide (x = 1) && (Nat.ble mem.length lc && Nat.ble (a_sl mem) ls)
  | _ => false
def a_nxr (lc ls : Nat) (E : a_E) (mem : List a_C) (gs : List a_Fr) (x : Option (Option a_V)) : Option (List a_S) := match x, gs with
  | some r, g :: gs => some [(E, mem, (g.1, g.2.1, g.2.2.1, r.toList ++ g.2.2.2), gs)]
  | some (some r), [] => bif a_fin lc ls mem r then some [] else none
  | _, _ => none
def a_one (P : e_Pg) (lc ls : Nat) (E : a_E) (k pc : Nat) (lv : List (Nat × a_V)) (st : List a_V) (mem : List a_C) (gs : List a_Fr) (i : Instr) : Option (List a_S) := match i with
  | .iload n => a_ld E k pc 2 n lv st mem gs
  | .iload_n n => a_ld E k pc 1 n.val lv st mem gs
  | .if_icmp c o => match st with
    | b :: a :: r => a_ifs k pc o lv r mem gs (a_br E c a b)
    | _ => none
  | .ifCond c o => match st with
    | a :: r => a_ifs k pc o lv r mem gs (a_br E c a (.inl (.int 0)))
    | _ => none
  | .tableswitch d lo hi offs => a_tsw E k pc d lo hi offs lv st mem gs
  | .invokevirtual n => a_nxi P E k pc lv st mem gs false n
  | .invokespecial n => a_nxi P E k pc lv st mem gs true n
  | .invokestatic n => a_nxs P E k pc lv st mem gs n
  | .ireturn => a_nxr lc ls E mem gs (a_ret E (e_mth P k).2.2.2 .ireturn st)
  | .lreturn => a_nxr lc ls E mem gs (a_ret E (e_mth P k).2.2.2 .lreturn st)
  | .areturn => a_nxr lc ls E mem gs (a_ret E (e_mth P k).2.2.2 .areturn st)
  | .return_ => a_nxr lc ls E mem gs (a_ret E (e_mth P k).2.2.2 .return_ st)
  | i => a_nxg E k gs (a_step P k i E pc lv st mem)
def a_next (P : e_Pg) (lc ls : Nat) (S : a_S) : Option (List a_S) := match e_code P S.2.2.1.1 S.2.2.1.2.1 with
  | some x => bif e_ok x then a_one P lc ls S.1 S.2.2.1.1 S.2.2.1.2.1 S.2.2.1.2.2.1 S.2.2.1.2.2.2 S.2.1 S.2.2.2 x.1 else none
  | none => none
/-- from S every way comes to its end with 1 -/
noncomputable def a_run (P : e_Pg) (lc ls n : Nat) : a_S → Bool := Nat.rec (motive := fun _ => a_S → Bool) (fun _ => false) (fun _ rc S => match a_next P lc ls S with
  | some l => l.all rc
  | none => false) n
