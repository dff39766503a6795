/-! ONE STEP, ALL INSTRUCTIONS; A CALL; A RUN -/
def e_le (mem mem' : List e_C) : Prop := mem.length ≤ mem'.length ∧ e_sl mem ≤ e_sl mem'
theorem e_le.rf {mem : List e_C} : e_le mem mem := ⟨Nat.le_refl _, Nat.le_refl _⟩
theorem e_le.tr {a b c : List e_C} (h : e_le a b) (h2 : e_le b c) : e_le a c := ⟨Nat.le_trans h.1 h2.1, Nat.le_trans h.2 h2.2⟩
theorem e_le.push {mem : List e_C} {c : e_C} : e_le mem (mem ++ [c]) := ⟨by simp, by rw [e_sl_push]; omega⟩
theorem e_le.set {mem : List e_C} {q : Nat} {c0 c : e_C} (h : mem[q]? = some c0) (he : e_sz c = e_sz c0) : e_le mem (mem.set q c) := ⟨by simp, by rw [e_sl_set h he]; exact Nat.le_refl _⟩
theorem e_q_iload {pc : Nat} {lv : List (Nat × Value)} {st : List Value} {mem : List e_C} (i : Nat) {F : e_F} (h : e_iload pc lv st mem i = some F) : F.2.2.2 = mem := by
  unfold e_iload at h
  try simp only [Bool.cond_eq_ite] at h
  repeat' split at h
  all_goals first | (cases h; rfl) | cases h
theorem e_q_lload {pc : Nat} {lv : List (Nat × Value)} {st : List Value} {mem : List e_C} (i : Nat) {F : e_F} (h : e_lload pc lv st mem i = some F) : F.2.2.2 = mem := by
  unfold e_lload at h
  try simp only [Bool.cond_eq_ite] at h
  repeat' split at h
  all_goals first | (cases h; rfl) | cases h
theorem e_q_aload {pc : Nat} {lv : List (Nat × Value)} {st : List Value} {mem : List e_C} (i : Nat) {F : e_F} (h : e_aload pc lv st mem i = some F) : F.2.2.2 = mem := by
  unfold e_aload at h
  try simp only [Bool.cond_eq_ite] at h
  repeat' split at h
  all_goals first | (cases h; rfl) | cases h
theorem e_q_istore {pc : Nat} {lv : List (Nat × Value)} {st : List Value} {mem : List e_C} (n i : Nat) {F : e_F} (h : e_istore pc lv st mem n i = some F) : F.2.2.2 = mem := by
  unfold e_istore at h
  try simp only [Bool.cond_eq_ite] at h
  repeat' split at h
  all_goals first | (cases h; rfl) | cases h
theorem e_q_lstore {pc : Nat} {lv : List (Nat × Value)} {st : List Value} {mem : List e_C} (n i : Nat) {F : e_F} (h : e_lstore pc lv st mem n i = some F) : F.2.2.2 = mem := by
  unfold e_lstore at h
  try simp only [Bool.cond_eq_ite] at h
  repeat' split at h
  all_goals first | (cases h; rfl) | cases h
theorem e_q_astore {pc : Nat} {lv : List (Nat × Value)} {st : List Value} {mem : List e_C} (n i : Nat) {F : e_F} (h : e_astore pc lv st mem n i = some F) : F.2.2.2 = mem := by
  unfold e_astore at h
  try simp only [Bool.cond_eq_ite] at h
  repeat' split at h
  all_goals first | (cases h; rfl) | cases h
theorem e_q_iinc {pc : Nat} {lv : List (Nat × Value)} {st : List Value} {mem : List e_C} (n i : Nat) (d : Int) {F : e_F} (h : e_iinc pc lv st mem n i d = some F) : F.2.2.2 = mem := by
  unfold e_iinc at h
  try simp only [Bool.cond_eq_ite] at h
  repeat' split at h
  all_goals first | (cases h; rfl) | cases h
theorem e_q_i1 {pc : Nat} {lv : List (Nat × Value)} {st : List Value} {mem : List e_C} (g : Int32 → Int32) {F : e_F} (h : e_i1 pc lv st mem g = some F) : F.2.2.2 = mem := by
  unfold e_i1 at h
  try simp only [Bool.cond_eq_ite] at h
  repeat' split at h
  all_goals first | (cases h; rfl) | cases h
theorem e_q_i2l {pc : Nat} {lv : List (Nat × Value)} {st : List Value} {mem : List e_C}  {F : e_F} (h : e_i2l pc lv st mem  = some F) : F.2.2.2 = mem := by
  unfold e_i2l at h
  try simp only [Bool.cond_eq_ite] at h
  repeat' split at h
  all_goals first | (cases h; rfl) | cases h
theorem e_q_i2 {pc : Nat} {lv : List (Nat × Value)} {st : List Value} {mem : List e_C} (g : Int32 → Int32 → Int32) {F : e_F} (h : e_i2 pc lv st mem g = some F) : F.2.2.2 = mem := by
  unfold e_i2 at h
  try simp only [Bool.cond_eq_ite] at h
  repeat' split at h
  all_goals first | (cases h; rfl) | cases h
theorem e_q_i2z {pc : Nat} {lv : List (Nat × Value)} {st : List Value} {mem : List e_C} (g : Int32 → Int32 → Int32) {F : e_F} (h : e_i2z pc lv st mem g = some F) : F.2.2.2 = mem := by
  unfold e_i2z at h
  try simp only [Bool.cond_eq_ite] at h
  repeat' split at h
  all_goals first | (cases h; rfl) | cases h
theorem e_q_l2 {pc : Nat} {lv : List (Nat × Value)} {st : List Value} {mem : List e_C} (g : Int64 → Int64 → Int64) {F : e_F} (h : e_l2 pc lv st mem g = some F) : F.2.2.2 = mem := by
  unfold e_l2 at h
  try simp only [Bool.cond_eq_ite] at h
  repeat' split at h
  all_goals first | (cases h; rfl) | cases h
theorem e_q_l2z {pc : Nat} {lv : List (Nat × Value)} {st : List Value} {mem : List e_C} (g : Int64 → Int64 → Int64) {F : e_F} (h : e_l2z pc lv st mem g = some F) : F.2.2.2 = mem := by
  unfold e_l2z at h
  try simp only [Bool.cond_eq_ite] at h
  repeat' split at h
  all_goals first | (cases h; rfl) | cases h
theorem e_q_lcmp {pc : Nat} {lv : List (Nat × Value)} {st : List Value} {mem : List e_C}  {F : e_F} (h : e_lcmp pc lv st mem  = some F) : F.2.2.2 = mem := by
  unfold e_lcmp at h
  try simp only [Bool.cond_eq_ite] at h
  repeat' split at h
  all_goals first | (cases h; rfl) | cases h
theorem e_q_dup {pc : Nat} {lv : List (Nat × Value)} {st : List Value} {mem : List e_C}  {F : e_F} (h : e_dup pc lv st mem  = some F) : F.2.2.2 = mem := by
  unfold e_dup at h
  try simp only [Bool.cond_eq_ite] at h
  repeat' split at h
  all_goals first | (cases h; rfl) | cases h
theorem e_q_pop {pc : Nat} {lv : List (Nat × Value)} {st : List Value} {mem : List e_C}  {F : e_F} (h : e_pop pc lv st mem  = some F) : F.2.2.2 = mem := by
  unfold e_pop at h
  try simp only [Bool.cond_eq_ite] at h
  repeat' split at h
  all_goals first | (cases h; rfl) | cases h
theorem e_q_pop2 {pc : Nat} {lv : List (Nat × Value)} {st : List Value} {mem : List e_C}  {F : e_F} (h : e_pop2 pc lv st mem  = some F) : F.2.2.2 = mem := by
  unfold e_pop2 at h
  try simp only [Bool.cond_eq_ite] at h
  repeat' split at h
  all_goals first | (cases h; rfl) | cases h
theorem e_q_dup2 {pc : Nat} {lv : List (Nat × Value)} {st : List Value} {mem : List e_C}  {F : e_F} (h : e_dup2 pc lv st mem  = some F) : F.2.2.2 = mem := by
  unfold e_dup2 at h
  try simp only [Bool.cond_eq_ite] at h
  repeat' split at h
  all_goals first | (cases h; rfl) | cases h
theorem e_q_alen {pc : Nat} {lv : List (Nat × Value)} {st : List Value} {mem : List e_C}  {F : e_F} (h : e_alen pc lv st mem  = some F) : F.2.2.2 = mem := by
  unfold e_alen at h
  try simp only [Bool.cond_eq_ite] at h
  repeat' split at h
  all_goals first | (cases h; rfl) | cases h
theorem e_q_ald {pc : Nat} {lv : List (Nat × Value)} {st : List Value} {mem : List e_C} (z : Bool) {F : e_F} (h : e_ald pc lv st mem z = some F) : F.2.2.2 = mem := by
  unfold e_ald at h
  try simp only [Bool.cond_eq_ite] at h
  repeat' split at h
  all_goals first | (cases h; rfl) | cases h
theorem e_q_getf {pc : Nat} {lv : List (Nat × Value)} {st : List Value} {mem : List e_C} (x : Option (Nat × Nat × FieldType × Bool)) {F : e_F} (h : e_getf pc lv st mem x = some F) : F.2.2.2 = mem := by
  unfold e_getf at h
  try simp only [Bool.cond_eq_ite] at h
  repeat' split at h
  all_goals first | (cases h; rfl) | cases h
theorem e_q_ldi {pc : Nat} {lv : List (Nat × Value)} {st : List Value} {mem : List e_C} (x : Option Value) {F : e_F} (h : e_ldi pc lv st mem x = some F) : F.2.2.2 = mem := by
  unfold e_ldi at h
  try simp only [Bool.cond_eq_ite] at h
  repeat' split at h
  all_goals first | (cases h; rfl) | cases h
theorem e_q_ldw {pc : Nat} {lv : List (Nat × Value)} {st : List Value} {mem : List e_C} (x : Option Value) {F : e_F} (h : e_ldw pc lv st mem x = some F) : F.2.2.2 = mem := by
  unfold e_ldw at h
  try simp only [Bool.cond_eq_ite] at h
  repeat' split at h
  all_goals first | (cases h; rfl) | cases h
theorem e_q_ldl {pc : Nat} {lv : List (Nat × Value)} {st : List Value} {mem : List e_C} (x : Option Value) {F : e_F} (h : e_ldl pc lv st mem x = some F) : F.2.2.2 = mem := by
  unfold e_ldl at h
  try simp only [Bool.cond_eq_ite] at h
  repeat' split at h
  all_goals first | (cases h; rfl) | cases h
theorem e_q_jmp {pc : Nat} {o : Int} {lv : List (Nat × Value)} {st : List Value} {mem : List e_C} {F : e_F} (h : e_jmp pc o lv st mem = some F) : F.2.2.2 = mem := by
  obtain ⟨t, -, rfl⟩ := e_s_jmp h
  rfl
theorem e_q_if {b : Bool} {pc : Nat} {o : Int} {lv : List (Nat × Value)} {st : List Value} {mem : List e_C} {F : e_F} (h : e_if b pc o lv st mem = some F) : F.2.2.2 = mem := by
  unfold e_if at h
  try simp only [Bool.cond_eq_ite] at h
  repeat' split at h
  all_goals first | (cases h; rfl) | cases h
theorem e_q_tsw {pc : Nat} {d lo hi : Int} {offs : Array Int} {lv : List (Nat × Value)} {st : List Value} {mem : List e_C} {F : e_F} (h : e_tsw lv st mem pc d lo hi offs = some F) : F.2.2.2 = mem := by
  unfold e_tsw at h
  try simp only [Bool.cond_eq_ite] at h
  repeat' split at h
  all_goals first | exact e_q_jmp h | cases h
theorem e_q_ast {pc ro : Nat} {z : Bool} {lv : List (Nat × Value)} {st : List Value} {mem : List e_C} {F : e_F} (h : e_ast pc lv st mem ro z = some F) : e_le mem F.2.2.2 := by
  unfold e_ast at h
  try simp only [Bool.cond_eq_ite] at h
  split at h
  · split at h
    · next a ha =>
      split at h
      · cases h; exact e_le.set ha (by simp [e_sz])
      · cases h
    · cases h
  · cases h
theorem e_q_putf {pc ro : Nat} {x : Option (Nat × Nat × FieldType × Bool)} {lv : List (Nat × Value)} {st : List Value} {mem : List e_C} {F : e_F} (h : e_putf pc lv st mem ro x = some F) : e_le mem F.2.2.2 := by
  unfold e_putf at h
  try simp only [Bool.cond_eq_ite] at h
  split at h
  · split at h
    · next o ho =>
      split at h
      · cases h; exact e_le.set ho (by simp [e_sz])
      · cases h
    · cases h
  · cases h
theorem e_q_newo {pc : Nat} {x : Option (Nat × List Value)} {lv : List (Nat × Value)} {st : List Value} {mem : List e_C} {F : e_F} (h : e_newo pc lv st mem x = some F) : e_le mem F.2.2.2 := by
  unfold e_newo at h
  split at h
  · cases h; exact e_le.push
  · cases h
theorem e_q_newa {pc : Nat} {z : Bool} {lv : List (Nat × Value)} {st : List Value} {mem : List e_C} {F : e_F} (h : e_newa pc lv st mem z = some F) : e_le mem F.2.2.2 := by
  unfold e_newa at h
  try simp only [Bool.cond_eq_ite] at h
  split at h
  · split at h
    · cases h; exact e_le.push
    · cases h
  · cases h
theorem e_eqle {mem mem' : List e_C} (h : mem' = mem) : e_le mem mem' := h ▸ e_le.rf
theorem e_step_le {P : e_Pg} {k : Nat} {i : Instr} {pc : Nat} {lv : List (Nat × Value)} {st : List Value} {mem : List e_C} {F : e_F} (h : e_step P k i pc lv st mem = some F) : e_le mem F.2.2.2 := by
  cases i with
  | aload n => exact e_eqle (e_q_aload _ h)
  | aload_n n => exact e_eqle (e_q_aload _ h)
  | arraylength  => exact e_eqle (e_q_alen  h)
  | astore n => exact e_eqle (e_q_astore _ _ h)
  | astore_n n => exact e_eqle (e_q_astore _ _ h)
  | baload  => exact e_eqle (e_q_ald _ h)
  | bipush n => unfold e_step at h; cases h; exact e_le.rf
  | dup  => exact e_eqle (e_q_dup  h)
  | dup2  => exact e_eqle (e_q_dup2  h)
  | getfield n => exact e_eqle (e_q_getf _ h)
  | goto o => exact e_eqle (e_q_jmp h)
  | i2b  => exact e_eqle (e_q_i1 _ h)
  | i2l  => exact e_eqle (e_q_i2l  h)
  | i2s  => exact e_eqle (e_q_i1 _ h)
  | iadd  => exact e_eqle (e_q_i2 _ h)
  | iaload  => exact e_eqle (e_q_ald _ h)
  | iand  => exact e_eqle (e_q_i2 _ h)
  | iconst n => unfold e_step at h; cases h; exact e_le.rf
  | idiv  => exact e_eqle (e_q_i2z _ h)
  | iinc n d => exact e_eqle (e_q_iinc _ _ _ h)
  | iload n => exact e_eqle (e_q_iload _ h)
  | iload_n n => exact e_eqle (e_q_iload _ h)
  | imul  => exact e_eqle (e_q_i2 _ h)
  | ior  => exact e_eqle (e_q_i2 _ h)
  | irem  => exact e_eqle (e_q_i2z _ h)
  | ishl  => exact e_eqle (e_q_i2 _ h)
  | ishr  => exact e_eqle (e_q_i2 _ h)
  | istore n => exact e_eqle (e_q_istore _ _ h)
  | istore_n n => exact e_eqle (e_q_istore _ _ h)
  | isub  => exact e_eqle (e_q_i2 _ h)
  | iushr  => exact e_eqle (e_q_i2 _ h)
  | ixor  => exact e_eqle (e_q_i2 _ h)
  | ladd  => exact e_eqle (e_q_l2 _ h)
  | lcmp  => exact e_eqle (e_q_lcmp  h)
  | lconst n => unfold e_step at h; cases h; exact e_le.rf
  | ldc n => exact e_eqle (e_q_ldi _ h)
  | ldc_w n => exact e_eqle (e_q_ldw _ h)
  | ldc2_w n => exact e_eqle (e_q_ldl _ h)
  | ldiv  => exact e_eqle (e_q_l2z _ h)
  | lload n => exact e_eqle (e_q_lload _ h)
  | lload_n n => exact e_eqle (e_q_lload _ h)
  | lmul  => exact e_eqle (e_q_l2 _ h)
  | lrem  => exact e_eqle (e_q_l2z _ h)
  | lstore n => exact e_eqle (e_q_lstore _ _ h)
  | lstore_n n => exact e_eqle (e_q_lstore _ _ h)
  | pop  => exact e_eqle (e_q_pop  h)
  | pop2  => exact e_eqle (e_q_pop2  h)
  | sipush n => unfold e_step at h; cases h; exact e_le.rf
  | tableswitch d lo hi offs => exact e_eqle (e_q_tsw h)
  | if_icmp c o =>
    unfold e_step at h
    dsimp only at h
    split at h
    · exact e_eqle (e_q_if h)
    · cases h
  | ifCond c o =>
    unfold e_step at h
    dsimp only at h
    split at h
    · exact e_eqle (e_q_if h)
    · cases h
  | bastore => exact e_q_ast h
  | iastore => exact e_q_ast h
  | putfield n => exact e_q_putf h
  | new n => exact e_q_newo h
  | newarray t =>
    cases t with
    | int => exact e_q_newa h
    | boolean => exact e_q_newa h
    | _ => exact absurd (show (none : Option e_F) = some F from h) (by simp)
  | _ => exact absurd (show (none : Option e_F) = some F from h) (by simp)
theorem e_wr_len {α : Type} : ∀ (l : List α) (i : Nat) (ys : List α), (e_wr l i ys).length = ys.length
  | [], _, _ => rfl
  | x :: l, i, ys => by
    unfold e_wr
    rw [e_wr_len l]
    simp
theorem e_q_acp {pc ro : Nat} {lv : List (Nat × Value)} {st : List Value} {mem : List e_C} {F : e_F} (h : e_acp pc lv st mem ro = some F) : e_le mem F.2.2.2 := by
  unfold e_acp at h
  simp only [Bool.cond_eq_ite] at h
  split at h
  · split at h
    · next a b ha hb =>
      split at h
      · cases h; exact e_le.set hb (by simp [e_sz, e_wr_len])
      · cases h
    · cases h
  · cases h
theorem e_q_min {pc : Nat} {lv : List (Nat × Value)} {st : List Value} {mem : List e_C} {F : e_F} (h : e_min pc lv st mem = some F) : F.2.2.2 = mem := by
  unfold e_min at h
  simp only [Bool.cond_eq_ite] at h
  split at h
  · split at h
    · cases h; rfl
    · cases h
  · cases h
theorem e_q_max {pc : Nat} {lv : List (Nat × Value)} {st : List Value} {mem : List e_C} {F : e_F} (h : e_max pc lv st mem = some F) : F.2.2.2 = mem := by
  unfold e_max at h
  simp only [Bool.cond_eq_ite] at h
  split at h
  · split at h
    · cases h; rfl
    · cases h
  · cases h
theorem e_q_bli {P : e_Pg} {k cd pc : Nat} {lv : List (Nat × Value)} {st : List Value} {mem : List e_C} {F : e_F} (h : e_bli P k cd pc lv st mem = some F) : e_le mem F.2.2.2 := by
  unfold e_bli at h
  simp only [Bool.cond_eq_ite] at h
  split at h
  · split at h
    · exact e_q_acp h
    · split at h
      · exact e_eqle (e_q_min h)
      · split at h
        · exact e_eqle (e_q_max h)
        · cases h
  · cases h
