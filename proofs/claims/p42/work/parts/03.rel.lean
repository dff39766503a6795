/-! HOW THE SMALL MACHINE'S CELLS LIE IN THE HEAP -/
def e_at (s : State) (D : va_G) (ad : Nat → Nat) (c : e_C) (o : Option Cell) : Prop := match c with
  | .inl a => ∃ cell : Cell, o = some cell ∧ s.isArrayOf cell (bif a.1 then .boolean else .int) ∧ cell.vm ≠ .unknown ∧ cell.slots = (a.2.map Value.int).toArray
  | .inr f => f = (99, []) ∨ ∃ cell : Cell, o = some cell ∧ cell.cls = D.1 f.1 ∧ cell.vm = .none ∧ ∀ (j : Nat) (v : Value), (f.2[j]? = some v → cell.slots[D.2 f.1 j]? = some (e_cv ad v)) ∧ ∀ i : Nat, i < f.2.length → j < f.2.length → D.2 f.1 i = D.2 f.1 j → i = j
theorem e_at.obj {s : State} {D : va_G} {ad : Nat → Nat} {f : Nat × List Value} {o : Option Cell} (h : e_at s D ad (.inr f) o) (hn : f ≠ (99, [])) : ∃ cell : Cell, o = some cell ∧ cell.cls = D.1 f.1 ∧ cell.vm = .none ∧ ∀ (j : Nat) (v : Value), (f.2[j]? = some v → cell.slots[D.2 f.1 j]? = some (e_cv ad v)) ∧ ∀ i : Nat, i < f.2.length → j < f.2.length → D.2 f.1 i = D.2 f.1 j → i = j := by
  rcases h with h | h
  · exact absurd h hn
  · exact h
/-- the class's texts -/
def e_lens : List Nat := [5, 7, 7, 8, 5, 4, 4, 4]
def e_byts : List (List Int32) := [[112, 108, 97, 105, 110], [97, 100, 111, 112, 116, 101, 100], [98, 97, 115, 116, 97, 114, 100], [101, 115, 116, 114, 97, 110, 103, 101], [109, 97, 114, 114, 121], [102, 101, 117, 100], [103, 97, 116, 101], [112, 108, 97, 110]]
def e_idx : List Nat := [31, 37, 39, 41, 43, 45, 47, 49]
def e_wds : List String := ["plain", "adopted", "bastard", "estrange", "marry", "feud", "gate", "plan"]
/-- what is new: all from the ninth place on -/
def e_sA (ad : Nat → Nat) : Nat → Prop := fun x => ∃ i, 9 ≤ i ∧ x = ad i
/-- the texts and two statics lie in the heap as at the start -/
def e_V (s : State) (ad : Nat → Nat) (H : Heap) : Prop := ∃ (adV : Nat → Nat) (w : Value), vk_S 8 e_lens e_byts (fun i => ad (1 + i)) adV (e_sA ad) s H ∧ va_Z "java/lang/String" "COMPACT_STRINGS" "Z" (.int 1) (e_sA ad) s H ∧ va_Z "jdk/internal/util/Preconditions" "SIOOBE_FORMATTER" "Ljava/util/function/BiFunction;" w (e_sA ad) s H ∧ w.category = 1
theorem e_V.moved {s U : State} {ad : Nat → Nat} {H : Heap} (hvm : s.vm.Alike U.vm) (h : e_V s ad H) : e_V U ad H := by
  obtain ⟨adV, w, h1, h2, h3, h4⟩ := h
  exact ⟨adV, w, h1.moved hvm, h2.moved hvm, h3.moved hvm, h4⟩
theorem e_V.kept {s : State} {ad : Nat → Nat} {H H1 : Heap} (h : e_V s ad H) (hq : ∀ a : Nat, a < H.size → ¬ e_sA ad a → H1[a]? = H[a]?) : e_V s ad H1 := by
  obtain ⟨adV, w, h1, h2, h3, h4⟩ := h
  exact ⟨adV, w, h1.kept hq, h2.kept hq, h3.kept hq, h4⟩
/-- the texts are where the class's ldc finds them -/
def e_K (s : State) (ad : Nat → Nat) : Prop := ∀ i, i < 8 → vk_R "KinGates$Tape" (e_idx.getD i 0) (e_wds.getD i "") (ad (1 + i)) s
def e_P (s : State) (D : va_G) (ad : Nat → Nat) (mem : List e_C) (H : Heap) : Prop := (∀ (k : Nat) (c : e_C), mem[k]? = some c → e_at s D ad c H[ad k]?) ∧ e_V s ad H
def e_AD (ad : Nat → Nat) (ro base : Nat) : Prop := (∀ i, ro ≤ i → ad i = base + (i - ro)) ∧ (∀ i, i < ro → ad i < base) ∧ (∀ i j, i < ro → j < ro → ad i = ad j → i = j) ∧ ro = 9
theorem e_AD.inj {ad : Nat → Nat} {ro base : Nat} (h : e_AD ad ro base) {i j : Nat} (e : ad i = ad j) : i = j := by
  obtain ⟨h1, h2, h3, -⟩ := h
  rcases Nat.lt_or_ge i ro with a | a <;> rcases Nat.lt_or_ge j ro with b | b
  · exact h3 i j a b e
  · have := h2 i a; rw [h1 j b] at e; omega
  · have := h2 j b; rw [h1 i a] at e; omega
  · rw [h1 i a, h1 j b] at e; omega
theorem e_at.moved {s U : State} {D : va_G} {ad : Nat → Nat} {c : e_C} {o : Option Cell} (hvm : s.vm.Alike U.vm) (h : e_at s D ad c o) : e_at U D ad c o := by
  cases c with
  | inl a =>
    obtain ⟨cell, h1, h2, h3⟩ := h
    exact ⟨cell, h1, State.isArrayOf_alike hvm h2, h3⟩
  | inr f => exact h
theorem e_P.moved {s U : State} {D : va_G} {ad : Nat → Nat} {mem : List e_C} {H : Heap} (hvm : s.vm.Alike U.vm) (h : e_P s D ad mem H) : e_P U D ad mem H := ⟨fun k c hk => (h.1 k c hk).moved hvm, h.2.moved hvm⟩
theorem e_P.set {s : State} {D : va_G} {ad : Nat → Nat} {ro base : Nat} {mem : List e_C} {H H1 : Heap} {q : Nat} {c c0 : e_C} (hA : e_AD ad ro base) (h : e_P s D ad mem H) (h0 : mem[q]? = some c0) (hc : e_at s D ad c H1[ad q]?) (oq : ∀ x : Nat, x ≠ ad q → H1[x]? = H[x]?) (hro : ro ≤ q) : e_P s D ad (mem.set q c) H1 := by
  have hl := (List.getElem?_eq_some_iff.mp h0).1
  have h9 := hA.2.2.2
  refine ⟨?_, h.2.kept (fun a _ hn => oq a (fun e => hn ⟨q, by omega, e⟩))⟩
  intro k c1 hk
  by_cases hkq : k = q
  · subst hkq
    rw [List.getElem?_set_self hl] at hk
    cases hk
    exact hc
  · rw [List.getElem?_set_ne (Ne.symm hkq)] at hk
    rw [oq (ad k) (fun z => hkq (hA.inj z))]
    exact h.1 k c1 hk
theorem e_at.on {s : State} {D : va_G} {ad : Nat → Nat} {c : e_C} {H H1 : Heap} {a : Nat} (h : e_at s D ad c H[a]?) (oq : ∀ x : Nat, x < H.size → H1[x]? = H[x]?) : e_at s D ad c H1[a]? := by
  cases c with
  | inl x =>
    obtain ⟨cell, h1, h2⟩ := h
    exact ⟨cell, by rw [oq a (Array.getElem?_eq_some_iff.mp h1).1]; exact h1, h2⟩
  | inr x =>
    rcases h with h | ⟨cell, h1, h2⟩
    · exact Or.inl h
    · exact Or.inr ⟨cell, by rw [oq a (Array.getElem?_eq_some_iff.mp h1).1]; exact h1, h2⟩
theorem e_P.push {s : State} {D : va_G} {ad : Nat → Nat} {mem : List e_C} {H H1 : Heap} {c : e_C} (h : e_P s D ad mem H) (ha : ad mem.length = H.size) (hc : e_at s D ad c H1[H.size]?) (oq : ∀ x : Nat, x < H.size → H1[x]? = H[x]?) : e_P s D ad (mem ++ [c]) H1 := by
  refine ⟨?_, h.2.kept (fun a ha _ => oq a ha)⟩
  intro k c1 hk
  by_cases hl : k < mem.length
  · rw [List.getElem?_append_left hl] at hk
    exact (h.1 k c1 hk).on oq
  · rw [List.getElem?_append_right (by omega)] at hk
    have hz : k - mem.length < 1 := (List.getElem?_eq_some_iff.mp hk).1
    have hk0 : k = mem.length := by omega
    subst hk0
    rw [Nat.sub_self] at hk
    cases hk
    rw [ha]
    exact hc
def e_lv (ad : Nat → Nat) (lv : List (Nat × Value)) : List (Nat × Value) := lv.map (fun q => (q.1, e_cv ad q.2))
theorem e_cv_cat (ad : Nat → Nat) (v : Value) : (e_cv ad v).category = v.category := by cases v <;> rfl
theorem e_get_mem {lv : List (Nat × Value)} {i : Nat} {v : Value} (h : e_get lv i = some v) : (i, v) ∈ lv := by
  induction lv with
  | nil => cases h
  | cons q r ih =>
    unfold e_get at h
    cases hq : q.1 == i with
    | true =>
      rw [hq] at h
      have e1 : q.1 = i := by simpa using hq
      have e2 : q.2 = v := by simpa using h
      rw [← e1, ← e2]
      exact List.mem_cons_self
    | false =>
      rw [hq] at h
      exact List.mem_cons_of_mem _ (ih h)
theorem e_get_at {ad : Nat → Nat} {lv : List (Nat × Value)} {i nL : Nat} {v : Value} {ls : Array Slot} (h : lv_has ls nL (e_lv ad lv)) (hg : e_get lv i = some v) : ls[i]? = some (.val (e_cv ad v)) :=
  h.2.2 (i, e_cv ad v) (List.mem_map.mpr ⟨(i, v), e_get_mem hg, rfl⟩)
theorem e_lv_put1 (ad : Nat → Nat) (lv : List (Nat × Value)) (i : Nat) (v : Value) : (i, e_cv ad v) :: (e_lv ad lv).filter (fun q => !(q.1 == i) && !(q.1 + 1 == i && q.2.category == 2)) = e_lv ad (e_put1 lv i v) := by
  unfold e_lv e_put1
  rw [List.map_cons, List.filter_map]
  congr 2
  apply List.filter_congr
  intro q _
  simp only [Function.comp, e_cv_cat]
theorem e_lv_put2 (ad : Nat → Nat) (lv : List (Nat × Value)) (i : Nat) (v : Value) : (i, e_cv ad v) :: (e_lv ad lv).filter (fun q => !(q.1 == i) && (!(q.1 == i + 1) && !(q.1 + 1 == i && q.2.category == 2))) = e_lv ad (e_put2 lv i v) := by
  unfold e_lv e_put2
  rw [List.map_cons, List.filter_map]
  congr 2
  apply List.filter_congr
  intro q _
  simp only [Function.comp, e_cv_cat]
theorem e_lv_args (ad : Nat → Nat) : ∀ (vs : List Value) (i : Nat), lv_args i (vs.map (e_cv ad)) = e_lv ad (lv_args i vs)
  | [], _ => rfl
  | v :: vs, i => by
    rw [List.map_cons]
    unfold lv_args
    rw [e_cv_cat, e_lv_args ad vs]
    rfl
theorem e_tgt_eq {pc : Nat} {off : Int} {t : Nat} (h : e_tgt pc off = some t) : (pc : Int) + off = (t : Int) := by
  unfold e_tgt at h
  split at h
  · next x hx => cases h; exact hx
  · cases h
theorem e_fit_narrow {ty : FieldType} {v : Value} (h : e_fit ty v = true) : narrow ty v = v ∧ fits ty v = true := by
  unfold e_fit at h
  split at h
  · exact ⟨rfl, rfl⟩
  · next x =>
    simp only [Bool.or_eq_true, decide_eq_true_eq] at h
    rcases h with rfl | rfl <;> exact ⟨rfl, rfl⟩
  · exact ⟨rfl, rfl⟩
  · exact ⟨rfl, rfl⟩
  · exact ⟨rfl, rfl⟩
  · cases h
theorem e_fit_cv {ty : FieldType} {v : Value} (ad : Nat → Nat) (h : e_fit ty v = true) : e_fit ty (e_cv ad v) = true := by
  cases v <;> first | exact h | (cases ty <;> first | rfl | (simp [e_fit] at h))
theorem e_sl_set {mem : List e_C} {q : Nat} {c0 c : e_C} (h : mem[q]? = some c0) (he : e_sz c = e_sz c0) : e_sl (mem.set q c) = e_sl mem := by
  induction mem generalizing q with
  | nil => cases h
  | cons a r ih =>
    cases q with
    | zero =>
      rw [List.getElem?_cons_zero] at h
      have e0 := Option.some.inj h
      unfold e_sl
      rw [List.set_cons_zero, List.map_cons, List.map_cons, List.sum_cons, List.sum_cons, he, e0]
    | succ q =>
      rw [List.getElem?_cons_succ] at h
      have := ih h
      unfold e_sl at this ⊢
      rw [List.set_cons_succ, List.map_cons, List.map_cons, List.sum_cons, List.sum_cons, this]
theorem e_sl_push (mem : List e_C) (c : e_C) : e_sl (mem ++ [c]) = e_sl mem + e_sz c := by
  unfold e_sl
  rw [List.map_append, List.sum_append]
  simp
/-- what the tables must say of a program -/
def e_gc (P : e_Pg) : Prop := ∀ (k pc : Nat) (x : Instr × Nat), e_code P k pc = some x → decode (e_mth P k).2.1 pc = .ok x
def e_gf (P : e_Pg) (cl : List vw_C) (Ts : List Cond) : Prop := ∀ (k i : Nat) (f : Nat × Nat × FieldType × Bool), e_fld P k i = some f → ∃ (C : String) (T : u_T) (N : Nat), cl[f.1]? = some (C, T, N) ∧ f.2.1 < N ∧ Cond.fieldLink (e_mth P k).1.cls i (T f.2.1).1 (T f.2.1).2.1 (T f.2.1).2.2.1 ∈ Ts ∧ parseFieldDescriptor (T f.2.1).2.2.1 = some f.2.2.1 ∧
  (f.2.2.2 = false → (T f.2.1).2.2.2 = false ∨ ((T f.2.1).2.2.2 = true ∧ (e_mth P k).1.name = "<init>" ∧ (T f.2.1).1 = (e_mth P k).1.cls))
def e_gk (cl : List vw_C) (Ts : List Cond) : Prop := ∀ (ci : Nat) (C : String) (T : u_T) (N : Nat), cl[ci]? = some (C, T, N) → (∀ w ∈ u_ws C T N, w ∈ Ts) ∧ (∃ ty0 : Nat → FieldType, ∀ k, k < N → parseFieldDescriptor (T k).2.2.1 = some (ty0 k)) ∧ ∀ a, a < N → ∀ b, b < N → a ≠ b → (T a).2.1 ≠ (T b).2.1
def e_gn (P : e_Pg) (cl : List vw_C) (Ts : List Cond) : Prop := ∀ (k i : Nat) (o : Nat × List Value), e_new P k i = some o → ∃ (C : String) (T : u_T) (N : Nat), cl[o.1]? = some (C, T, N) ∧ o.2.length = N ∧ Cond.classLink (e_mth P k).1.cls i C ∈ Ts ∧ Cond.instantiable C N ∈ Ts ∧ Cond.initialized C ∈ Ts ∧ ∀ (j : Nat) (v : Value), o.2[j]? = some v → ∃ ty : FieldType, parseFieldDescriptor (T j).2.2.1 = some ty ∧ defaultValue ty = v
def e_gv (P : e_Pg) (Ts : List Cond) : Prop := ∀ (k i : Nat) (v : Value), e_con P k i = some v → (∃ x : Int32, v = .int x ∧ Cond.constant (e_mth P k).1.cls i x ∈ Ts) ∨ (∃ x : Int64, v = .long x ∧ Cond.constantLong (e_mth P k).1.cls i x ∈ Ts) ∨ (∃ j : Nat, j < 8 ∧ v = .ref (1 + j) ∧ (e_mth P k).1.cls = "KinGates$Tape" ∧ i = e_idx.getD j 0)
def tx_len : MethodName := ⟨"java/lang/String", "length", "()I"⟩
def tx_chr : MethodName := ⟨"java/lang/String", "charAt", "(I)C"⟩
def tx_cod : MethodName := ⟨"java/lang/String", "coder", "()B"⟩
def tx_lat : MethodName := ⟨"java/lang/String", "isLatin1", "()Z"⟩
def tx_lch : MethodName := ⟨"java/lang/StringLatin1", "charAt", "([BI)C"⟩
def tx_chk : MethodName := ⟨"java/lang/String", "checkIndex", "(II)V"⟩
def tx_pch : MethodName := ⟨"jdk/internal/util/Preconditions", "checkIndex", "(IILjava/util/function/BiFunction;)I"⟩
def tb_len : ByteArray := .mk #[0x2a, 0xb4, 0x00, 0x09, 0xbe, 0x2a, 0xb6, 0x01, 0x4f, 0x7a, 0xac]
def tb_chr : ByteArray := .mk #[0x2a, 0xb6, 0x01, 0xec, 0x99, 0x00, 0x0c, 0x2a, 0xb4, 0x00, 0x09, 0x1b, 0xb8, 0x01, 0xef, 0xac, 0x2a, 0xb4, 0x00, 0x09, 0x1b, 0xb8, 0x01, 0xf2, 0xac]
def tb_cod : ByteArray := .mk #[0xb2, 0x00, 0x26, 0x99, 0x00, 0x0a, 0x2a, 0xb4, 0x00, 0x0f, 0xa7, 0x00, 0x04, 0x04, 0xac]
def tb_lat : ByteArray := .mk #[0xb2, 0x00, 0x26, 0x99, 0x00, 0x0e, 0x2a, 0xb4, 0x00, 0x0f, 0x9a, 0x00, 0x07, 0x04, 0xa7, 0x00, 0x04, 0x03, 0xac]
def tb_lch : ByteArray := .mk #[0x1b, 0x2a, 0xbe, 0xb8, 0x00, 0x09, 0x2a, 0x1b, 0x33, 0x11, 0x00, 0xff, 0x7e, 0x92, 0xac]
def tb_chk : ByteArray := .mk #[0x1a, 0x1b, 0xb2, 0x04, 0x1d, 0xb8, 0x04, 0x23, 0x57, 0xb1]
def tb_pch : ByteArray := .mk #[0x1a, 0x9b, 0x00, 0x08, 0x1a, 0x1b, 0xa1, 0x00, 0x0a, 0x2c, 0x1a, 0x1b, 0xb8, 0x00, 0x5f, 0xbf, 0x1a, 0xac]
/-- the words that the texts need -/
def e_tw : List Cond := [.code tx_len tb_len 1 (some .int), .code tx_chr tb_chr 2 (some .char), .code tx_cod tb_cod 1 (some .byte), .code tx_lat tb_lat 1 (some .boolean), .code tx_lch tb_lch 2 (some .char), .code tx_chk tb_chk 2 none, .code tx_pch tb_pch 3 (some .int),
  .initialized "java/lang/String", .initialized "java/lang/StringLatin1", .initialized "jdk/internal/util/Preconditions",
  .methodLink "java/lang/String" 335 tx_cod, .instanceMethod tx_cod, .selects "java/lang/String" tx_cod tx_cod,
  .methodLink "java/lang/String" 492 tx_lat, .instanceMethod tx_lat, .selects "java/lang/String" tx_lat tx_lat,
  .methodLink "java/lang/String" 495 tx_lch, .static tx_lch, .methodLink "java/lang/StringLatin1" 9 tx_chk, .static tx_chk, .methodLink "java/lang/String" 1059 tx_pch, .static tx_pch,
  .fieldLink "java/lang/String" 9 "java/lang/String" "value" "[B", .fieldLink "java/lang/String" 15 "java/lang/String" "coder" "B", .fieldLink "java/lang/String" 38 "java/lang/String" "COMPACT_STRINGS" "Z", .fieldLink "java/lang/String" 1053 "jdk/internal/util/Preconditions" "SIOOBE_FORMATTER" "Ljava/util/function/BiFunction;",
  .instanceMethod tx_len, .selects "java/lang/String" tx_len tx_len, .instanceMethod tx_chr, .selects "java/lang/String" tx_chr tx_chr]
def e_gt (P : e_Pg) (Ts : List Cond) : Prop := (∀ w ∈ e_tw, w ∈ Ts) ∧ ∀ (q : Nat) (b : List Int32), e_txt P q = some b → ∃ i : Nat, i < 8 ∧ q = 1 + i ∧ b = e_byts.getD i []
def e_ga (P : e_Pg) (Ts : List Cond) : Prop := Cond.arrayClass .int ∈ Ts ∧ Cond.arrayClass .boolean ∈ Ts ∧ Cond.instanceMethod Lib.objectInit ∈ Ts ∧ Cond.code Lib.objectInit ⟨#[0xb1]⟩ 1 none ∈ Ts ∧ (∀ w ∈ Ts, goodWord w = true) ∧ e_gt P Ts
def e_gm (P : e_Pg) (cl : List vw_C) (Ts Ns : List Cond) : Prop := ∀ (k i : Nat) (f : Nat × Nat × Nat × Bool), e_cal P k i = some f →
  (f.1 = 0 ∧ ((f.2.2.1 = 0 ∧ Cond.methodLink (e_mth P k).1.cls i Lib.objectInit ∈ Ts) ∨ (f.2.2.1 = 95 ∧ f.2.1 = 0 ∧ Cond.methodLink (e_mth P k).1.cls i tx_len ∈ Ts) ∨ (f.2.2.1 = 94 ∧ f.2.1 = 1 ∧ Cond.methodLink (e_mth P k).1.cls i tx_chr ∈ Ts) ∨ (f.2.2.1 = 98 ∧ Cond.methodLink (e_mth P k).1.cls i arraycopyName ∈ Ts ∧ Cond.native arraycopyName ∈ Ts ∧ Cond.static arraycopyName ∈ Ts ∧ Cond.initialized "java/lang/System" ∈ Ts) ∨
    (f.2.2.1 = 97 ∧ Cond.methodLink (e_mth P k).1.cls i Lib.Math.min.name ∈ Ts ∧ Cond.static Lib.Math.min.name ∈ Ts ∧ Cond.initialized "java/lang/Math" ∈ Ts ∧ Cond.code Lib.Math.min.name Lib.Math.min.code 2 (some .int) ∈ Ts) ∨
    (f.2.2.1 = 96 ∧ Cond.methodLink (e_mth P k).1.cls i Lib.Math.max.name ∈ Ts ∧ Cond.static Lib.Math.max.name ∈ Ts ∧ Cond.initialized "java/lang/Math" ∈ Ts ∧ Cond.code Lib.Math.max.name Lib.Math.max.code 2 (some .int) ∈ Ts))) ∨
  (f.1 ≠ 0 ∧ Cond.code (e_mth P f.1).1 (e_mth P f.1).2.1 (e_mth P f.1).2.2.1 (e_mth P f.1).2.2.2 ∈ Ts ∧ Cond.initialized (e_mth P f.1).1.cls ∈ Ts ∧ ((e_mth P f.1).1.cls ≠ "java/lang/invoke/MethodHandle" ∧ (e_mth P f.1).1.cls ≠ "java/lang/invoke/VarHandle") ∧ plainName (e_mth P f.1).1.cls = true ∧
    (parseMethodDescriptor (e_mth P f.1).1.desc).map (fun d => d.parameters.length) = some f.2.1 ∧
    ((f.2.2.2 = false ∧ Cond.methodLink (e_mth P k).1.cls i (e_mth P f.1).1 ∈ Ts) ∨ (f.2.2.2 = true ∧ ∃ host : String, Cond.methodLinkNest (e_mth P k).1.cls i (e_mth P f.1).1 host ∈ Ns)) ∧
    ((f.2.2.1 = 99 ∧ Cond.static (e_mth P f.1).1 ∈ Ts) ∨ (f.2.2.1 ≠ 99 ∧ Cond.instanceMethod (e_mth P f.1).1 ∈ Ts ∧ (∃ (T : u_T) (N : Nat), cl[f.2.2.1]? = some ((e_mth P f.1).1.cls, T, N)) ∧
      (((e_rmo P f.1).2.2 = true ∧ (e_mth P f.1).1.name = "<init>" ∧ (e_mth P f.1).2.2.2 = none) ∨ ((e_rmo P f.1).2.2 = false ∧ Cond.selects (e_mth P f.1).1.cls (e_mth P f.1).1 (e_mth P f.1).1 ∈ Ts)))))
def e_gN (Ns : List Cond) : Prop := ∀ w ∈ Ns, ∃ (a : String) (i : Nat) (x : MethodName) (h : String), w = .methodLinkNest a i x h
def e_GD (P : e_Pg) (cl : List vw_C) (Ts Ns : List Cond) : Prop := e_gc P ∧ e_gf P cl Ts ∧ e_gk cl Ts ∧ e_gn P cl Ts ∧ e_gv P Ts ∧ e_ga P Ts ∧ e_gm P cl Ts Ns ∧ e_gN Ns
