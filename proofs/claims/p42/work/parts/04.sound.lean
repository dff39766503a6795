/-! EVERY STEP OF THE SMALL MACHINE IS THE MACHINE'S -/
section ES
variable {p : Program} {l : Launch} {e : Env} {R : Room} {s : State} {m : MethodId} {args : Array Value} {below : List Frame} {meth : Method} {c : Code} {Q : State → Prop}
variable {P : e_Pg} {D : va_G} {cl : List vw_C} {Ts Ns : List Cond} {ad : Nat → Nat} {base n0 z0 k : Nat}
/-- from a place of the small machine the machine comes to Q -/
def e_W (p : Program) (l : Launch) (e : Env) (R : Room) (s : State) (m : MethodId) (args : Array Value) (below : List Frame) (meth : Method) (c : Code) (Q : State → Prop) (P : e_Pg) (D : va_G) (ad : Nat → Nat) (base n0 z0 k pc : Nat) (lv : List (Nat × Value)) (st : List Value) (mem : List e_C) : Prop :=
  ∀ (H : Heap) (locs : List Loc) (cells slots : Nat) (ls : Array Slot), e_P s D ad mem H → H.size + e_ro P = base + mem.length → (∀ x ∈ locs, base ≤ x.base) → lv_has ls (e_mth P k).2.2.1 (e_lv ad lv) → cells + n0 = mem.length → slots + z0 = e_sl mem →
    W p l e R s m args below meth c H locs cells slots Q (F0 m pc ls (st.map (e_cv ad)))
/-- what a method's frame has -/
def e_X (p : Program) (s : State) (m : MethodId) (args : Array Value) (meth : Method) (c : Code) (P : e_Pg) (D : va_G) (cl : List vw_C) (Ts Ns : List Cond) (ad : Nat → Nat) (k : Nat) : Prop :=
  p.tables.exec = Jvm.exec ∧ c.code = (e_mth P k).2.1 ∧ c.maxLocals = (e_mth P k).2.2.1 ∧ s.vm.findClass (e_mth P k).1.cls = some m.cls ∧ (∀ w ∈ Ts, w.before args s = true) ∧ (∀ w ∈ Ns, va_Nw w s) ∧ va_K D cl [] s ∧ ((e_mth P k).1.name = "<init>" → meth.name = "<init>") ∧ e_K s ad
theorem e_s_iload (X : e_X p s m args meth c P D cl Ts Ns ad k) {pc pc' i : Nat} {lv : List (Nat × Value)} {st : List Value} {mem : List e_C} {F : e_F} (h : e_iload pc' lv st mem i = some F)
    (row : ∀ (H : Heap) (locs : List Loc) (cells slots : Nat) (ls : Array Slot) (x : Int32), ls[i]? = some (.val (.int x)) → W p l e R s m args below meth c H locs cells slots Q (F0 m pc' ls (.int x :: st.map (e_cv ad))) → W p l e R s m args below meth c H locs cells slots Q (F0 m pc ls (st.map (e_cv ad))))
    (kk : e_W p l e R s m args below meth c Q P D ad base n0 z0 k F.1 F.2.1 F.2.2.1 F.2.2.2) : e_W p l e R s m args below meth c Q P D ad base n0 z0 k pc lv st mem := by
  unfold e_iload at h
  split at h
  · next x hx =>
    cases h
    intro H locs cells slots ls hP hz hlo hl hc hs
    exact row H locs cells slots ls x (e_get_at hl hx) (kk H locs cells slots ls hP hz hlo hl hc hs)
  · cases h
theorem e_s_lload (X : e_X p s m args meth c P D cl Ts Ns ad k) {pc pc' i : Nat} {lv : List (Nat × Value)} {st : List Value} {mem : List e_C} {F : e_F} (h : e_lload pc' lv st mem i = some F)
    (row : ∀ (H : Heap) (locs : List Loc) (cells slots : Nat) (ls : Array Slot) (x : Int64), ls[i]? = some (.val (.long x)) → W p l e R s m args below meth c H locs cells slots Q (F0 m pc' ls (.long x :: st.map (e_cv ad))) → W p l e R s m args below meth c H locs cells slots Q (F0 m pc ls (st.map (e_cv ad))))
    (kk : e_W p l e R s m args below meth c Q P D ad base n0 z0 k F.1 F.2.1 F.2.2.1 F.2.2.2) : e_W p l e R s m args below meth c Q P D ad base n0 z0 k pc lv st mem := by
  unfold e_lload at h
  split at h
  · next x hx =>
    cases h
    intro H locs cells slots ls hP hz hlo hl hc hs
    exact row H locs cells slots ls x (e_get_at hl hx) (kk H locs cells slots ls hP hz hlo hl hc hs)
  · cases h
theorem e_s_aload (X : e_X p s m args meth c P D cl Ts Ns ad k) {pc pc' i : Nat} {lv : List (Nat × Value)} {st : List Value} {mem : List e_C} {F : e_F} (h : e_aload pc' lv st mem i = some F)
    (row : ∀ (H : Heap) (locs : List Loc) (cells slots : Nat) (ls : Array Slot) (x : Nat), ls[i]? = some (.val (.ref x)) → W p l e R s m args below meth c H locs cells slots Q (F0 m pc' ls (.ref x :: st.map (e_cv ad))) → W p l e R s m args below meth c H locs cells slots Q (F0 m pc ls (st.map (e_cv ad))))
    (kk : e_W p l e R s m args below meth c Q P D ad base n0 z0 k F.1 F.2.1 F.2.2.1 F.2.2.2) : e_W p l e R s m args below meth c Q P D ad base n0 z0 k pc lv st mem := by
  unfold e_aload at h
  split at h
  · next x hx =>
    cases h
    intro H locs cells slots ls hP hz hlo hl hc hs
    exact row H locs cells slots ls (ad x) (e_get_at hl hx) (kk H locs cells slots ls hP hz hlo hl hc hs)
  · cases h
theorem e_s_istore (X : e_X p s m args meth c P D cl Ts Ns ad k) {pc pc' i : Nat} {lv : List (Nat × Value)} {st : List Value} {mem : List e_C} {F : e_F} (h : e_istore pc' lv st mem (e_mth P k).2.2.1 i = some F)
    (row : ∀ (H : Heap) (locs : List Loc) (cells slots : Nat) (ls : Array Slot) (x : Int32) (lv0 lv' : List (Nat × Value)) (rest : List Value), lv_has ls (e_mth P k).2.2.1 lv0 → i < (e_mth P k).2.2.1 → (i, Value.int x) :: lv0.filter (fun q => !(q.1 == i) && !(q.1 + 1 == i && q.2.category == 2)) = lv' → (∀ ls, lv_has ls (e_mth P k).2.2.1 lv' → W p l e R s m args below meth c H locs cells slots Q (F0 m pc' ls rest)) → W p l e R s m args below meth c H locs cells slots Q (F0 m pc ls (.int x :: rest)))
    (kk : e_W p l e R s m args below meth c Q P D ad base n0 z0 k F.1 F.2.1 F.2.2.1 F.2.2.2) : e_W p l e R s m args below meth c Q P D ad base n0 z0 k pc lv st mem := by
  unfold e_istore at h
  split at h
  · next x r =>
    cases hn : Nat.blt i (e_mth P k).2.2.1 with
    | false => rw [hn] at h; cases h
    | true =>
      rw [hn] at h
      cases h
      intro H locs cells slots ls hP hz hlo hl hc hs
      exact row H locs cells slots ls x _ _ _ hl (by simpa using hn) (e_lv_put1 ad lv i (.int x)) (fun ls hl => kk H locs cells slots ls hP hz hlo hl hc hs)
  · cases h
theorem e_s_lstore (X : e_X p s m args meth c P D cl Ts Ns ad k) {pc pc' i : Nat} {lv : List (Nat × Value)} {st : List Value} {mem : List e_C} {F : e_F} (h : e_lstore pc' lv st mem (e_mth P k).2.2.1 i = some F)
    (row : ∀ (H : Heap) (locs : List Loc) (cells slots : Nat) (ls : Array Slot) (x : Int64) (lv0 lv' : List (Nat × Value)) (rest : List Value), lv_has ls (e_mth P k).2.2.1 lv0 → i + 1 < (e_mth P k).2.2.1 → (i, Value.long x) :: lv0.filter (fun q => !(q.1 == i) && (!(q.1 == i + 1) && !(q.1 + 1 == i && q.2.category == 2))) = lv' → (∀ ls, lv_has ls (e_mth P k).2.2.1 lv' → W p l e R s m args below meth c H locs cells slots Q (F0 m pc' ls rest)) → W p l e R s m args below meth c H locs cells slots Q (F0 m pc ls (.long x :: rest)))
    (kk : e_W p l e R s m args below meth c Q P D ad base n0 z0 k F.1 F.2.1 F.2.2.1 F.2.2.2) : e_W p l e R s m args below meth c Q P D ad base n0 z0 k pc lv st mem := by
  unfold e_lstore at h
  split at h
  · next x r =>
    cases hn : Nat.blt (i + 1) (e_mth P k).2.2.1 with
    | false => rw [hn] at h; cases h
    | true =>
      rw [hn] at h
      cases h
      intro H locs cells slots ls hP hz hlo hl hc hs
      exact row H locs cells slots ls x _ _ _ hl (by simpa using hn) (e_lv_put2 ad lv i (.long x)) (fun ls hl => kk H locs cells slots ls hP hz hlo hl hc hs)
  · cases h
theorem e_s_astore (X : e_X p s m args meth c P D cl Ts Ns ad k) {pc pc' i : Nat} {lv : List (Nat × Value)} {st : List Value} {mem : List e_C} {F : e_F} (h : e_astore pc' lv st mem (e_mth P k).2.2.1 i = some F)
    (row : ∀ (H : Heap) (locs : List Loc) (cells slots : Nat) (ls : Array Slot) (x : Nat) (lv0 lv' : List (Nat × Value)) (rest : List Value), lv_has ls (e_mth P k).2.2.1 lv0 → i < (e_mth P k).2.2.1 → (i, Value.ref x) :: lv0.filter (fun q => !(q.1 == i) && !(q.1 + 1 == i && q.2.category == 2)) = lv' → (∀ ls, lv_has ls (e_mth P k).2.2.1 lv' → W p l e R s m args below meth c H locs cells slots Q (F0 m pc' ls rest)) → W p l e R s m args below meth c H locs cells slots Q (F0 m pc ls (.ref x :: rest)))
    (kk : e_W p l e R s m args below meth c Q P D ad base n0 z0 k F.1 F.2.1 F.2.2.1 F.2.2.2) : e_W p l e R s m args below meth c Q P D ad base n0 z0 k pc lv st mem := by
  unfold e_astore at h
  split at h
  · next x r =>
    cases hn : Nat.blt i (e_mth P k).2.2.1 with
    | false => rw [hn] at h; cases h
    | true =>
      rw [hn] at h
      cases h
      intro H locs cells slots ls hP hz hlo hl hc hs
      exact row H locs cells slots ls (ad x) _ _ _ hl (by simpa using hn) (e_lv_put1 ad lv i (.ref x)) (fun ls hl => kk H locs cells slots ls hP hz hlo hl hc hs)
  · cases h
theorem e_s_i1 {pc pc' : Nat} {f : Int32 → Int32} {lv : List (Nat × Value)} {st : List Value} {mem : List e_C} {F : e_F} (h : e_i1 pc' lv st mem f = some F)
    (row : ∀ (H : Heap) (locs : List Loc) (cells slots : Nat) (ls : Array Slot) (x : Int32) (rest : List Value), W p l e R s m args below meth c H locs cells slots Q (F0 m pc' ls (.int (f x) :: rest)) → W p l e R s m args below meth c H locs cells slots Q (F0 m pc ls (.int x :: rest)))
    (kk : e_W p l e R s m args below meth c Q P D ad base n0 z0 k F.1 F.2.1 F.2.2.1 F.2.2.2) : e_W p l e R s m args below meth c Q P D ad base n0 z0 k pc lv st mem := by
  unfold e_i1 at h
  split at h
  · cases h
    intro H locs cells slots ls hP hz hlo hl hc hs
    exact row H locs cells slots ls _ _ (kk H locs cells slots ls hP hz hlo hl hc hs)
  · cases h
theorem e_s_i2 {pc pc' : Nat} {f : Int32 → Int32 → Int32} {lv : List (Nat × Value)} {st : List Value} {mem : List e_C} {F : e_F} (h : e_i2 pc' lv st mem f = some F)
    (row : ∀ (H : Heap) (locs : List Loc) (cells slots : Nat) (ls : Array Slot) (x y : Int32) (rest : List Value), W p l e R s m args below meth c H locs cells slots Q (F0 m pc' ls (.int (f x y) :: rest)) → W p l e R s m args below meth c H locs cells slots Q (F0 m pc ls (.int y :: .int x :: rest)))
    (kk : e_W p l e R s m args below meth c Q P D ad base n0 z0 k F.1 F.2.1 F.2.2.1 F.2.2.2) : e_W p l e R s m args below meth c Q P D ad base n0 z0 k pc lv st mem := by
  unfold e_i2 at h
  split at h
  · cases h
    intro H locs cells slots ls hP hz hlo hl hc hs
    exact row H locs cells slots ls _ _ _ (kk H locs cells slots ls hP hz hlo hl hc hs)
  · cases h
theorem e_s_i2z {pc pc' : Nat} {f : Int32 → Int32 → Int32} {lv : List (Nat × Value)} {st : List Value} {mem : List e_C} {F : e_F} (h : e_i2z pc' lv st mem f = some F)
    (row : ∀ (H : Heap) (locs : List Loc) (cells slots : Nat) (ls : Array Slot) (x y : Int32) (rest : List Value), ¬ y = 0 → W p l e R s m args below meth c H locs cells slots Q (F0 m pc' ls (.int (f x y) :: rest)) → W p l e R s m args below meth c H locs cells slots Q (F0 m pc ls (.int y :: .int x :: rest)))
    (kk : e_W p l e R s m args below meth c Q P D ad base n0 z0 k F.1 F.2.1 F.2.2.1 F.2.2.2) : e_W p l e R s m args below meth c Q P D ad base n0 z0 k pc lv st mem := by
  unfold e_i2z at h
  split at h
  · next y x r =>
    by_cases hy : y = 0
    · rw [decide_eq_true hy] at h; cases h
    · rw [decide_eq_false hy] at h
      cases h
      intro H locs cells slots ls hP hz hlo hl hc hs
      exact row H locs cells slots ls _ _ _ hy (kk H locs cells slots ls hP hz hlo hl hc hs)
  · cases h
theorem e_s_l2 {pc pc' : Nat} {f : Int64 → Int64 → Int64} {lv : List (Nat × Value)} {st : List Value} {mem : List e_C} {F : e_F} (h : e_l2 pc' lv st mem f = some F)
    (row : ∀ (H : Heap) (locs : List Loc) (cells slots : Nat) (ls : Array Slot) (x y : Int64) (rest : List Value), W p l e R s m args below meth c H locs cells slots Q (F0 m pc' ls (.long (f x y) :: rest)) → W p l e R s m args below meth c H locs cells slots Q (F0 m pc ls (.long y :: .long x :: rest)))
    (kk : e_W p l e R s m args below meth c Q P D ad base n0 z0 k F.1 F.2.1 F.2.2.1 F.2.2.2) : e_W p l e R s m args below meth c Q P D ad base n0 z0 k pc lv st mem := by
  unfold e_l2 at h
  split at h
  · cases h
    intro H locs cells slots ls hP hz hlo hl hc hs
    exact row H locs cells slots ls _ _ _ (kk H locs cells slots ls hP hz hlo hl hc hs)
  · cases h
theorem e_s_l2z {pc pc' : Nat} {f : Int64 → Int64 → Int64} {lv : List (Nat × Value)} {st : List Value} {mem : List e_C} {F : e_F} (h : e_l2z pc' lv st mem f = some F)
    (row : ∀ (H : Heap) (locs : List Loc) (cells slots : Nat) (ls : Array Slot) (x y : Int64) (rest : List Value), ¬ y = 0 → W p l e R s m args below meth c H locs cells slots Q (F0 m pc' ls (.long (f x y) :: rest)) → W p l e R s m args below meth c H locs cells slots Q (F0 m pc ls (.long y :: .long x :: rest)))
    (kk : e_W p l e R s m args below meth c Q P D ad base n0 z0 k F.1 F.2.1 F.2.2.1 F.2.2.2) : e_W p l e R s m args below meth c Q P D ad base n0 z0 k pc lv st mem := by
  unfold e_l2z at h
  split at h
  · next y x r =>
    by_cases hy : y = 0
    · rw [decide_eq_true hy] at h; cases h
    · rw [decide_eq_false hy] at h
      cases h
      intro H locs cells slots ls hP hz hlo hl hc hs
      exact row H locs cells slots ls _ _ _ hy (kk H locs cells slots ls hP hz hlo hl hc hs)
  · cases h
theorem e_s_jmp {pc : Nat} {o : Int} {lv : List (Nat × Value)} {st : List Value} {mem : List e_C} {F : e_F} (h : e_jmp pc o lv st mem = some F) : ∃ t : Nat, (pc : Int) + o = (t : Int) ∧ F = (t, lv, st, mem) := by
  unfold e_jmp at h
  split at h
  · next t ht => cases h; exact ⟨t, e_tgt_eq ht, rfl⟩
  · cases h
theorem e_s_if (X : e_X p s m args meth c P D cl Ts Ns ad k) {pc : Nat} {cd : ClassFile.Cond} {o : Int} {x : Int32} {lv : List (Nat × Value)} {st : List Value} {mem : List e_C} {F : e_F} (hd : decode (e_mth P k).2.1 pc = .ok (.ifCond cd o, 3)) (h : e_if (e_c1 cd x) pc o lv st mem = some F)
    (kk : e_W p l e R s m args below meth c Q P D ad base n0 z0 k F.1 F.2.1 F.2.2.1 F.2.2.2) : e_W p l e R s m args below meth c Q P D ad base n0 z0 k pc lv (.int x :: st) mem := by
  obtain ⟨hx, hb, -⟩ := X
  intro H locs cells slots ls hP hz hlo hl hc hs
  unfold e_if at h
  split at h
  · next t ht0 =>
    have e1 := e_tgt_eq ht0
    cases hcx : e_c1 cd x with
    | true =>
      rw [hcx] at h
      cases h
      have w := kk H locs cells slots ls hP hz hlo hl hc hs
      cases cd <;> simp only [e_c1, decide_eq_true_eq, Bool.not_eq_true', decide_eq_false_iff_not] at hcx
      · exact lv_if_eq hx hb hd e1 (fun _ => w) (fun n => absurd hcx n)
      · exact lv_if_ne hx hb hd e1 (fun _ => w) (fun n => absurd n hcx)
      · exact lv_if_lt hx hb hd e1 (fun _ => w) (fun n => absurd hcx n)
      · exact lv_if_ge hx hb hd e1 (fun _ => w) (fun n => absurd hcx n)
      · exact lv_if_gt hx hb hd e1 (fun _ => w) (fun n => absurd hcx n)
      · exact lv_if_le hx hb hd e1 (fun _ => w) (fun n => absurd hcx n)
    | false =>
      rw [hcx] at h
      cases h
      have w := kk H locs cells slots ls hP hz hlo hl hc hs
      cases cd <;> simp only [e_c1, Bool.not_eq_false', decide_eq_true_eq, decide_eq_false_iff_not] at hcx
      · exact lv_if_eq hx hb hd e1 (fun n => absurd n hcx) (fun _ => w)
      · exact lv_if_ne hx hb hd e1 (fun n => absurd hcx n) (fun _ => w)
      · exact lv_if_lt hx hb hd e1 (fun n => absurd n hcx) (fun _ => w)
      · exact lv_if_ge hx hb hd e1 (fun n => absurd n hcx) (fun _ => w)
      · exact lv_if_gt hx hb hd e1 (fun n => absurd n hcx) (fun _ => w)
      · exact lv_if_le hx hb hd e1 (fun n => absurd n hcx) (fun _ => w)
  · cases h
theorem e_s_icmp (X : e_X p s m args meth c P D cl Ts Ns ad k) {pc : Nat} {cd : ClassFile.Cond} {o : Int} {x y : Int32} {lv : List (Nat × Value)} {st : List Value} {mem : List e_C} {F : e_F} (hd : decode (e_mth P k).2.1 pc = .ok (.if_icmp cd o, 3)) (h : e_if (e_c2 cd x y) pc o lv st mem = some F)
    (kk : e_W p l e R s m args below meth c Q P D ad base n0 z0 k F.1 F.2.1 F.2.2.1 F.2.2.2) : e_W p l e R s m args below meth c Q P D ad base n0 z0 k pc lv (.int y :: .int x :: st) mem := by
  obtain ⟨hx, hb, -⟩ := X
  intro H locs cells slots ls hP hz hlo hl hc hs
  unfold e_if at h
  split at h
  · next t ht0 =>
    have e1 := e_tgt_eq ht0
    cases hcx : e_c2 cd x y with
    | true =>
      rw [hcx] at h
      cases h
      have w := kk H locs cells slots ls hP hz hlo hl hc hs
      cases cd <;> simp only [e_c2, decide_eq_true_eq, Bool.not_eq_true', decide_eq_false_iff_not] at hcx
      · exact lv_icmp_eq hx hb hd e1 (fun _ => w) (fun n => absurd hcx n)
      · exact lv_icmp_ne hx hb hd e1 (fun _ => w) (fun n => absurd n hcx)
      · exact lv_icmp_lt hx hb hd e1 (fun _ => w) (fun n => absurd hcx n)
      · exact lv_icmp_ge hx hb hd e1 (fun _ => w) (fun n => absurd hcx n)
      · exact lv_icmp_gt hx hb hd e1 (fun _ => w) (fun n => absurd hcx n)
      · exact lv_icmp_le hx hb hd e1 (fun _ => w) (fun n => absurd hcx n)
    | false =>
      rw [hcx] at h
      cases h
      have w := kk H locs cells slots ls hP hz hlo hl hc hs
      cases cd <;> simp only [e_c2, Bool.not_eq_false', decide_eq_true_eq, decide_eq_false_iff_not] at hcx
      · exact lv_icmp_eq hx hb hd e1 (fun n => absurd n hcx) (fun _ => w)
      · exact lv_icmp_ne hx hb hd e1 (fun n => absurd hcx n) (fun _ => w)
      · exact lv_icmp_lt hx hb hd e1 (fun n => absurd n hcx) (fun _ => w)
      · exact lv_icmp_ge hx hb hd e1 (fun n => absurd n hcx) (fun _ => w)
      · exact lv_icmp_gt hx hb hd e1 (fun n => absurd n hcx) (fun _ => w)
      · exact lv_icmp_le hx hb hd e1 (fun n => absurd n hcx) (fun _ => w)
  · cases h
end ES
