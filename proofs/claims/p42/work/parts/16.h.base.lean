/-! WALKS BY PLACES: what a place (cell, number) holds is an integer -/
abbrev h_S : Type := Nat → Int → Int
def h_up (σ : h_S) (q : Nat) (j v : Int) : h_S := fun p i => if p = q ∧ i = j then v else σ p i
abbrev h_Y : Type := (Bool × Nat) ⊕ (Nat × List (Option Value))
abbrev h_L : Type := (Nat → Option h_Y) × Nat × Nat
def h_cell (σ : h_S) (q : Nat) (y : h_Y) (c : e_C) : Prop := match y, c with
  | .inl t, .inl a => a.1 = t.1 ∧ a.2.length = t.2 ∧ ∀ (j : Nat) (x : Int32), a.2[j]? = some x → x.toInt = σ q (j : Int)
  | .inr t, .inr o => o.1 = t.1 ∧ o.2.length = t.2.length ∧ ∀ (j : Nat), (∀ v, t.2[j]? = some (some v) → o.2[j]? = some v) ∧ (t.2[j]? = some none → ∃ x : Int32, o.2[j]? = some (.int x) ∧ x.toInt = σ q (j : Int))
  | _, _ => False
def h_R (Y : h_L) (σ : h_S) (mem : List e_C) : Prop := mem.length = Y.2.1 ∧ e_sl mem = Y.2.2 ∧ ∀ (q : Nat) (y : h_Y), Y.1 q = some y → ∃ c, mem[q]? = some c ∧ h_cell σ q y c
def h_loc (L lv : List (Nat × Value)) : Prop := ∀ p ∈ L, e_get lv p.1 = some p.2
def h_T (P : e_Pg) (Y : h_L) (k pc : Nat) (L : List (Nat × Value)) (st : List Value) (σ : h_S) (Q : Option Value → h_S → Prop) : Prop :=
  ∀ (lv : List (Nat × Value)) (mem : List e_C), h_loc L lv → h_R Y σ mem → ∃ (y : Option Value × List e_C) (τ : h_S), e_Ev P k pc lv st mem y ∧ h_R Y τ y.2 ∧ Q y.1 τ
def h_K (P : e_Pg) (Y : h_L) (k pc : Nat) (L : List (Nat × Value)) (st : List Value) (Q : Option Value → h_S → Prop) : Option Value → h_S → Prop := fun r σ => match r with
  | some v => h_T P Y k pc L (v :: st) σ Q
  | none => h_T P Y k pc L st σ Q
def h_al : List (Nat × Value) → List (Nat × Value) → Prop
  | [], _ => True
  | p :: r, L => e_get L p.1 = some p.2 ∧ h_al r L
theorem h_al_ok : ∀ {M L lv : List (Nat × Value)}, h_al M L → h_loc L lv → h_loc M lv
  | [], _, _, _, _ => fun p hp => absurd hp List.not_mem_nil
  | q :: r, L, lv, h, hl => by
    intro p hp
    rcases List.mem_cons.mp hp with rfl | hp
    · exact hl _ (e_get_mem h.1)
    · exact h_al_ok h.2 hl p hp
theorem h_get {L lv : List (Nat × Value)} {i : Nat} {v : Value} (hl : h_loc L lv) (h : e_get L i = some v) : e_get lv i = some v := hl _ (e_get_mem h)
theorem h_fil (f : Nat × Value → Bool) : ∀ {lv : List (Nat × Value)} {i : Nat} {v : Value}, e_get lv i = some v → f (i, v) = true → e_get (lv.filter f) i = some v
  | [], _, _, h, _ => by cases h
  | q :: r, i, v, h, hf => by
    unfold e_get at h
    cases hq : q.1 == i with
    | true =>
      rw [hq] at h
      have e1 : q.1 = i := by simpa using hq
      have e2 : q.2 = v := by simpa using h
      have e3 : q = (i, v) := by rw [← e1, ← e2]
      rw [e3, List.filter_cons, hf]
      simp [e_get]
    | false =>
      rw [hq] at h
      have ih := h_fil f (lv := r) (by simpa using h) hf
      rw [List.filter_cons]
      split
      · unfold e_get
        rw [hq]
        exact ih
      · exact ih
theorem h_put1 {L lv : List (Nat × Value)} (i : Nat) (v : Value) (hl : h_loc L lv) : h_loc (e_put1 L i v) (e_put1 lv i v) := by
  intro p hp
  unfold e_put1 at hp
  rcases List.mem_cons.mp hp with rfl | hp
  · simp [e_put1, e_get]
  · obtain ⟨h1, h2⟩ := List.mem_filter.mp hp
    have h3 := hl p h1
    simp only [Bool.and_eq_true] at h2
    unfold e_put1 e_get
    have h4 : (i == p.1) = false := by
      have := h2.1
      simp at this
      simp
      omega
    rw [show ((i, v).1 == p.1) = false from h4]
    exact h_fil _ h3 (by simp only [Bool.and_eq_true]; exact h2)
theorem h_put2 {L lv : List (Nat × Value)} (i : Nat) (v : Value) (hl : h_loc L lv) : h_loc (e_put2 L i v) (e_put2 lv i v) := by
  intro p hp
  unfold e_put2 at hp
  rcases List.mem_cons.mp hp with rfl | hp
  · simp [e_put2, e_get]
  · obtain ⟨h1, h2⟩ := List.mem_filter.mp hp
    have h3 := hl p h1
    simp only [Bool.and_eq_true] at h2
    unfold e_put2 e_get
    have h4 : (i == p.1) = false := by
      have := h2.1
      simp at this
      simp
      omega
    rw [show ((i, v).1 == p.1) = false from h4]
    exact h_fil _ h3 (by simp only [Bool.and_eq_true]; exact h2)
section HT
variable {P : e_Pg} {Y : h_L} {k pc pc' : Nat} {L : List (Nat × Value)} {st : List Value} {σ : h_S} {Q : Option Value → h_S → Prop}
theorem h_wk (M : List (Nat × Value)) (h : h_al M L) (kk : h_T P Y k pc M st σ Q) : h_T P Y k pc L st σ Q := fun lv mem hl hR => kk lv mem (h_al_ok h hl) hR
theorem h_Kv {v : Value} (kk : h_T P Y k pc L (v :: st) σ Q) : h_K P Y k pc L st Q (some v) σ := kk
theorem h_Kn (kk : h_T P Y k pc L st σ Q) : h_K P Y k pc L st Q none σ := kk
theorem h_step {i : Instr} {n : Nat} {L' : List (Nat × Value)} {st' : List Value} {σ' : h_S} (hc : e_code P k pc = some (i, n)) (ho : e_ok (i, n) = true) (hs : e_smp i = true) (h : ∀ lv mem, h_loc L lv → h_R Y σ mem → ∃ lv' mem', e_step P k i pc lv st mem = some (pc', lv', st', mem') ∧ h_loc L' lv' ∧ h_R Y σ' mem') (kk : h_T P Y k pc' L' st' σ' Q) : h_T P Y k pc L st σ Q := by
  intro lv mem hl hR
  obtain ⟨lv', mem', h1, h2, h3⟩ := h lv mem hl hR
  obtain ⟨y, τ, h4, h5⟩ := kk lv' mem' h2 h3
  exact ⟨y, τ, e_Ev.step (x := (i, n)) hc ho hs h1 h4, h5⟩
theorem h_pure {i : Instr} {n : Nat} {st' : List Value} (hc : e_code P k pc = some (i, n)) (ho : e_ok (i, n) = true) (hs : e_smp i = true) (h : ∀ lv mem, h_loc L lv → e_step P k i pc lv st mem = some (pc', lv, st', mem)) (kk : h_T P Y k pc' L st' σ Q) : h_T P Y k pc L st σ Q :=
  h_step hc ho hs (fun lv mem hl hR => ⟨lv, mem, h lv mem hl, hl, hR⟩) kk
theorem h_iload {i : Nat} {x : Int32} (hc : e_code P k pc = some (.iload i, 2)) (hp : pc + 2 = pc') (hg : e_get L i = some (.int x)) (kk : h_T P Y k pc' L (.int x :: st) σ Q) : h_T P Y k pc L st σ Q :=
  h_pure hc rfl rfl (fun lv mem hl => by subst hp; show e_iload _ _ _ _ _ = _; unfold e_iload; rw [h_get hl hg]) kk
theorem h_iload_n {i : Fin 4} {x : Int32} (hc : e_code P k pc = some (.iload_n i, 1)) (hp : pc + 1 = pc') (hg : e_get L i.val = some (.int x)) (kk : h_T P Y k pc' L (.int x :: st) σ Q) : h_T P Y k pc L st σ Q :=
  h_pure hc rfl rfl (fun lv mem hl => by subst hp; show e_iload _ _ _ _ _ = _; unfold e_iload; rw [h_get hl hg]) kk
theorem h_lload {i : Nat} {x : Int64} (hc : e_code P k pc = some (.lload i, 2)) (hp : pc + 2 = pc') (hg : e_get L i = some (.long x)) (kk : h_T P Y k pc' L (.long x :: st) σ Q) : h_T P Y k pc L st σ Q :=
  h_pure hc rfl rfl (fun lv mem hl => by subst hp; show e_lload _ _ _ _ _ = _; unfold e_lload; rw [h_get hl hg]) kk
theorem h_lload_n {i : Fin 4} {x : Int64} (hc : e_code P k pc = some (.lload_n i, 1)) (hp : pc + 1 = pc') (hg : e_get L i.val = some (.long x)) (kk : h_T P Y k pc' L (.long x :: st) σ Q) : h_T P Y k pc L st σ Q :=
  h_pure hc rfl rfl (fun lv mem hl => by subst hp; show e_lload _ _ _ _ _ = _; unfold e_lload; rw [h_get hl hg]) kk
theorem h_aload_n {i : Fin 4} {q : Nat} (hc : e_code P k pc = some (.aload_n i, 1)) (hp : pc + 1 = pc') (hg : e_get L i.val = some (.ref q)) (kk : h_T P Y k pc' L (.ref q :: st) σ Q) : h_T P Y k pc L st σ Q :=
  h_pure hc rfl rfl (fun lv mem hl => by subst hp; show e_aload _ _ _ _ _ = _; unfold e_aload; rw [h_get hl hg]) kk
theorem h_istore {i : Nat} {x : Int32} {M : List (Nat × Value)} (hc : e_code P k pc = some (.istore i, 2)) (hp : pc + 2 = pc') (hn : Nat.blt i (e_mth P k).2.2.1 = true) (hM : e_put1 L i (.int x) = M) (kk : h_T P Y k pc' M st σ Q) : h_T P Y k pc L (.int x :: st) σ Q :=
  h_step hc rfl rfl (fun lv mem hl hR => ⟨e_put1 lv i (.int x), mem, by subst hp; simp only [e_step, e_istore, hn, cond_true], hM ▸ h_put1 _ _ hl, hR⟩) kk
theorem h_istore_n {i : Fin 4} {x : Int32} {M : List (Nat × Value)} (hc : e_code P k pc = some (.istore_n i, 1)) (hp : pc + 1 = pc') (hn : Nat.blt i.val (e_mth P k).2.2.1 = true) (hM : e_put1 L i.val (.int x) = M) (kk : h_T P Y k pc' M st σ Q) : h_T P Y k pc L (.int x :: st) σ Q :=
  h_step hc rfl rfl (fun lv mem hl hR => ⟨e_put1 lv i.val (.int x), mem, by subst hp; simp only [e_step, e_istore, hn, cond_true], hM ▸ h_put1 _ _ hl, hR⟩) kk
theorem h_astore_n {i : Fin 4} {q : Nat} {M : List (Nat × Value)} (hc : e_code P k pc = some (.astore_n i, 1)) (hp : pc + 1 = pc') (hn : Nat.blt i.val (e_mth P k).2.2.1 = true) (hM : e_put1 L i.val (.ref q) = M) (kk : h_T P Y k pc' M st σ Q) : h_T P Y k pc L (.ref q :: st) σ Q :=
  h_step hc rfl rfl (fun lv mem hl hR => ⟨e_put1 lv i.val (.ref q), mem, by subst hp; simp only [e_step, e_astore, hn, cond_true], hM ▸ h_put1 _ _ hl, hR⟩) kk
theorem h_lstore {i : Nat} {x : Int64} {M : List (Nat × Value)} (hc : e_code P k pc = some (.lstore i, 2)) (hp : pc + 2 = pc') (hn : Nat.blt (i + 1) (e_mth P k).2.2.1 = true) (hM : e_put2 L i (.long x) = M) (kk : h_T P Y k pc' M st σ Q) : h_T P Y k pc L (.long x :: st) σ Q :=
  h_step hc rfl rfl (fun lv mem hl hR => ⟨e_put2 lv i (.long x), mem, by subst hp; simp only [e_step, e_lstore, hn, cond_true], hM ▸ h_put2 _ _ hl, hR⟩) kk
theorem h_lstore_n {i : Fin 4} {x : Int64} {M : List (Nat × Value)} (hc : e_code P k pc = some (.lstore_n i, 1)) (hp : pc + 1 = pc') (hn : Nat.blt (i.val + 1) (e_mth P k).2.2.1 = true) (hM : e_put2 L i.val (.long x) = M) (kk : h_T P Y k pc' M st σ Q) : h_T P Y k pc L (.long x :: st) σ Q :=
  h_step hc rfl rfl (fun lv mem hl hR => ⟨e_put2 lv i.val (.long x), mem, by subst hp; simp only [e_step, e_lstore, hn, cond_true], hM ▸ h_put2 _ _ hl, hR⟩) kk
theorem h_iconst {n : Int} {x : Int32} (hc : e_code P k pc = some (.iconst n, 1)) (hp : pc + 1 = pc') (hx : Int32.ofInt n = x) (kk : h_T P Y k pc' L (.int x :: st) σ Q) : h_T P Y k pc L st σ Q :=
  h_pure hc rfl rfl (fun lv mem hl => by subst hp; subst hx; rfl) kk
theorem h_bipush {n : Int} {x : Int32} (hc : e_code P k pc = some (.bipush n, 2)) (hp : pc + 2 = pc') (hx : (Int8.ofInt n).toInt32 = x) (kk : h_T P Y k pc' L (.int x :: st) σ Q) : h_T P Y k pc L st σ Q :=
  h_pure hc rfl rfl (fun lv mem hl => by subst hp; subst hx; rfl) kk
theorem h_sipush {n : Int} {x : Int32} (hc : e_code P k pc = some (.sipush n, 3)) (hp : pc + 3 = pc') (hx : (Int16.ofInt n).toInt32 = x) (kk : h_T P Y k pc' L (.int x :: st) σ Q) : h_T P Y k pc L st σ Q :=
  h_pure hc rfl rfl (fun lv mem hl => by subst hp; subst hx; rfl) kk
theorem h_ldc {n : Nat} {x : Int32} (hc : e_code P k pc = some (.ldc n, 2)) (hp : pc + 2 = pc') (hx : e_con P k n = some (.int x)) (kk : h_T P Y k pc' L (.int x :: st) σ Q) : h_T P Y k pc L st σ Q :=
  h_pure hc rfl rfl (fun lv mem hl => by subst hp; show e_ldi _ _ _ _ _ = _; rw [hx]; rfl) kk
theorem h_ldcS {n q : Nat} (hc : e_code P k pc = some (.ldc n, 2)) (hp : pc + 2 = pc') (hx : e_con P k n = some (.ref q)) (kk : h_T P Y k pc' L (.ref q :: st) σ Q) : h_T P Y k pc L st σ Q :=
  h_pure hc rfl rfl (fun lv mem hl => by subst hp; show e_ldi _ _ _ _ _ = _; rw [hx]; rfl) kk
theorem h_ldcw {n : Nat} {x : Int32} (hc : e_code P k pc = some (.ldc_w n, 3)) (hp : pc + 3 = pc') (hx : e_con P k n = some (.int x)) (kk : h_T P Y k pc' L (.int x :: st) σ Q) : h_T P Y k pc L st σ Q :=
  h_pure hc rfl rfl (fun lv mem hl => by subst hp; show e_ldw _ _ _ _ _ = _; rw [hx]; rfl) kk
theorem h_ldc2 {n : Nat} {x : Int64} (hc : e_code P k pc = some (.ldc2_w n, 3)) (hp : pc + 3 = pc') (hx : e_con P k n = some (.long x)) (kk : h_T P Y k pc' L (.long x :: st) σ Q) : h_T P Y k pc L st σ Q :=
  h_pure hc rfl rfl (fun lv mem hl => by subst hp; show e_ldl _ _ _ _ _ = _; rw [hx]; rfl) kk
theorem h_lconst {n : Fin 2} {x : Int64} (hc : e_code P k pc = some (.lconst n, 1)) (hp : pc + 1 = pc') (hx : Int64.ofNat n.val = x) (kk : h_T P Y k pc' L (.long x :: st) σ Q) : h_T P Y k pc L st σ Q :=
  h_pure hc rfl rfl (fun lv mem hl => by subst hp; subst hx; rfl) kk
theorem h_dup {v : Value} (hc : e_code P k pc = some (.dup, 1)) (hp : pc + 1 = pc') (hv : (v.category == 1) = true) (kk : h_T P Y k pc' L (v :: v :: st) σ Q) : h_T P Y k pc L (v :: st) σ Q :=
  h_pure hc rfl rfl (fun lv mem hl => by subst hp; simp only [e_step, e_dup, hv, cond_true]) kk
theorem h_dup2 {v w : Value} (hc : e_code P k pc = some (.dup2, 1)) (hp : pc + 1 = pc') (hv : (v.category == 1 && w.category == 1) = true) (kk : h_T P Y k pc' L (v :: w :: v :: w :: st) σ Q) : h_T P Y k pc L (v :: w :: st) σ Q :=
  h_pure hc rfl rfl (fun lv mem hl => by subst hp; simp only [e_step, e_dup2, hv, cond_true]) kk
theorem h_pop {v : Value} (hc : e_code P k pc = some (.pop, 1)) (hp : pc + 1 = pc') (hv : (v.category == 1) = true) (kk : h_T P Y k pc' L st σ Q) : h_T P Y k pc L (v :: st) σ Q :=
  h_pure hc rfl rfl (fun lv mem hl => by subst hp; simp only [e_step, e_pop, hv, cond_true]) kk
theorem h_goto {o : Int} (hc : e_code P k pc = some (.goto o, 3)) (hp : e_tgt pc o = some pc') (kk : h_T P Y k pc' L st σ Q) : h_T P Y k pc L st σ Q :=
  h_pure hc rfl rfl (fun lv mem hl => by show e_jmp _ _ _ _ _ = _; unfold e_jmp; rw [hp]) kk
/-! arithmetic -/
theorem h_bm {z : Int} (h1 : -2147483648 ≤ z) (h2 : z ≤ 2147483647) : z.bmod (2 ^ 32) = z := by rw [Int.bmod_eq_of_le (by omega) (by omega)]
theorem h_iinc {i : Nat} {d : Int} {x : Int32} {a b : Int} {M : Int32 → List (Nat × Value)} (hc : e_code P k pc = some (.iinc i d, 3)) (hp : pc + 3 = pc') (hn : Nat.blt i (e_mth P k).2.2.1 = true) (hg : e_get L i = some (.int x)) (hx : x.toInt = a) (hd : (Int32.ofInt d).toInt = d) (hb : a + d = b) (h1 : -2147483648 ≤ b) (h2 : b ≤ 2147483647) (hM : ∀ z, e_put1 L i (.int z) = M z) (kk : ∀ z : Int32, z.toInt = b → h_T P Y k pc' (M z) st σ Q) : h_T P Y k pc L st σ Q :=
  h_step hc rfl rfl (fun lv mem hl hR => ⟨e_put1 lv i (.int (x + Int32.ofInt d)), mem, by subst hp; show e_iinc _ _ _ _ _ _ _ = _; unfold e_iinc; rw [h_get hl hg]; dsimp only; rw [hn]; rfl, hM (x + Int32.ofInt d) ▸ h_put1 _ _ hl, hR⟩) (kk _ (by rw [Int32.toInt_add, hd, hx, hb, h_bm h1 h2]))
theorem h_i2 {i : Instr} {f : Int32 → Int32 → Int32} {x y : Int32} (hc : e_code P k pc = some (i, 1)) (hp : pc + 1 = pc') (ho : e_ok (i, 1) = true) (hs : e_smp i = true) (hf : ∀ lv mem, e_step P k i pc lv (.int y :: .int x :: st) mem = e_i2 (pc + 1) lv (.int y :: .int x :: st) mem f) (kk : h_T P Y k pc' L (.int (f x y) :: st) σ Q) : h_T P Y k pc L (.int y :: .int x :: st) σ Q :=
  h_pure hc ho hs (fun lv mem hl => by subst hp; rw [hf]; rfl) kk
theorem h_iadd {x y : Int32} {a b c : Int} (hc : e_code P k pc = some (.iadd, 1)) (hp : pc + 1 = pc') (hx : x.toInt = a) (hy : y.toInt = b) (he : a + b = c) (h1 : -2147483648 ≤ c) (h2 : c ≤ 2147483647) (kk : ∀ z : Int32, z.toInt = c → h_T P Y k pc' L (.int z :: st) σ Q) : h_T P Y k pc L (.int y :: .int x :: st) σ Q :=
  h_i2 (f := fun x y => x + y) hc hp rfl rfl (fun _ _ => rfl) (kk (x + y) (by rw [Int32.toInt_add, hx, hy, he, h_bm h1 h2]))
theorem h_isub {x y : Int32} {a b c : Int} (hc : e_code P k pc = some (.isub, 1)) (hp : pc + 1 = pc') (hx : x.toInt = a) (hy : y.toInt = b) (he : a - b = c) (h1 : -2147483648 ≤ c) (h2 : c ≤ 2147483647) (kk : ∀ z : Int32, z.toInt = c → h_T P Y k pc' L (.int z :: st) σ Q) : h_T P Y k pc L (.int y :: .int x :: st) σ Q :=
  h_i2 (f := fun x y => x - y) hc hp rfl rfl (fun _ _ => rfl) (kk (x - y) (by rw [Int32.toInt_sub, hx, hy, he, h_bm h1 h2]))
theorem h_imul {x y : Int32} {a b c : Int} (hc : e_code P k pc = some (.imul, 1)) (hp : pc + 1 = pc') (hx : x.toInt = a) (hy : y.toInt = b) (he : a * b = c) (h1 : -2147483648 ≤ c) (h2 : c ≤ 2147483647) (kk : ∀ z : Int32, z.toInt = c → h_T P Y k pc' L (.int z :: st) σ Q) : h_T P Y k pc L (.int y :: .int x :: st) σ Q :=
  h_i2 (f := fun x y => x * y) hc hp rfl rfl (fun _ _ => rfl) (kk (x * y) (by rw [Int32.toInt_mul, hx, hy, he, h_bm h1 h2]))
theorem h_dv {x y : Int32} {a b : Int} (hx : x.toInt = a) (hy : y.toInt = b) (h0 : 0 ≤ a) (hb : 0 < b) : (x / y).toInt = a / b ∧ (x - x / y * y).toInt = a % b := by
  subst hx
  subst hy
  obtain ⟨a, ha, rfl⟩ := nI_of (x := x) (by rw [Int32.lt_iff_toInt_lt]; simp; omega)
  obtain ⟨b, hb2, rfl⟩ := nI_of (x := y) (by rw [Int32.lt_iff_toInt_lt]; simp; omega)
  rw [nI_toInt hb2] at hb
  have hb0 : 0 < b := by omega
  rw [pk_rem ha hb0 hb2, pk_div ha hb0 hb2, nI_toInt ha, nI_toInt hb2, nI_toInt (by exact Nat.lt_of_le_of_lt (Nat.div_le_self a b) ha), nI_toInt (by exact Nat.lt_of_le_of_lt (Nat.mod_le a b) ha)]
  exact ⟨by simp, by simp⟩
theorem h_i2z {i : Instr} {f : Int32 → Int32 → Int32} {x y : Int32} (hc : e_code P k pc = some (i, 1)) (hp : pc + 1 = pc') (ho : e_ok (i, 1) = true) (hs : e_smp i = true) (hf : ∀ lv mem, e_step P k i pc lv (.int y :: .int x :: st) mem = e_i2z (pc + 1) lv (.int y :: .int x :: st) mem f) (h0 : ¬ y = 0) (kk : h_T P Y k pc' L (.int (f x y) :: st) σ Q) : h_T P Y k pc L (.int y :: .int x :: st) σ Q :=
  h_pure hc ho hs (fun lv mem hl => by subst hp; rw [hf]; simp [e_i2z, h0]) kk
theorem h_ne0 {y : Int32} {b : Int} (hy : y.toInt = b) (hb : 0 < b) : ¬ y = 0 := by
  intro h
  rw [h] at hy
  have : (0 : Int32).toInt = 0 := rfl
  omega
theorem h_idiv {x y : Int32} {a b : Int} (hc : e_code P k pc = some (.idiv, 1)) (hp : pc + 1 = pc') (hx : x.toInt = a) (hy : y.toInt = b) (h0 : 0 ≤ a) (hb : 0 < b) (kk : ∀ z : Int32, z.toInt = a / b → h_T P Y k pc' L (.int z :: st) σ Q) : h_T P Y k pc L (.int y :: .int x :: st) σ Q :=
  h_i2z (f := fun x y => x / y) hc hp rfl rfl (fun _ _ => rfl) (h_ne0 hy hb) (kk _ (h_dv hx hy h0 hb).1)
theorem h_irem {x y : Int32} {a b : Int} (hc : e_code P k pc = some (.irem, 1)) (hp : pc + 1 = pc') (hx : x.toInt = a) (hy : y.toInt = b) (h0 : 0 ≤ a) (hb : 0 < b) (kk : ∀ z : Int32, z.toInt = a % b → h_T P Y k pc' L (.int z :: st) σ Q) : h_T P Y k pc L (.int y :: .int x :: st) σ Q :=
  h_i2z (f := fun x y => x - x / y * y) hc hp rfl rfl (fun _ _ => rfl) (h_ne0 hy hb) (kk _ (h_dv hx hy h0 hb).2)
theorem h_andP {x y : Int32} : (0 ≤ x.toInt → 0 ≤ (x &&& y).toInt ∧ (x &&& y).toInt ≤ x.toInt) ∧ (0 ≤ y.toInt → 0 ≤ (x &&& y).toInt ∧ (x &&& y).toInt ≤ y.toInt) := by
  have key : ∀ x y : Int32, 0 ≤ x.toInt → 0 ≤ (x &&& y).toInt ∧ (x &&& y).toInt ≤ x.toInt := by
    intro x y hx
    obtain ⟨a, ha, rfl⟩ := nI_of (x := x) (by rw [Int32.lt_iff_toInt_lt]; simp; omega)
    have e : (nI a &&& y) = nI (a &&& y.toBitVec.toNat) := by
      apply Int32.toBitVec_inj.mp
      apply BitVec.eq_of_toNat_eq
      rw [Int32.toBitVec_and, BitVec.toNat_and, pk_tn (by omega)]
      have hle : a &&& y.toBitVec.toNat ≤ a := Nat.and_le_left
      rw [pk_tn (by omega)]
    have hle : a &&& y.toBitVec.toNat ≤ a := Nat.and_le_left
    rw [e, nI_toInt (by omega), nI_toInt ha]
    omega
  refine ⟨key x y, fun h => ?_⟩
  rw [Int32.and_comm]
  exact key y x h
theorem h_iand {x y : Int32} (hc : e_code P k pc = some (.iand, 1)) (hp : pc + 1 = pc') (kk : ∀ z : Int32, z = x &&& y → (0 ≤ x.toInt → 0 ≤ z.toInt ∧ z.toInt ≤ x.toInt) → (0 ≤ y.toInt → 0 ≤ z.toInt ∧ z.toInt ≤ y.toInt) → h_T P Y k pc' L (.int z :: st) σ Q) : h_T P Y k pc L (.int y :: .int x :: st) σ Q :=
  h_i2 (f := fun x y => x &&& y) hc hp rfl rfl (fun _ _ => rfl) (kk (x &&& y) rfl h_andP.1 h_andP.2)
theorem h_ior {x y : Int32} (hc : e_code P k pc = some (.ior, 1)) (hp : pc + 1 = pc') (kk : ∀ z : Int32, z = x ||| y → h_T P Y k pc' L (.int z :: st) σ Q) : h_T P Y k pc L (.int y :: .int x :: st) σ Q :=
  h_i2 (f := fun x y => x ||| y) hc hp rfl rfl (fun _ _ => rfl) (kk (x ||| y) rfl)
theorem h_ixor {x y : Int32} (hc : e_code P k pc = some (.ixor, 1)) (hp : pc + 1 = pc') (kk : ∀ z : Int32, z = x ^^^ y → h_T P Y k pc' L (.int z :: st) σ Q) : h_T P Y k pc L (.int y :: .int x :: st) σ Q :=
  h_i2 (f := fun x y => x ^^^ y) hc hp rfl rfl (fun _ _ => rfl) (kk (x ^^^ y) rfl)
theorem h_ishl {x y : Int32} (hc : e_code P k pc = some (.ishl, 1)) (hp : pc + 1 = pc') (kk : ∀ z : Int32, z = x <<< (y &&& 31) → h_T P Y k pc' L (.int z :: st) σ Q) : h_T P Y k pc L (.int y :: .int x :: st) σ Q :=
  h_i2 (f := fun x y => x <<< (y &&& 31)) hc hp rfl rfl (fun _ _ => rfl) (kk (x <<< (y &&& 31)) rfl)
theorem h_ishr {x y : Int32} (hc : e_code P k pc = some (.ishr, 1)) (hp : pc + 1 = pc') (kk : ∀ z : Int32, z = x >>> (y &&& 31) → h_T P Y k pc' L (.int z :: st) σ Q) : h_T P Y k pc L (.int y :: .int x :: st) σ Q :=
  h_i2 (f := fun x y => x >>> (y &&& 31)) hc hp rfl rfl (fun _ _ => rfl) (kk (x >>> (y &&& 31)) rfl)
theorem h_iushr {x y : Int32} (hc : e_code P k pc = some (.iushr, 1)) (hp : pc + 1 = pc') (kk : ∀ z : Int32, z = (x.toUInt32 >>> (y.toUInt32 &&& Int32.toUInt32 31)).toInt32 → h_T P Y k pc' L (.int z :: st) σ Q) : h_T P Y k pc L (.int y :: .int x :: st) σ Q :=
  h_i2 (f := fun x y => (x.toUInt32 >>> (y.toUInt32 &&& Int32.toUInt32 31)).toInt32) hc hp rfl rfl (fun _ _ => rfl) (kk _ rfl)
theorem h_iaddA {x y : Int32} (hc : e_code P k pc = some (.iadd, 1)) (hp : pc + 1 = pc') (kk : ∀ z : Int32, z = x + y → h_T P Y k pc' L (.int z :: st) σ Q) : h_T P Y k pc L (.int y :: .int x :: st) σ Q :=
  h_i2 (f := fun x y => x + y) hc hp rfl rfl (fun _ _ => rfl) (kk (x + y) rfl)
theorem h_isubA {x y : Int32} (hc : e_code P k pc = some (.isub, 1)) (hp : pc + 1 = pc') (kk : ∀ z : Int32, z = x - y → h_T P Y k pc' L (.int z :: st) σ Q) : h_T P Y k pc L (.int y :: .int x :: st) σ Q :=
  h_i2 (f := fun x y => x - y) hc hp rfl rfl (fun _ _ => rfl) (kk (x - y) rfl)
theorem h_imulA {x y : Int32} (hc : e_code P k pc = some (.imul, 1)) (hp : pc + 1 = pc') (kk : ∀ z : Int32, z = x * y → h_T P Y k pc' L (.int z :: st) σ Q) : h_T P Y k pc L (.int y :: .int x :: st) σ Q :=
  h_i2 (f := fun x y => x * y) hc hp rfl rfl (fun _ _ => rfl) (kk (x * y) rfl)
theorem h_i2b {x : Int32} (hc : e_code P k pc = some (.i2b, 1)) (hp : pc + 1 = pc') (kk : ∀ z : Int32, z = x.toInt8.toInt32 → h_T P Y k pc' L (.int z :: st) σ Q) : h_T P Y k pc L (.int x :: st) σ Q :=
  h_pure (st' := .int x.toInt8.toInt32 :: st) hc rfl rfl (fun lv mem hl => by subst hp; rfl) (kk _ rfl)
theorem h_i2s {x : Int32} (hc : e_code P k pc = some (.i2s, 1)) (hp : pc + 1 = pc') (kk : ∀ z : Int32, z = x.toInt16.toInt32 → h_T P Y k pc' L (.int z :: st) σ Q) : h_T P Y k pc L (.int x :: st) σ Q :=
  h_pure (st' := .int x.toInt16.toInt32 :: st) hc rfl rfl (fun lv mem hl => by subst hp; rfl) (kk _ rfl)
theorem h_i2l {x : Int32} {a : Int} (hc : e_code P k pc = some (.i2l, 1)) (hp : pc + 1 = pc') (hx : x.toInt = a) (kk : ∀ z : Int64, z.toInt = a → h_T P Y k pc' L (.long z :: st) σ Q) : h_T P Y k pc L (.int x :: st) σ Q :=
  h_pure (st' := .long x.toInt64 :: st) hc rfl rfl (fun lv mem hl => by subst hp; rfl) (kk _ (by rw [← hx]; simp))
theorem h_lbm {z : Int} (h1 : -9223372036854775808 ≤ z) (h2 : z ≤ 9223372036854775807) : z.bmod (2 ^ 64) = z := by rw [Int.bmod_eq_of_le (by omega) (by omega)]
theorem h_ladd {x y : Int64} {a b c : Int} (hc : e_code P k pc = some (.ladd, 1)) (hp : pc + 1 = pc') (hx : x.toInt = a) (hy : y.toInt = b) (he : a + b = c) (h1 : -9223372036854775808 ≤ c) (h2 : c ≤ 9223372036854775807) (kk : ∀ z : Int64, z.toInt = c → h_T P Y k pc' L (.long z :: st) σ Q) : h_T P Y k pc L (.long y :: .long x :: st) σ Q :=
  h_pure (st' := .long (x + y) :: st) hc rfl rfl (fun lv mem hl => by subst hp; rfl) (kk _ (by rw [Int64.toInt_add, hx, hy, he, h_lbm h1 h2]))
theorem h_lmul {x y : Int64} {a b c : Int} (hc : e_code P k pc = some (.lmul, 1)) (hp : pc + 1 = pc') (hx : x.toInt = a) (hy : y.toInt = b) (he : a * b = c) (h1 : -9223372036854775808 ≤ c) (h2 : c ≤ 9223372036854775807) (kk : ∀ z : Int64, z.toInt = c → h_T P Y k pc' L (.long z :: st) σ Q) : h_T P Y k pc L (.long y :: .long x :: st) σ Q :=
  h_pure (st' := .long (x * y) :: st) hc rfl rfl (fun lv mem hl => by subst hp; rfl) (kk _ (by rw [Int64.toInt_mul, hx, hy, he, h_lbm h1 h2]))
theorem h_laddA {x y : Int64} (hc : e_code P k pc = some (.ladd, 1)) (hp : pc + 1 = pc') (kk : ∀ z : Int64, z = x + y → h_T P Y k pc' L (.long z :: st) σ Q) : h_T P Y k pc L (.long y :: .long x :: st) σ Q :=
  h_pure (st' := .long (x + y) :: st) hc rfl rfl (fun lv mem hl => by subst hp; rfl) (kk _ rfl)
theorem h_lmulA {x y : Int64} (hc : e_code P k pc = some (.lmul, 1)) (hp : pc + 1 = pc') (kk : ∀ z : Int64, z = x * y → h_T P Y k pc' L (.long z :: st) σ Q) : h_T P Y k pc L (.long y :: .long x :: st) σ Q :=
  h_pure (st' := .long (x * y) :: st) hc rfl rfl (fun lv mem hl => by subst hp; rfl) (kk _ rfl)
theorem h_ldivA {x y : Int64} (hc : e_code P k pc = some (.ldiv, 1)) (hp : pc + 1 = pc') (h0 : ¬ y = 0) (kk : ∀ z : Int64, z = x / y → h_T P Y k pc' L (.long z :: st) σ Q) : h_T P Y k pc L (.long y :: .long x :: st) σ Q :=
  h_pure (st' := .long (x / y) :: st) hc rfl rfl (fun lv mem hl => by subst hp; simp [e_step, e_l2z, h0]) (kk _ rfl)
theorem h_lremA {x y : Int64} (hc : e_code P k pc = some (.lrem, 1)) (hp : pc + 1 = pc') (h0 : ¬ y = 0) (kk : ∀ z : Int64, z = x - x / y * y → h_T P Y k pc' L (.long z :: st) σ Q) : h_T P Y k pc L (.long y :: .long x :: st) σ Q :=
  h_pure (st' := .long (x - x / y * y) :: st) hc rfl rfl (fun lv mem hl => by subst hp; simp [e_step, e_l2z, h0]) (kk _ rfl)
theorem h_lcmp {x y : Int64} {a b : Int} (hc : e_code P k pc = some (.lcmp, 1)) (hp : pc + 1 = pc') (hx : x.toInt = a) (hy : y.toInt = b) (kk : ∀ z : Int32, ((a < b ∧ z.toInt = -1) ∨ (a = b ∧ z.toInt = 0) ∨ (b < a ∧ z.toInt = 1)) → h_T P Y k pc' L (.int z :: st) σ Q) : h_T P Y k pc L (.long y :: .long x :: st) σ Q :=
  h_pure (st' := .int (lg_cmp x y) :: st) hc rfl rfl (fun lv mem hl => by subst hp; rfl) (kk _ (by
    subst hx
    subst hy
    unfold lg_cmp
    simp only [gt_iff_lt, Int64.lt_iff_toInt_lt, ← Int64.toInt_inj]
    rcases Int.lt_trichotomy x.toInt y.toInt with h | h | h <;> (repeat' split) <;> first | omega | (left; exact ⟨h, rfl⟩) | (right; left; exact ⟨h, rfl⟩) | (right; right; exact ⟨h, rfl⟩)))
end HT
