/-! CELLS BY TYPES: for each place the set of ints that it may hold; references stay -/
/-- the set of a place of a row, by stretches of places -/
def b_seg (l : List ((Int × Int) × b_I)) (j : Nat) : b_I := (l.filter (fun s => decide (s.1.1 ≤ (j : Int)) && decide ((j : Int) ≤ s.1.2))).flatMap (fun s => s.2)
/-- the set of all places of J -/
def b_segU (l : List ((Int × Int) × b_I)) (J : b_I) : b_I := (l.filter (fun s => J.any (fun p => decide (s.1.1 ≤ p.2) && decide (p.1 ≤ s.1.2)))).flatMap (fun s => s.2)
theorem b_segU_ok {l : List ((Int × Int) × b_I)} {J : b_I} {j : Nat} {x : Int} (hj : b_in J (j : Int)) (hx : b_in (b_seg l j) x) : b_in (b_segU l J) x := by
  obtain ⟨p, hp, h1, h2⟩ := hx
  obtain ⟨s, hs, hps⟩ := List.mem_flatMap.mp hp
  obtain ⟨hs1, hs2⟩ := List.mem_filter.mp hs
  rw [Bool.and_eq_true, decide_eq_true_eq, decide_eq_true_eq] at hs2
  obtain ⟨q, hq, h3, h4⟩ := hj
  refine ⟨p, List.mem_flatMap.mpr ⟨s, List.mem_filter.mpr ⟨hs1, List.any_eq_true.mpr ⟨q, hq, ?_⟩⟩, hps⟩, h1, h2⟩
  rw [Bool.and_eq_true, decide_eq_true_eq, decide_eq_true_eq]
  omega
/-- a set that lies in the set of every place of J -/
def b_segA (l : List ((Int × Int) × b_I)) (len : Nat) (J I : b_I) : Bool := (List.range len).all (fun j => !(J.any (fun p => decide (p.1 ≤ (j : Int)) && decide ((j : Int) ≤ p.2))) || b_sub I (b_seg l j))
theorem b_segA_ok {l : List ((Int × Int) × b_I)} {len : Nat} {J I : b_I} {j : Nat} {x : Int} (h : b_segA l len J I = true) (hl : j < len) (hj : b_in J (j : Int)) (hx : b_in I x) : b_in (b_seg l j) x := by
  have h1 : (!(J.any (fun p => decide (p.1 ≤ (j : Int)) && decide ((j : Int) ≤ p.2))) || b_sub I (b_seg l j)) = true := List.all_eq_true.mp h j (List.mem_range.mpr hl)
  obtain ⟨q, hq, h3, h4⟩ := hj
  have h2 : J.any (fun p => decide (p.1 ≤ (j : Int)) && decide ((j : Int) ≤ p.2)) = true := List.any_eq_true.mpr ⟨q, hq, by rw [Bool.and_eq_true, decide_eq_true_eq, decide_eq_true_eq]; omega⟩
  rw [h2] at h1
  exact b_sub_ok (by simpa using h1) hx
abbrev b_Y : Type := (Bool × Nat × List ((Int × Int) × b_I)) ⊕ (Nat × List (Value ⊕ b_I))
def b_fv (f : Value ⊕ b_I) (v : Value) : Prop := match f with
  | .inl w => v = w
  | .inr I => ∃ x : Int32, v = .int x ∧ b_in I x.toInt
def b_cell (T : b_Y) (c : e_C) : Prop := match T, c with
  | .inl t, .inl a => a.1 = t.1 ∧ a.2.length = t.2.1 ∧ ∀ (j : Nat) (x : Int32), a.2[j]? = some x → b_in (b_seg t.2.2 j) x.toInt
  | .inr t, .inr o => o.1 = t.1 ∧ o.2.length = t.2.length ∧ ∀ (j : Nat) (f : Value ⊕ b_I) (v : Value), t.2[j]? = some f → o.2[j]? = some v → b_fv f v
  | _, _ => False
def b_mem (M : List b_Y) (mem : List e_C) : Prop := mem.length = M.length ∧ ∀ (q : Nat) (T : b_Y) (c : e_C), M[q]? = some T → mem[q]? = some c → b_cell T c
theorem b_mem.at {M : List b_Y} {mem : List e_C} {q : Nat} {T : b_Y} (h : b_mem M mem) (hq : M[q]? = some T) : ∃ c, mem[q]? = some c ∧ b_cell T c := by
  have hl : q < mem.length := by
    have := (List.getElem?_eq_some_iff.mp hq).1
    rw [h.1]
    exact this
  exact ⟨mem[q], List.getElem?_eq_getElem hl, h.2 q T _ hq (List.getElem?_eq_getElem hl)⟩
theorem b_mem.arr {M : List b_Y} {mem : List e_C} {q : Nat} {t : Bool × Nat × List ((Int × Int) × b_I)} (h : b_mem M mem) (hq : M[q]? = some (.inl t)) : ∃ a : Bool × List Int32, mem[q]? = some (.inl a) ∧ a.1 = t.1 ∧ a.2.length = t.2.1 ∧ ∀ (j : Nat) (x : Int32), a.2[j]? = some x → b_in (b_seg t.2.2 j) x.toInt := by
  obtain ⟨c, h1, h2⟩ := h.at hq
  cases c with
  | inl a => exact ⟨a, h1, h2⟩
  | inr o => exact h2.elim
theorem b_mem.obj {M : List b_Y} {mem : List e_C} {q : Nat} {t : Nat × List (Value ⊕ b_I)} (h : b_mem M mem) (hq : M[q]? = some (.inr t)) : ∃ o : Nat × List Value, mem[q]? = some (.inr o) ∧ o.1 = t.1 ∧ o.2.length = t.2.length ∧ ∀ (j : Nat) (f : Value ⊕ b_I) (v : Value), t.2[j]? = some f → o.2[j]? = some v → b_fv f v := by
  obtain ⟨c, h1, h2⟩ := h.at hq
  cases c with
  | inl a => exact h2.elim
  | inr o => exact ⟨o, h1, h2⟩
theorem b_mem.set {M : List b_Y} {mem : List e_C} {q : Nat} {T : b_Y} {c : e_C} (h : b_mem M mem) (hq : M[q]? = some T) (hc : b_cell T c) : b_mem M (mem.set q c) := by
  refine ⟨by rw [List.length_set]; exact h.1, fun k U d hk hd => ?_⟩
  by_cases hkq : k = q
  · subst hkq
    have hl : k < mem.length := by
      have := (List.getElem?_eq_some_iff.mp hq).1
      rw [h.1]
      exact this
    rw [List.getElem?_set_self hl] at hd
    cases hd
    cases hq.symm.trans hk
    exact hc
  · rw [List.getElem?_set_ne (Ne.symm hkq)] at hd
    exact h.2 k U d hk hd
/-- what a place holds -/
def e_pl (mem : List e_C) (q j : Nat) : Option Value := match mem[q]? with
  | some (.inl a) => (a.2[j]?).map Value.int
  | some (.inr o) => o.2[j]?
  | none => none
/-- an element is stored: the cells keep their types if it is of the place's set, every other place stays -/
theorem b_sta {M : List b_Y} {mem : List e_C} {q j : Nat} {t : Bool × Nat × List ((Int × Int) × b_I)} {a : Bool × List Int32} {x : Int32} (h : b_mem M mem) (hq : M[q]? = some (.inl t)) (ha : mem[q]? = some (.inl a)) (hx : b_in (b_seg t.2.2 j) x.toInt) (hj : j < a.2.length) :
    b_mem M (mem.set q (.inl (a.1, a.2.set j x))) ∧ e_pl (mem.set q (.inl (a.1, a.2.set j x))) q j = some (.int x) ∧ ∀ p i, ¬ (p = q ∧ i = j) → e_pl (mem.set q (.inl (a.1, a.2.set j x))) p i = e_pl mem p i := by
  obtain ⟨a', h1, h2, h3, h4⟩ := h.arr hq
  cases ha.symm.trans h1
  have hl : q < mem.length := (List.getElem?_eq_some_iff.mp ha).1
  refine ⟨h.set hq ⟨h2, by rw [List.length_set]; exact h3, fun i y hi => ?_⟩, ?_, fun p i hpi => ?_⟩
  · by_cases hij : i = j
    · subst hij
      rw [List.getElem?_set_self hj] at hi
      cases hi
      exact hx
    · rw [List.getElem?_set_ne (Ne.symm hij)] at hi
      exact h4 i y hi
  · unfold e_pl
    rw [List.getElem?_set_self hl]
    dsimp only
    rw [List.getElem?_set_self hj]
    rfl
  · unfold e_pl
    by_cases hpq : p = q
    · subst hpq
      rw [List.getElem?_set_self hl, ha]
      dsimp only
      rw [List.getElem?_set_ne (fun e => hpi ⟨rfl, e.symm⟩)]
    · rw [List.getElem?_set_ne (Ne.symm hpq)]
/-- a field is put -/
theorem b_stf {M : List b_Y} {mem : List e_C} {q j : Nat} {t : Nat × List (Value ⊕ b_I)} {o : Nat × List Value} {f : Value ⊕ b_I} {v : Value} (h : b_mem M mem) (hq : M[q]? = some (.inr t)) (ho : mem[q]? = some (.inr o)) (hf : t.2[j]? = some f) (hv : b_fv f v) (hj : j < o.2.length) :
    b_mem M (mem.set q (.inr (o.1, o.2.set j v))) ∧ e_pl (mem.set q (.inr (o.1, o.2.set j v))) q j = some v ∧ ∀ p i, ¬ (p = q ∧ i = j) → e_pl (mem.set q (.inr (o.1, o.2.set j v))) p i = e_pl mem p i := by
  obtain ⟨o', h1, h2, h3, h4⟩ := h.obj hq
  cases ho.symm.trans h1
  have hl : q < mem.length := (List.getElem?_eq_some_iff.mp ho).1
  refine ⟨h.set hq ⟨h2, by rw [List.length_set]; exact h3, fun i g w hg hi => ?_⟩, ?_, fun p i hpi => ?_⟩
  · by_cases hij : i = j
    · subst hij
      rw [List.getElem?_set_self hj] at hi
      cases hi
      cases hf.symm.trans hg
      exact hv
    · rw [List.getElem?_set_ne (Ne.symm hij)] at hi
      exact h4 i g w hg hi
  · unfold e_pl
    rw [List.getElem?_set_self hl]
    dsimp only
    rw [List.getElem?_set_self hj]
  · unfold e_pl
    by_cases hpq : p = q
    · subst hpq
      rw [List.getElem?_set_self hl, ho]
      dsimp only
      rw [List.getElem?_set_ne (fun e => hpi ⟨rfl, e.symm⟩)]
    · rw [List.getElem?_set_ne (Ne.symm hpq)]
/-- what is known of places beside their types -/
def b_ov (n : Nat) (ρ : Nat → Int32) (O : List ((Nat × Nat) × b_V)) (mem : List e_C) : Prop := ∀ e ∈ O, ∃ v, e_pl mem e.1.1 e.1.2 = some v ∧ b_rv n ρ e.2 v
def b_kill (O : List ((Nat × Nat) × b_V)) (q : Nat) (J : b_I) : List ((Nat × Nat) × b_V) := O.filter (fun e => !(e.1.1 == q && J.any (fun p => decide (p.1 ≤ (e.1.2 : Int)) && decide ((e.1.2 : Int) ≤ p.2))))
theorem b_ov_kill {n : Nat} {ρ : Nat → Int32} {O : List ((Nat × Nat) × b_V)} {mem mem' : List e_C} {q j : Nat} {J : b_I} (h : b_ov n ρ O mem) (hj : b_in J (j : Int)) (hk : ∀ p i, ¬ (p = q ∧ i = j) → e_pl mem' p i = e_pl mem p i) : b_ov n ρ (b_kill O q J) mem' := by
  intro e he
  obtain ⟨h1, h2⟩ := List.mem_filter.mp he
  obtain ⟨v, h3, h4⟩ := h e h1
  refine ⟨v, ?_, h4⟩
  rw [hk e.1.1 e.1.2 ?_]
  · exact h3
  · rintro ⟨e1, e2⟩
    obtain ⟨p, hp, g1, g2⟩ := hj
    have hany : J.any (fun p => decide (p.1 ≤ (e.1.2 : Int)) && decide ((e.1.2 : Int) ≤ p.2)) = true := List.any_eq_true.mpr ⟨p, hp, by rw [e2]; simp; omega⟩
    rw [hany] at h2
    simp [e1] at h2
theorem b_ov_up {n : Nat} {ρ : Nat → Int32} {O : List ((Nat × Nat) × b_V)} {mem : List e_C} (x : Int32) (h : b_ov n ρ O mem) : b_ov (n + 1) (b_up ρ n x) O mem := by
  intro e he
  obtain ⟨v, h1, h2⟩ := h e he
  exact ⟨v, h1, b_up_rv x h2⟩
