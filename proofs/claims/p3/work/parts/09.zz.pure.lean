/-! STEPS THAT TOUCH NO CELL, BY SETS -/
abbrev b_H : Type := List (Nat × b_V) × List b_V
section BP
variable {n : Nat} {ρ : Nat → Int32} {E : b_E}
def b_one1 (st : List b_V) (f : b_V → Option b_V) : Option (List b_V) := match st with
  | a :: r => match f a with
    | some c => some (c :: r)
    | none => none
  | _ => none
def b_one2 (st : List b_V) (f : b_V → b_V → Option b_V) : Option (List b_V) := match st with
  | b :: a :: r => match f a b with
    | some c => some (c :: r)
    | none => none
  | _ => none
theorem b_one2_ok {st st2 : List b_V} {st' : List Value} {f : b_V → b_V → Option b_V} {g : Int32 → Int32 → Int32} (hs : a_l2 (b_rv n ρ) st st') (hf : ∀ a b c v w, b_rv n ρ a v → b_rv n ρ b w → f a b = some c → ∃ x y : Int32, v = .int x ∧ w = .int y ∧ b_rv n ρ c (.int (g x y))) (h : b_one2 st f = some st2) {pc : Nat} {lw : List (Nat × Value)} {mem : List e_C} :
    ∃ s2, e_i2 pc lw st' mem g = some (pc, lw, s2, mem) ∧ a_l2 (b_rv n ρ) st2 s2 := by
  unfold b_one2 at h
  split at h
  · next b a r =>
    obtain ⟨w, t, rfl, h1, h2⟩ := a_l2_c hs
    obtain ⟨v, t, rfl, h3, h4⟩ := a_l2_c h2
    split at h
    · next c hc =>
      cases h
      obtain ⟨x, y, rfl, rfl, h5⟩ := hf a b c v w h3 h1 hc
      exact ⟨_, rfl, h5, h4⟩
    · cases h
  · cases h
theorem b_one2z_ok {st st2 : List b_V} {st' : List Value} {f : b_V → b_V → Option b_V} {g : Int32 → Int32 → Int32} (hs : a_l2 (b_rv n ρ) st st') (hf : ∀ a b c v w, b_rv n ρ a v → b_rv n ρ b w → f a b = some c → ∃ x y : Int32, v = .int x ∧ w = .int y ∧ ¬ y = 0 ∧ b_rv n ρ c (.int (g x y))) (h : b_one2 st f = some st2) {pc : Nat} {lw : List (Nat × Value)} {mem : List e_C} :
    ∃ s2, e_i2z pc lw st' mem g = some (pc, lw, s2, mem) ∧ a_l2 (b_rv n ρ) st2 s2 := by
  unfold b_one2 at h
  split at h
  · next b a r =>
    obtain ⟨w, t, rfl, h1, h2⟩ := a_l2_c hs
    obtain ⟨v, t, rfl, h3, h4⟩ := a_l2_c h2
    split at h
    · next c hc =>
      cases h
      obtain ⟨x, y, rfl, rfl, hy, h5⟩ := hf a b c v w h3 h1 hc
      unfold e_i2z
      dsimp only
      rw [decide_eq_false hy]
      exact ⟨_, rfl, h5, h4⟩
    · cases h
  · cases h
/-- an int load: known where it can be but one -/
def b_ilo (E : b_E) (lv : List (Nat × b_V)) (st : List b_V) (i : Nat) : Option (List b_V) := match b_get lv i with
  | some a => match b_nrm E a with
    | some c => some (c :: st)
    | none => none
  | none => none
theorem b_ilo_ok (hE : b_ok ρ E) {lv : List (Nat × b_V)} {lw : List (Nat × Value)} {st st2 : List b_V} {st' : List Value} {i : Nat} (hl : a_l2 (b_rq n ρ) lv lw) (hs : a_l2 (b_rv n ρ) st st') (h : b_ilo E lv st i = some st2) {pc : Nat} {mem : List e_C} : ∃ s2, e_iload pc lw st' mem i = some (pc, lw, s2, mem) ∧ a_l2 (b_rv n ρ) st2 s2 := by
  unfold b_ilo at h
  split at h
  · next a ha =>
    obtain ⟨v, h1, h2⟩ := b_get_ok hl ha
    split at h
    · next c hc =>
      cases h
      obtain ⟨x, rfl, h3⟩ := b_nrm_ok hE h2 hc
      unfold e_iload
      rw [h1]
      exact ⟨_, rfl, h3, hs⟩
    · cases h
  · cases h
def b_alo (lv : List (Nat × b_V)) (st : List b_V) (i : Nat) : Option (List b_V) := match b_get lv i with
  | some (.inl (.ref q)) => some (.inl (.ref q) :: st)
  | _ => none
theorem b_alo_ok {lv : List (Nat × b_V)} {lw : List (Nat × Value)} {st st2 : List b_V} {st' : List Value} {i : Nat} (hl : a_l2 (b_rq n ρ) lv lw) (hs : a_l2 (b_rv n ρ) st st') (h : b_alo lv st i = some st2) {pc : Nat} {mem : List e_C} : ∃ s2, e_aload pc lw st' mem i = some (pc, lw, s2, mem) ∧ a_l2 (b_rv n ρ) st2 s2 := by
  unfold b_alo at h
  split at h
  · next q ha =>
    cases h
    obtain ⟨v, h1, h2⟩ := b_get_ok hl ha
    have h3 : v = .ref q := h2
    subst h3
    unfold e_aload
    rw [h1]
    exact ⟨_, rfl, rfl, hs⟩
  · cases h
def b_isto (E : b_E) (lv : List (Nat × b_V)) (st : List b_V) (nL i : Nat) : Option b_H := match st with
  | a :: r => match b_st E a with
    | some _ => bif Nat.blt i nL then some (b_put1 lv i a, r) else none
    | none => none
  | _ => none
theorem b_isto_ok (hE : b_ok ρ E) {lv lv2 : List (Nat × b_V)} {lw : List (Nat × Value)} {st st2 : List b_V} {st' : List Value} {nL i : Nat} (hl : a_l2 (b_rq n ρ) lv lw) (hs : a_l2 (b_rv n ρ) st st') (h : b_isto E lv st nL i = some (lv2, st2)) {pc : Nat} {mem : List e_C} : ∃ w2 s2, e_istore pc lw st' mem nL i = some (pc, w2, s2, mem) ∧ a_l2 (b_rq n ρ) lv2 w2 ∧ a_l2 (b_rv n ρ) st2 s2 := by
  unfold b_isto at h
  split at h
  · next a r =>
    obtain ⟨v, t, rfl, h1, h2⟩ := a_l2_c hs
    split at h
    · next I hI =>
      obtain ⟨x, rfl, -⟩ := b_st_ok hE h1 hI
      cases hn : Nat.blt i nL with
      | false => rw [hn] at h; cases h
      | true =>
        rw [hn] at h
        cases h
        unfold e_istore
        dsimp only
        rw [hn]
        exact ⟨_, _, rfl, b_put1_ok hl h1, h2⟩
    · cases h
  · cases h
/-- a counter goes on: a symbol and a number stay one -/
def b_inc (E : b_E) (lv : List (Nat × b_V)) (nL i : Nat) (d : Int) : Option (List (Nat × b_V)) := match b_get lv i with
  | some a => match b_addv E a (.inl (.int (Int32.ofInt d))) with
    | some c => bif Nat.blt i nL then some (b_put1 lv i c) else none
    | none => none
  | none => none
theorem b_inc_ok (hE : b_ok ρ E) {lv lv2 : List (Nat × b_V)} {lw : List (Nat × Value)} {st' : List Value} {nL i : Nat} {d : Int} (hl : a_l2 (b_rq n ρ) lv lw) (h : b_inc E lv nL i d = some lv2) {pc : Nat} {mem : List e_C} : ∃ w2, e_iinc pc lw st' mem nL i d = some (pc, w2, st', mem) ∧ a_l2 (b_rq n ρ) lv2 w2 := by
  unfold b_inc at h
  split at h
  · next a ha =>
    obtain ⟨v, h1, h2⟩ := b_get_ok hl ha
    split at h
    · next c hc =>
      obtain ⟨x, y, rfl, hy, h3⟩ := b_addv_ok hE h2 (show b_rv n ρ (.inl (.int (Int32.ofInt d))) (.int (Int32.ofInt d)) from rfl) hc
      cases hy
      cases hn : Nat.blt i nL with
      | false => rw [hn] at h; cases h
      | true =>
        rw [hn] at h
        cases h
        unfold e_iinc
        rw [h1]
        dsimp only
        rw [hn]
        exact ⟨_, rfl, b_put1_ok hl h3⟩
    · cases h
  · cases h
end BP
