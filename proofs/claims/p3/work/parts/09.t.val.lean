/-! VALUES BY SETS: known; a symbol and a number; an int of a set; a long -/
abbrev b_V : Type := Value ⊕ (Nat × Nat × Int × b_I)
abbrev b_E : Type := List b_I
/-- n symbols are in use, and stand for ρ -/
def b_rv (n : Nat) (ρ : Nat → Int32) (a : b_V) (v : Value) : Prop := match a with
  | .inl w => v = w
  | .inr (0, id, off, _) => id < n ∧ ∃ x : Int32, v = .int x ∧ x.toInt = (ρ id).toInt + off
  | .inr (1, _, _, I) => ∃ x : Int32, v = .int x ∧ b_in I x.toInt
  | .inr (2, _, _, I) => ∃ x : Int32, v = .long x.toInt64 ∧ b_in I x.toInt
  | .inr (3, _) => ∃ x : Int64, v = .long x
  | _ => False
def b_ok (ρ : Nat → Int32) (E : b_E) : Prop := ∀ (id : Nat) (I : b_I), E[id]? = some I → b_in I (ρ id).toInt
def b_shift (off : Int) (I : b_I) : b_I := I.map (fun p => (p.1 + off, p.2 + off))
theorem b_shift_ok {off x : Int} {I : b_I} (h : b_in I x) : b_in (b_shift off I) (x + off) := by
  obtain ⟨p, hp, h1, h2⟩ := h
  exact ⟨(p.1 + off, p.2 + off), List.mem_map.mpr ⟨p, hp, rfl⟩, by dsimp only; omega, by dsimp only; omega⟩
/-- the set in which an int lies -/
def b_st (E : b_E) (a : b_V) : Option b_I := match a with
  | .inl (.int x) => some [(x.toInt, x.toInt)]
  | .inr (0, id, off, _) => match E[id]? with
    | some I => some (b_shift off I)
    | none => none
  | .inr (1, _, _, I) => some I
  | _ => none
theorem b_st_ok {n : Nat} {ρ : Nat → Int32} {E : b_E} {a : b_V} {v : Value} {I : b_I} (hE : b_ok ρ E) (h : b_rv n ρ a v) (hs : b_st E a = some I) : ∃ x : Int32, v = .int x ∧ b_in I x.toInt := by
  unfold b_st at hs
  split at hs
  · next x => cases hs; exact ⟨x, h, b_one _⟩
  · next id off z =>
    split at hs
    · next J hJ =>
      cases hs
      obtain ⟨-, x, rfl, hx⟩ := h
      exact ⟨x, rfl, by rw [hx]; exact b_shift_ok (hE id J hJ)⟩
    · cases hs
  · cases hs; exact h
  · cases hs
/-- the set in which a long lies that is an int -/
def b_lt (a : b_V) : Option b_I := match a with
  | .inl (.long x) => some [(x.toInt, x.toInt)]
  | .inr (2, _, _, I) => some I
  | _ => none
theorem b_lt_ok {n : Nat} {ρ : Nat → Int32} {a : b_V} {v : Value} {I : b_I} (h : b_rv n ρ a v) (hs : b_lt a = some I) : ∃ x : Int64, v = .long x ∧ b_in I x.toInt := by
  unfold b_lt at hs
  split at hs
  · next x => cases hs; exact ⟨x, h, b_one _⟩
  · next u w I =>
    cases hs
    obtain ⟨x, rfl, hx⟩ := h
    exact ⟨_, rfl, by rw [show x.toInt64.toInt = x.toInt by simp]; exact hx⟩
  · cases hs
/-- one symbol more -/
def b_up (ρ : Nat → Int32) (n : Nat) (x : Int32) : Nat → Int32 := fun i => if i = n then x else ρ i
theorem b_up_rv {n : Nat} {ρ : Nat → Int32} {a : b_V} {v : Value} (x : Int32) (h : b_rv n ρ a v) : b_rv (n + 1) (b_up ρ n x) a v := by
  unfold b_rv at h ⊢
  split at h
  · exact h
  · next id off z =>
    obtain ⟨h1, y, h2, h3⟩ := h
    refine ⟨by omega, y, h2, ?_⟩
    rw [h3]
    unfold b_up
    rw [if_neg (by omega)]
  · exact h
  · exact h
  · exact h
  · exact h.elim
theorem b_up_ok {ρ : Nat → Int32} {E : b_E} {I : b_I} {x : Int32} (hE : b_ok ρ E) (hx : b_in I x.toInt) : b_ok (b_up ρ E.length x) (E ++ [I]) := by
  intro id J hJ
  unfold b_up
  by_cases hl : id < E.length
  · rw [List.getElem?_append_left hl] at hJ
    rw [if_neg (by omega)]
    exact hE id J hJ
  · rw [List.getElem?_append_right (by omega)] at hJ
    have hz : id - E.length < 1 := (List.getElem?_eq_some_iff.mp hJ).1
    have hid : id = E.length := by omega
    subst hid
    rw [Nat.sub_self] at hJ
    cases hJ
    rw [if_pos rfl]
    exact hx
theorem b_ok_set {ρ : Nat → Int32} {E : b_E} {id : Nat} {I : b_I} (hE : b_ok ρ E) (hx : b_in I (ρ id).toInt) : b_ok ρ (E.set id I) := by
  intro j J hJ
  by_cases hj : j = id
  · subst hj
    have hl : j < E.length := by
      have := (List.getElem?_eq_some_iff.mp hJ).1
      simpa using this
    rw [List.getElem?_set_self hl] at hJ
    cases hJ
    exact hx
  · rw [List.getElem?_set_ne (Ne.symm hj)] at hJ
    exact hE j J hJ
