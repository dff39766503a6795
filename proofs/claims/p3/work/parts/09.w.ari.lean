/-! ARITHMETIC BY SETS -/
section BA
variable {n : Nat} {ρ : Nat → Int32} {E : b_E}
/-- an int that can only be one is known -/
def b_nrm (E : b_E) (a : b_V) : Option b_V := match b_st E a with
  | some [p] => bif decide (p.1 = p.2) then some (.inl (.int (Int32.ofInt p.1))) else some a
  | some _ => some a
  | none => none
theorem b_nrm_ok (hE : b_ok ρ E) {a b : b_V} {v : Value} (h : b_rv n ρ a v) (hn : b_nrm E a = some b) : ∃ x : Int32, v = .int x ∧ b_rv n ρ b (.int x) := by
  unfold b_nrm at hn
  split at hn
  · next p hp =>
    obtain ⟨x, rfl, q, hq, h1, h2⟩ := b_st_ok hE h hp
    cases List.mem_singleton.mp hq
    simp only [Bool.cond_eq_ite, decide_eq_true_eq] at hn
    split at hn
    · next he =>
      cases hn
      refine ⟨x, rfl, ?_⟩
      have : x.toInt = p.1 := by omega
      show Value.int x = Value.int (Int32.ofInt p.1)
      rw [← this, Int32.ofInt_toInt]
    · cases hn; exact ⟨x, rfl, h⟩
  · next I _ hI =>
    cases hn
    obtain ⟨x, rfl, -⟩ := b_st_ok hE h hI
    exact ⟨x, rfl, h⟩
  · cases hn
/-- two ints, by a function of sets -/
def b_i2v (E : b_E) (f : Int32 → Int32 → Int32) (S : b_I → b_I → b_I) (a b : b_V) : Option b_V := match a, b with
  | .inl (.int x), .inl (.int y) => some (.inl (.int (f x y)))
  | a, b => match b_st E a, b_st E b with
    | some I, some J => some (.inr (1, 0, 0, S I J))
    | _, _ => none
theorem b_i2v_ok (hE : b_ok ρ E) {f : Int32 → Int32 → Int32} {S : b_I → b_I → b_I} (hS : ∀ (I J : b_I) (x y : Int32), b_in I x.toInt → b_in J y.toInt → b_in (S I J) (f x y).toInt) {a b c : b_V} {v w : Value} (ha : b_rv n ρ a v) (hb : b_rv n ρ b w) (h : b_i2v E f S a b = some c) : ∃ x y : Int32, v = .int x ∧ w = .int y ∧ b_rv n ρ c (.int (f x y)) := by
  unfold b_i2v at h
  split at h
  · next x y => cases h; exact ⟨x, y, ha, hb, rfl⟩
  · split at h
    · next I J hI hJ =>
      cases h
      obtain ⟨x, rfl, h1⟩ := b_st_ok hE ha hI
      obtain ⟨y, rfl, h2⟩ := b_st_ok hE hb hJ
      exact ⟨x, y, rfl, rfl, _, rfl, hS I J x y h1 h2⟩
    · cases h
def b_rngI (I : b_I) : Bool := I.all (fun p => decide (b_lo ≤ p.1) && decide (p.2 ≤ b_hi))
theorem b_rngI_ok {I : b_I} {x : Int} (h : b_rngI I = true) (hx : b_in I x) : -2147483648 ≤ x ∧ x ≤ 2147483647 := by
  obtain ⟨p, hp, h1, h2⟩ := hx
  have h3 : (decide (b_lo ≤ p.1) && decide (p.2 ≤ b_hi)) = true := List.all_eq_true.mp h p hp
  rw [Bool.and_eq_true, decide_eq_true_eq, decide_eq_true_eq] at h3
  unfold b_lo b_hi at h3
  omega
/-- a symbol and a number, added to a number -/
def b_addv (E : b_E) (a b : b_V) : Option b_V := match a, b with
  | .inr (0, id, off, z), .inl (.int y) => match E[id]? with
    | some I => bif b_rngI (b_shift (off + y.toInt) I) then some (.inr (0, id, off + y.toInt, z)) else b_i2v E (fun x y => x + y) b_add a b
    | none => none
  | a, b => b_i2v E (fun x y => x + y) b_add a b
theorem b_addv_ok (hE : b_ok ρ E) {a b c : b_V} {v w : Value} (ha : b_rv n ρ a v) (hb : b_rv n ρ b w) (h : b_addv E a b = some c) : ∃ x y : Int32, v = .int x ∧ w = .int y ∧ b_rv n ρ c (.int (x + y)) := by
  unfold b_addv at h
  split at h
  · next id off z y =>
    split at h
    · next I hI =>
      cases hr : b_rngI (b_shift (off + y.toInt) I) with
      | true =>
        rw [hr] at h
        cases h
        obtain ⟨h1, x, rfl, hx⟩ := ha
        cases hb
        have h2 := b_rngI_ok hr (b_shift_ok (off := off + y.toInt) (hE id I hI))
        refine ⟨x, y, rfl, rfl, h1, _, rfl, ?_⟩
        rw [Int32.toInt_add, b_bmod (by omega) (by omega), hx]
        omega
      | false =>
        rw [hr] at h
        exact b_i2v_ok hE (fun I J x y h1 h2 => b_add_ok h1 h2) ha hb h
    · cases h
  · exact b_i2v_ok hE (fun I J x y h1 h2 => b_add_ok h1 h2) ha hb h
/-- times a known number -/
def b_mulv (E : b_E) (a b : b_V) : Option b_V := match a, b with
  | .inl (.int x), .inl (.int y) => some (.inl (.int (x * y)))
  | a, .inl (.int y) => match b_st E a with
    | some I => some (.inr (1, 0, 0, b_mulc I y.toInt))
    | none => none
  | .inl (.int x), b => match b_st E b with
    | some J => some (.inr (1, 0, 0, b_mulc J x.toInt))
    | none => none
  | a, b => b_i2v E (fun x y => x * y) (fun _ _ => b_any) a b
theorem b_mulv_ok (hE : b_ok ρ E) {a b c : b_V} {v w : Value} (ha : b_rv n ρ a v) (hb : b_rv n ρ b w) (h : b_mulv E a b = some c) : ∃ x y : Int32, v = .int x ∧ w = .int y ∧ b_rv n ρ c (.int (x * y)) := by
  unfold b_mulv at h
  split at h
  · next x y => cases h; exact ⟨x, y, ha, hb, rfl⟩
  · next y _ =>
    split at h
    · next I hI =>
      cases h
      obtain ⟨x, rfl, h1⟩ := b_st_ok hE ha hI
      exact ⟨x, y, rfl, hb, _, rfl, b_mulc_ok h1⟩
    · cases h
  · split at h
    · next J hJ =>
      cases h
      obtain ⟨y, rfl, h1⟩ := b_st_ok hE hb hJ
      refine ⟨_, y, ha, rfl, _, rfl, ?_⟩
      rw [Int32.mul_comm]
      exact b_mulc_ok h1
    · cases h
  · exact b_i2v_ok hE (fun I J x y _ _ => b_any_ok _) ha hb h
/-- divided by a known number that isn't 0 -/
def b_dvv (E : b_E) (f : Int32 → Int32 → Int32) (S : b_I → Int → b_I) (a b : b_V) : Option b_V := match a, b with
  | .inl (.int x), .inl (.int y) => bif decide (y = 0) then none else some (.inl (.int (f x y)))
  | a, .inl (.int y) => match b_st E a with
    | some I => bif decide (y = 0) then none else some (.inr (1, 0, 0, S I y.toInt))
    | none => none
  | _, _ => none
theorem b_dvv_ok (hE : b_ok ρ E) {f : Int32 → Int32 → Int32} {S : b_I → Int → b_I} (hS : ∀ (I : b_I) (x y : Int32), b_in I x.toInt → b_in (S I y.toInt) (f x y).toInt) {a b c : b_V} {v w : Value} (ha : b_rv n ρ a v) (hb : b_rv n ρ b w) (h : b_dvv E f S a b = some c) : ∃ x y : Int32, v = .int x ∧ w = .int y ∧ ¬ y = 0 ∧ b_rv n ρ c (.int (f x y)) := by
  unfold b_dvv at h
  simp only [Bool.cond_eq_ite, decide_eq_true_eq] at h
  split at h
  · next x y =>
    split at h
    · cases h
    · next hy => cases h; exact ⟨x, y, ha, hb, hy, rfl⟩
  · next y _ =>
    split at h
    · next I hI =>
      split at h
      · cases h
      · next hy =>
        cases h
        obtain ⟨x, rfl, h1⟩ := b_st_ok hE ha hI
        exact ⟨x, y, rfl, hb, hy, _, rfl, hS I x y h1⟩
    · cases h
  · cases h
/-- and with an int that isn't negative -/
def b_andS (I J : b_I) : b_I := bif b_nn I then [(0, b_max I 0)] else bif b_nn J then [(0, b_max J 0)] else b_any
theorem b_and_le {x y : Int32} (hx : 0 ≤ x.toInt) : 0 ≤ (x &&& y).toInt ∧ (x &&& y).toInt ≤ x.toInt := by
  obtain ⟨a, ha, rfl⟩ := nI_of (x := x) (by rw [Int32.lt_iff_toInt_lt]; simp; omega)
  have e : (nI a &&& y) = nI (a &&& y.toBitVec.toNat) := by
    apply Int32.toBitVec_inj.mp
    apply BitVec.eq_of_toNat_eq
    rw [Int32.toBitVec_and, BitVec.toNat_and, pk_tn (by omega)]
    have hle : a &&& y.toBitVec.toNat ≤ a := Nat.and_le_left
    rw [pk_tn (by omega)]
  have hle : a &&& y.toBitVec.toNat ≤ a := Nat.and_le_left
  rw [e, nI_toInt (by omega), nI_toInt ha]
  omega
theorem b_and_ok {I J : b_I} {x y : Int32} (hx : b_in I x.toInt) (hy : b_in J y.toInt) : b_in (b_andS I J) (x &&& y).toInt := by
  unfold b_andS
  cases h1 : b_nn I with
  | true =>
    obtain ⟨g1, g2⟩ := b_and_le (y := y) (b_nn_ok h1 hx)
    exact ⟨_, List.mem_singleton.mpr rfl, g1, Int.le_trans g2 (b_max_ok hx)⟩
  | false =>
    cases h2 : b_nn J with
    | true =>
      obtain ⟨g1, g2⟩ := b_and_le (y := x) (b_nn_ok h2 hy)
      rw [Int32.and_comm]
      exact ⟨_, List.mem_singleton.mpr rfl, g1, Int.le_trans g2 (b_max_ok hy)⟩
    | false => exact b_any_ok _
end BA
