/-! WHAT A COMPARISON LEAVES OF TWO SETS -/
/-- of the first, by the second's least and greatest; by its one number, if it is one -/
def b_wk (c : ClassFile.Cond) (I J : b_I) (t : Bool) : b_I := match J with
  | [p] => bif decide (p.1 = p.2) then b_pcs c p.1 I t else b_wk2 c I [p] t
  | J => b_wk2 c I J t
where b_wk2 (c : ClassFile.Cond) (I J : b_I) (t : Bool) : b_I := match c, t with
  | .lt, true => b_cut b_lo (b_max J b_lo - 1) I
  | .lt, false => b_cut (b_min J b_hi) b_hi I
  | .ge, true => b_cut (b_min J b_hi) b_hi I
  | .ge, false => b_cut b_lo (b_max J b_lo - 1) I
  | .gt, true => b_cut (b_min J b_hi + 1) b_hi I
  | .gt, false => b_cut b_lo (b_max J b_lo) I
  | .le, true => b_cut b_lo (b_max J b_lo) I
  | .le, false => b_cut (b_min J b_hi + 1) b_hi I
  | .eq, true => b_cut (b_min J b_hi) (b_max J b_lo) I
  | .ne, false => b_cut (b_min J b_hi) (b_max J b_lo) I
  | _, _ => I
theorem b_wk2_ok {c : ClassFile.Cond} {x y : Int32} {I J : b_I} {t : Bool} (hx : b_in I x.toInt) (hy : b_in J y.toInt) (ht : e_c2 c x y = t) : b_in (b_wk.b_wk2 c I J t) x.toInt := by
  have r1 := Int32.le_toInt x
  have r2 := Int32.toInt_lt x
  have hl : b_lo ≤ x.toInt := by unfold b_lo; omega
  have hh : x.toInt ≤ b_hi := by unfold b_hi; omega
  have m1 := b_min_ok (d := b_hi) hy
  have m2 := b_max_ok (d := b_lo) hy
  cases c <;> cases t <;> simp only [e_c2, decide_eq_true_eq, decide_eq_false_iff_not, Bool.not_eq_true', Bool.not_eq_false', Int32.lt_iff_toInt_lt, Int32.le_iff_toInt_le, ← Int32.toInt_inj] at ht <;> simp only [b_wk.b_wk2] <;> first | exact hx | exact b_cut_ok hx (by omega) (by omega)
theorem b_wk_ok {c : ClassFile.Cond} {x y : Int32} {I J : b_I} {t : Bool} (hx : b_in I x.toInt) (hy : b_in J y.toInt) (ht : e_c2 c x y = t) : b_in (b_wk c I J t) x.toInt := by
  unfold b_wk
  split
  · next p =>
    simp only [Bool.cond_eq_ite, decide_eq_true_eq]
    split
    · next hp =>
      obtain ⟨q, hq, h1, h2⟩ := hy
      cases List.mem_singleton.mp hq
      have e : p.1 = y.toInt := by omega
      rw [e, ← ht]
      exact b_pcs_ok hx
    · exact b_wk2_ok hx hy ht
  · exact b_wk2_ok hx hy ht
/-- a symbol's set is narrowed -/
def b_nar (E : b_E) (a : b_V) (I : b_I) : b_E := match a with
  | .inr (0, id, off, _) => E.set id (b_shift (-off) I)
  | _ => E
theorem b_nar_len (E : b_E) (a : b_V) (I : b_I) : (b_nar E a I).length = E.length := by
  unfold b_nar
  split
  · simp
  · rfl
theorem b_nar_ok {n : Nat} {ρ : Nat → Int32} {E : b_E} {a : b_V} {x : Int32} {I : b_I} (hE : b_ok ρ E) (ha : b_rv n ρ a (.int x)) (hx : b_in I x.toInt) : b_ok ρ (b_nar E a I) := by
  unfold b_nar
  split
  · next id off z =>
    obtain ⟨-, y, hy, hyx⟩ := ha
    cases hy
    refine b_ok_set hE ?_
    have := b_shift_ok (off := -off) hx
    rw [hyx] at this
    rw [show (ρ id).toInt + off + -off = (ρ id).toInt by omega] at this
    exact this
  · exact hE
def b_fl (c : ClassFile.Cond) : ClassFile.Cond := match c with
  | .lt => .gt
  | .gt => .lt
  | .le => .ge
  | .ge => .le
  | c => c
theorem b_fl_ok (c : ClassFile.Cond) (x y : Int32) : e_c2 (b_fl c) y x = e_c2 c x y := by
  cases c <;> simp only [b_fl, e_c2, eq_comm]
/-- one outcome of a comparison: none, if it can't be -/
def b_way (E : b_E) (c : ClassFile.Cond) (a b : b_V) (I J : b_I) (t : Bool) : Option b_E :=
  match b_wk c I J t, b_wk (b_fl c) J I t with
  | [], _ => none
  | _, [] => none
  | I', J' => some (b_nar (b_nar E a I') b J')
theorem b_way_ok {n : Nat} {ρ : Nat → Int32} {E : b_E} {c : ClassFile.Cond} {a b : b_V} {I J : b_I} {t : Bool} {x y : Int32} (hE : b_ok ρ E) (ha : b_rv n ρ a (.int x)) (hb : b_rv n ρ b (.int y)) (hx : b_in I x.toInt) (hy : b_in J y.toInt) (ht : e_c2 c x y = t) : ∃ E', b_way E c a b I J t = some E' ∧ b_ok ρ E' ∧ E'.length = E.length := by
  have h1 := b_wk_ok hx hy ht
  have h2 := b_wk_ok (c := b_fl c) (t := t) hy hx ((b_fl_ok c x y).trans ht)
  unfold b_way
  split
  · next he => rw [he] at h1; obtain ⟨p, hp, -⟩ := h1; exact absurd hp List.not_mem_nil
  · next he _ => rw [he] at h2; obtain ⟨p, hp, -⟩ := h2; exact absurd hp List.not_mem_nil
  · exact ⟨_, rfl, b_nar_ok (b_nar_ok hE ha h1) hb h2, by rw [b_nar_len, b_nar_len]⟩
