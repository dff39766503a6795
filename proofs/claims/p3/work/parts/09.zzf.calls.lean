/-! CALLS THAT ARE GONE THROUGH, RETURNS, BY SETS -/
section BC
variable {n : Nat} {ρ : Nat → Int32} {E : b_E}
def b_low (st : List b_V) : Bool := Nat.ble (st.map b_cat).sum 8
def b_room (P : e_Pg) (k j : Nat) (vs : List b_V) : Bool := Nat.ble (vs.map b_cat).sum (e_mth P j).2.2.1 && (Nat.ble ((e_rmo P j).1 + 1) (e_rmo P k).1 && Nat.ble (8 + ((e_mth P j).2.2.1 + 11) + (e_rmo P j).2.1) (e_rmo P k).2.1)
theorem b_low_ok {st : List b_V} {st' : List Value} (hs : a_l2 (b_rv n ρ) st st') (h : b_low st = true) : e_low st' = true := by
  unfold e_low
  rw [b_cats_ok hs]
  exact h
theorem b_room_ok {P : e_Pg} {k j : Nat} {as : List b_V} {vs : List Value} (hs : a_l2 (b_rv n ρ) as vs) (h : b_room P k j as = true) : e_room P k j vs = true := by
  unfold e_room
  rw [b_cats_ok hs]
  exact h
/-- a call of an object's method: callee's frame, caller's frame -/
def b_nxi (P : e_Pg) (M : List b_Y) (k pc : Nat) (lv : List (Nat × b_V)) (st : List b_V) (sp : Bool) (i : Nat) : Option (b_Fr × b_Fr) := match e_cal P k i with
  | none => none
  | some f => match st.drop f.2.1 with
    | .inl (.ref q) :: rest => match M[q]? with
      | some (.inr t) => bif !(f.1 == 0) && (t.1 == f.2.2.1 && (!(f.2.2.1 == 99) && (b_low rest && (b_room P k f.1 (.inl (.ref q) :: (st.take f.2.1).reverse) && (sp == (e_rmo P f.1).2.2))))) then some ((f.1, 0, b_args 0 (.inl (.ref q) :: (st.take f.2.1).reverse), []), (k, pc + 3, lv, rest)) else none
      | _ => none
    | _ => none
theorem b_nxi_ok {P : e_Pg} {M : List b_Y} {k pc i : Nat} {sp : Bool} {lv : List (Nat × b_V)} {lw : List (Nat × Value)} {st : List b_V} {st' : List Value} {mem : List e_C} {gs' : List e_Fr} {F : b_Fr × b_Fr} (hM : b_mem M mem) (hl : a_l2 (b_rq n ρ) lv lw) (hs : a_l2 (b_rv n ρ) st st') (h : b_nxi P M k pc lv st sp i = some F) : ∃ f g : e_Fr, e_nxi P k pc lw st' mem gs' sp i = some (mem, f, g :: gs') ∧ b_rf n ρ F.1 f ∧ b_rf n ρ F.2 g := by
  unfold b_nxi at h
  simp only [Bool.cond_eq_ite] at h
  split at h
  · cases h
  · next f hf =>
    split at h
    · next q rest hq =>
      have hd := a_l2_drop f.2.1 hs
      rw [hq] at hd
      obtain ⟨v, t, ht, h1, h2⟩ := a_l2_c hd
      cases h1
      split at h
      · next ty hty =>
        obtain ⟨o, m1, m2, -⟩ := hM.obj hty
        split at h
        · next hc =>
          cases h
          simp only [Bool.and_eq_true, Bool.not_eq_true'] at hc
          obtain ⟨c0, c1, c2, c3, c4, c5⟩ := hc
          have hargs : a_l2 (b_rv n ρ) (.inl (.ref q) :: (st.take f.2.1).reverse) (.ref q :: (st'.take f.2.1).reverse) := ⟨rfl, a_l2_rev (a_l2_take f.2.1 hs)⟩
          unfold e_nxi
          simp only [Bool.cond_eq_ite, hf, ht]
          rw [if_neg (by rw [c0]; decide)]
          simp only [m1]
          rw [if_pos (by simp only [Bool.and_eq_true, Bool.not_eq_true']; exact ⟨by rw [m2]; exact c1, c2, b_low_ok h2 c3, b_room_ok hargs c4, c5⟩)]
          exact ⟨_, _, rfl, ⟨rfl, rfl, b_args_ok 0 hargs, trivial⟩, ⟨rfl, rfl, hl, h2⟩⟩
        · cases h
      · cases h
    · cases h
def b_nxs (P : e_Pg) (k pc : Nat) (lv : List (Nat × b_V)) (st : List b_V) (i : Nat) : Option (b_Fr × b_Fr) := match e_cal P k i with
  | none => none
  | some f => bif !(f.1 == 0) && (Nat.ble f.2.1 st.length && (b_low (st.drop f.2.1) && (b_room P k f.1 (st.take f.2.1).reverse && f.2.2.1 == 99))) then some ((f.1, 0, b_args 0 (st.take f.2.1).reverse, []), (k, pc + 3, lv, st.drop f.2.1)) else none
theorem b_nxs_ok {P : e_Pg} {k pc i : Nat} {lv : List (Nat × b_V)} {lw : List (Nat × Value)} {st : List b_V} {st' : List Value} {mem : List e_C} {gs' : List e_Fr} {F : b_Fr × b_Fr} (hl : a_l2 (b_rq n ρ) lv lw) (hs : a_l2 (b_rv n ρ) st st') (h : b_nxs P k pc lv st i = some F) : ∃ f g : e_Fr, e_nxs P k pc lw st' mem gs' i = some (mem, f, g :: gs') ∧ b_rf n ρ F.1 f ∧ b_rf n ρ F.2 g := by
  unfold b_nxs at h
  simp only [Bool.cond_eq_ite] at h
  split at h
  · cases h
  · next f hf =>
    split at h
    · next hc =>
      cases h
      simp only [Bool.and_eq_true, Bool.not_eq_true'] at hc
      obtain ⟨c0, c1, c2, c3, c4⟩ := hc
      have hargs := a_l2_rev (a_l2_take f.2.1 hs)
      unfold e_nxs
      simp only [Bool.cond_eq_ite, hf]
      rw [if_neg (by rw [c0]; decide), if_pos (by simp only [Bool.and_eq_true]; exact ⟨by rw [a_l2_len hs]; exact c1, b_low_ok (a_l2_drop f.2.1 hs) c2, b_room_ok hargs c3, c4⟩)]
      exact ⟨_, _, rfl, ⟨rfl, rfl, b_args_ok 0 hargs, trivial⟩, ⟨rfl, rfl, hl, a_l2_drop f.2.1 hs⟩⟩
    · cases h
def b_ret (E : b_E) (ty : Option FieldType) (i : Instr) (st : List b_V) : Option (Option b_V) := match i, ty, st with
  | .ireturn, some .int, [a] => bif (b_st E a).isSome then some (some a) else none
  | .ireturn, some .boolean, [a] => match b_st E a with
    | some K => bif b_sub K [(0, 1)] then some (some a) else none
    | none => none
  | .lreturn, some .long, [a] => bif b_isL a then some (some a) else none
  | .areturn, some (.object _), [.inl (.ref x)] => some (some (.inl (.ref x)))
  | .return_, none, [] => some none
  | _, _, _ => none
theorem b_ret_ok (hE : b_ok ρ E) {ty : Option FieldType} {i : Instr} {st : List b_V} {st' : List Value} {r : Option b_V} (hs : a_l2 (b_rv n ρ) st st') (h : b_ret E ty i st = some r) : ∃ r' : Option Value, e_ret ty i st' = some r' ∧ a_l2 (b_rv n ρ) r.toList r'.toList := by
  unfold b_ret at h
  simp only [Bool.cond_eq_ite] at h
  split at h
  · next a =>
    obtain ⟨v, t, rfl, h1, h2⟩ := a_l2_c hs
    cases a_l2_n h2
    split at h
    · next hi =>
      cases h
      obtain ⟨p, hp⟩ := Option.isSome_iff_exists.mp hi
      obtain ⟨x, rfl, -⟩ := b_st_ok hE h1 hp
      exact ⟨_, rfl, h1, trivial⟩
    · cases h
  · next a =>
    obtain ⟨v, t, rfl, h1, h2⟩ := a_l2_c hs
    cases a_l2_n h2
    split at h
    · next K hK =>
      split at h
      · next hb =>
        cases h
        obtain ⟨x, rfl, hx⟩ := b_st_ok hE h1 hK
        refine ⟨some (.int x), ?_, h1, trivial⟩
        unfold e_ret
        simp only [b_bool hb hx, cond_true]
      · cases h
    · cases h
  · next a =>
    obtain ⟨v, t, rfl, h1, h2⟩ := a_l2_c hs
    cases a_l2_n h2
    split at h
    · next hi =>
      cases h
      obtain ⟨x, rfl⟩ := b_isL_ok h1 hi
      exact ⟨_, rfl, h1, trivial⟩
    · cases h
  · obtain ⟨v, t, rfl, h1, h2⟩ := a_l2_c hs
    cases a_l2_n h2
    cases h1
    cases h
    exact ⟨_, rfl, rfl, trivial⟩
  · cases a_l2_n hs
    cases h
    exact ⟨_, rfl, trivial⟩
  · cases h
end BC
