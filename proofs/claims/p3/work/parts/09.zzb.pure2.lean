/-! LONGS, DUPS, SHIFTS, BY SETS -/
section BQ
variable {n : Nat} {ρ : Nat → Int32} {E : b_E}
def b_isL (a : b_V) : Bool := match a with
  | .inl (.long _) => true
  | .inr (2, _) => true
  | .inr (3, _) => true
  | _ => false
theorem b_isL_ok {a : b_V} {v : Value} (h : b_rv n ρ a v) (hl : b_isL a = true) : ∃ x : Int64, v = .long x := by
  unfold b_isL at hl
  split at hl
  · next x => exact ⟨x, h⟩
  · next z => obtain ⟨u, w, I⟩ := z; obtain ⟨x, h, -⟩ := h; exact ⟨_, h⟩
  · exact h
  · cases hl
def b_anyL : b_V := .inr (3, 0, 0, [])
theorem b_anyL_ok (x : Int64) : b_rv n ρ b_anyL (.long x) := ⟨x, rfl⟩
def b_llo (lv : List (Nat × b_V)) (st : List b_V) (i : Nat) : Option (List b_V) := match b_get lv i with
  | some a => bif b_isL a then some (a :: st) else none
  | none => none
theorem b_llo_ok {lv : List (Nat × b_V)} {lw : List (Nat × Value)} {st st2 : List b_V} {st' : List Value} {i : Nat} (hl : a_l2 (b_rq n ρ) lv lw) (hs : a_l2 (b_rv n ρ) st st') (h : b_llo lv st i = some st2) {pc : Nat} {mem : List e_C} : ∃ s2, e_lload pc lw st' mem i = some (pc, lw, s2, mem) ∧ a_l2 (b_rv n ρ) st2 s2 := by
  unfold b_llo at h
  simp only [Bool.cond_eq_ite] at h
  split at h
  · next a ha =>
    obtain ⟨v, h1, h2⟩ := b_get_ok hl ha
    split at h
    · next hL =>
      cases h
      obtain ⟨x, rfl⟩ := b_isL_ok h2 hL
      unfold e_lload
      rw [h1]
      exact ⟨_, rfl, h2, hs⟩
    · cases h
  · cases h
def b_lsto (lv : List (Nat × b_V)) (st : List b_V) (nL i : Nat) : Option b_H := match st with
  | a :: r => bif b_isL a && Nat.blt (i + 1) nL then some (b_put2 lv i a, r) else none
  | _ => none
theorem b_lsto_ok {lv lv2 : List (Nat × b_V)} {lw : List (Nat × Value)} {st st2 : List b_V} {st' : List Value} {nL i : Nat} (hl : a_l2 (b_rq n ρ) lv lw) (hs : a_l2 (b_rv n ρ) st st') (h : b_lsto lv st nL i = some (lv2, st2)) {pc : Nat} {mem : List e_C} : ∃ w2 s2, e_lstore pc lw st' mem nL i = some (pc, w2, s2, mem) ∧ a_l2 (b_rq n ρ) lv2 w2 ∧ a_l2 (b_rv n ρ) st2 s2 := by
  unfold b_lsto at h
  simp only [Bool.cond_eq_ite, Bool.and_eq_true] at h
  split at h
  · next a r =>
    obtain ⟨v, t, rfl, h1, h2⟩ := a_l2_c hs
    split at h
    · next hc =>
      cases h
      obtain ⟨x, rfl⟩ := b_isL_ok h1 hc.1
      unfold e_lstore
      dsimp only
      rw [hc.2]
      exact ⟨_, _, rfl, b_put2_ok hl h1, h2⟩
    · cases h
  · cases h
def b_asto (lv : List (Nat × b_V)) (st : List b_V) (nL i : Nat) : Option b_H := match st with
  | .inl (.ref q) :: r => bif Nat.blt i nL then some (b_put1 lv i (.inl (.ref q)), r) else none
  | _ => none
theorem b_asto_ok {lv lv2 : List (Nat × b_V)} {lw : List (Nat × Value)} {st st2 : List b_V} {st' : List Value} {nL i : Nat} (hl : a_l2 (b_rq n ρ) lv lw) (hs : a_l2 (b_rv n ρ) st st') (h : b_asto lv st nL i = some (lv2, st2)) {pc : Nat} {mem : List e_C} : ∃ w2 s2, e_astore pc lw st' mem nL i = some (pc, w2, s2, mem) ∧ a_l2 (b_rq n ρ) lv2 w2 ∧ a_l2 (b_rv n ρ) st2 s2 := by
  unfold b_asto at h
  split at h
  · next q r =>
    obtain ⟨v, t, rfl, h1, h2⟩ := a_l2_c hs
    have h3 : v = .ref q := h1
    subst h3
    cases hn : Nat.blt i nL with
    | false => rw [hn] at h; cases h
    | true =>
      rw [hn] at h
      cases h
      unfold e_astore
      dsimp only
      rw [hn]
      exact ⟨_, _, rfl, b_put1_ok hl h1, h2⟩
  · cases h
def b_i2l (E : b_E) (st : List b_V) : Option (List b_V) := match st with
  | .inl (.int x) :: r => some (.inl (.long x.toInt64) :: r)
  | a :: r => match b_st E a with
    | some I => some (.inr (2, 0, 0, I) :: r)
    | none => none
  | _ => none
theorem b_i2l_ok (hE : b_ok ρ E) {st st2 : List b_V} {st' : List Value} (hs : a_l2 (b_rv n ρ) st st') (h : b_i2l E st = some st2) {pc : Nat} {lw : List (Nat × Value)} {mem : List e_C} : ∃ s2, e_i2l pc lw st' mem = some (pc, lw, s2, mem) ∧ a_l2 (b_rv n ρ) st2 s2 := by
  unfold b_i2l at h
  split at h
  · obtain ⟨v, t, rfl, h1, h2⟩ := a_l2_c hs
    cases h1
    cases h
    exact ⟨_, rfl, rfl, h2⟩
  · obtain ⟨v, t, rfl, h1, h2⟩ := a_l2_c hs
    split at h
    · next I hI =>
      cases h
      obtain ⟨x, rfl, hx⟩ := b_st_ok hE h1 hI
      exact ⟨_, rfl, ⟨x, rfl, hx⟩, h2⟩
    · cases h
  · cases h
def b_i1 (E : b_E) (f : Int32 → Int32) (st : List b_V) : Option (List b_V) := match st with
  | .inl (.int x) :: r => some (.inl (.int (f x)) :: r)
  | a :: r => match b_st E a with
    | some _ => some (.inr (1, 0, 0, b_any) :: r)
    | none => none
  | _ => none
theorem b_i1_ok (hE : b_ok ρ E) {f : Int32 → Int32} {st st2 : List b_V} {st' : List Value} (hs : a_l2 (b_rv n ρ) st st') (h : b_i1 E f st = some st2) {pc : Nat} {lw : List (Nat × Value)} {mem : List e_C} : ∃ s2, e_i1 pc lw st' mem f = some (pc, lw, s2, mem) ∧ a_l2 (b_rv n ρ) st2 s2 := by
  unfold b_i1 at h
  split at h
  · obtain ⟨v, t, rfl, h1, h2⟩ := a_l2_c hs
    cases h1
    cases h
    exact ⟨_, rfl, rfl, h2⟩
  · obtain ⟨v, t, rfl, h1, h2⟩ := a_l2_c hs
    split at h
    · next I hI =>
      cases h
      obtain ⟨x, rfl, hx⟩ := b_st_ok hE h1 hI
      exact ⟨_, rfl, ⟨_, rfl, b_any_ok _⟩, h2⟩
    · cases h
  · cases h
def b_l2o (f : Int64 → Int64 → Int64) (st : List b_V) : Option (List b_V) := match st with
  | .inl (.long y) :: .inl (.long x) :: r => some (.inl (.long (f x y)) :: r)
  | b :: a :: r => bif b_isL a && b_isL b then some (b_anyL :: r) else none
  | _ => none
theorem b_l2o_ok {f : Int64 → Int64 → Int64} {st st2 : List b_V} {st' : List Value} (hs : a_l2 (b_rv n ρ) st st') (h : b_l2o f st = some st2) {pc : Nat} {lw : List (Nat × Value)} {mem : List e_C} : ∃ s2, e_l2 pc lw st' mem f = some (pc, lw, s2, mem) ∧ a_l2 (b_rv n ρ) st2 s2 := by
  unfold b_l2o at h
  simp only [Bool.cond_eq_ite, Bool.and_eq_true] at h
  split at h
  · obtain ⟨v, t, rfl, h1, h2⟩ := a_l2_c hs
    obtain ⟨w, t, rfl, h3, h4⟩ := a_l2_c h2
    cases h1
    cases h3
    cases h
    exact ⟨_, rfl, rfl, h4⟩
  · obtain ⟨v, t, rfl, h1, h2⟩ := a_l2_c hs
    obtain ⟨w, t, rfl, h3, h4⟩ := a_l2_c h2
    split at h
    · next hc =>
      cases h
      obtain ⟨x, rfl⟩ := b_isL_ok h3 hc.1
      obtain ⟨y, rfl⟩ := b_isL_ok h1 hc.2
      exact ⟨_, rfl, b_anyL_ok _, h4⟩
    · cases h
  · cases h
def b_dup (st : List b_V) : Option (List b_V) := match st with
  | v :: r => bif b_cat v == 1 then some (v :: v :: r) else none
  | _ => none
theorem b_dup_ok {st st2 : List b_V} {st' : List Value} (hs : a_l2 (b_rv n ρ) st st') (h : b_dup st = some st2) {pc : Nat} {lw : List (Nat × Value)} {mem : List e_C} : ∃ s2, e_dup pc lw st' mem = some (pc, lw, s2, mem) ∧ a_l2 (b_rv n ρ) st2 s2 := by
  unfold b_dup at h
  simp only [Bool.cond_eq_ite] at h
  split at h
  · obtain ⟨v, t, rfl, h1, h2⟩ := a_l2_c hs
    split at h
    · next hc =>
      cases h
      unfold e_dup
      simp only [Bool.cond_eq_ite]
      rw [if_pos (by rw [b_cat_ok h1]; exact hc)]
      exact ⟨_, rfl, h1, h1, h2⟩
    · cases h
  · cases h
def b_pop (st : List b_V) : Option (List b_V) := match st with
  | v :: r => bif b_cat v == 1 then some r else none
  | _ => none
theorem b_pop_ok {st st2 : List b_V} {st' : List Value} (hs : a_l2 (b_rv n ρ) st st') (h : b_pop st = some st2) {pc : Nat} {lw : List (Nat × Value)} {mem : List e_C} : ∃ s2, e_pop pc lw st' mem = some (pc, lw, s2, mem) ∧ a_l2 (b_rv n ρ) st2 s2 := by
  unfold b_pop at h
  simp only [Bool.cond_eq_ite] at h
  split at h
  · obtain ⟨v, t, rfl, h1, h2⟩ := a_l2_c hs
    split at h
    · next hc =>
      cases h
      unfold e_pop
      simp only [Bool.cond_eq_ite]
      rw [if_pos (by rw [b_cat_ok h1]; exact hc)]
      exact ⟨_, rfl, h2⟩
    · cases h
  · cases h
def b_dup2 (st : List b_V) : Option (List b_V) := match st with
  | v :: w :: r => bif b_cat v == 1 && b_cat w == 1 then some (v :: w :: v :: w :: r) else none
  | _ => none
theorem b_dup2_ok {st st2 : List b_V} {st' : List Value} (hs : a_l2 (b_rv n ρ) st st') (h : b_dup2 st = some st2) {pc : Nat} {lw : List (Nat × Value)} {mem : List e_C} : ∃ s2, e_dup2 pc lw st' mem = some (pc, lw, s2, mem) ∧ a_l2 (b_rv n ρ) st2 s2 := by
  unfold b_dup2 at h
  simp only [Bool.cond_eq_ite] at h
  split at h
  · obtain ⟨v, t, rfl, h1, h2⟩ := a_l2_c hs
    obtain ⟨w, t, rfl, h3, h4⟩ := a_l2_c h2
    split at h
    · next hc =>
      cases h
      unfold e_dup2
      simp only [Bool.cond_eq_ite]
      rw [if_pos (by rw [b_cat_ok h1, b_cat_ok h3]; exact hc)]
      exact ⟨_, rfl, h1, h3, h1, h3, h4⟩
    · cases h
  · cases h
/-- 1 shifted by a small number -/
theorem b_shl1 : ∀ k, k < 31 → ((1 : Int32) <<< (nI k &&& 31)).toInt = (2 ^ k : Nat) := by decide +kernel
def b_shlv (E : b_E) (a b : b_V) : Option b_V := match a, b with
  | .inl (.int x), .inl (.int y) => some (.inl (.int (x <<< (y &&& 31))))
  | .inl (.int x), b => match b_st E b with
    | some J => bif decide (x = 1) && b_sub J [(0, 30)] then some (.inr (1, 0, 0, [((2 ^ (b_min J 30).toNat : Nat), (2 ^ (b_max J 0).toNat : Nat))])) else some (.inr (1, 0, 0, b_any))
    | none => none
  | a, b => b_i2v E (fun x y => x <<< (y &&& 31)) (fun _ _ => b_any) a b
theorem b_shlv_ok (hE : b_ok ρ E) {a b c : b_V} {v w : Value} (ha : b_rv n ρ a v) (hb : b_rv n ρ b w) (h : b_shlv E a b = some c) : ∃ x y : Int32, v = .int x ∧ w = .int y ∧ b_rv n ρ c (.int (x <<< (y &&& 31))) := by
  unfold b_shlv at h
  simp only [Bool.cond_eq_ite, Bool.and_eq_true, decide_eq_true_eq] at h
  split at h
  · next x y => cases h; exact ⟨x, y, ha, hb, rfl⟩
  · split at h
    · next J hJ =>
      obtain ⟨y, rfl, hy⟩ := b_st_ok hE hb hJ
      split at h
      · next hc =>
        cases h
        refine ⟨_, y, ha, rfl, _, rfl, ?_⟩
        rw [hc.1]
        obtain ⟨p, hp, g1, g2⟩ := b_sub_ok hc.2 hy
        cases List.mem_singleton.mp hp
        dsimp only at g1 g2
        obtain ⟨k, hk, rfl⟩ := nI_of (x := y) (by rw [Int32.lt_iff_toInt_lt]; simp; omega)
        rw [nI_toInt hk] at g2 hy
        rw [b_shl1 k (by omega)]
        have m1 := b_min_ok (d := 30) hy
        have m2 := b_max_ok (d := 0) hy
        refine ⟨_, List.mem_singleton.mpr rfl, ?_, ?_⟩
        · exact Int.ofNat_le.mpr (Nat.pow_le_pow_right (by omega) (by omega))
        · exact Int.ofNat_le.mpr (Nat.pow_le_pow_right (by omega) (by omega))
      · cases h
        exact ⟨_, y, ha, rfl, _, rfl, b_any_ok _⟩
    · cases h
  · exact b_i2v_ok hE (fun I J x y _ _ => b_any_ok _) ha hb h
end BQ
