/-! LOCALS AND STACKS BY SETS -/
def b_cat (a : b_V) : Nat := match a with
  | .inl v => v.category
  | .inr (2, _) => 2
  | .inr (3, _) => 2
  | _ => 1
def b_rq (n : Nat) (ρ : Nat → Int32) (q : Nat × b_V) (r : Nat × Value) : Prop := q.1 = r.1 ∧ b_rv n ρ q.2 r.2
def b_get : List (Nat × b_V) → Nat → Option b_V
  | [], _ => none
  | q :: r, i => bif q.1 == i then some q.2 else b_get r i
def b_put1 (lv : List (Nat × b_V)) (i : Nat) (v : b_V) : List (Nat × b_V) := (i, v) :: lv.filter (fun q => !(q.1 == i) && !(q.1 + 1 == i && b_cat q.2 == 2))
def b_put2 (lv : List (Nat × b_V)) (i : Nat) (v : b_V) : List (Nat × b_V) := (i, v) :: lv.filter (fun q => !(q.1 == i) && (!(q.1 == i + 1) && !(q.1 + 1 == i && b_cat q.2 == 2)))
def b_args : Nat → List b_V → List (Nat × b_V)
  | _, [] => []
  | i, v :: vs => (i, v) :: b_args (if b_cat v = 2 then i + 2 else i + 1) vs
section BV
variable {n : Nat} {ρ : Nat → Int32}
theorem b_cat_ok {a : b_V} {v : Value} (h : b_rv n ρ a v) : v.category = b_cat a := by
  unfold b_rv at h
  split at h
  · rw [h]; rfl
  · obtain ⟨-, x, rfl, -⟩ := h; rfl
  · obtain ⟨x, rfl, -⟩ := h; rfl
  · obtain ⟨x, rfl, -⟩ := h; rfl
  · obtain ⟨x, rfl⟩ := h; rfl
  · exact h.elim
theorem b_get_ok : ∀ {lv : List (Nat × b_V)} {lw : List (Nat × Value)} {i : Nat} {a : b_V}, a_l2 (b_rq n ρ) lv lw → b_get lv i = some a → ∃ v, e_get lw i = some v ∧ b_rv n ρ a v
  | [], _, _, _, _, h => by cases h
  | q :: r, lw, i, a, h, hg => by
    obtain ⟨b, m, rfl, h1, h2⟩ := a_l2_c h
    unfold b_get at hg
    unfold e_get
    rw [← h1.1]
    cases hq : q.1 == i with
    | true => rw [hq] at hg; cases hg; exact ⟨b.2, rfl, h1.2⟩
    | false => rw [hq] at hg; exact b_get_ok h2 hg
theorem b_filter_ok (f : Nat × b_V → Bool) (g : Nat × Value → Bool) (hfg : ∀ q r, b_rq n ρ q r → f q = g r) : ∀ {lv : List (Nat × b_V)} {lw : List (Nat × Value)}, a_l2 (b_rq n ρ) lv lw → a_l2 (b_rq n ρ) (lv.filter f) (lw.filter g)
  | [], _, h => by rw [a_l2_n h]; exact trivial
  | q :: r, lw, h => by
    obtain ⟨b, m, rfl, h1, h2⟩ := a_l2_c h
    rw [List.filter_cons, List.filter_cons, hfg q b h1]
    split
    · exact ⟨h1, b_filter_ok f g hfg h2⟩
    · exact b_filter_ok f g hfg h2
theorem b_put1_ok {lv : List (Nat × b_V)} {lw : List (Nat × Value)} {i : Nat} {a : b_V} {v : Value} (h : a_l2 (b_rq n ρ) lv lw) (hv : b_rv n ρ a v) : a_l2 (b_rq n ρ) (b_put1 lv i a) (e_put1 lw i v) :=
  ⟨⟨rfl, hv⟩, b_filter_ok _ _ (fun q r hqr => by rw [hqr.1, b_cat_ok hqr.2]) h⟩
theorem b_put2_ok {lv : List (Nat × b_V)} {lw : List (Nat × Value)} {i : Nat} {a : b_V} {v : Value} (h : a_l2 (b_rq n ρ) lv lw) (hv : b_rv n ρ a v) : a_l2 (b_rq n ρ) (b_put2 lv i a) (e_put2 lw i v) :=
  ⟨⟨rfl, hv⟩, b_filter_ok _ _ (fun q r hqr => by rw [hqr.1, b_cat_ok hqr.2]) h⟩
theorem b_args_ok : ∀ {as : List b_V} {vs : List Value} (i : Nat), a_l2 (b_rv n ρ) as vs → a_l2 (b_rq n ρ) (b_args i as) (lv_args i vs)
  | [], _, _, h => by rw [a_l2_n h]; exact trivial
  | a :: as, vs, i, h => by
    obtain ⟨b, m, rfl, h1, h2⟩ := a_l2_c h
    unfold b_args lv_args
    rw [b_cat_ok h1]
    exact ⟨⟨rfl, h1⟩, b_args_ok _ h2⟩
theorem b_cats_ok : ∀ {as : List b_V} {vs : List Value}, a_l2 (b_rv n ρ) as vs → (vs.map fun v => v.category).sum = (as.map b_cat).sum
  | [], _, h => by rw [a_l2_n h]; rfl
  | a :: as, vs, h => by
    obtain ⟨b, m, rfl, h1, h2⟩ := a_l2_c h
    rw [List.map_cons, List.map_cons, List.sum_cons, List.sum_cons, b_cat_ok h1, b_cats_ok h2]
end BV
