/-! PICTURES AND WHAT THEY ARE OF -/
def a_l2 {α β : Type} (R : α → β → Prop) : List α → List β → Prop
  | [], [] => True
  | a :: l, b :: m => R a b ∧ a_l2 R l m
  | _, _ => False
section AL
variable {α β : Type} {R : α → β → Prop}
theorem a_l2_c {a : α} {l : List α} {ys : List β} (h : a_l2 R (a :: l) ys) : ∃ b m, ys = b :: m ∧ R a b ∧ a_l2 R l m := by
  cases ys with
  | nil => exact h.elim
  | cons b m => exact ⟨b, m, rfl, h.1, h.2⟩
theorem a_l2_n {ys : List β} (h : a_l2 R [] ys) : ys = [] := by
  cases ys with
  | nil => rfl
  | cons b m => exact h.elim
theorem a_l2_get : ∀ {xs : List α} {ys : List β} {i : Nat} {a : α}, a_l2 R xs ys → xs[i]? = some a → ∃ b, ys[i]? = some b ∧ R a b
  | [], _, _, _, _, h => by simp at h
  | x :: xs, ys, i, a, h, hx => by
    obtain ⟨b, m, rfl, h1, h2⟩ := a_l2_c h
    cases i with
    | zero => rw [List.getElem?_cons_zero] at hx ⊢; cases hx; exact ⟨b, rfl, h1⟩
    | succ i => rw [List.getElem?_cons_succ] at hx ⊢; exact a_l2_get h2 hx
theorem a_l2_len : ∀ {xs : List α} {ys : List β}, a_l2 R xs ys → ys.length = xs.length
  | [], _, h => by rw [a_l2_n h]; rfl
  | x :: xs, ys, h => by
    obtain ⟨b, m, rfl, -, h2⟩ := a_l2_c h
    rw [List.length_cons, List.length_cons, a_l2_len h2]
theorem a_l2_set {a : α} {b : β} (hR : R a b) : ∀ {xs : List α} {ys : List β} {i : Nat}, a_l2 R xs ys → a_l2 R (xs.set i a) (ys.set i b)
  | [], _, _, h => by rw [a_l2_n h]; exact trivial
  | x :: xs, ys, i, h => by
    obtain ⟨c, m, rfl, h1, h2⟩ := a_l2_c h
    cases i with
    | zero => exact ⟨hR, h2⟩
    | succ i => exact ⟨h1, a_l2_set hR h2⟩
theorem a_l2_app : ∀ {xs : List α} {ys : List β} {us : List α} {vs : List β}, a_l2 R xs ys → a_l2 R us vs → a_l2 R (xs ++ us) (ys ++ vs)
  | [], _, _, _, h, h2 => by rw [a_l2_n h]; exact h2
  | x :: xs, ys, us, vs, h, h2 => by
    obtain ⟨c, m, rfl, h1, h3⟩ := a_l2_c h
    exact ⟨h1, a_l2_app h3 h2⟩
theorem a_l2_drop : ∀ {xs : List α} {ys : List β} (n : Nat), a_l2 R xs ys → a_l2 R (xs.drop n) (ys.drop n)
  | xs, ys, 0, h => h
  | [], _, n + 1, h => by rw [a_l2_n h]; exact trivial
  | x :: xs, ys, n + 1, h => by
    obtain ⟨c, m, rfl, h1, h3⟩ := a_l2_c h
    exact a_l2_drop n h3
theorem a_l2_take : ∀ {xs : List α} {ys : List β} (n : Nat), a_l2 R xs ys → a_l2 R (xs.take n) (ys.take n)
  | xs, ys, 0, h => by rw [List.take_zero, List.take_zero]; exact trivial
  | [], _, n + 1, h => by rw [a_l2_n h]; exact trivial
  | x :: xs, ys, n + 1, h => by
    obtain ⟨c, m, rfl, h1, h3⟩ := a_l2_c h
    exact ⟨h1, a_l2_take n h3⟩
theorem a_l2_rev : ∀ {xs : List α} {ys : List β}, a_l2 R xs ys → a_l2 R xs.reverse ys.reverse
  | [], _, h => by rw [a_l2_n h]; exact trivial
  | x :: xs, ys, h => by
    obtain ⟨c, m, rfl, h1, h3⟩ := a_l2_c h
    rw [List.reverse_cons, List.reverse_cons]
    exact a_l2_app (a_l2_rev h3) ⟨h1, trivial⟩
theorem a_l2_wr : ∀ {l : List α} {l' : List β} {i : Nat} {ys : List α} {zs : List β}, a_l2 R l l' → a_l2 R ys zs → a_l2 R (e_wr l i ys) (e_wr l' i zs)
  | [], _, _, _, _, h, h2 => by rw [a_l2_n h]; exact h2
  | x :: xs, ys, i, us, vs, h, h2 => by
    obtain ⟨c, m, rfl, h1, h3⟩ := a_l2_c h
    unfold e_wr
    exact a_l2_wr h3 (a_l2_set h1 h2)
theorem a_l2_rep {a : α} {b : β} (hR : R a b) : ∀ n, a_l2 R (List.replicate n a) (List.replicate n b)
  | 0 => trivial
  | n + 1 => by
    rw [List.replicate_succ, List.replicate_succ]
    exact ⟨hR, a_l2_rep hR n⟩
end AL
def a_rx (ρ : Nat → Int32) (a : a_V) (x : Int32) : Prop := a_rv ρ a (.int x)
def a_rc (ρ : Nat → Int32) (c : a_C) (d : e_C) : Prop := match c, d with
  | .inl a, .inl b => a.1 = b.1 ∧ a_l2 (a_rx ρ) a.2 b.2
  | .inr a, .inr b => a.1 = b.1 ∧ a_l2 (a_rv ρ) a.2 b.2
  | _, _ => False
def a_rq (ρ : Nat → Int32) (q : Nat × a_V) (r : Nat × Value) : Prop := q.1 = r.1 ∧ a_rv ρ q.2 r.2
def a_ok (ρ : Nat → Int32) (E : a_E) : Prop := ∀ (id : Nat) (p : Int × Int), E[id]? = some p → p.1 ≤ (ρ id).toInt ∧ (ρ id).toInt ≤ p.2
def a_rF (ρ : Nat → Int32) (F : a_F) (G : e_F) : Prop := F.1 = G.1 ∧ a_l2 (a_rq ρ) F.2.1 G.2.1 ∧ a_l2 (a_rv ρ) F.2.2.1 G.2.2.1 ∧ a_l2 (a_rc ρ) F.2.2.2 G.2.2.2
theorem a_rng (x : Int32) : -2147483648 ≤ x.toInt ∧ x.toInt ≤ 2147483647 := by
  have h1 := Int32.le_toInt x
  have h2 := Int32.toInt_lt x
  omega
theorem a_wide (x : Int32) : x.toInt64.toInt = x.toInt := by simp
section AV
variable {ρ : Nat → Int32} {E : a_E}
theorem a_iv_ok (hE : a_ok ρ E) {a : a_V} {v : Value} {p : Int × Int} (h : a_rv ρ a v) (hi : a_iv E a = some p) : ∃ x : Int32, v = .int x ∧ p.1 ≤ x.toInt ∧ x.toInt ≤ p.2 := by
  unfold a_iv at hi
  split at hi
  · next x => cases hi; exact ⟨x, h, Int.le_refl _, Int.le_refl _⟩
  · next id z => exact ⟨ρ id, h, hE id p hi⟩
  · next u lo hi0 => cases hi; exact h
  · cases hi
theorem a_lg_ok (hE : a_ok ρ E) {a : a_V} {v : Value} {p : Int × Int} (h : a_rv ρ a v) (hi : a_lg E a = some p) : ∃ x : Int64, v = .long x ∧ p.1 ≤ x.toInt ∧ x.toInt ≤ p.2 := by
  unfold a_lg at hi
  split at hi
  · next x => cases hi; exact ⟨x, h, Int.le_refl _, Int.le_refl _⟩
  · next id z => exact ⟨_, h, by rw [a_wide]; exact hE id p hi⟩
  · next u lo hi0 =>
    cases hi
    obtain ⟨x, h1, h2⟩ := h
    exact ⟨_, h1, by rw [a_wide]; exact h2⟩
  · cases hi
theorem a_cat_ok {a : a_V} {v : Value} (h : a_rv ρ a v) : v.category = a_cat a := by
  unfold a_rv at h
  split at h
  · rw [h]; rfl
  · rw [h]; rfl
  · rw [h]; rfl
  · obtain ⟨x, rfl, -⟩ := h; rfl
  · obtain ⟨x, rfl, -⟩ := h; rfl
  · exact h.elim
theorem a_full_ok (x : Int32) : a_rv ρ a_full (.int x) := ⟨x, rfl, (a_rng x).1, (a_rng x).2⟩
theorem a_nm_ok (hE : a_ok ρ E) {a b : a_V} {v : Value} (h : a_rv ρ a v) (hn : a_nm E a = some b) : ∃ x : Int32, v = .int x ∧ a_rv ρ b (.int x) := by
  unfold a_nm at hn
  split at hn
  · next p hp =>
    obtain ⟨x, rfl, h1, h2⟩ := a_iv_ok hE h hp
    simp only [Bool.cond_eq_ite, decide_eq_true_eq] at hn
    split at hn
    · next hq =>
      cases hn
      refine ⟨x, rfl, ?_⟩
      have : x.toInt = p.1 := by omega
      show Value.int x = Value.int (Int32.ofInt p.1)
      rw [← this, Int32.ofInt_toInt]
    · cases hn; exact ⟨x, rfl, h⟩
  · cases hn
theorem a_get_ok : ∀ {lv : List (Nat × a_V)} {lw : List (Nat × Value)} {i : Nat} {a : a_V}, a_l2 (a_rq ρ) lv lw → a_get lv i = some a → ∃ v, e_get lw i = some v ∧ a_rv ρ a v
  | [], _, _, _, _, h => by cases h
  | q :: r, lw, i, a, h, hg => by
    obtain ⟨b, m, rfl, h1, h2⟩ := a_l2_c h
    unfold a_get at hg
    unfold e_get
    rw [← h1.1]
    cases hq : q.1 == i with
    | true => rw [hq] at hg; cases hg; exact ⟨b.2, rfl, h1.2⟩
    | false => rw [hq] at hg; exact a_get_ok h2 hg
theorem a_filter_ok (f : Nat × a_V → Bool) (g : Nat × Value → Bool) (hfg : ∀ q r, a_rq ρ q r → f q = g r) : ∀ {lv : List (Nat × a_V)} {lw : List (Nat × Value)}, a_l2 (a_rq ρ) lv lw → a_l2 (a_rq ρ) (lv.filter f) (lw.filter g)
  | [], _, h => by rw [a_l2_n h]; exact trivial
  | q :: r, lw, h => by
    obtain ⟨b, m, rfl, h1, h2⟩ := a_l2_c h
    rw [List.filter_cons, List.filter_cons, hfg q b h1]
    split
    · exact ⟨h1, a_filter_ok f g hfg h2⟩
    · exact a_filter_ok f g hfg h2
theorem a_put1_ok {lv : List (Nat × a_V)} {lw : List (Nat × Value)} {i : Nat} {a : a_V} {v : Value} (h : a_l2 (a_rq ρ) lv lw) (hv : a_rv ρ a v) : a_l2 (a_rq ρ) (a_put1 lv i a) (e_put1 lw i v) :=
  ⟨⟨rfl, hv⟩, a_filter_ok _ _ (fun q r hqr => by rw [hqr.1, a_cat_ok hqr.2]) h⟩
theorem a_put2_ok {lv : List (Nat × a_V)} {lw : List (Nat × Value)} {i : Nat} {a : a_V} {v : Value} (h : a_l2 (a_rq ρ) lv lw) (hv : a_rv ρ a v) : a_l2 (a_rq ρ) (a_put2 lv i a) (e_put2 lw i v) :=
  ⟨⟨rfl, hv⟩, a_filter_ok _ _ (fun q r hqr => by rw [hqr.1, a_cat_ok hqr.2]) h⟩
theorem a_args_ok : ∀ {as : List a_V} {vs : List Value} (i : Nat), a_l2 (a_rv ρ) as vs → a_l2 (a_rq ρ) (a_args i as) (lv_args i vs)
  | [], _, _, h => by rw [a_l2_n h]; exact trivial
  | a :: as, vs, i, h => by
    obtain ⟨b, m, rfl, h1, h2⟩ := a_l2_c h
    unfold a_args lv_args
    rw [a_cat_ok h1]
    exact ⟨⟨rfl, h1⟩, a_args_ok _ h2⟩
theorem a_cats_ok : ∀ {as : List a_V} {vs : List Value}, a_l2 (a_rv ρ) as vs → (vs.map fun v => v.category).sum = (as.map a_cat).sum
  | [], _, h => by rw [a_l2_n h]; rfl
  | a :: as, vs, h => by
    obtain ⟨b, m, rfl, h1, h2⟩ := a_l2_c h
    rw [List.map_cons, List.map_cons, List.sum_cons, List.sum_cons, a_cat_ok h1, a_cats_ok h2]
theorem a_fit_ok (hE : a_ok ρ E) {ty : FieldType} {a : a_V} {v : Value} (h : a_rv ρ a v) (hf : a_fit E ty a = true) : e_fit ty v = true := by
  unfold a_fit at hf
  split at hf
  · have : v = _ := h
    rw [this]; exact hf
  · simp only [Bool.and_eq_true, decide_eq_true_eq] at hf
    obtain ⟨rfl, hi⟩ := hf
    obtain ⟨p, hp⟩ := Option.isSome_iff_exists.mp hi
    obtain ⟨x, rfl, -⟩ := a_iv_ok hE h hp
    rfl
theorem a_arr {mem : List a_C} {mem' : List e_C} {q : Nat} {a : Bool × List a_V} (h : a_l2 (a_rc ρ) mem mem') (ha : mem[q]? = some (.inl a)) : ∃ b : Bool × List Int32, mem'[q]? = some (.inl b) ∧ a.1 = b.1 ∧ a_l2 (a_rx ρ) a.2 b.2 := by
  obtain ⟨b, h1, h2⟩ := a_l2_get h ha
  cases b with
  | inl b => exact ⟨b, h1, h2.1, h2.2⟩
  | inr b => exact h2.elim
theorem a_obj {mem : List a_C} {mem' : List e_C} {q : Nat} {a : Nat × List a_V} (h : a_l2 (a_rc ρ) mem mem') (ha : mem[q]? = some (.inr a)) : ∃ b : Nat × List Value, mem'[q]? = some (.inr b) ∧ a.1 = b.1 ∧ a_l2 (a_rv ρ) a.2 b.2 := by
  obtain ⟨b, h1, h2⟩ := a_l2_get h ha
  cases b with
  | inl b => exact h2.elim
  | inr b => exact ⟨b, h1, h2.1, h2.2⟩
theorem a_divN {x y : Int32} (hx : 0 ≤ x.toInt) (hy : 0 < y.toInt) : (x / y).toInt = x.toInt / y.toInt ∧ (x - x / y * y).toInt = x.toInt % y.toInt := by
  obtain ⟨a, ha, rfl⟩ := nI_of (x := x) (by rw [Int32.lt_iff_toInt_lt]; simp; omega)
  obtain ⟨b, hb, rfl⟩ := nI_of (x := y) (by rw [Int32.lt_iff_toInt_lt]; simp; omega)
  rw [nI_toInt hb] at hy
  have hb0 : 0 < b := by omega
  rw [pk_rem ha hb0 hb, pk_div ha hb0 hb, nI_toInt ha, nI_toInt hb, nI_toInt (by exact Nat.lt_of_le_of_lt (Nat.div_le_self a b) ha), nI_toInt (by exact Nat.lt_of_le_of_lt (Nat.mod_le a b) ha)]
  exact ⟨by simp, by simp⟩
theorem a_div_ok {x y : Int32} {p : Int × Int} (h1 : p.1 ≤ x.toInt) (h2 : x.toInt ≤ p.2) : a_rv ρ (a_div p y) (.int (x / y)) := by
  unfold a_div
  simp only [Bool.cond_eq_ite, Bool.and_eq_true, decide_eq_true_eq]
  split
  · next h =>
    obtain ⟨e, -⟩ := a_divN (x := x) (y := y) (by omega) h.2
    exact ⟨_, rfl, by rw [e]; exact Int.ediv_le_ediv h.2 h1, by rw [e]; exact Int.ediv_le_ediv h.2 h2⟩
  · exact a_full_ok _
theorem a_rem_ok {x y : Int32} {p : Int × Int} (h1 : p.1 ≤ x.toInt) (h2 : x.toInt ≤ p.2) : a_rv ρ (a_rem p y) (.int (x - x / y * y)) := by
  unfold a_rem
  simp only [Bool.cond_eq_ite, Bool.and_eq_true, decide_eq_true_eq]
  split
  · next h =>
    obtain ⟨-, e⟩ := a_divN (x := x) (y := y) (by omega) h.2
    refine ⟨_, rfl, by rw [e]; exact Int.emod_nonneg _ (by omega), ?_⟩
    rw [e]
    have := Int.emod_lt_of_pos x.toInt h.2
    omega
  · exact a_full_ok _
theorem a_cmp_ok {x y : Int64} {p q : Int × Int} (h1 : p.1 ≤ x.toInt) (h2 : x.toInt ≤ p.2) (h3 : q.1 ≤ y.toInt) (h4 : y.toInt ≤ q.2) : a_rv ρ (a_cmp p q) (.int (lg_cmp x y)) := by
  unfold a_cmp lg_cmp
  refine ⟨_, rfl, ?_, ?_⟩ <;> simp only [Bool.cond_eq_ite, decide_eq_true_eq, gt_iff_lt, Int64.lt_iff_toInt_lt, ← Int64.toInt_inj] <;> (repeat' split) <;> first | omega | decide | (exfalso; omega)
end AV
