/-! LISTS SIDE BY SIDE -/
def a_l2 {α β : Type} (R : α → β → Prop) : List α → List β → Prop
  | [], [] => True
  | a :: l, b :: m => R a b ∧ a_l2 R l m
  | _, _ => False
section AL
variable {α β : Type} {R : α → β → Prop}
theorem a_l2_c {a : α} {l : List α} {ys : List β} (h : a_l2 R (a :: l) ys) : ∃ b m, ys = b :: m ∧ R a b ∧ a_l2 R l m := by
  cases ys with
  | nil => exact h.elim
  | cons b m => exact ⟨b, m, rfl, h.1, h.2⟩
theorem a_l2_n {ys : List β} (h : a_l2 R [] ys) : ys = [] := by
  cases ys with
  | nil => rfl
  | cons b m => exact h.elim
theorem a_l2_get : ∀ {xs : List α} {ys : List β} {i : Nat} {a : α}, a_l2 R xs ys → xs[i]? = some a → ∃ b, ys[i]? = some b ∧ R a b
  | [], _, _, _, _, h => by simp at h
  | x :: xs, ys, i, a, h, hx => by
    obtain ⟨b, m, rfl, h1, h2⟩ := a_l2_c h
    cases i with
    | zero => rw [List.getElem?_cons_zero] at hx ⊢; cases hx; exact ⟨b, rfl, h1⟩
    | succ i => rw [List.getElem?_cons_succ] at hx ⊢; exact a_l2_get h2 hx
theorem a_l2_len : ∀ {xs : List α} {ys : List β}, a_l2 R xs ys → ys.length = xs.length
  | [], _, h => by rw [a_l2_n h]; rfl
  | x :: xs, ys, h => by
    obtain ⟨b, m, rfl, -, h2⟩ := a_l2_c h
    rw [List.length_cons, List.length_cons, a_l2_len h2]
theorem a_l2_set {a : α} {b : β} (hR : R a b) : ∀ {xs : List α} {ys : List β} {i : Nat}, a_l2 R xs ys → a_l2 R (xs.set i a) (ys.set i b)
  | [], _, _, h => by rw [a_l2_n h]; exact trivial
  | x :: xs, ys, i, h => by
    obtain ⟨c, m, rfl, h1, h2⟩ := a_l2_c h
    cases i with
    | zero => exact ⟨hR, h2⟩
    | succ i => exact ⟨h1, a_l2_set hR h2⟩
theorem a_l2_app : ∀ {xs : List α} {ys : List β} {us : List α} {vs : List β}, a_l2 R xs ys → a_l2 R us vs → a_l2 R (xs ++ us) (ys ++ vs)
  | [], _, _, _, h, h2 => by rw [a_l2_n h]; exact h2
  | x :: xs, ys, us, vs, h, h2 => by
    obtain ⟨c, m, rfl, h1, h3⟩ := a_l2_c h
    exact ⟨h1, a_l2_app h3 h2⟩
theorem a_l2_drop : ∀ {xs : List α} {ys : List β} (n : Nat), a_l2 R xs ys → a_l2 R (xs.drop n) (ys.drop n)
  | xs, ys, 0, h => h
  | [], _, n + 1, h => by rw [a_l2_n h]; exact trivial
  | x :: xs, ys, n + 1, h => by
    obtain ⟨c, m, rfl, h1, h3⟩ := a_l2_c h
    exact a_l2_drop n h3
theorem a_l2_take : ∀ {xs : List α} {ys : List β} (n : Nat), a_l2 R xs ys → a_l2 R (xs.take n) (ys.take n)
  | xs, ys, 0, h => by rw [List.take_zero, List.take_zero]; exact trivial
  | [], _, n + 1, h => by rw [a_l2_n h]; exact trivial
  | x :: xs, ys, n + 1, h => by
    obtain ⟨c, m, rfl, h1, h3⟩ := a_l2_c h
    exact ⟨h1, a_l2_take n h3⟩
theorem a_l2_rev : ∀ {xs : List α} {ys : List β}, a_l2 R xs ys → a_l2 R xs.reverse ys.reverse
  | [], _, h => by rw [a_l2_n h]; exact trivial
  | x :: xs, ys, h => by
    obtain ⟨c, m, rfl, h1, h3⟩ := a_l2_c h
    rw [List.reverse_cons, List.reverse_cons]
    exact a_l2_app (a_l2_rev h3) ⟨h1, trivial⟩
theorem a_l2_wr : ∀ {l : List α} {l' : List β} {i : Nat} {ys : List α} {zs : List β}, a_l2 R l l' → a_l2 R ys zs → a_l2 R (e_wr l i ys) (e_wr l' i zs)
  | [], _, _, _, _, h, h2 => by rw [a_l2_n h]; exact h2
  | x :: xs, ys, i, us, vs, h, h2 => by
    obtain ⟨c, m, rfl, h1, h3⟩ := a_l2_c h
    unfold e_wr
    exact a_l2_wr h3 (a_l2_set h1 h2)
theorem a_l2_rep {a : α} {b : β} (hR : R a b) : ∀ n, a_l2 R (List.replicate n a) (List.replicate n b)
  | 0 => trivial
  | n + 1 => by
    rw [List.replicate_succ, List.replicate_succ]
    exact ⟨hR, a_l2_rep hR n⟩
end AL
theorem a_l2_mono {α β : Type} {R S : α → β → Prop} (h : ∀ a b, R a b → S a b) : ∀ {xs : List α} {ys : List β}, a_l2 R xs ys → a_l2 S xs ys
  | [], _, h1 => by rw [a_l2_n h1]; exact trivial
  | x :: xs, ys, h1 => by
    obtain ⟨b, m, rfl, h2, h3⟩ := a_l2_c h1
    exact ⟨h x b h2, a_l2_mono h h3⟩
