/-! THE COUNTY BESIDE THE REFERENCE'S PAGE -/
def c_ps (n : Int) (k p g : Int → Int) : Prop := ∀ j, 0 ≤ j → j < n → k j = g j ∧ ((p j = -4 ∧ g (6 + j) = 0) ∨ (0 ≤ p j ∧ p j < j ∧ g (6 + j) = p j + 1))
def c_pr (n P : Int) (a b g : Int → Int) (o : Int) : Prop := ∀ j, 0 ≤ j → j < n → a j = g (o + 2 * j) ∧ b j = g (o + 2 * j + 1) ∧ 0 ≤ a j ∧ a j < P ∧ 0 ≤ b j ∧ b j < P
def c_re (n : Int) (r g : Int → Int) : Prop := ∀ j, 0 ≤ j → j < n → r j = g (26 + j)
def c_la (n P : Int) (l w g : Int → Int) : Prop := ∀ j, 0 ≤ j → j < n → ((l j = -4 ∧ g (29 + j) = 0) ∨ (0 ≤ l j ∧ l j < P ∧ g (29 + j) = l j + 1)) ∧ w j = g (32 + j)
def c_pl (n P G : Int) (q g : Int → Int) : Prop := ∀ j, 0 ≤ j → j < n → q j = g (35 + j) ∧ 0 ≤ q j ∧ q j / 10 < P ∧ q j % 10 < G
def c_D (fl : Bool) (np ng na nm nf : Int) (k p a b c d r l w q g : Int → Int) : Prop := (na = g 43 ∧ nm = g 18 ∧ nf = g 25) ∧ c_ps np k p g ∧ c_pr nm np a b g 12 ∧ c_pr nf np c d g 19 ∧ c_re ng r g ∧ c_pl na np ng q g ∧ (fl = true → c_la ng np l w g)
/-- the county at the cell x beside a page g -/
def c_at (fl : Bool) (s : h_S) (x : Nat) (g : Int → Int) : Prop := c_D fl (s x 8) (s x 9) (s x 10) (s (x + 3) 2) (s (x + 6) 2) (s (x + 1)) (s (x + 2)) (s (x + 4)) (s (x + 5)) (s (x + 7)) (s (x + 8)) (s (x + 9)) (s (x + 10)) (s (x + 11)) (s (x + 12)) g
/-- sizes are as the types have them -/
def c_sz (s : h_S) (x : Nat) : Prop := s x 8 ≤ 6 ∧ s x 9 ≤ 3 ∧ s x 10 ≤ 8 ∧ s (x + 3) 2 ≤ 3 ∧ s (x + 6) 2 ≤ 3
/-- two counties hold the same -/
def c_eq (fl : Bool) (s : h_S) (x : Nat) (t : h_S) (y : Nat) : Prop := (s x 8 = t y 8 ∧ s x 9 = t y 9 ∧ s x 10 = t y 10 ∧ s (x + 3) 2 = t (y + 3) 2 ∧ s (x + 6) 2 = t (y + 6) 2) ∧ (∀ j, 0 ≤ j → j < 6 → s (x + 1) j = t (y + 1) j) ∧ (∀ j, 0 ≤ j → j < 6 → s (x + 2) j = t (y + 2) j) ∧ (∀ j, 0 ≤ j → j < 3 → s (x + 4) j = t (y + 4) j) ∧ (∀ j, 0 ≤ j → j < 3 → s (x + 5) j = t (y + 5) j) ∧ (∀ j, 0 ≤ j → j < 3 → s (x + 7) j = t (y + 7) j) ∧ (∀ j, 0 ≤ j → j < 3 → s (x + 8) j = t (y + 8) j) ∧ (∀ j, 0 ≤ j → j < 3 → s (x + 9) j = t (y + 9) j) ∧ (∀ j, 0 ≤ j → j < 8 → s (x + 12) j = t (y + 12) j) ∧ (fl = true → (∀ j, 0 ≤ j → j < 3 → s (x + 10) j = t (y + 10) j) ∧ (∀ j, 0 ≤ j → j < 3 → s (x + 11) j = t (y + 11) j))
/-- two pages hold the same -/
def c_pg (fl : Bool) (g g' : Int → Int) : Prop := (∀ j, 0 ≤ j → j < 29 → g' j = g j) ∧ (∀ j, 35 ≤ j → j < 44 → g' j = g j) ∧ (fl = true → ∀ j, 29 ≤ j → j < 35 → g' j = g j)
theorem c_pg.rf {fl : Bool} {g : Int → Int} : c_pg fl g g := ⟨fun _ _ _ => rfl, fun _ _ _ => rfl, fun _ _ _ _ => rfl⟩
theorem c_pg.all {fl : Bool} {g g' : Int → Int} (h : ∀ j, 0 ≤ j → j < 44 → g' j = g j) : c_pg fl g g' := ⟨fun j a b => h j a (by omega), fun j a b => h j (by omega) b, fun _ j a b => h j (by omega) (by omega)⟩
theorem c_eq.rf {fl : Bool} {s : h_S} {x : Nat} : c_eq fl s x s x := ⟨⟨rfl, rfl, rfl, rfl, rfl⟩, fun _ _ _ => rfl, fun _ _ _ => rfl, fun _ _ _ => rfl, fun _ _ _ => rfl, fun _ _ _ => rfl, fun _ _ _ => rfl, fun _ _ _ => rfl, fun _ _ _ => rfl, fun _ => ⟨fun _ _ _ => rfl, fun _ _ _ => rfl⟩⟩
theorem c_eq.tr {fl : Bool} {s t u : h_S} {x y z : Nat} (h : c_eq fl s x t y) (h' : c_eq fl t y u z) : c_eq fl s x u z := by
  obtain ⟨⟨a1, a2, a3, a4, a5⟩, b1, b2, b3, b4, b5, b6, b7, b8, b9⟩ := h
  obtain ⟨⟨c1, c2, c3, c4, c5⟩, d1, d2, d3, d4, d5, d6, d7, d8, d9⟩ := h'
  exact ⟨⟨a1.trans c1, a2.trans c2, a3.trans c3, a4.trans c4, a5.trans c5⟩, fun j p q => (b1 j p q).trans (d1 j p q), fun j p q => (b2 j p q).trans (d2 j p q), fun j p q => (b3 j p q).trans (d3 j p q), fun j p q => (b4 j p q).trans (d4 j p q), fun j p q => (b5 j p q).trans (d5 j p q), fun j p q => (b6 j p q).trans (d6 j p q), fun j p q => (b7 j p q).trans (d7 j p q), fun j p q => (b8 j p q).trans (d8 j p q), fun f => ⟨fun j p q => ((b9 f).1 j p q).trans ((d9 f).1 j p q), fun j p q => ((b9 f).2 j p q).trans ((d9 f).2 j p q)⟩⟩
theorem c_eq.sz {fl : Bool} {s t : h_S} {x y : Nat} (h : c_eq fl s x t y) (b : c_sz t y) : c_sz s x := by
  obtain ⟨⟨a1, a2, a3, a4, a5⟩, -⟩ := h
  obtain ⟨b1, b2, b3, b4, b5⟩ := b
  exact ⟨by omega, by omega, by omega, by omega, by omega⟩
theorem c_at.mv {fl : Bool} {s s' : h_S} {x y : Nat} {g g' : Int → Int} (h : c_at fl s x g) (b : c_sz s x) (e : c_eq fl s' y s x) (eg : c_pg fl g g') : c_at fl s' y g' := by
  obtain ⟨⟨z1, z2, z3⟩, h1, h2, h3, h4, h5, h6⟩ := h
  obtain ⟨b1, b2, b3, b4, b5⟩ := b
  obtain ⟨⟨a1, a2, a3, a4, a5⟩, f1, f2, f3, f4, f5, f6, f7, f8, f9⟩ := e
  obtain ⟨g1, g2, g3⟩ := eg
  refine ⟨⟨?_, ?_, ?_⟩, fun j j0 j1 => ?_, fun j j0 j1 => ?_, fun j j0 j1 => ?_, fun j j0 j1 => ?_, fun j j0 j1 => ?_, fun f j j0 j1 => ?_⟩
  · rw [g2 43 (by omega) (by omega), a3]; exact z1
  · rw [g1 18 (by omega) (by omega), a4]; exact z2
  · rw [g1 25 (by omega) (by omega), a5]; exact z3
  · rw [a1] at j1
    rw [f1 j j0 (by omega), f2 j j0 (by omega), g1 j j0 (by omega), g1 (6 + j) (by omega) (by omega)]
    exact h1 j j0 j1
  · rw [a4] at j1
    rw [f3 j j0 (by omega), f4 j j0 (by omega), g1 (12 + 2 * j) (by omega) (by omega), g1 (12 + 2 * j + 1) (by omega) (by omega), a1]
    exact h2 j j0 j1
  · rw [a5] at j1
    rw [f5 j j0 (by omega), f6 j j0 (by omega), g1 (19 + 2 * j) (by omega) (by omega), g1 (19 + 2 * j + 1) (by omega) (by omega), a1]
    exact h3 j j0 j1
  · rw [a2] at j1
    rw [f7 j j0 (by omega), g1 (26 + j) (by omega) (by omega)]
    exact h4 j j0 j1
  · rw [a3] at j1
    rw [f8 j j0 (by omega), g2 (35 + j) (by omega) (by omega), a1, a2]
    exact h5 j j0 j1
  · rw [a2] at j1
    rw [(f9 f).1 j j0 (by omega), (f9 f).2 j j0 (by omega), g3 f (29 + j) (by omega) (by omega), g3 f (32 + j) (by omega) (by omega), a1]
    exact h6 f j j0 j1
theorem c_sz_of {s : h_S} (h : h_I s) : c_sz s 10 ∧ c_sz s 36 ∧ c_sz s 49 := ⟨⟨(tf_10_8 h).2, (tf_10_9 h).2, (tf_10_10 h).2, (tf_13_2 h).2, (tf_16_2 h).2⟩, ⟨(tf_36_8 h).2, (tf_36_9 h).2, (tf_36_10 h).2, (tf_39_2 h).2, (tf_42_2 h).2⟩, ⟨(tf_49_8 h).2, (tf_49_9 h).2, (tf_49_10 h).2, (tf_52_2 h).2, (tf_55_2 h).2⟩⟩
/-- what a text told, out of the draft -/
theorem c_of_r {np ng na nm nf pt : Int} {k p a b c d r l w q : Int → Int} {mp mg pt' H G : Int} {g : Int → Int} {fl : Bool} (h : r_D np ng na nm nf pt k p a b c d r l w q mp mg pt' H G g) (hw : g_ab a b nm np ∧ g_ab c d nf np ∧ g_wl l ng np ∧ g_wq q na np ng) (hg : ng ≤ 3) : c_D fl np ng na nm nf k p a b c d r l w q g := by
  obtain ⟨⟨z1, z2, z3, z4, z5, z6, z7⟩, hp, h1, h2, h3, h4, h5, h6⟩ := h
  obtain ⟨w1, w2, w3, w4⟩ := hw
  refine ⟨⟨z3, z4, z5⟩, fun j j0 j1 => hp.1 j j0 j1, fun j j0 j1 => ?_, fun j j0 j1 => ?_, fun j j0 j1 => (h3.1 j j0 j1).1, fun j j0 j1 => ?_, fun _ j j0 j1 => ?_⟩
  · obtain ⟨x1, x2, x3, x4, x5, x6⟩ := h1 j j0 j1
    have y := w1 j j0 j1
    exact ⟨x1, x2, x3, y.1, x5, y.2⟩
  · obtain ⟨x1, x2, x3, x4, x5, x6⟩ := h2 j j0 j1
    have y := w2 j j0 j1
    exact ⟨x1, x2, x3, y.1, x5, y.2⟩
  · obtain ⟨x1, x2, x3, x4⟩ := h4 j j0 j1
    have y := w4 j j0 j1
    exact ⟨x1, x2, y.1, y.2⟩
  · obtain ⟨x1, x2, x3⟩ := h3.1 j j0 j1
    have y := w3 j j0 j1
    refine ⟨?_, ?_⟩
    · rcases x2 with x2 | x2
      · exact Or.inl x2
      · exact Or.inr ⟨x2.1, by omega, x2.2.2⟩
    · rw [x3]
      exact (h3.2.2 j j0 (by omega)).symm
/-! what a frame leaves as it was -/
theorem h_F.no {A : List Nat} {s' s : h_S} {q : Nat} {l u j : Int} (h : h_F (k_in A) s' s) (ho : k_out A q l u = true) (h1 : l ≤ j) (h2 : j ≤ u) : s' q j = s q j := h q j (k_no ho h1 h2)
def k_cty (fl : Bool) (A : List Nat) (x : Nat) : Bool := k_out A x 8 10 && k_out A (x + 3) 2 2 && k_out A (x + 6) 2 2 && k_out A (x + 1) 0 5 && k_out A (x + 2) 0 5 && k_out A (x + 4) 0 2 && k_out A (x + 5) 0 2 && k_out A (x + 7) 0 2 && k_out A (x + 8) 0 2 && k_out A (x + 9) 0 2 && k_out A (x + 12) 0 7 && (!fl || (k_out A (x + 10) 0 2 && k_out A (x + 11) 0 2))
theorem c_eq.fr {fl : Bool} {A : List Nat} {s' s : h_S} {x : Nat} (h : h_F (k_in A) s' s) (hk : k_cty fl A x = true) : c_eq fl s' x s x := by
  unfold k_cty at hk
  simp only [Bool.and_eq_true] at hk
  obtain ⟨⟨⟨⟨⟨⟨⟨⟨⟨⟨⟨k1, k2⟩, k3⟩, k4⟩, k5⟩, k6⟩, k7⟩, k8⟩, k9⟩, k10⟩, k11⟩, k12⟩ := hk
  refine ⟨⟨h.no k1 (by omega) (by omega), h.no k1 (by omega) (by omega), h.no k1 (by omega) (by omega), h.no k2 (by omega) (by omega), h.no k3 (by omega) (by omega)⟩, fun j a b => h.no k4 a (by omega), fun j a b => h.no k5 a (by omega), fun j a b => h.no k6 a (by omega), fun j a b => h.no k7 a (by omega), fun j a b => h.no k8 a (by omega), fun j a b => h.no k9 a (by omega), fun j a b => h.no k10 a (by omega), fun j a b => h.no k11 a (by omega), fun f => ?_⟩
  rw [f] at k12
  have k12 : (k_out A (x + 10) 0 2 && k_out A (x + 11) 0 2) = true := k12
  rw [Bool.and_eq_true] at k12
  exact ⟨fun j a b => h.no k12.1 a (by omega), fun j a b => h.no k12.2 a (by omega)⟩
def k_pge (fl : Bool) (A : List Nat) (o : Int) : Bool := k_out A 99 o (o + 28) && k_out A 99 (o + 35) (o + 43) && (!fl || k_out A 99 (o + 29) (o + 34))
theorem c_pg.fr {fl : Bool} {A : List Nat} {s' s : h_S} {o : Int} (h : h_F (k_in A) s' s) (hk : k_pge fl A o = true) : c_pg fl (fun j => s 99 (o + j)) (fun j => s' 99 (o + j)) := by
  unfold k_pge at hk
  simp only [Bool.and_eq_true] at hk
  obtain ⟨⟨k1, k2⟩, k3⟩ := hk
  refine ⟨fun j a b => h.no k1 (by omega) (by omega), fun j a b => h.no k2 (by omega) (by omega), fun f j a b => ?_⟩
  rw [f] at k3
  exact h.no (show k_out A 99 (o + 29) (o + 34) = true from k3) (by omega) (by omega)
theorem c_pg.tr {fl : Bool} {f g h : Int → Int} (a : c_pg fl f g) (b : c_pg fl g h) : c_pg fl f h := ⟨fun j x y => (b.1 j x y).trans (a.1 j x y), fun j x y => (b.2.1 j x y).trans (a.2.1 j x y), fun e j x y => (b.2.2 e j x y).trans (a.2.2 e j x y)⟩
/-- an image beside its page -/
def c_im (fl : Bool) (s : h_S) (x : Nat) (o : Int) : Prop := s x 8 = s 98 1 ∧ s x 9 = s 98 2 ∧ c_at fl s x (fun j => s 99 (o + j))
/-- the class's county and images beside the reference's -/
def c_R (fl : Bool) (s : h_S) : Prop := (s 10 8 = s 98 1 ∧ s 10 9 = s 98 2) ∧ c_at fl s 10 (fun j => s 99 (0 + j)) ∧ (s 62 0 = s 110 0 ∧ s 62 1 = s 110 1) ∧ (s 62 0 = 1 → c_im fl s 36 44) ∧ (s 62 1 = 1 → c_im fl s 49 88)
def k_rel (fl : Bool) (A : List Nat) : Bool := k_cty fl A 10 && k_cty fl A 36 && k_cty fl A 49 && k_pge fl A 0 && k_pge fl A 44 && k_pge fl A 88 && k_out A 98 1 2 && k_out A 62 0 1 && k_out A 110 0 1
theorem c_im.mv {fl : Bool} {s s' : h_S} {x : Nat} {o : Int} (h : c_im fl s x o) (b : c_sz s x) (e : c_eq fl s' x s x) (eg : c_pg fl (fun j => s 99 (o + j)) (fun j => s' 99 (o + j))) (e1 : s' 98 1 = s 98 1) (e2 : s' 98 2 = s 98 2) : c_im fl s' x o := ⟨by rw [e.1.1, e1]; exact h.1, by rw [e.1.2.1, e2]; exact h.2.1, h.2.2.mv b e eg⟩
theorem c_R.fr {fl : Bool} {A : List Nat} {s s' : h_S} (h : c_R fl s) (hI : h_I s) (f : h_F (k_in A) s' s) (hk : k_rel fl A = true) : c_R fl s' := by
  unfold k_rel at hk
  simp only [Bool.and_eq_true] at hk
  obtain ⟨⟨⟨⟨⟨⟨⟨⟨k1, k2⟩, k3⟩, k4⟩, k5⟩, k6⟩, k7⟩, k8⟩, k9⟩ := hk
  obtain ⟨⟨h1, h2⟩, h3, ⟨h4, h5⟩, h6, h7⟩ := h
  have b := c_sz_of hI
  have q1 : s' 98 1 = s 98 1 := f.no k7 (by omega) (by omega)
  have q2 : s' 98 2 = s 98 2 := f.no k7 (by omega) (by omega)
  have i0 : s' 62 0 = s 62 0 := f.no k8 (by omega) (by omega)
  have i1 : s' 62 1 = s 62 1 := f.no k8 (by omega) (by omega)
  have n0 : s' 110 0 = s 110 0 := f.no k9 (by omega) (by omega)
  have n1 : s' 110 1 = s 110 1 := f.no k9 (by omega) (by omega)
  have e := c_eq.fr f k1
  refine ⟨⟨by rw [e.1.1, q1]; exact h1, by rw [e.1.2.1, q2]; exact h2⟩, h3.mv b.1 e (c_pg.fr f k4), ⟨by rw [i0, n0]; exact h4, by rw [i1, n1]; exact h5⟩, fun z => ?_, fun z => ?_⟩
  · rw [i0] at z
    exact (h6 z).mv b.2.1 (c_eq.fr f k2) (c_pg.fr f k5) q1 q2
  · rw [i1] at z
    exact (h7 z).mv b.2.2 (c_eq.fr f k3) (c_pg.fr f k6) q1 q2
