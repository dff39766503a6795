/-! THE DRAFT OF THE CLASS BESIDE THE PAGE OF THE REFERENCE -/
def r_ps (n : Int) (k p g : Int → Int) : Prop := (∀ j, 0 ≤ j → j < n → k j = g j ∧ ((p j = -4 ∧ g (6 + j) = 0) ∨ (0 ≤ p j ∧ p j < j ∧ g (6 + j) = p j + 1))) ∧ (∀ j, 0 ≤ j → n ≤ j → j < 6 → g (6 + j) = 0)
def r_pr (n H : Int) (a b g : Int → Int) (o : Int) : Prop := ∀ j, 0 ≤ j → j < n → a j = g (o + 2 * j) ∧ b j = g (o + 2 * j + 1) ∧ 0 ≤ a j ∧ a j ≤ H ∧ 0 ≤ b j ∧ b j ≤ H
def r_gt (n H : Int) (r l w g : Int → Int) : Prop := (∀ j, 0 ≤ j → j < n → r j = g (26 + j) ∧ ((l j = -4 ∧ g (29 + j) = 0) ∨ (0 ≤ l j ∧ l j ≤ H ∧ g (29 + j) = l j + 1)) ∧ w j = 0) ∧ (∀ j, 0 ≤ j → n ≤ j → j < 3 → g (29 + j) = 0) ∧ (∀ j, 0 ≤ j → j < 3 → g (32 + j) = 0)
def r_pl (n H G : Int) (q g : Int → Int) : Prop := ∀ j, 0 ≤ j → j < n → q j = g (35 + j) ∧ 0 ≤ q j ∧ q j / 10 ≤ H ∧ q j % 10 ≤ G
def r_at (nm nf ng na H : Int) (a b c d l q : Int → Int) : Prop := H = -1 ∨ (∃ j, 0 ≤ j ∧ j < nm ∧ (a j = H ∨ b j = H)) ∨ (∃ j, 0 ≤ j ∧ j < nf ∧ (c j = H ∨ d j = H)) ∨ (∃ j, 0 ≤ j ∧ j < ng ∧ l j = H) ∨ (∃ j, 0 ≤ j ∧ j < na ∧ q j / 10 = H)
def r_ag (na G : Int) (q : Int → Int) : Prop := G = -1 ∨ ∃ j, 0 ≤ j ∧ j < na ∧ q j % 10 = G
def r_D (np ng na nm nf pt : Int) (k p a b c d r l w q : Int → Int) (mp mg pt' H G : Int) (g : Int → Int) : Prop :=
  (np = mp ∧ ng = mg ∧ na = g 43 ∧ nm = g 18 ∧ nf = g 25 ∧ pt = pt' ∧ (pt = 0 → na = 0)) ∧ r_ps np k p g ∧ r_pr nm H a b g 12 ∧ r_pr nf H c d g 19 ∧ r_gt ng H r l w g ∧ r_pl na H G q g ∧ r_at nm nf ng na H a b c d l q ∧ r_ag na G q
theorem r_ps_fr {n : Int} {k p g g' : Int → Int} (h : r_ps n k p g) (hn : n ≤ 6) (e : ∀ i, 0 ≤ i → i < 12 → g' i = g i) : r_ps n k p g' := by
  refine ⟨fun j h0 h1 => ?_, fun j h0 h1 h2 => ?_⟩
  · rw [e j (by omega) (by omega), e (6 + j) (by omega) (by omega)]
    exact h.1 j h0 h1
  · rw [e (6 + j) (by omega) (by omega)]
    exact h.2 j h0 h1 h2
theorem r_pr_fr {n H : Int} {a b g g' : Int → Int} {o : Int} (h : r_pr n H a b g o) (hn : n ≤ 3) (e : ∀ i, o ≤ i → i < o + 6 → g' i = g i) : r_pr n H a b g' o := by
  intro j h0 h1
  rw [e (o + 2 * j) (by omega) (by omega), e (o + 2 * j + 1) (by omega) (by omega)]
  exact h j h0 h1
theorem r_pr_H {n H H' : Int} {a b g : Int → Int} {o : Int} (h : r_pr n H a b g o) (hH : H ≤ H') : r_pr n H' a b g o := by
  intro j h0 h1
  obtain ⟨x1, x2, x3, x4, x5, x6⟩ := h j h0 h1
  exact ⟨x1, x2, x3, by omega, x5, by omega⟩
theorem r_gt_fr {n H : Int} {r l w g g' : Int → Int} (h : r_gt n H r l w g) (hn : n ≤ 3) (e : ∀ i, 26 ≤ i → i < 35 → g' i = g i) : r_gt n H r l w g' := by
  refine ⟨fun j h0 h1 => ?_, fun j h0 h1 h2 => ?_, fun j h0 h1 => ?_⟩
  · rw [e (26 + j) (by omega) (by omega), e (29 + j) (by omega) (by omega)]
    exact h.1 j h0 h1
  · rw [e (29 + j) (by omega) (by omega)]
    exact h.2.1 j h0 h1 h2
  · rw [e (32 + j) (by omega) (by omega)]
    exact h.2.2 j h0 h1
theorem r_gt_H {n H H' : Int} {r l w g : Int → Int} (h : r_gt n H r l w g) (hH : H ≤ H') : r_gt n H' r l w g := by
  refine ⟨fun j h0 h1 => ?_, h.2⟩
  obtain ⟨x1, x2, x3⟩ := h.1 j h0 h1
  exact ⟨x1, x2.elim Or.inl (fun y => Or.inr ⟨y.1, by omega, y.2.2⟩), x3⟩
theorem r_pl_fr {n H G : Int} {q g g' : Int → Int} (h : r_pl n H G q g) (hn : n ≤ 8) (e : ∀ i, 35 ≤ i → i < 43 → g' i = g i) : r_pl n H G q g' := by
  intro j h0 h1
  rw [e (35 + j) (by omega) (by omega)]
  exact h j h0 h1
theorem r_pl_H {n H H' G G' : Int} {q g : Int → Int} (h : r_pl n H G q g) (hH : H ≤ H') (hG : G ≤ G') : r_pl n H' G' q g := by
  intro j h0 h1
  obtain ⟨x1, x2, x3, x4⟩ := h j h0 h1
  exact ⟨x1, x2, by omega, by omega⟩
/-- a ONE is told -/
theorem r_one {np ng na nm nf pt : Int} {k p a b c d r l w q : Int → Int} {mp mg pt' H G : Int} {g : Int → Int} (h : r_D np ng na nm nf pt k p a b c d r l w q mp mg pt' H G g) (h0 : 0 ≤ np) (h5 : np ≤ 5) (hm : nm ≤ 3) (hf : nf ≤ 3) (hg : ng ≤ 3) (ha : na ≤ 8) {kd kd' pa : Int} {g' : Int → Int} (hk : kd = kd')
    (e1 : g' mp = kd') (e2 : (pa = -4 ∧ g' (6 + mp) = 0) ∨ (0 ≤ pa ∧ pa < np ∧ g' (6 + mp) = pa + 1)) (e3 : ∀ i, ¬ i = mp → ¬ i = 6 + mp → g' i = g i) : r_D (np + 1) ng na nm nf pt (fun j => if j = np then kd else k j) (fun j => if j = np then pa else p j) a b c d r l w q (mp + 1) mg pt' H G g' := by
  obtain ⟨⟨z1, z2, z3, z4, z5, z6, z7⟩, hp, h1, h2, h3, h4, h6, h7⟩ := h
  subst z1
  refine ⟨⟨rfl, z2, ?_, ?_, ?_, z6, z7⟩, ⟨fun j j0 j1 => ?_, fun j j0 j1 j2 => ?_⟩, r_pr_fr h1 hm (fun i a1 a2 => e3 i (by omega) (by omega)), r_pr_fr h2 hf (fun i a1 a2 => e3 i (by omega) (by omega)), r_gt_fr h3 hg (fun i a1 a2 => e3 i (by omega) (by omega)), r_pl_fr h4 ha (fun i a1 a2 => e3 i (by omega) (by omega)), h6, h7⟩
  · rw [e3 43 (by omega) (by omega)]; exact z3
  · rw [e3 18 (by omega) (by omega)]; exact z4
  · rw [e3 25 (by omega) (by omega)]; exact z5
  · by_cases hj : j = np
    · subst hj
      dsimp only
      rw [if_pos rfl, if_pos rfl]
      exact ⟨by rw [hk, e1], e2⟩
    · dsimp only
      rw [if_neg hj, if_neg hj, e3 j (by omega) (by omega), e3 (6 + j) (by omega) (by omega)]
      exact hp.1 j j0 (by omega)
  · rw [e3 (6 + j) (by omega) (by omega)]
    exact hp.2 j j0 (by omega) j2
theorem r_one0 {np ng na nm nf pt : Int} {k p a b c d r l w q : Int → Int} {mp mg pt' H G : Int} {g : Int → Int} (h : r_D np ng na nm nf pt k p a b c d r l w q mp mg pt' H G g) (h0 : 0 ≤ np) (h5 : np ≤ 5) (hm : nm ≤ 3) (hf : nf ≤ 3) (hg : ng ≤ 3) (ha : na ≤ 8) {kd kd' : Int} (hk : kd = kd') : r_D (np + 1) ng na nm nf pt (fun j => if j = np then kd else k j) (fun j => if j = np then (-4) else p j) a b c d r l w q (mp + 1) mg pt' H G (fun j => if j = mp then kd' else g j) := by
  have z1 := h.1.1
  refine r_one h h0 h5 hm hf hg ha hk (if_pos rfl) (Or.inl ⟨rfl, ?_⟩) (fun i i1 _ => if_neg i1)
  rw [if_neg (by omega)]
  exact h.2.1.2 mp (by omega) (by omega) (by omega)
theorem r_one1 {np ng na nm nf pt : Int} {k p a b c d r l w q : Int → Int} {mp mg pt' H G : Int} {g : Int → Int} (h : r_D np ng na nm nf pt k p a b c d r l w q mp mg pt' H G g) (h0 : 0 ≤ np) (h5 : np ≤ 5) (hm : nm ≤ 3) (hf : nf ≤ 3) (hg : ng ≤ 3) (ha : na ≤ 8) {kd kd' pa pb : Int} (hk : kd = kd') (hp : pa = pb) (p0 : 0 ≤ pa) (p1 : pa < np) : r_D (np + 1) ng na nm nf pt (fun j => if j = np then kd else k j) (fun j => if j = np then pa else p j) a b c d r l w q (mp + 1) mg pt' H G (fun j => if j = 6 + mp then pb + 1 else if j = mp then kd' else g j) := by
  have z1 := h.1.1
  refine r_one h h0 h5 hm hf hg ha hk ?_ (Or.inr ⟨p0, p1, ?_⟩) (fun i i1 i2 => ?_)
  · rw [if_neg (by omega), if_pos rfl]
  · rw [if_pos rfl, hp]
  · rw [if_neg i2, if_neg i1]
/-- two of a MARRIAGE are told -/
theorem r_mar {np ng na nm nf pt : Int} {k p a b c d r l w q : Int → Int} {mp mg pt' H G : Int} {g : Int → Int} (h : r_D np ng na nm nf pt k p a b c d r l w q mp mg pt' H G g) (h6 : np ≤ 6) (h0 : 0 ≤ nm) (hm : nm ≤ 2) (hf : nf ≤ 3) (hg : ng ≤ 3) (ha : na ≤ 8) {x y x' y' H' N e1 e2 : Int} (hx : x = x') (hy : y = y') (x0 : 0 ≤ x) (y0 : 0 ≤ y) (hH : H ≤ H') (hxH : x ≤ H') (hyH : y ≤ H') (hat : H' = H ∨ H' = x ∨ H' = y) (hN : N = nm + 1) (he1 : e1 = 12 + 2 * nm) (he2 : e2 = 12 + 2 * nm + 1) : r_D np ng na (nm + 1) nf pt k p (fun j => if j = nm then x else a j) (fun j => if j = nm then y else b j) c d r l w q mp mg pt' H' G (fun j => if j = 18 then N else if j = e2 then y' else if j = e1 then x' else g j) := by
  obtain ⟨⟨z1, z2, z3, z4, z5, z6, z7⟩, hp, h1, h2, h3, h4, h5, h7⟩ := h
  subst he1
  subst he2
  have e : ∀ i, ¬ i = 18 → ¬ i = 12 + 2 * nm + 1 → ¬ i = 12 + 2 * nm → (fun j => if j = 18 then N else if j = 12 + 2 * nm + 1 then y' else if j = 12 + 2 * nm then x' else g j) i = g i := fun i i1 i2 i3 => by
    show (if i = 18 then N else if i = 12 + 2 * nm + 1 then y' else if i = 12 + 2 * nm then x' else g i) = g i
    rw [if_neg i1, if_neg i2, if_neg i3]
  refine ⟨⟨z1, z2, ?_, hN.symm, ?_, z6, z7⟩, r_ps_fr hp h6 (fun i a1 a2 => e i (by omega) (by omega) (by omega)), fun j j0 j1 => ?_, r_pr_H (r_pr_fr h2 hf (fun i a1 a2 => e i (by omega) (by omega) (by omega))) hH, r_gt_H (r_gt_fr h3 hg (fun i a1 a2 => e i (by omega) (by omega) (by omega))) hH, r_pl_H (r_pl_fr h4 ha (fun i a1 a2 => e i (by omega) (by omega) (by omega))) hH (Int.le_refl _), ?_, h7⟩
  · rw [e 43 (by omega) (by omega) (by omega)]; exact z3
  · rw [e 25 (by omega) (by omega) (by omega)]; exact z5
  · by_cases hj : j = nm
    · subst hj
      dsimp only
      rw [if_pos rfl, if_pos rfl, if_neg (by omega), if_neg (by omega), if_pos rfl, if_neg (by omega), if_pos rfl]
      exact ⟨hx, hy, x0, hxH, y0, hyH⟩
    · rw [e (12 + 2 * j) (by omega) (by omega) (by omega), e (12 + 2 * j + 1) (by omega) (by omega) (by omega)]
      dsimp only
      rw [if_neg hj, if_neg hj]
      exact r_pr_H h1 hH j j0 (by omega)
  · rcases hat with e | e | e
    · rw [e]
      rcases h5 with y | ⟨j, y⟩ | y
      · exact Or.inl y
      · exact Or.inr (Or.inl ⟨j, y.1, by omega, by dsimp only; rw [if_neg (by omega), if_neg (by omega)]; exact y.2.2⟩)
      · exact Or.inr (Or.inr y)
    · exact Or.inr (Or.inl ⟨nm, h0, by omega, Or.inl (by dsimp only; rw [if_pos rfl, e])⟩)
    · exact Or.inr (Or.inl ⟨nm, h0, by omega, Or.inr (by dsimp only; rw [if_pos rfl, e])⟩)
theorem r_feu {np ng na nm nf pt : Int} {k p a b c d r l w q : Int → Int} {mp mg pt' H G : Int} {g : Int → Int} (h : r_D np ng na nm nf pt k p a b c d r l w q mp mg pt' H G g) (h6 : np ≤ 6) (h0 : 0 ≤ nf) (hf : nf ≤ 2) (hm : nm ≤ 3) (hg : ng ≤ 3) (ha : na ≤ 8) {x y x' y' H' N e1 e2 : Int} (hx : x = x') (hy : y = y') (x0 : 0 ≤ x) (y0 : 0 ≤ y) (hH : H ≤ H') (hxH : x ≤ H') (hyH : y ≤ H') (hat : H' = H ∨ H' = x ∨ H' = y) (hN : N = nf + 1) (he1 : e1 = 19 + 2 * nf) (he2 : e2 = 19 + 2 * nf + 1) : r_D np ng na nm (nf + 1) pt k p a b (fun j => if j = nf then x else c j) (fun j => if j = nf then y else d j) r l w q mp mg pt' H' G (fun j => if j = 25 then N else if j = e2 then y' else if j = e1 then x' else g j) := by
  obtain ⟨⟨z1, z2, z3, z4, z5, z6, z7⟩, hp, h1, h2, h3, h4, h5, h7⟩ := h
  subst he1
  subst he2
  have e : ∀ i, ¬ i = 25 → ¬ i = 19 + 2 * nf + 1 → ¬ i = 19 + 2 * nf → (fun j => if j = 25 then N else if j = 19 + 2 * nf + 1 then y' else if j = 19 + 2 * nf then x' else g j) i = g i := fun i i1 i2 i3 => by
    show (if i = 25 then N else if i = 19 + 2 * nf + 1 then y' else if i = 19 + 2 * nf then x' else g i) = g i
    rw [if_neg i1, if_neg i2, if_neg i3]
  refine ⟨⟨z1, z2, ?_, ?_, hN.symm, z6, z7⟩, r_ps_fr hp h6 (fun i a1 a2 => e i (by omega) (by omega) (by omega)), r_pr_H (r_pr_fr h1 hm (fun i a1 a2 => e i (by omega) (by omega) (by omega))) hH, fun j j0 j1 => ?_, r_gt_H (r_gt_fr h3 hg (fun i a1 a2 => e i (by omega) (by omega) (by omega))) hH, r_pl_H (r_pl_fr h4 ha (fun i a1 a2 => e i (by omega) (by omega) (by omega))) hH (Int.le_refl _), ?_, h7⟩
  · rw [e 43 (by omega) (by omega) (by omega)]; exact z3
  · rw [e 18 (by omega) (by omega) (by omega)]; exact z4
  · by_cases hj : j = nf
    · subst hj
      dsimp only
      rw [if_pos rfl, if_pos rfl, if_neg (by omega), if_neg (by omega), if_pos rfl, if_neg (by omega), if_pos rfl]
      exact ⟨hx, hy, x0, hxH, y0, hyH⟩
    · rw [e (19 + 2 * j) (by omega) (by omega) (by omega), e (19 + 2 * j + 1) (by omega) (by omega) (by omega)]
      dsimp only
      rw [if_neg hj, if_neg hj]
      exact r_pr_H h2 hH j j0 (by omega)
  · rcases hat with e | e | e
    · rw [e]
      rcases h5 with y | y | ⟨j, y⟩ | y
      · exact Or.inl y
      · exact Or.inr (Or.inl y)
      · exact Or.inr (Or.inr (Or.inl ⟨j, y.1, by omega, by dsimp only; rw [if_neg (by omega), if_neg (by omega)]; exact y.2.2⟩))
      · exact Or.inr (Or.inr (Or.inr y))
    · exact Or.inr (Or.inr (Or.inl ⟨nf, h0, by omega, Or.inl (by dsimp only; rw [if_pos rfl, e])⟩))
    · exact Or.inr (Or.inr (Or.inl ⟨nf, h0, by omega, Or.inr (by dsimp only; rw [if_pos rfl, e])⟩))
/-- a GATE is told -/
theorem r_gat {np ng na nm nf pt : Int} {k p a b c d r l w q : Int → Int} {mp mg pt' H G : Int} {g : Int → Int} (h : r_D np ng na nm nf pt k p a b c d r l w q mp mg pt' H G g) (h6 : np ≤ 6) (h0 : 0 ≤ ng) (hg : ng ≤ 2) (hm : nm ≤ 3) (hf : nf ≤ 3) (ha : na ≤ 8) {x y H' : Int} {g' : Int → Int} (hH : H ≤ H') (hat : H' = H ∨ (0 ≤ y ∧ H' = y))
    (e1 : g' (26 + mg) = x) (e2 : (y = -4 ∧ g' (29 + mg) = 0) ∨ (0 ≤ y ∧ y ≤ H' ∧ g' (29 + mg) = y + 1)) (e3 : ∀ i, ¬ i = 26 + mg → ¬ i = 29 + mg → g' i = g i) : r_D np (ng + 1) na nm nf pt k p a b c d (fun j => if j = ng then x else r j) (fun j => if j = ng then y else l j) (fun j => if j = ng then 0 else w j) q mp (mg + 1) pt' H' G g' := by
  obtain ⟨⟨z1, z2, z3, z4, z5, z6, z7⟩, hp, h1, h2, h3, h4, h5, h7⟩ := h
  subst z2
  refine ⟨⟨z1, rfl, ?_, ?_, ?_, z6, z7⟩, r_ps_fr hp h6 (fun i a1 a2 => e3 i (by omega) (by omega)), r_pr_H (r_pr_fr h1 hm (fun i a1 a2 => e3 i (by omega) (by omega))) hH, r_pr_H (r_pr_fr h2 hf (fun i a1 a2 => e3 i (by omega) (by omega))) hH, ⟨fun j j0 j1 => ?_, fun j j0 j1 j2 => ?_, fun j j0 j1 => ?_⟩, r_pl_H (r_pl_fr h4 ha (fun i a1 a2 => e3 i (by omega) (by omega))) hH (Int.le_refl _), ?_, h7⟩
  · rw [e3 43 (by omega) (by omega)]; exact z3
  · rw [e3 18 (by omega) (by omega)]; exact z4
  · rw [e3 25 (by omega) (by omega)]; exact z5
  · by_cases hj : j = ng
    · subst hj
      dsimp only
      rw [if_pos rfl, if_pos rfl, if_pos rfl]
      exact ⟨e1.symm, e2, rfl⟩
    · dsimp only
      rw [if_neg hj, if_neg hj, if_neg hj, e3 (26 + j) (by omega) (by omega), e3 (29 + j) (by omega) (by omega)]
      exact (r_gt_H h3 hH).1 j j0 (by omega)
  · rw [e3 (29 + j) (by omega) (by omega)]
    exact h3.2.1 j j0 (by omega) j2
  · rw [e3 (32 + j) (by omega) (by omega)]
    exact h3.2.2 j j0 j1
  · rcases hat with e | e
    · rw [e]
      rcases h5 with y | y | y | ⟨j, y⟩ | y
      · exact Or.inl y
      · exact Or.inr (Or.inl y)
      · exact Or.inr (Or.inr (Or.inl y))
      · exact Or.inr (Or.inr (Or.inr (Or.inl ⟨j, y.1, by omega, by dsimp only; rw [if_neg (by omega)]; exact y.2.2⟩)))
      · exact Or.inr (Or.inr (Or.inr (Or.inr y)))
    · exact Or.inr (Or.inr (Or.inr (Or.inl ⟨ng, h0, by omega, by dsimp only; rw [if_pos rfl, e.2]⟩)))
theorem r_pt {np ng na nm nf pt : Int} {k p a b c d r l w q : Int → Int} {mp mg pt' H G : Int} {g : Int → Int} (h : r_D np ng na nm nf pt k p a b c d r l w q mp mg pt' H G g) : r_D np ng na nm nf 1 k p a b c d r l w q mp mg 1 H G g := by
  obtain ⟨⟨z1, z2, z3, z4, z5, z6, z7⟩, h⟩ := h
  exact ⟨⟨z1, z2, z3, z4, z5, rfl, fun e => absurd e (by decide)⟩, h⟩
/-- an ACT is told -/
theorem r_act {np ng na nm nf pt : Int} {k p a b c d r l w q : Int → Int} {mp mg pt' H G : Int} {g : Int → Int} (h : r_D np ng na nm nf pt k p a b c d r l w q mp mg pt' H G g) (h6 : np ≤ 6) (h0 : 0 ≤ na) (ha : na ≤ 7) (hm : nm ≤ 3) (hf : nf ≤ 3) (hg : ng ≤ 3) (hpt : ¬ pt = 0) {x x' H' G' N e1 : Int} (hx : x = x') (x0 : 0 ≤ x) (hH : H ≤ H') (hG : G ≤ G') (hxH : x / 10 ≤ H') (hxG : x % 10 ≤ G') (hat : H' = H ∨ H' = x / 10) (hag : G' = G ∨ G' = x % 10) (hN : N = na + 1) (he1 : e1 = 35 + na) : r_D np ng (na + 1) nm nf pt k p a b c d r l w (fun j => if j = na then x else q j) mp mg pt' H' G' (fun j => if j = 43 then N else if j = e1 then x' else g j) := by
  obtain ⟨⟨z1, z2, z3, z4, z5, z6, z7⟩, hp, h1, h2, h3, h4, h5, h7⟩ := h
  subst he1
  have e : ∀ i, ¬ i = 43 → ¬ i = 35 + na → (fun j => if j = 43 then N else if j = 35 + na then x' else g j) i = g i := fun i i1 i2 => by
    show (if i = 43 then N else if i = 35 + na then x' else g i) = g i
    rw [if_neg i1, if_neg i2]
  refine ⟨⟨z1, z2, hN.symm, ?_, ?_, z6, fun y => absurd y hpt⟩, r_ps_fr hp h6 (fun i a1 a2 => e i (by omega) (by omega)), r_pr_H (r_pr_fr h1 hm (fun i a1 a2 => e i (by omega) (by omega))) hH, r_pr_H (r_pr_fr h2 hf (fun i a1 a2 => e i (by omega) (by omega))) hH, r_gt_H (r_gt_fr h3 hg (fun i a1 a2 => e i (by omega) (by omega))) hH, fun j j0 j1 => ?_, ?_, ?_⟩
  · rw [e 18 (by omega) (by omega)]; exact z4
  · rw [e 25 (by omega) (by omega)]; exact z5
  · by_cases hj : j = na
    · subst hj
      dsimp only
      rw [if_pos rfl, if_neg (by omega), if_pos rfl]
      exact ⟨hx, x0, hxH, hxG⟩
    · rw [e (35 + j) (by omega) (by omega)]
      dsimp only
      rw [if_neg hj]
      exact r_pl_H h4 hH hG j j0 (by omega)
  · rcases hat with e | e
    · rw [e]
      rcases h5 with y | y | y | y | ⟨j, y⟩
      · exact Or.inl y
      · exact Or.inr (Or.inl y)
      · exact Or.inr (Or.inr (Or.inl y))
      · exact Or.inr (Or.inr (Or.inr (Or.inl y)))
      · exact Or.inr (Or.inr (Or.inr (Or.inr ⟨j, y.1, by omega, by dsimp only; rw [if_neg (by omega)]; exact y.2.2⟩)))
    · exact Or.inr (Or.inr (Or.inr (Or.inr ⟨na, h0, by omega, by dsimp only; rw [if_pos rfl, e]⟩)))
  · rcases hag with e | e
    · rw [e]
      rcases h7 with y | ⟨j, y⟩
      · exact Or.inl y
      · exact Or.inr ⟨j, y.1, by omega, by dsimp only; rw [if_neg (by omega)]; exact y.2.2⟩
    · exact Or.inr ⟨na, h0, by omega, by dsimp only; rw [if_pos rfl, e]⟩
def d_RD (s t : h_S) : Prop := r_D (s 66 8) (s 66 9) (s 66 10) (s 69 2) (s 72 2) (s 63 5) (s 67) (s 68) (s 70) (s 71) (s 73) (s 74) (s 75) (s 76) (s 77) (s 78) (t 98 5) (t 98 6) (t 98 7) (t 98 8) (t 98 9) (t 101)
theorem d_mk {s t : h_S} {np ng na nm nf pt : Int} {k p a b c d r l w q : Int → Int} {mp mg pt' H G : Int} {g : Int → Int} (e1 : s 66 8 = np) (e2 : s 66 9 = ng) (e3 : s 66 10 = na) (e4 : s 69 2 = nm) (e5 : s 72 2 = nf) (e6 : s 63 5 = pt) (f1 : ∀ j, s 67 j = k j) (f2 : ∀ j, s 68 j = p j) (f3 : ∀ j, s 70 j = a j) (f4 : ∀ j, s 71 j = b j) (f5 : ∀ j, s 73 j = c j) (f6 : ∀ j, s 74 j = d j) (f7 : ∀ j, s 75 j = r j) (f8 : ∀ j, s 76 j = l j) (f9 : ∀ j, s 77 j = w j) (f10 : ∀ j, s 78 j = q j) (m1 : t 98 5 = mp) (m2 : t 98 6 = mg) (m3 : t 98 7 = pt') (m4 : t 98 8 = H) (m5 : t 98 9 = G) (m6 : ∀ j, t 101 j = g j) (h : r_D np ng na nm nf pt k p a b c d r l w q mp mg pt' H G g) : d_RD s t := by
  unfold d_RD
  rw [e1, e2, e3, e4, e5, e6, funext f1, funext f2, funext f3, funext f4, funext f5, funext f6, funext f7, funext f8, funext f9, funext f10, m1, m2, m3, m4, m5, funext m6]
  exact h
def d_ok (s t : h_S) : Prop := s 63 2 = 0 → d_RD s t
