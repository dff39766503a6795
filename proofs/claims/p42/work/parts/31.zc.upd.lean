/-! WHAT A CALL CHANGES OF THE COUNTY AND OF THE PAGE -/
section CB
variable {fl : Bool} {np ng na nm nf : Int} {k p a b c d r l w q g g' : Int → Int}
theorem c_ps.pg {n : Int} (h : c_ps n k p g) (hn : n ≤ 6) (e : ∀ j, 0 ≤ j → j < 12 → g' j = g j) : c_ps n k p g' := fun j j0 j1 => by
  rw [e j j0 (by omega), e (6 + j) (by omega) (by omega)]
  exact h j j0 j1
theorem c_pr.pg {n P o : Int} (h : c_pr n P a b g o) (hn : n ≤ 3) (e : ∀ j, o ≤ j → j < o + 6 → g' j = g j) : c_pr n P a b g' o := fun j j0 j1 => by
  rw [e (o + 2 * j) (by omega) (by omega), e (o + 2 * j + 1) (by omega) (by omega)]
  exact h j j0 j1
theorem c_re.pg {n : Int} (h : c_re n r g) (hn : n ≤ 3) (e : ∀ j, 26 ≤ j → j < 29 → g' j = g j) : c_re n r g' := fun j j0 j1 => by
  rw [e (26 + j) (by omega) (by omega)]
  exact h j j0 j1
theorem c_la.pg {n P : Int} (h : c_la n P l w g) (hn : n ≤ 3) (e : ∀ j, 29 ≤ j → j < 35 → g' j = g j) : c_la n P l w g' := fun j j0 j1 => by
  rw [e (29 + j) (by omega) (by omega), e (32 + j) (by omega) (by omega)]
  exact h j j0 j1
theorem c_pl.pg {n P G : Int} (h : c_pl n P G q g) (hn : n ≤ 8) (e : ∀ j, 35 ≤ j → j < 43 → g' j = g j) : c_pl n P G q g' := fun j j0 j1 => by
  rw [e (35 + j) (by omega) (by omega)]
  exact h j j0 j1
/-- KIND of a ONE -/
theorem c_D.kind (h : c_D fl np ng na nm nf k p a b c d r l w q g) (h6 : np ≤ 6) (hm : nm ≤ 3) (hf : nf ≤ 3) (hg : ng ≤ 3) (ha : na ≤ 8) {i v : Int} (i0 : 0 ≤ i) (i1 : i < np) (e1 : g' i = v) (e2 : ∀ j, ¬ j = i → g' j = g j) : c_D fl np ng na nm nf (fun j => if j = i then v else k j) p a b c d r l w q g' := by
  obtain ⟨⟨z1, z2, z3⟩, h1, h2, h3, h4, h5, h7⟩ := h
  refine ⟨⟨?_, ?_, ?_⟩, fun j j0 j1 => ?_, h2.pg hm (fun j _ _ => e2 j (by omega)), h3.pg hf (fun j _ _ => e2 j (by omega)), h4.pg hg (fun j _ _ => e2 j (by omega)), h5.pg ha (fun j _ _ => e2 j (by omega)), fun f => (h7 f).pg hg (fun j _ _ => e2 j (by omega))⟩
  · rw [e2 43 (by omega)]; exact z1
  · rw [e2 18 (by omega)]; exact z2
  · rw [e2 25 (by omega)]; exact z3
  · dsimp only
    rw [e2 (6 + j) (by omega)]
    refine ⟨?_, (h1 j j0 j1).2⟩
    by_cases hj : j = i
    · rw [if_pos hj, hj, e1]
    · rw [if_neg hj, e2 j hj]; exact (h1 j j0 j1).1
/-- PARENT of a ONE -/
theorem c_D.par (h : c_D fl np ng na nm nf k p a b c d r l w q g) (h6 : np ≤ 6) (hm : nm ≤ 3) (hf : nf ≤ 3) (hg : ng ≤ 3) (ha : na ≤ 8) {i v : Int} (i0 : 0 ≤ i) (i1 : i < np) (e1 : (v = -4 ∧ g' (6 + i) = 0) ∨ (0 ≤ v ∧ v < i ∧ g' (6 + i) = v + 1)) (e2 : ∀ j, ¬ j = 6 + i → g' j = g j) : c_D fl np ng na nm nf k (fun j => if j = i then v else p j) a b c d r l w q g' := by
  obtain ⟨⟨z1, z2, z3⟩, h1, h2, h3, h4, h5, h7⟩ := h
  refine ⟨⟨?_, ?_, ?_⟩, fun j j0 j1 => ?_, h2.pg hm (fun j _ _ => e2 j (by omega)), h3.pg hf (fun j _ _ => e2 j (by omega)), h4.pg hg (fun j _ _ => e2 j (by omega)), h5.pg ha (fun j _ _ => e2 j (by omega)), fun f => (h7 f).pg hg (fun j _ _ => e2 j (by omega))⟩
  · rw [e2 43 (by omega)]; exact z1
  · rw [e2 18 (by omega)]; exact z2
  · rw [e2 25 (by omega)]; exact z3
  · dsimp only
    rw [e2 j (by omega)]
    refine ⟨(h1 j j0 j1).1, ?_⟩
    by_cases hj : j = i
    · subst hj; rw [if_pos rfl]; exact e1
    · rw [if_neg hj, e2 (6 + j) (by omega)]; exact (h1 j j0 j1).2
/-- a MARRIAGE more -/
theorem c_D.mar (h : c_D fl np ng na nm nf k p a b c d r l w q g) (h6 : np ≤ 6) (h0 : 0 ≤ nm) (hm : nm ≤ 2) (hf : nf ≤ 3) (hg : ng ≤ 3) (ha : na ≤ 8) {x y : Int} (x0 : 0 ≤ x) (x1 : x < np) (y0 : 0 ≤ y) (y1 : y < np) (e1 : g' (12 + 2 * nm) = x) (e2 : g' (12 + 2 * nm + 1) = y) (e3 : g' 18 = nm + 1) (e : ∀ j, ¬ j = 12 + 2 * nm → ¬ j = 12 + 2 * nm + 1 → ¬ j = 18 → g' j = g j) : c_D fl np ng na (nm + 1) nf k p (fun j => if j = nm then x else a j) (fun j => if j = nm then y else b j) c d r l w q g' := by
  obtain ⟨⟨z1, z2, z3⟩, h1, h2, h3, h4, h5, h7⟩ := h
  refine ⟨⟨?_, e3.symm, ?_⟩, h1.pg h6 (fun j _ _ => e j (by omega) (by omega) (by omega)), fun j j0 j1 => ?_, h3.pg hf (fun j _ _ => e j (by omega) (by omega) (by omega)), h4.pg hg (fun j _ _ => e j (by omega) (by omega) (by omega)), h5.pg ha (fun j _ _ => e j (by omega) (by omega) (by omega)), fun f => (h7 f).pg hg (fun j _ _ => e j (by omega) (by omega) (by omega))⟩
  · rw [e 43 (by omega) (by omega) (by omega)]; exact z1
  · rw [e 25 (by omega) (by omega) (by omega)]; exact z3
  · dsimp only
    by_cases hj : j = nm
    · subst hj
      rw [if_pos rfl, if_pos rfl, e1, e2]
      exact ⟨rfl, rfl, x0, x1, y0, y1⟩
    · rw [if_neg hj, if_neg hj, e (12 + 2 * j) (by omega) (by omega) (by omega), e (12 + 2 * j + 1) (by omega) (by omega) (by omega)]
      exact h2 j j0 (by omega)
/-- a FEUD more -/
theorem c_D.feu (h : c_D fl np ng na nm nf k p a b c d r l w q g) (h6 : np ≤ 6) (h0 : 0 ≤ nf) (hf : nf ≤ 2) (hm : nm ≤ 3) (hg : ng ≤ 3) (ha : na ≤ 8) {x y : Int} (x0 : 0 ≤ x) (x1 : x < np) (y0 : 0 ≤ y) (y1 : y < np) (e1 : g' (19 + 2 * nf) = x) (e2 : g' (19 + 2 * nf + 1) = y) (e3 : g' 25 = nf + 1) (e : ∀ j, ¬ j = 19 + 2 * nf → ¬ j = 19 + 2 * nf + 1 → ¬ j = 25 → g' j = g j) : c_D fl np ng na nm (nf + 1) k p a b (fun j => if j = nf then x else c j) (fun j => if j = nf then y else d j) r l w q g' := by
  obtain ⟨⟨z1, z2, z3⟩, h1, h2, h3, h4, h5, h7⟩ := h
  refine ⟨⟨?_, ?_, e3.symm⟩, h1.pg h6 (fun j _ _ => e j (by omega) (by omega) (by omega)), h2.pg hm (fun j _ _ => e j (by omega) (by omega) (by omega)), fun j j0 j1 => ?_, h4.pg hg (fun j _ _ => e j (by omega) (by omega) (by omega)), h5.pg ha (fun j _ _ => e j (by omega) (by omega) (by omega)), fun f => (h7 f).pg hg (fun j _ _ => e j (by omega) (by omega) (by omega))⟩
  · rw [e 43 (by omega) (by omega) (by omega)]; exact z1
  · rw [e 18 (by omega) (by omega) (by omega)]; exact z2
  · dsimp only
    by_cases hj : j = nf
    · subst hj
      rw [if_pos rfl, if_pos rfl, e1, e2]
      exact ⟨rfl, rfl, x0, x1, y0, y1⟩
    · rw [if_neg hj, if_neg hj, e (19 + 2 * j) (by omega) (by omega) (by omega), e (19 + 2 * j + 1) (by omega) (by omega) (by omega)]
      exact h3 j j0 (by omega)
/-- REACH of a GATE -/
theorem c_D.rea (h : c_D fl np ng na nm nf k p a b c d r l w q g) (h6 : np ≤ 6) (hm : nm ≤ 3) (hf : nf ≤ 3) (hg : ng ≤ 3) (ha : na ≤ 8) {i v : Int} (i0 : 0 ≤ i) (i1 : i < ng) (e1 : g' (26 + i) = v) (e2 : ∀ j, ¬ j = 26 + i → g' j = g j) : c_D fl np ng na nm nf k p a b c d (fun j => if j = i then v else r j) l w q g' := by
  obtain ⟨⟨z1, z2, z3⟩, h1, h2, h3, h4, h5, h7⟩ := h
  refine ⟨⟨?_, ?_, ?_⟩, h1.pg h6 (fun j _ _ => e2 j (by omega)), h2.pg hm (fun j _ _ => e2 j (by omega)), h3.pg hf (fun j _ _ => e2 j (by omega)), fun j j0 j1 => ?_, h5.pg ha (fun j _ _ => e2 j (by omega)), fun f => (h7 f).pg hg (fun j _ _ => e2 j (by omega))⟩
  · rw [e2 43 (by omega)]; exact z1
  · rw [e2 18 (by omega)]; exact z2
  · rw [e2 25 (by omega)]; exact z3
  · dsimp only
    by_cases hj : j = i
    · subst hj; rw [if_pos rfl, e1]
    · rw [if_neg hj, e2 (26 + j) (by omega)]; exact h4 j j0 j1
/-- LAST of a GATE, and how many went -/
theorem c_D.las (h : c_D fl np ng na nm nf k p a b c d r l w q g) (h6 : np ≤ 6) (hm : nm ≤ 3) (hf : nf ≤ 3) (hg : ng ≤ 3) (ha : na ≤ 8) {i v x : Int} (i0 : 0 ≤ i) (i1 : i < ng) (e1 : (v = -4 ∧ g' (29 + i) = 0) ∨ (0 ≤ v ∧ v < np ∧ g' (29 + i) = v + 1)) (e3 : g' (32 + i) = x) (e2 : ∀ j, ¬ j = 29 + i → ¬ j = 32 + i → g' j = g j) : c_D fl np ng na nm nf k p a b c d r (fun j => if j = i then v else l j) (fun j => if j = i then x else w j) q g' := by
  obtain ⟨⟨z1, z2, z3⟩, h1, h2, h3, h4, h5, h7⟩ := h
  refine ⟨⟨?_, ?_, ?_⟩, h1.pg h6 (fun j _ _ => e2 j (by omega) (by omega)), h2.pg hm (fun j _ _ => e2 j (by omega) (by omega)), h3.pg hf (fun j _ _ => e2 j (by omega) (by omega)), h4.pg hg (fun j _ _ => e2 j (by omega) (by omega)), h5.pg ha (fun j _ _ => e2 j (by omega) (by omega)), fun f j j0 j1 => ?_⟩
  · rw [e2 43 (by omega) (by omega)]; exact z1
  · rw [e2 18 (by omega) (by omega)]; exact z2
  · rw [e2 25 (by omega) (by omega)]; exact z3
  · dsimp only
    by_cases hj : j = i
    · subst hj; rw [if_pos rfl, if_pos rfl]; exact ⟨e1, e3.symm⟩
    · rw [if_neg hj, if_neg hj, e2 (29 + j) (by omega) (by omega), e2 (32 + j) (by omega) (by omega)]; exact h7 f j j0 j1
/-- an ACT more -/
theorem c_D.act (h : c_D fl np ng na nm nf k p a b c d r l w q g) (h6 : np ≤ 6) (h0 : 0 ≤ na) (ha : na ≤ 7) (hm : nm ≤ 3) (hf : nf ≤ 3) (hg : ng ≤ 3) {x : Int} (x0 : 0 ≤ x) (x1 : x / 10 < np) (x2 : x % 10 < ng) (e1 : g' (35 + na) = x) (e3 : g' 43 = na + 1) (e2 : ∀ j, ¬ j = 35 + na → ¬ j = 43 → g' j = g j) : c_D fl np ng (na + 1) nm nf k p a b c d r l w (fun j => if j = na then x else q j) g' := by
  obtain ⟨⟨z1, z2, z3⟩, h1, h2, h3, h4, h5, h7⟩ := h
  refine ⟨⟨e3.symm, ?_, ?_⟩, h1.pg h6 (fun j _ _ => e2 j (by omega) (by omega)), h2.pg hm (fun j _ _ => e2 j (by omega) (by omega)), h3.pg hf (fun j _ _ => e2 j (by omega) (by omega)), h4.pg hg (fun j _ _ => e2 j (by omega) (by omega)), fun j j0 j1 => ?_, fun f => (h7 f).pg hg (fun j _ _ => e2 j (by omega) (by omega))⟩
  · rw [e2 18 (by omega) (by omega)]; exact z2
  · rw [e2 25 (by omega) (by omega)]; exact z3
  · dsimp only
    by_cases hj : j = na
    · subst hj; rw [if_pos rfl, e1]; exact ⟨rfl, x0, x1, x2⟩
    · rw [if_neg hj, e2 (35 + j) (by omega) (by omega)]; exact h5 j j0 (by omega)
/-- THE PLAN is cut -/
theorem c_D.cut (h : c_D fl np ng na nm nf k p a b c d r l w q g) (h6 : np ≤ 6) (ha : na ≤ 8) (hm : nm ≤ 3) (hf : nf ≤ 3) (hg : ng ≤ 3) {n : Int} (n1 : n ≤ na) (e3 : g' 43 = n) (e2 : ∀ j, ¬ j = 43 → g' j = g j) : c_D fl np ng n nm nf k p a b c d r l w q g' := by
  obtain ⟨⟨z1, z2, z3⟩, h1, h2, h3, h4, h5, h7⟩ := h
  refine ⟨⟨e3.symm, ?_, ?_⟩, h1.pg h6 (fun j _ _ => e2 j (by omega)), h2.pg hm (fun j _ _ => e2 j (by omega)), h3.pg hf (fun j _ _ => e2 j (by omega)), h4.pg hg (fun j _ _ => e2 j (by omega)), fun j j0 j1 => ?_, fun f => (h7 f).pg hg (fun j _ _ => e2 j (by omega))⟩
  · rw [e2 18 (by omega)]; exact z2
  · rw [e2 25 (by omega)]; exact z3
  · rw [e2 (35 + j) (by omega)]; exact h5 j j0 (by omega)
end CB
