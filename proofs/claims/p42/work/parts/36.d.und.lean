theorem c_D.und13 {fl : Bool} {np ng na nm nf : Int} {k p a b c d r l w q g a' b' g' : Int → Int} (h : c_D fl np ng na nm nf k p a b c d r l w q g) (h6 : np ≤ 6) (hm : nm ≤ 3) (hf : nf ≤ 3) (hg : ng ≤ 3) (ha : na ≤ 8) {i : Int} (i0 : 0 ≤ i) (i1 : i < nm) (fa : g_shd 1 a a' i (nm - 1)) (fb : g_shd 1 b b' i (nm - 1)) (fg : g_und g g' 12 i) : c_D fl np ng na (nm - 1) nf k p a' b' c d r l w q g' := by
  obtain ⟨⟨z1, z2, z3⟩, h1, h2, h3, h4, h5, h7⟩ := h
  have e : ∀ j, ¬ (12 ≤ j ∧ j < 19) → g' j = g j := fun j hj => by rw [fg, if_neg (by omega), if_neg (by omega)]
  have es : g' 18 = nm - 1 := by rw [fg, if_pos (by omega)]; show g (12 + 6) - 1 = _; rw [show (12 : Int) + 6 = 18 from rfl]; omega
  refine ⟨⟨by rw [e 43 (by omega)]; exact z1, es.symm, by rw [e 25 (by omega)]; exact z3⟩, h1.pg h6 (fun j _ _ => e j (by omega)), ?_, ?_, h4.pg hg (fun j _ _ => e j (by omega)), h5.pg ha (fun j _ _ => e j (by omega)), fun f => (h7 f).pg hg (fun j _ _ => e j (by omega))⟩
  · intro j j0 j1
    have y0 := h2 j j0 (by omega)
    have y1 := fun c : j + 1 < nm => h2 (j + 1) (by omega) c
    rw [fa, fb]
    by_cases c : i ≤ j
    · rw [if_pos (by omega), if_pos (by omega), fg (12 + 2 * j), if_neg (by omega), if_pos (by omega), fg (12 + 2 * j + 1), if_neg (by omega), if_pos (by omega)]
      have y := y1 (by omega)
      rw [show (12 : Int) + 2 * j + 2 = 12 + 2 * (j + 1) by omega, show (12 : Int) + 2 * j + 1 + 2 = 12 + 2 * (j + 1) + 1 by omega]
      exact y
    · rw [if_neg (by omega), if_neg (by omega), fg (12 + 2 * j), if_neg (by omega), if_neg (by omega), fg (12 + 2 * j + 1), if_neg (by omega), if_neg (by omega)]
      exact y0
  · exact h3.pg hf (fun j _ _ => e j (by omega))
theorem c_R.und13 {fl : Bool} {s s' : h_S} (h : c_R fl s) (hI : h_I s) {i : Int} (i0 : 0 ≤ i) (i1 : i < s 13 2) (kq : s' 13 2 = s 13 2 - 1) (fa : g_shd 1 (s 14) (s' 14) i (s 13 2 - 1)) (fb : g_shd 1 (s 15) (s' 15) i (s 13 2 - 1)) (fp : g_und (s 99) (s' 99) 12 i) (e8 : s' 10 8 = s 10 8) (e9 : s' 10 9 = s 10 9) (e10 : s' 10 10 = s 10 10) (ko : s' 16 2 = s 16 2) (u11 : ∀ j, s' 11 j = s 11 j) (u12 : ∀ j, s' 12 j = s 12 j) (u17 : ∀ j, s' 17 j = s 17 j) (u18 : ∀ j, s' 18 j = s 18 j) (u19 : ∀ j, s' 19 j = s 19 j) (u20 : ∀ j, s' 20 j = s 20 j) (u21 : ∀ j, s' 21 j = s 21 j) (u22 : ∀ j, s' 22 j = s 22 j) (q1 : s' 98 1 = s 98 1) (q2 : s' 98 2 = s 98 2) (e1 : c_eq fl s' 36 s 36) (e2 : c_eq fl s' 49 s 49) (x0 : s' 62 0 = s 62 0) (x1 : s' 62 1 = s 62 1) (n0 : s' 110 0 = s 110 0) (n1 : s' 110 1 = s 110 1) : c_R fl s' := by
  have pg : ∀ j, 44 ≤ j → s' 99 j = s 99 j := fun j hj => by rw [fp, if_neg (by omega), if_neg (by omega)]
  have z0 : (fun j => s 99 (0 + j)) = s 99 := funext (fun j => by rw [Int.zero_add])
  have z0' : (fun j => s' 99 (0 + j)) = s' 99 := funext (fun j => by rw [Int.zero_add])
  obtain ⟨⟨h1, h2⟩, h3, ⟨h4, h5⟩, h6, h7⟩ := h
  have b := c_sz_of hI
  obtain ⟨b1, b2, b3, b4, b5⟩ := b.1
  refine ⟨⟨by rw [e8, q1]; exact h1, by rw [e9, q2]; exact h2⟩, ?_, ⟨by rw [x0, n0]; exact h4, by rw [x1, n1]; exact h5⟩, fun z => ?_, fun z => ?_⟩
  · rw [z0']
    rw [z0] at h3
    unfold c_at
    rw [e8, e9, e10, show s' (10 + 3) 2 = _ from kq, show s' (10 + 6) 2 = _ from ko, show s' (10 + 1) = s 11 from funext u11, show s' (10 + 2) = s 12 from funext u12, show s' (10 + 7) = s 17 from funext u17, show s' (10 + 8) = s 18 from funext u18, show s' (10 + 9) = s 19 from funext u19, show s' (10 + 10) = s 20 from funext u20, show s' (10 + 11) = s 21 from funext u21, show s' (10 + 12) = s 22 from funext u22]
    exact c_D.und13 h3 b1 b4 b5 b2 b3 i0 i1 fa fb fp
  · rw [x0] at z
    exact (h6 z).mv b.2.1 e1 (c_pg.all (fun j _ _ => pg _ (by omega))) q1 q2
  · rw [x1] at z
    exact (h7 z).mv b.2.2 e2 (c_pg.all (fun j _ _ => pg _ (by omega))) q1 q2
theorem c_D.und16 {fl : Bool} {np ng na nm nf : Int} {k p a b c d r l w q g a' b' g' : Int → Int} (h : c_D fl np ng na nm nf k p a b c d r l w q g) (h6 : np ≤ 6) (hm : nm ≤ 3) (hf : nf ≤ 3) (hg : ng ≤ 3) (ha : na ≤ 8) {i : Int} (i0 : 0 ≤ i) (i1 : i < nf) (fa : g_shd 1 c a' i (nf - 1)) (fb : g_shd 1 d b' i (nf - 1)) (fg : g_und g g' 19 i) : c_D fl np ng na nm (nf - 1) k p a b a' b' r l w q g' := by
  obtain ⟨⟨z1, z2, z3⟩, h1, h2, h3, h4, h5, h7⟩ := h
  have e : ∀ j, ¬ (19 ≤ j ∧ j < 26) → g' j = g j := fun j hj => by rw [fg, if_neg (by omega), if_neg (by omega)]
  have es : g' 25 = nf - 1 := by rw [fg, if_pos (by omega)]; show g (19 + 6) - 1 = _; rw [show (19 : Int) + 6 = 25 from rfl]; omega
  refine ⟨⟨by rw [e 43 (by omega)]; exact z1, by rw [e 18 (by omega)]; exact z2, es.symm⟩, h1.pg h6 (fun j _ _ => e j (by omega)), ?_, ?_, h4.pg hg (fun j _ _ => e j (by omega)), h5.pg ha (fun j _ _ => e j (by omega)), fun f => (h7 f).pg hg (fun j _ _ => e j (by omega))⟩
  · exact h2.pg hm (fun j _ _ => e j (by omega))
  · intro j j0 j1
    have y0 := h3 j j0 (by omega)
    have y1 := fun c : j + 1 < nf => h3 (j + 1) (by omega) c
    rw [fa, fb]
    by_cases c : i ≤ j
    · rw [if_pos (by omega), if_pos (by omega), fg (19 + 2 * j), if_neg (by omega), if_pos (by omega), fg (19 + 2 * j + 1), if_neg (by omega), if_pos (by omega)]
      have y := y1 (by omega)
      rw [show (19 : Int) + 2 * j + 2 = 19 + 2 * (j + 1) by omega, show (19 : Int) + 2 * j + 1 + 2 = 19 + 2 * (j + 1) + 1 by omega]
      exact y
    · rw [if_neg (by omega), if_neg (by omega), fg (19 + 2 * j), if_neg (by omega), if_neg (by omega), fg (19 + 2 * j + 1), if_neg (by omega), if_neg (by omega)]
      exact y0
theorem c_R.und16 {fl : Bool} {s s' : h_S} (h : c_R fl s) (hI : h_I s) {i : Int} (i0 : 0 ≤ i) (i1 : i < s 16 2) (kq : s' 16 2 = s 16 2 - 1) (fa : g_shd 1 (s 17) (s' 17) i (s 16 2 - 1)) (fb : g_shd 1 (s 18) (s' 18) i (s 16 2 - 1)) (fp : g_und (s 99) (s' 99) 19 i) (e8 : s' 10 8 = s 10 8) (e9 : s' 10 9 = s 10 9) (e10 : s' 10 10 = s 10 10) (ko : s' 13 2 = s 13 2) (u11 : ∀ j, s' 11 j = s 11 j) (u12 : ∀ j, s' 12 j = s 12 j) (u14 : ∀ j, s' 14 j = s 14 j) (u15 : ∀ j, s' 15 j = s 15 j) (u19 : ∀ j, s' 19 j = s 19 j) (u20 : ∀ j, s' 20 j = s 20 j) (u21 : ∀ j, s' 21 j = s 21 j) (u22 : ∀ j, s' 22 j = s 22 j) (q1 : s' 98 1 = s 98 1) (q2 : s' 98 2 = s 98 2) (e1 : c_eq fl s' 36 s 36) (e2 : c_eq fl s' 49 s 49) (x0 : s' 62 0 = s 62 0) (x1 : s' 62 1 = s 62 1) (n0 : s' 110 0 = s 110 0) (n1 : s' 110 1 = s 110 1) : c_R fl s' := by
  have pg : ∀ j, 44 ≤ j → s' 99 j = s 99 j := fun j hj => by rw [fp, if_neg (by omega), if_neg (by omega)]
  have z0 : (fun j => s 99 (0 + j)) = s 99 := funext (fun j => by rw [Int.zero_add])
  have z0' : (fun j => s' 99 (0 + j)) = s' 99 := funext (fun j => by rw [Int.zero_add])
  obtain ⟨⟨h1, h2⟩, h3, ⟨h4, h5⟩, h6, h7⟩ := h
  have b := c_sz_of hI
  obtain ⟨b1, b2, b3, b4, b5⟩ := b.1
  refine ⟨⟨by rw [e8, q1]; exact h1, by rw [e9, q2]; exact h2⟩, ?_, ⟨by rw [x0, n0]; exact h4, by rw [x1, n1]; exact h5⟩, fun z => ?_, fun z => ?_⟩
  · rw [z0']
    rw [z0] at h3
    unfold c_at
    rw [e8, e9, e10, show s' (10 + 3) 2 = _ from ko, show s' (10 + 6) 2 = _ from kq, show s' (10 + 1) = s 11 from funext u11, show s' (10 + 2) = s 12 from funext u12, show s' (10 + 4) = s 14 from funext u14, show s' (10 + 5) = s 15 from funext u15, show s' (10 + 9) = s 19 from funext u19, show s' (10 + 10) = s 20 from funext u20, show s' (10 + 11) = s 21 from funext u21, show s' (10 + 12) = s 22 from funext u22]
    exact c_D.und16 h3 b1 b4 b5 b2 b3 i0 i1 fa fb fp
  · rw [x0] at z
    exact (h6 z).mv b.2.1 e1 (c_pg.all (fun j _ _ => pg _ (by omega))) q1 q2
  · rw [x1] at z
    exact (h7 z).mv b.2.2 e2 (c_pg.all (fun j _ _ => pg _ (by omega))) q1 q2
