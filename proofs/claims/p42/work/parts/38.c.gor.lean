/-! A GOING KEEPS THE RELATION -/
theorem c_eq.tt {s t : h_S} {x y : Nat} (h : c_eq false s x t y) (h1 : ∀ j, 0 ≤ j → j < 3 → s (x + 10) j = t (y + 10) j) (h2 : ∀ j, 0 ≤ j → j < 3 → s (x + 11) j = t (y + 11) j) : c_eq true s x t y := by
  obtain ⟨z, a1, a2, a3, a4, a5, a6, a7, a8, -⟩ := h
  exact ⟨z, a1, a2, a3, a4, a5, a6, a7, a8, fun _ => ⟨h1, h2⟩⟩
/-- the county given, the rest as before -/
theorem c_R.cty2 {fl : Bool} {s s' : h_S} (h : c_R fl s) (hI : h_I s) (e8 : s' 10 8 = s 10 8) (e9 : s' 10 9 = s 10 9) (hc : c_at fl s' 10 (fun j => s' 99 (0 + j))) (e1 : c_eq fl s' 36 s 36) (e2 : c_eq fl s' 49 s 49) (p1 : c_pg fl (fun j => s 99 (44 + j)) (fun j => s' 99 (44 + j))) (p2 : c_pg fl (fun j => s 99 (88 + j)) (fun j => s' 99 (88 + j))) (q1 : s' 98 1 = s 98 1) (q2 : s' 98 2 = s 98 2) (i0 : s' 62 0 = s 62 0) (i1 : s' 62 1 = s 62 1) (n0 : s' 110 0 = s 110 0) (n1 : s' 110 1 = s 110 1) : c_R fl s' := by
  obtain ⟨⟨h1, h2⟩, h3, ⟨h4, h5⟩, h6, h7⟩ := h
  have b := c_sz_of hI
  refine ⟨⟨by rw [e8, q1]; exact h1, by rw [e9, q2]; exact h2⟩, hc, ⟨by rw [i0, n0]; exact h4, by rw [i1, n1]; exact h5⟩, fun z => ?_, fun z => ?_⟩
  · rw [i0] at z
    exact (h6 z).mv b.2.1 e1 p1 q1 q2
  · rw [i1] at z
    exact (h7 z).mv b.2.2 e2 p2 q1 q2
def g_s2 (s : h_S) (l w : Int → Int) : h_S := fun q j => if q = 20 then l j else if q = 21 then w j else s q j
theorem c_R.goR {s s' : h_S} (h : c_R true s) (hI : h_I s) (ec : c_eq false s' 10 s 10) (e1 : c_eq true s' 36 s 36) (e2 : c_eq true s' 49 s 49) (p1 : c_pg true (fun j => s 99 (44 + j)) (fun j => s' 99 (44 + j))) (p2 : c_pg true (fun j => s 99 (88 + j)) (fun j => s' 99 (88 + j))) (q1 : s' 98 1 = s 98 1) (q2 : s' 98 2 = s 98 2) (i0 : s' 62 0 = s 62 0) (i1 : s' 62 1 = s 62 1) (n0 : s' 110 0 = s 110 0) (n1 : s' 110 1 = s 110 1) {p g bX bM : Int} {yX yM : Bool} (hp : 0 ≤ p ∧ p < s 10 8) (hg : 0 ≤ g ∧ g < s 10 9)
    (hX : (bX = 1 ∧ yX = true ∧ s' 20 = g_set (s 20) g p ∧ s' 21 = g_set (s 21) g (g_w1n (s 21 g))) ∨ (bX = 0 ∧ yX = false ∧ s' 20 = s 20 ∧ s' 21 = s 21)) (hM : (bM = 1 ∧ yM = true ∧ s' 99 = g_set (g_set (s 99) (29 + g) (p + 1)) (32 + g) (g_w1n (s 99 (32 + g)))) ∨ (bM = 0 ∧ yM = false ∧ s' 99 = s 99)) (hy : yX = yM) : c_R true s' ∧ bX = bM := by
  obtain ⟨b1, b2, b3, b4, b5⟩ := (c_sz_of hI).1
  rcases hX with ⟨x1, x2, x3, x4⟩ | ⟨x1, x2, x3, x4⟩
  · rcases hM with ⟨m1, m2, m3⟩ | ⟨m1, m2, m3⟩
    · refine ⟨h.cty2 hI ec.1.1 ec.1.2.1 ?_ e1 e2 p1 p2 q1 q2 i0 i1 n0 n1, by omega⟩
      have lw := h.lw hg.1 hg.2
      have hd : c_at true (g_s2 s (fun j => if j = g then p else s 20 j) (fun j => if j = g then g_w1n (s 21 g) else s 21 j)) 10 (fun j => s' 99 (0 + j)) := by
        show c_D true (s 10 8) (s 10 9) (s 10 10) (s (10 + 3) 2) (s (10 + 6) 2) (s (10 + 1)) (s (10 + 2)) (s (10 + 4)) (s (10 + 5)) (s (10 + 7)) (s (10 + 8)) (s (10 + 9)) (fun j => if j = g then p else s 20 j) (fun j => if j = g then g_w1n (s 21 g) else s 21 j) (s (10 + 12)) (fun j => s' 99 (0 + j))
        refine c_D.las h.2.1 b1 b4 b5 b2 b3 hg.1 hg.2 (Or.inr ⟨hp.1, hp.2, ?_⟩) ?_ (fun j j1 j2 => ?_)
        · show s' 99 (0 + (29 + g)) = p + 1
          rw [m3, g_set_n (by omega), g_set_p (by omega)]
        · show s' 99 (0 + (32 + g)) = g_w1n (s 21 g)
          rw [m3, g_set_p (by omega), lw.2]
        · show s' 99 (0 + j) = s 99 (0 + j)
          rw [m3, g_set_n (by omega), g_set_n (by omega)]
      refine hd.mv ⟨b1, b2, b3, b4, b5⟩ ?_ c_pg.rf
      have ec' : c_eq false s' 10 (g_s2 s (fun j => if j = g then p else s 20 j) (fun j => if j = g then g_w1n (s 21 g) else s 21 j)) 10 := by
        obtain ⟨z, a1, a2, a3, a4, a5, a6, a7, a8, -⟩ := ec
        exact ⟨z, a1, a2, a3, a4, a5, a6, a7, a8, fun w => Bool.noConfusion w⟩
      exact ec'.tt (fun j _ _ => by show s' 20 j = _; rw [x3]; rfl) (fun j _ _ => by show s' 21 j = _; rw [x4]; rfl)
    · exfalso
      rw [x2, m2] at hy
      exact Bool.noConfusion hy
  · rcases hM with ⟨m1, m2, m3⟩ | ⟨m1, m2, m3⟩
    · exfalso
      rw [x2, m2] at hy
      exact Bool.noConfusion hy
    · refine ⟨h.mk' hI q1 q2 (ec.tt (fun j _ _ => by show s' 20 j = s 20 j; rw [x3]) (fun j _ _ => by show s' 21 j = s 21 j; rw [x4])) e1 e2 (c_pg.all (fun j _ _ => by show s' 99 (0 + j) = s 99 (0 + j); rw [m3])) p1 p2 i0 i1 n0 n1, by omega⟩
/-- both sides ask the same of a goer -/
theorem c_R.may {s : h_S} {F G f : Int → Int} {n m p g l l' r' : Int} {A B : Int → Int} (h : c_R true s) (hI : h_I s) (ht : g_ti s) (hF : g_DX (s 10 8) (s 12) (s 11) (s 13 2) (s 14) (s 15) F) (hG : g_DM (s 98 1) (s 99 18) (s 99) (s 100) G) (hf : g_FX (s 10 8) (s 17) (s 18) (s 16 2) f) (hp : 0 ≤ p ∧ p < s 10 8) (hg : 0 ≤ g ∧ g < s 10 9) (hn : n = s 10 8) (hm : m = s 99 25) (hA : A = fun i => s 99 (19 + 2 * i)) (hB : B = fun i => s 99 (19 + 2 * i + 1)) (hl : l = s 20 g) (hl' : l' = g_orn (s 99 (29 + g))) (hr' : r' = s 99 (26 + g)) : g_yX n F f p l (s 19 g) = g_yM G A B m p l' r' := by
  have gd := h.deg hI ht hF hG
  have lw := (h.lw hg.1 hg.2).1
  have rc := h.rc hg.1 hg.2
  have sz := h.sz
  have t19 := ty_19 hI g
  have el : l' = l := by
    rw [hl', hl]
    unfold g_orn
    rcases lw with c | c
    · rw [if_pos c.2, c.1]
    · rw [if_neg (by omega)]
      omega
  rw [hn, el, hr', ← rc, hA, hB]
  exact g_y_eq gd (tf_10_8 hI).2 hf (hm.trans sz.2.2.2.2.symm) (fun j j0 j1 => ⟨(h.fe j0 j1).1, (h.fe j0 j1).2.1⟩) (by omega) hp.1 hp.2 (by omega)
