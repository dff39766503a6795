/-! A READING KEEPS THE RELATION -/
theorem g_la_f {n ng : Int} {t P G S : Int → Int} {y : Int → Int → Int → Bool} {x : (Int → Int) × (Int → Int)} (n3 : ng ≤ 3) (hx : g_la ng n x S) (hy : ∀ S1 x1 p g G0, g_sm S S1 → g_la ng n x1 S1 → 0 ≤ p ∧ p < n → 0 ≤ g ∧ g < ng → g_DM n (S1 18) S1 t G0 → y p (x1.1 g) g = g_yM G0 (fun i => S1 (19 + 2 * i)) (fun i => S1 (19 + 2 * i + 1)) (S1 25) p (g_orn (S1 (29 + g))) (S1 (26 + g))) : ∀ (m : Nat) (S' : Int → Int), (∀ i : Int, 0 ≤ i → i < m → (0 ≤ P i ∧ P i < n) ∧ (0 ≤ G i ∧ G i < ng)) → g_hf n t P G S m S' → g_la ng n (g_gfo y P G x m) S'
  | 0, S', _, h => by
    have h : S' = S := h
    subst h
    exact hx
  | m + 1, S', hr, ⟨S1, h1, h2⟩ => by
    have z := g_la_f n3 hx hy m S1 (fun i a b => hr i a (by omega)) h1
    have sm := g_hf_sm n3 m S1 (fun i a b => (hr i a (by omega)).2) h1
    have b := hr (m : Int) (by omega) (by omega)
    show g_la ng n (g_gs y (P (m : Int)) (G (m : Int)) (g_gfo y P G x m)) S'
    refine g_la_s z n3 b.1 b.2 h2 (fun G0 hG l hl => ?_)
    subst hl
    exact hy S1 _ _ _ G0 sm z b.1 b.2 hG
theorem c_R.rdR {s s' : h_S} {F f P G S0 S' t' : Int → Int} {n' : Int} {m : Nat} (h : c_R true s) (hI : h_I s) (ht : g_ti s) (hF : g_DX (s 10 8) (s 12) (s 11) (s 13 2) (s 14) (s 15) F) (hf : g_FX (s 10 8) (s 17) (s 18) (s 16 2) f) (ec : c_eq false s' 10 s 10) (e1 : c_eq true s' 36 s 36) (e2 : c_eq true s' 49 s 49) (p1 : c_pg true (fun j => s 99 (44 + j)) (fun j => s' 99 (44 + j))) (p2 : c_pg true (fun j => s 99 (88 + j)) (fun j => s' 99 (88 + j))) (q1 : s' 98 1 = s 98 1) (q2 : s' 98 2 = s 98 2) (i0 : s' 62 0 = s 62 0) (i1 : s' 62 1 = s 62 1) (n0 : s' 110 0 = s 110 0) (n1 : s' 110 1 = s 110 1) (hr : ∀ i : Int, 0 ≤ i → i < m → (0 ≤ P i ∧ P i < s 10 8) ∧ (0 ≤ G i ∧ G i < s 10 9)) (hX : (s' 20, s' 21) = g_gfo (fun p l g => g_yX (s 10 8) F f p l (s 19 g)) P G (s 20, s 21) m) (hS0 : ∀ j, 0 ≤ j → j < 44 → S0 j = s 99 j) (hn : n' = s 98 1) (htt : t' = s 100) (hM : g_hf n' t' P G S0 m S') (hS' : ∀ j, 0 ≤ j → j < 44 → s' 99 j = S' j) : c_R true s' := by
  subst hn; subst htt
  obtain ⟨b1, b2, b3, b4, b5⟩ := (c_sz_of hI).1
  have t13 := tf_13_2 hI
  have t16 := tf_16_2 hI
  have sz := h.sz
  have hx : g_la (s 10 9) (s 98 1) (s 20, s 21) S0 := fun j j0 j1 => by
    have y := h.lw j0 j1
    rw [hS0 (29 + j) (by omega) (by omega), hS0 (32 + j) (by omega) (by omega), ← sz.1]
    exact y
  have hy : ∀ S1 x1 p g G0, g_sm S0 S1 → g_la (s 10 9) (s 98 1) x1 S1 → 0 ≤ p ∧ p < s 98 1 → 0 ≤ g ∧ g < s 10 9 → g_DM (s 98 1) (S1 18) S1 (s 100) G0 → g_yX (s 10 8) F f p (x1.1 g) (s 19 g) = g_yM G0 (fun i => S1 (19 + 2 * i)) (fun i => S1 (19 + 2 * i + 1)) (S1 25) p (g_orn (S1 (29 + g))) (S1 (26 + g)) := by
    intro S1 x1 p g G0 e1 hl hp hg hG
    have hl := (hl g hg.1 hg.2).1
    rw [← sz.1] at hl hp
    have s18 : S1 18 = s 99 18 := by rw [e1 18 (by omega), hS0 18 (by omega) (by omega)]
    have s25 : S1 25 = s 99 25 := by rw [e1 25 (by omega), hS0 25 (by omega) (by omega)]
    have t8 := tf_10_8 hI
    have hG2 : g_DM (s 98 1) (s 99 18) (s 99) (s 100) G0 := by
      rw [s18] at hG
      exact g_DM_sm (S' := S1) hG (fun j a b => by rw [e1 j (by omega), hS0 j (by omega) (by omega)]) (by omega) (by omega)
    have rc := h.rc hg.1 hg.2
    have t19 := ty_19 hI g
    have gd := h.deg hI ht hF hG2
    have el : g_orn (S1 (29 + g)) = x1.1 g := by
      unfold g_orn
      rcases hl with c | c
      · rw [if_pos c.2, c.1]
      · rw [if_neg (by omega)]
        omega
    rw [el, s25, show S1 (26 + g) = s 19 g by rw [e1 (26 + g) (by omega), hS0 (26 + g) (by omega) (by omega), ← rc]]
    refine g_y_eq gd t8.2 hf sz.2.2.2.2.symm (fun j j0 j1 => ?_) (by omega) hp.1 hp.2 (by omega)
    have y := h.fe j0 j1
    exact ⟨by rw [y.1, e1 (19 + 2 * j) (by omega), hS0 (19 + 2 * j) (by omega) (by omega)], by rw [y.2.1, e1 (19 + 2 * j + 1) (by omega), hS0 (19 + 2 * j + 1) (by omega) (by omega)]⟩
  have hr' : ∀ i : Int, 0 ≤ i → i < m → (0 ≤ P i ∧ P i < s 98 1) ∧ (0 ≤ G i ∧ G i < s 10 9) := fun i a b => by
    rw [← sz.1]
    exact hr i a b
  have fin := g_la_f (y := fun p l g => g_yX (s 10 8) F f p l (s 19 g)) b2 hx hy m S' hr' hM
  have sm := g_hf_sm b2 m S' (fun i a b => (hr' i a b).2) hM
  rw [← hX] at fin
  refine h.cty2 hI ec.1.1 ec.1.2.1 ?_ e1 e2 p1 p2 q1 q2 i0 i1 n0 n1
  have pg : ∀ j, 0 ≤ j → j < 44 → ¬ (29 ≤ j ∧ j < 35) → s' 99 j = s 99 j := fun j a b c => by
    rw [hS' j a b, sm j c, hS0 j a b]
  have hc : c_at false s' 10 (fun j => s' 99 (0 + j)) := by
    have h0 : c_at false s 10 (fun j => s 99 (0 + j)) := h.2.1.wk
    refine h0.mv ⟨b1, b2, b3, b4, b5⟩ ec ⟨fun j a b => ?_, fun j a b => ?_, fun z => nomatch z⟩
    · show s' 99 (0 + j) = s 99 (0 + j)
      rw [pg (0 + j) (by omega) (by omega) (by omega)]
    · show s' 99 (0 + j) = s 99 (0 + j)
      rw [pg (0 + j) (by omega) (by omega) (by omega)]
  obtain ⟨z, a1, a2, a3, a4, a5, -⟩ := hc
  refine ⟨z, a1, a2, a3, a4, a5, fun _ j j0 j1 => ?_⟩
  have j1 : j < s 10 9 := by
    have := ec.1.2.1
    omega
  have y := fin j j0 j1
  have y8 := ec.1.1
  show ((s' 20 j = -4 ∧ s' 99 (0 + (29 + j)) = 0) ∨ (0 ≤ s' 20 j ∧ s' 20 j < s' 10 8 ∧ s' 99 (0 + (29 + j)) = s' 20 j + 1)) ∧ s' 21 j = s' 99 (0 + (32 + j))
  rw [show (0 : Int) + (29 + j) = 29 + j by omega, show (0 : Int) + (32 + j) = 32 + j by omega, hS' (29 + j) (by omega) (by omega), hS' (32 + j) (by omega) (by omega), y8, sz.1]
  exact y
