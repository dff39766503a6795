/-! TIES, DEGREES OF A COUNTY -/
def g_ti (s : h_S) : Prop := ∀ k, 0 ≤ k → k ≤ 3 → s 100 k = g_tie k
theorem g_ti.e {s s' : h_S} (h : g_ti s) (e : s' 100 = s 100) : g_ti s' := fun k a b => by
  rw [e]
  exact h k a b
theorem g_ti.mk {s : h_S} (h0 : s 100 0 = 1) (h1 : s 100 1 = 2) (h2 : s 100 2 = 0) (h3 : s 100 3 = 4) : g_ti s := fun k a b => by
  have c : k = 0 ∨ k = 1 ∨ k = 2 ∨ k = 3 := by omega
  rcases c with c | c | c | c
  · rw [c, h0]; rfl
  · rw [c, h1]; rfl
  · rw [c, h2]; rfl
  · rw [c, h3]; rfl
theorem g_DM_t {n m n' m' : Int} {S t S' t' X : Int → Int} (h : g_DM n m S t X) (e1 : n = n') (e2 : m = m') (e3 : S = S') (e4 : t = t') : g_DM n' m' S' t' X := by
  subst e1; subst e2; subst e3; subst e4
  exact h
theorem c_R.deg {fl : Bool} {s : h_S} {F G : Int → Int} (h : c_R fl s) (hI : h_I s) (ht : g_ti s) (hF : g_DX (s 10 8) (s 12) (s 11) (s 13 2) (s 14) (s 15) F) (hG : g_DM (s 98 1) (s 99 18) (s 99) (s 100) G) : g_ph (s 10 8) 256 F G := by
  have z := h.sz
  rw [← z.1, ← z.2.2.2.1] at hG
  refine g_deg (tf_10_8 hI).2 (fun j a b => ?_) (fun j a b => h.mr a b) hF hG
  have y := h.ps a b
  have w := ty_11 hI j
  refine ⟨by omega, ?_⟩
  rw [← y.1]
  exact ht _ w.1 w.2
