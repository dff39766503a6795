/-! TIES, DEGREES OF A COUNTY -/
def g_ti (s : h_S) : Prop := ∀ k, 0 ≤ k → k ≤ 3 → s 100 k = g_tie k
theorem g_ti.e {s s' : h_S} (h : g_ti s) (e : s' 100 = s 100) : g_ti s' := fun k a b => by
  rw [e]
  exact h k a b
theorem g_ti.mk {s : h_S} (h0 : s 100 0 = 1) (h1 : s 100 1 = 2) (h2 : s 100 2 = 0) (h3 : s 100 3 = 4) : g_ti s := fun k a b => by
  have c : k = 0 ∨ k = 1 ∨ k = 2 ∨ k = 3 := by omega
  rcases c with c | c | c | c
  · rw [c, h0]; rfl
  · rw [c, h1]; rfl
  · rw [c, h2]; rfl
  · rw [c, h3]; rfl
theorem g_DM_t {n m n' m' : Int} {S t S' t' X : Int → Int} (h : g_DM n m S t X) (e1 : n = n') (e2 : m = m') (e3 : S = S') (e4 : t = t') : g_DM n' m' S' t' X := by
  subst e1; subst e2; subst e3; subst e4
  exact h
theorem g_DX_t {n m n' m' : Int} {par knd a b par' knd' a' b' X : Int → Int} (h : g_DX n par knd m a b X) (e1 : n = n') (e2 : par = par') (e3 : knd = knd') (e4 : m = m') (e5 : a = a') (e6 : b = b') : g_DX n' par' knd' m' a' b' X := by
  subst e1; subst e2; subst e3; subst e4; subst e5; subst e6
  exact h
theorem c_R.deg {fl : Bool} {s : h_S} {F G : Int → Int} (h : c_R fl s) (hI : h_I s) (ht : g_ti s) (hF : g_DX (s 10 8) (s 12) (s 11) (s 13 2) (s 14) (s 15) F) (hG : g_DM (s 98 1) (s 99 18) (s 99) (s 100) G) : g_ph (s 10 8) 256 F G := by
  have z := h.sz
  rw [← z.1, ← z.2.2.2.1] at hG
  refine g_deg (tf_10_8 hI).2 (fun j a b => ?_) (fun j a b => h.mr a b) hF hG
  have y := h.ps a b
  have w := ty_11 hI j
  refine ⟨by omega, ?_⟩
  rw [← y.1]
  exact ht _ w.1 w.2
set_option maxHeartbeats 100000000 in
theorem n_wiX_l (ns : Nat) (σ : h_S) (hI : h_I σ) (x0 : Int32) (a0 : Int) (hx0 : x0.toInt = a0) (ra0 : 0 ≤ a0 ∧ a0 ≤ 5) (x1 : Int32) (a1 : Int) (hx1 : x1.toInt = a1) {Q : Option Value → h_S → Prop} (kk : ∀ (r : Int32) (b : Int) (hb : r.toInt = b), (r = g_bs (σ 79 2) (fun q => decide (σ 80 (a0 * 6 + q) ≤ a1)) 6 0 0) → Q (some (.int r)) σ) : ∀ n : Nat, (∀ (y3 : Int32) (b3 : Int), y3.toInt = b3 → ∀ (y4 : Int32) (b4 : Int), y4.toInt = b4 → (0 ≤ b4 ∧ b4 ≤ 6) → (g_bs (σ 79 2) (fun q => decide (σ 80 (a0 * 6 + q) ≤ a1)) (6 - b4).toNat b4 y3 = g_bs (σ 79 2) (fun q => decide (σ 80 (a0 * 6 + q) ≤ a1)) 6 0 0) → (6 + 1 - b4) * 1000000 + 1000000000 ≤ (n : Int) → h_T g_P (g_Y ns) 30 5 [(0, .ref 79), (1, .int x0), (2, .int x1), (3, .int y3), (4, .int y4)] [] σ Q) := by
  intro n
  induction n with
  | zero => exact by intro  y3 b3 hy3 y4 b4 hy4 ry4 ex0 hm; exfalso; omega
  | succ n ih =>
    intro  y3 b3 hy3 y4 b4 hy4 ry4 ex0 hm
    refine h_iload (pc' := 7) rfl rfl rfl ?_
    refine h_aload_n (pc' := 8) rfl rfl rfl ?_
    refine h_getI (pc' := 11) (v := σ 79 2) rfl rfl rfl rfl rfl rfl (fun z1 hz1 => ?_)
    have tz1 := tf_79_2 hI
    refine h_cge (tg := 43) (pc' := 14) rfl rfl rfl hy4 hz1 (fun c2 => ?_) (fun c2 => ?_)
    · refine h_iload_n (pc' := 44) rfl rfl rfl ?_
      exact h_iret rfl rfl (kk _ _ hy3 (g_bs_o ex0 (by omega)))
    · refine h_aload_n (pc' := 15) rfl rfl rfl ?_
      refine h_getR (pc' := 18) rfl rfl rfl rfl rfl ?_
      refine h_iload_n (pc' := 19) rfl rfl rfl ?_
      refine h_bipush (pc' := 21) (x := (Int32.ofInt 6)) rfl rfl cb_6 ?_
      refine h_imul (pc' := 22) rfl rfl hx0 ci_6 rfl (by omega) (by omega) (fun z3 hz3 => ?_)
      refine h_iload (pc' := 24) rfl rfl rfl ?_
      refine h_iadd (pc' := 25) rfl rfl hz3 hy4 rfl (by omega) (by omega) (fun z4 hz4 => ?_)
      refine h_iald (pc' := 26) (v := σ 80 ((a0 * 6) + b4)) rfl rfl rfl hz4 (by omega) (by omega) rfl (fun z5 hz5 => ?_)
      have tz5 := ty_80 hI ((a0 * 6) + b4)
      refine h_iload_n (pc' := 27) rfl rfl rfl ?_
      refine h_cgt (tg := 37) (pc' := 30) rfl rfl rfl hz5 hx1 (fun c6 => ?_) (fun c6 => ?_)
      · refine h_iinc (pc' := 40) (M := fun z7 => [(4, .int z7), (0, .ref 79), (1, .int x0), (2, .int x1), (3, .int y3)]) rfl rfl rfl rfl hy4 ci_1 rfl (by omega) (by omega) (fun _ => rfl) (fun z7 hz7 => ?_)
        refine h_goto (pc' := 5) rfl rfl ?_
        exact h_wk [(0, .ref 79), (1, .int x0), (2, .int x1), (3, .int y3), (4, .int z7)] ⟨rfl, rfl, rfl, rfl, rfl, trivial⟩ (ih y3 _ hy3 z7 _ hz7 (by omega) (g_bs_n ex0 (by omega) (by omega) (decide_eq_false (by omega)) rfl) (by omega))
      · refine h_iload_n (pc' := 31) rfl rfl rfl ?_
        refine h_iconst (pc' := 32) (x := (Int32.ofInt 1)) rfl rfl rfl ?_
        refine h_iload (pc' := 34) rfl rfl rfl ?_
        refine h_shl1 (pc' := 35) rfl rfl ci_1 hy4 (by omega) (by omega) (fun z8 hz8 vz8 => ?_)
        refine h_ior (pc' := 36) rfl rfl (fun z9 hz9 => ?_)
        refine h_istore_n (pc' := 37) (M := [(3, .int z9), (0, .ref 79), (1, .int x0), (2, .int x1), (4, .int y4)]) rfl rfl rfl rfl ?_
        refine h_iinc (pc' := 40) (M := fun z10 => [(4, .int z10), (3, .int z9), (0, .ref 79), (1, .int x0), (2, .int x1)]) rfl rfl rfl rfl hy4 ci_1 rfl (by omega) (by omega) (fun _ => rfl) (fun z10 hz10 => ?_)
        refine h_goto (pc' := 5) rfl rfl ?_
        exact h_wk [(0, .ref 79), (1, .int x0), (2, .int x1), (3, .int z9), (4, .int z10)] ⟨rfl, rfl, rfl, rfl, rfl, trivial⟩ (ih z9 _ rfl z10 _ hz10 (by omega) (g_bs_y ex0 (by omega) (by omega) (decide_eq_true (by omega)) (g_or_of hz9 hz8 hy4)) (by omega))
set_option maxHeartbeats 100000000 in
theorem n_wiX {ns : Nat} (σ : h_S) (hI : h_I σ) (x0 : Int32) (a0 : Int) (hx0 : x0.toInt = a0) (ra0 : 0 ≤ a0 ∧ a0 ≤ 5) (x1 : Int32) (a1 : Int) (hx1 : x1.toInt = a1) {Q : Option Value → h_S → Prop} (kk : ∀ (r : Int32) (b : Int) (hb : r.toInt = b), (r = g_bs (σ 79 2) (fun q => decide (σ 80 (a0 * 6 + q) ≤ a1)) 6 0 0) → Q (some (.int r)) σ) : h_T g_P (g_Y ns) 30 0 [(0, .ref 79), (1, .int x0), (2, .int x1)] [] σ Q := by
  refine h_iconst (pc' := 1) (x := (Int32.ofInt 0)) rfl rfl rfl ?_
  refine h_istore_n (pc' := 2) (M := [(3, .int (Int32.ofInt 0)), (0, .ref 79), (1, .int x0), (2, .int x1)]) rfl rfl rfl rfl ?_
  refine h_iconst (pc' := 3) (x := (Int32.ofInt 0)) rfl rfl rfl ?_
  refine h_istore (pc' := 5) (M := [(4, .int (Int32.ofInt 0)), (3, .int (Int32.ofInt 0)), (0, .ref 79), (1, .int x0), (2, .int x1)]) rfl rfl rfl rfl ?_
  exact h_wk [(0, .ref 79), (1, .int x0), (2, .int x1), (3, .int (Int32.ofInt 0)), (4, .int (Int32.ofInt 0))] ⟨rfl, rfl, rfl, rfl, rfl, trivial⟩ ((n_wiX_l ns σ hI x0 a0 hx0 ra0 x1 a1 hx1 kk 1000000000000) (Int32.ofInt 0) _ ci_0 (Int32.ofInt 0) _ ci_0 (by omega) rfl (by omega))
