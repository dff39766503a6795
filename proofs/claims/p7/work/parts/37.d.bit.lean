/-! TIES, DEGREES OF A COUNTY -/
def g_ti (s : h_S) : Prop := ∀ k, 0 ≤ k → k ≤ 3 → s 100 k = g_tie k
theorem g_ti.e {s s' : h_S} (h : g_ti s) (e : s' 100 = s 100) : g_ti s' := fun k a b => by
  rw [e]
  exact h k a b
theorem g_ti.mk {s : h_S} (h0 : s 100 0 = 1) (h1 : s 100 1 = 2) (h2 : s 100 2 = 0) (h3 : s 100 3 = 4) : g_ti s := fun k a b => by
  have c : k = 0 ∨ k = 1 ∨ k = 2 ∨ k = 3 := by omega
  rcases c with c | c | c | c
  · rw [c, h0]; rfl
  · rw [c, h1]; rfl
  · rw [c, h2]; rfl
  · rw [c, h3]; rfl
theorem g_tie_v {k : Int} (h0 : 0 ≤ k) (h3 : k ≤ 3) : (k = 0 ∧ g_tie k = 1) ∨ (k = 1 ∧ g_tie k = 2) ∨ (k = 2 ∧ g_tie k = 0) ∨ (k = 3 ∧ g_tie k = 4) := by
  have c : k = 0 ∨ k = 1 ∨ k = 2 ∨ k = 3 := by omega
  rcases c with c | c | c | c
  · subst c; exact Or.inl ⟨rfl, rfl⟩
  · subst c; exact Or.inr (Or.inl ⟨rfl, rfl⟩)
  · subst c; exact Or.inr (Or.inr (Or.inl ⟨rfl, rfl⟩))
  · subst c; exact Or.inr (Or.inr (Or.inr ⟨rfl, rfl⟩))
theorem g_DM_t {n m n' m' : Int} {S t S' t' X : Int → Int} (h : g_DM n m S t X) (e1 : n = n') (e2 : m = m') (e3 : S = S') (e4 : t = t') : g_DM n' m' S' t' X := by
  subst e1; subst e2; subst e3; subst e4
  exact h
theorem g_DX_t {n m n' m' : Int} {par knd a b par' knd' a' b' X : Int → Int} (h : g_DX n par knd m a b X) (e1 : n = n') (e2 : par = par') (e3 : knd = knd') (e4 : m = m') (e5 : a = a') (e6 : b = b') : g_DX n' par' knd' m' a' b' X := by
  subst e1; subst e2; subst e3; subst e4; subst e5; subst e6
  exact h
theorem c_R.deg {fl : Bool} {s : h_S} {F G : Int → Int} (h : c_R fl s) (hI : h_I s) (ht : g_ti s) (hF : g_DX (s 10 8) (s 12) (s 11) (s 13 2) (s 14) (s 15) F) (hG : g_DM (s 98 1) (s 99 18) (s 99) (s 100) G) : g_ph (s 10 8) 256 F G := by
  have z := h.sz
  rw [← z.1, ← z.2.2.2.1] at hG
  refine g_deg (tf_10_8 hI).2 (fun j a b => ?_) (fun j a b => h.mr a b) hF hG
  have y := h.ps a b
  have w := ty_11 hI j
  refine ⟨by omega, ?_⟩
  rw [← y.1]
  exact ht _ w.1 w.2
theorem c_R.ch {fl : Bool} {s : h_S} (h : c_R fl s) {n p : Int} {g : Int → Int} (hn : n = s 98 1) (hg : g = s 99) (p0 : 0 ≤ p) : g_bs (s 10 8) (fun q => decide (s 12 q = p)) 6 0 0 = g_bs n (fun q => decide (g (6 + q) = p + 1)) 6 0 0 := by
  rw [hn, hg, ← h.sz.1]
  refine g_bs_eq (fun q a b => decide_eq_decide.mpr ?_) 6 0 0 (by omega)
  have y := h.ps a b
  omega
theorem g_ph.li {n n1 n2 p : Int} {F G : Int → Int} (h : g_ph n 256 F G) (p0 : 0 ≤ p) (p1 : p < n) (h1 : n1 = n) (h2 : n2 = n) : g_bs n1 (fun q => decide (F (p * 6 + q) ≤ 999)) 6 0 0 = g_bs n2 (fun q => decide (G (6 * p + q) < 1000000)) 6 0 0 := by
  rw [h1, h2]
  refine g_bs_eq (fun q a b => decide_eq_decide.mpr ?_) 6 0 0 (by omega)
  have y := h p q p0 p1 a b
  omega
set_option maxHeartbeats 100000000 in
theorem n_chX_l (ns : Nat) (σ : h_S) (hI : h_I σ) (x0 : Int32) (a0 : Int) (hx0 : x0.toInt = a0) (ra0 : 0 ≤ a0 ∧ a0 ≤ 5) {Q : Option Value → h_S → Prop} (kk : ∀ (r : Int32) (b : Int) (hb : r.toInt = b), (r = g_bs (σ 10 8) (fun q => decide (σ 12 q = a0)) 6 0 0) → Q (some (.int r)) σ) : ∀ n : Nat, (∀ (y2 : Int32) (b2 : Int), y2.toInt = b2 → ∀ (y3 : Int32) (b3 : Int), y3.toInt = b3 → (0 ≤ b3 ∧ b3 ≤ 6) → (g_bs (σ 10 8) (fun q => decide (σ 12 q = a0)) (6 - b3).toNat b3 y2 = g_bs (σ 10 8) (fun q => decide (σ 12 q = a0)) 6 0 0) → (6 + 1 - b3) * 1000000 + 1000000000 ≤ (n : Int) → h_T g_P (g_Y ns) 13 4 [(0, .ref 10), (1, .int x0), (2, .int y2), (3, .int y3)] [] σ Q) := by
  intro n
  induction n with
  | zero => exact by intro  y2 b2 hy2 y3 b3 hy3 ry3 ex0 hm; exfalso; omega
  | succ n ih =>
    intro  y2 b2 hy2 y3 b3 hy3 ry3 ex0 hm
    refine h_iload_n (pc' := 5) rfl rfl rfl ?_
    refine h_aload_n (pc' := 6) rfl rfl rfl ?_
    refine h_getI (pc' := 9) (v := σ 10 8) rfl rfl rfl rfl rfl rfl (fun z1 hz1 => ?_)
    have tz1 := tf_10_8 hI
    refine h_cge (tg := 34) (pc' := 12) rfl rfl rfl hy3 hz1 (fun c2 => ?_) (fun c2 => ?_)
    · refine h_iload_n (pc' := 35) rfl rfl rfl ?_
      exact h_iret rfl rfl (kk _ _ hy2 (g_bs_o ex0 (by omega)))
    · refine h_aload_n (pc' := 13) rfl rfl rfl ?_
      refine h_getR (pc' := 16) rfl rfl rfl rfl rfl ?_
      refine h_iload_n (pc' := 17) rfl rfl rfl ?_
      refine h_iald (pc' := 18) (v := σ 12 b3) rfl rfl rfl hy3 (by omega) (by omega) rfl (fun z3 hz3 => ?_)
      have tz3 := ty_12 hI b3
      refine h_iload_n (pc' := 19) rfl rfl rfl ?_
      refine h_cne (tg := 28) (pc' := 22) rfl rfl rfl hz3 hx0 (fun c4 => ?_) (fun c4 => ?_)
      · refine h_iinc (pc' := 31) (M := fun z5 => [(3, .int z5), (0, .ref 10), (1, .int x0), (2, .int y2)]) rfl rfl rfl rfl hy3 ci_1 rfl (by omega) (by omega) (fun _ => rfl) (fun z5 hz5 => ?_)
        refine h_goto (pc' := 4) rfl rfl ?_
        exact h_wk [(0, .ref 10), (1, .int x0), (2, .int y2), (3, .int z5)] ⟨rfl, rfl, rfl, rfl, trivial⟩ (ih y2 _ hy2 z5 _ hz5 (by omega) (g_bs_n ex0 (by omega) (by omega) (decide_eq_false (by omega)) rfl) (by omega))
      · refine h_iload_n (pc' := 23) rfl rfl rfl ?_
        refine h_iconst (pc' := 24) (x := (Int32.ofInt 1)) rfl rfl rfl ?_
        refine h_iload_n (pc' := 25) rfl rfl rfl ?_
        refine h_shl1 (pc' := 26) rfl rfl ci_1 hy3 (by omega) (by omega) (fun z6 hz6 vz6 => ?_)
        refine h_ior (pc' := 27) rfl rfl (fun z7 hz7 => ?_)
        refine h_istore_n (pc' := 28) (M := [(2, .int z7), (0, .ref 10), (1, .int x0), (3, .int y3)]) rfl rfl rfl rfl ?_
        refine h_iinc (pc' := 31) (M := fun z8 => [(3, .int z8), (2, .int z7), (0, .ref 10), (1, .int x0)]) rfl rfl rfl rfl hy3 ci_1 rfl (by omega) (by omega) (fun _ => rfl) (fun z8 hz8 => ?_)
        refine h_goto (pc' := 4) rfl rfl ?_
        exact h_wk [(0, .ref 10), (1, .int x0), (2, .int z7), (3, .int z8)] ⟨rfl, rfl, rfl, rfl, trivial⟩ (ih z7 _ rfl z8 _ hz8 (by omega) (g_bs_y ex0 (by omega) (by omega) (decide_eq_true (by omega)) (g_or_of hz7 hz6 hy3)) (by omega))
set_option maxHeartbeats 100000000 in
theorem n_chX {ns : Nat} (σ : h_S) (hI : h_I σ) (x0 : Int32) (a0 : Int) (hx0 : x0.toInt = a0) (ra0 : 0 ≤ a0 ∧ a0 ≤ 5) {Q : Option Value → h_S → Prop} (kk : ∀ (r : Int32) (b : Int) (hb : r.toInt = b), (r = g_bs (σ 10 8) (fun q => decide (σ 12 q = a0)) 6 0 0) → Q (some (.int r)) σ) : h_T g_P (g_Y ns) 13 0 [(0, .ref 10), (1, .int x0)] [] σ Q := by
  refine h_iconst (pc' := 1) (x := (Int32.ofInt 0)) rfl rfl rfl ?_
  refine h_istore_n (pc' := 2) (M := [(2, .int (Int32.ofInt 0)), (0, .ref 10), (1, .int x0)]) rfl rfl rfl rfl ?_
  refine h_iconst (pc' := 3) (x := (Int32.ofInt 0)) rfl rfl rfl ?_
  refine h_istore_n (pc' := 4) (M := [(3, .int (Int32.ofInt 0)), (2, .int (Int32.ofInt 0)), (0, .ref 10), (1, .int x0)]) rfl rfl rfl rfl ?_
  exact h_wk [(0, .ref 10), (1, .int x0), (2, .int (Int32.ofInt 0)), (3, .int (Int32.ofInt 0))] ⟨rfl, rfl, rfl, rfl, trivial⟩ ((n_chX_l ns σ hI x0 a0 hx0 ra0 kk 1000000000000) (Int32.ofInt 0) _ ci_0 (Int32.ofInt 0) _ ci_0 (by omega) rfl (by omega))
set_option maxHeartbeats 100000000 in
theorem n_chM_l (ns : Nat) (σ : h_S) (hI : h_I σ) (x0 : Int32) (a0 : Int) (hx0 : x0.toInt = a0) (ra0 : 0 ≤ a0 ∧ a0 ≤ 5) {Q : Option Value → h_S → Prop} (kk : ∀ (r : Int32) (b : Int) (hb : r.toInt = b), (r = g_bs (σ 98 1) (fun q => decide (σ 99 (6 + q) = a0 + 1)) 6 0 0) → Q (some (.int r)) σ) : ∀ n : Nat, (∀ (y2 : Int32) (b2 : Int), y2.toInt = b2 → ∀ (y3 : Int32) (b3 : Int), y3.toInt = b3 → (0 ≤ b3 ∧ b3 ≤ 6) → (g_bs (σ 98 1) (fun q => decide (σ 99 (6 + q) = a0 + 1)) (6 - b3).toNat b3 y2 = g_bs (σ 98 1) (fun q => decide (σ 99 (6 + q) = a0 + 1)) 6 0 0) → (6 + 1 - b3) * 1000000 + 1000000000 ≤ (n : Int) → h_T g_P (g_Y ns) 166 4 [(0, .ref 98), (1, .int x0), (2, .int y2), (3, .int y3)] [] σ Q) := by
  intro n
  induction n with
  | zero => exact by intro  y2 b2 hy2 y3 b3 hy3 ry3 ex0 hm; exfalso; omega
  | succ n ih =>
    intro  y2 b2 hy2 y3 b3 hy3 ry3 ex0 hm
    refine h_iload_n (pc' := 5) rfl rfl rfl ?_
    refine h_aload_n (pc' := 6) rfl rfl rfl ?_
    refine h_getI (pc' := 9) (v := σ 98 1) rfl rfl rfl rfl rfl rfl (fun z1 hz1 => ?_)
    have tz1 := tf_98_1 hI
    refine h_cge (tg := 43) (pc' := 12) rfl rfl rfl hy3 hz1 (fun c2 => ?_) (fun c2 => ?_)
    · refine h_iload_n (pc' := 44) rfl rfl rfl ?_
      exact h_iret rfl rfl (kk _ _ hy2 (g_bs_o ex0 (by omega)))
    · refine h_iload_n (pc' := 13) rfl rfl rfl ?_
      refine h_aload_n (pc' := 14) rfl rfl rfl ?_
      refine h_getR (pc' := 17) rfl rfl rfl rfl rfl ?_
      refine h_bipush (pc' := 19) (x := (Int32.ofInt 6)) rfl rfl cb_6 ?_
      refine h_iload_n (pc' := 20) rfl rfl rfl ?_
      refine h_iadd (pc' := 21) rfl rfl ci_6 hy3 rfl (by omega) (by omega) (fun z3 hz3 => ?_)
      refine h_iald (pc' := 22) (v := σ 99 (6 + b3)) rfl rfl rfl hz3 (by omega) (by omega) rfl (fun z4 hz4 => ?_)
      have tz4 := ty_99_1 hI (6 + b3) (by omega)
      refine h_iload_n (pc' := 23) rfl rfl rfl ?_
      refine h_iconst (pc' := 24) (x := (Int32.ofInt 1)) rfl rfl rfl ?_
      refine h_iadd (pc' := 25) rfl rfl hx0 ci_1 rfl (by omega) (by omega) (fun z5 hz5 => ?_)
      refine h_cne (tg := 34) (pc' := 28) rfl rfl rfl hz4 hz5 (fun c6 => ?_) (fun c6 => ?_)
      · refine h_iconst (pc' := 35) (x := (Int32.ofInt 0)) rfl rfl rfl ?_
        refine h_ior (pc' := 36) rfl rfl (fun z7 hz7 => ?_)
        refine h_istore_n (pc' := 37) (M := [(2, .int z7), (0, .ref 98), (1, .int x0), (3, .int y3)]) rfl rfl rfl rfl ?_
        refine h_iinc (pc' := 40) (M := fun z8 => [(3, .int z8), (2, .int z7), (0, .ref 98), (1, .int x0)]) rfl rfl rfl rfl hy3 ci_1 rfl (by omega) (by omega) (fun _ => rfl) (fun z8 hz8 => ?_)
        refine h_goto (pc' := 4) rfl rfl ?_
        exact h_wk [(0, .ref 98), (1, .int x0), (2, .int z7), (3, .int z8)] ⟨rfl, rfl, rfl, rfl, trivial⟩ (ih z7 _ rfl z8 _ hz8 (by omega) (g_bs_n ex0 (by omega) (by omega) (decide_eq_false (by omega)) (g_or0 hz7)) (by omega))
      · refine h_iconst (pc' := 29) (x := (Int32.ofInt 1)) rfl rfl rfl ?_
        refine h_iload_n (pc' := 30) rfl rfl rfl ?_
        refine h_shl1 (pc' := 31) rfl rfl ci_1 hy3 (by omega) (by omega) (fun z9 hz9 vz9 => ?_)
        refine h_goto (pc' := 35) rfl rfl ?_
        refine h_ior (pc' := 36) rfl rfl (fun z10 hz10 => ?_)
        refine h_istore_n (pc' := 37) (M := [(2, .int z10), (0, .ref 98), (1, .int x0), (3, .int y3)]) rfl rfl rfl rfl ?_
        refine h_iinc (pc' := 40) (M := fun z11 => [(3, .int z11), (2, .int z10), (0, .ref 98), (1, .int x0)]) rfl rfl rfl rfl hy3 ci_1 rfl (by omega) (by omega) (fun _ => rfl) (fun z11 hz11 => ?_)
        refine h_goto (pc' := 4) rfl rfl ?_
        exact h_wk [(0, .ref 98), (1, .int x0), (2, .int z10), (3, .int z11)] ⟨rfl, rfl, rfl, rfl, trivial⟩ (ih z10 _ rfl z11 _ hz11 (by omega) (g_bs_y ex0 (by omega) (by omega) (decide_eq_true (by omega)) (g_or_of hz10 hz9 hy3)) (by omega))
set_option maxHeartbeats 100000000 in
theorem n_chM {ns : Nat} (σ : h_S) (hI : h_I σ) (x0 : Int32) (a0 : Int) (hx0 : x0.toInt = a0) (ra0 : 0 ≤ a0 ∧ a0 ≤ 5) {Q : Option Value → h_S → Prop} (kk : ∀ (r : Int32) (b : Int) (hb : r.toInt = b), (r = g_bs (σ 98 1) (fun q => decide (σ 99 (6 + q) = a0 + 1)) 6 0 0) → Q (some (.int r)) σ) : h_T g_P (g_Y ns) 166 0 [(0, .ref 98), (1, .int x0)] [] σ Q := by
  refine h_iconst (pc' := 1) (x := (Int32.ofInt 0)) rfl rfl rfl ?_
  refine h_istore_n (pc' := 2) (M := [(2, .int (Int32.ofInt 0)), (0, .ref 98), (1, .int x0)]) rfl rfl rfl rfl ?_
  refine h_iconst (pc' := 3) (x := (Int32.ofInt 0)) rfl rfl rfl ?_
  refine h_istore_n (pc' := 4) (M := [(3, .int (Int32.ofInt 0)), (2, .int (Int32.ofInt 0)), (0, .ref 98), (1, .int x0)]) rfl rfl rfl rfl ?_
  exact h_wk [(0, .ref 98), (1, .int x0), (2, .int (Int32.ofInt 0)), (3, .int (Int32.ofInt 0))] ⟨rfl, rfl, rfl, rfl, trivial⟩ ((n_chM_l ns σ hI x0 a0 hx0 ra0 kk 1000000000000) (Int32.ofInt 0) _ ci_0 (Int32.ofInt 0) _ ci_0 (by omega) rfl (by omega))
set_option maxHeartbeats 100000000 in
theorem n_wiX_l (ns : Nat) (σ : h_S) (hI : h_I σ) (x0 : Int32) (a0 : Int) (hx0 : x0.toInt = a0) (ra0 : 0 ≤ a0 ∧ a0 ≤ 5) (x1 : Int32) (a1 : Int) (hx1 : x1.toInt = a1) {Q : Option Value → h_S → Prop} (kk : ∀ (r : Int32) (b : Int) (hb : r.toInt = b), (r = g_bs (σ 79 2) (fun q => decide (σ 80 (a0 * 6 + q) ≤ a1)) 6 0 0) → Q (some (.int r)) σ) : ∀ n : Nat, (∀ (y3 : Int32) (b3 : Int), y3.toInt = b3 → ∀ (y4 : Int32) (b4 : Int), y4.toInt = b4 → (0 ≤ b4 ∧ b4 ≤ 6) → (g_bs (σ 79 2) (fun q => decide (σ 80 (a0 * 6 + q) ≤ a1)) (6 - b4).toNat b4 y3 = g_bs (σ 79 2) (fun q => decide (σ 80 (a0 * 6 + q) ≤ a1)) 6 0 0) → (6 + 1 - b4) * 1000000 + 1000000000 ≤ (n : Int) → h_T g_P (g_Y ns) 30 5 [(0, .ref 79), (1, .int x0), (2, .int x1), (3, .int y3), (4, .int y4)] [] σ Q) := by
  intro n
  induction n with
  | zero => exact by intro  y3 b3 hy3 y4 b4 hy4 ry4 ex0 hm; exfalso; omega
  | succ n ih =>
    intro  y3 b3 hy3 y4 b4 hy4 ry4 ex0 hm
    refine h_iload (pc' := 7) rfl rfl rfl ?_
    refine h_aload_n (pc' := 8) rfl rfl rfl ?_
    refine h_getI (pc' := 11) (v := σ 79 2) rfl rfl rfl rfl rfl rfl (fun z1 hz1 => ?_)
    have tz1 := tf_79_2 hI
    refine h_cge (tg := 43) (pc' := 14) rfl rfl rfl hy4 hz1 (fun c2 => ?_) (fun c2 => ?_)
    · refine h_iload_n (pc' := 44) rfl rfl rfl ?_
      exact h_iret rfl rfl (kk _ _ hy3 (g_bs_o ex0 (by omega)))
    · refine h_aload_n (pc' := 15) rfl rfl rfl ?_
      refine h_getR (pc' := 18) rfl rfl rfl rfl rfl ?_
      refine h_iload_n (pc' := 19) rfl rfl rfl ?_
      refine h_bipush (pc' := 21) (x := (Int32.ofInt 6)) rfl rfl cb_6 ?_
      refine h_imul (pc' := 22) rfl rfl hx0 ci_6 rfl (by omega) (by omega) (fun z3 hz3 => ?_)
      refine h_iload (pc' := 24) rfl rfl rfl ?_
      refine h_iadd (pc' := 25) rfl rfl hz3 hy4 rfl (by omega) (by omega) (fun z4 hz4 => ?_)
      refine h_iald (pc' := 26) (v := σ 80 ((a0 * 6) + b4)) rfl rfl rfl hz4 (by omega) (by omega) rfl (fun z5 hz5 => ?_)
      have tz5 := ty_80 hI ((a0 * 6) + b4)
      refine h_iload_n (pc' := 27) rfl rfl rfl ?_
      refine h_cgt (tg := 37) (pc' := 30) rfl rfl rfl hz5 hx1 (fun c6 => ?_) (fun c6 => ?_)
      · refine h_iinc (pc' := 40) (M := fun z7 => [(4, .int z7), (0, .ref 79), (1, .int x0), (2, .int x1), (3, .int y3)]) rfl rfl rfl rfl hy4 ci_1 rfl (by omega) (by omega) (fun _ => rfl) (fun z7 hz7 => ?_)
        refine h_goto (pc' := 5) rfl rfl ?_
        exact h_wk [(0, .ref 79), (1, .int x0), (2, .int x1), (3, .int y3), (4, .int z7)] ⟨rfl, rfl, rfl, rfl, rfl, trivial⟩ (ih y3 _ hy3 z7 _ hz7 (by omega) (g_bs_n ex0 (by omega) (by omega) (decide_eq_false (by omega)) rfl) (by omega))
      · refine h_iload_n (pc' := 31) rfl rfl rfl ?_
        refine h_iconst (pc' := 32) (x := (Int32.ofInt 1)) rfl rfl rfl ?_
        refine h_iload (pc' := 34) rfl rfl rfl ?_
        refine h_shl1 (pc' := 35) rfl rfl ci_1 hy4 (by omega) (by omega) (fun z8 hz8 vz8 => ?_)
        refine h_ior (pc' := 36) rfl rfl (fun z9 hz9 => ?_)
        refine h_istore_n (pc' := 37) (M := [(3, .int z9), (0, .ref 79), (1, .int x0), (2, .int x1), (4, .int y4)]) rfl rfl rfl rfl ?_
        refine h_iinc (pc' := 40) (M := fun z10 => [(4, .int z10), (3, .int z9), (0, .ref 79), (1, .int x0), (2, .int x1)]) rfl rfl rfl rfl hy4 ci_1 rfl (by omega) (by omega) (fun _ => rfl) (fun z10 hz10 => ?_)
        refine h_goto (pc' := 5) rfl rfl ?_
        exact h_wk [(0, .ref 79), (1, .int x0), (2, .int x1), (3, .int z9), (4, .int z10)] ⟨rfl, rfl, rfl, rfl, rfl, trivial⟩ (ih z9 _ rfl z10 _ hz10 (by omega) (g_bs_y ex0 (by omega) (by omega) (decide_eq_true (by omega)) (g_or_of hz9 hz8 hy4)) (by omega))
set_option maxHeartbeats 100000000 in
theorem n_wiX {ns : Nat} (σ : h_S) (hI : h_I σ) (x0 : Int32) (a0 : Int) (hx0 : x0.toInt = a0) (ra0 : 0 ≤ a0 ∧ a0 ≤ 5) (x1 : Int32) (a1 : Int) (hx1 : x1.toInt = a1) {Q : Option Value → h_S → Prop} (kk : ∀ (r : Int32) (b : Int) (hb : r.toInt = b), (r = g_bs (σ 79 2) (fun q => decide (σ 80 (a0 * 6 + q) ≤ a1)) 6 0 0) → Q (some (.int r)) σ) : h_T g_P (g_Y ns) 30 0 [(0, .ref 79), (1, .int x0), (2, .int x1)] [] σ Q := by
  refine h_iconst (pc' := 1) (x := (Int32.ofInt 0)) rfl rfl rfl ?_
  refine h_istore_n (pc' := 2) (M := [(3, .int (Int32.ofInt 0)), (0, .ref 79), (1, .int x0), (2, .int x1)]) rfl rfl rfl rfl ?_
  refine h_iconst (pc' := 3) (x := (Int32.ofInt 0)) rfl rfl rfl ?_
  refine h_istore (pc' := 5) (M := [(4, .int (Int32.ofInt 0)), (3, .int (Int32.ofInt 0)), (0, .ref 79), (1, .int x0), (2, .int x1)]) rfl rfl rfl rfl ?_
  exact h_wk [(0, .ref 79), (1, .int x0), (2, .int x1), (3, .int (Int32.ofInt 0)), (4, .int (Int32.ofInt 0))] ⟨rfl, rfl, rfl, rfl, rfl, trivial⟩ ((n_wiX_l ns σ hI x0 a0 hx0 ra0 x1 a1 hx1 kk 1000000000000) (Int32.ofInt 0) _ ci_0 (Int32.ofInt 0) _ ci_0 (by omega) rfl (by omega))
set_option maxHeartbeats 100000000 in
theorem n_liM_l (ns : Nat) (σ : h_S) (hI : h_I σ) (x0 : Int32) (a0 : Int) (hx0 : x0.toInt = a0) (ra0 : 0 ≤ a0 ∧ a0 ≤ 5) {Q : Option Value → h_S → Prop} (kk : ∀ (r : Int32) (b : Int) (hb : r.toInt = b), (r = g_bs (σ 98 1) (fun q => decide (σ 105 (6 * a0 + q) < 1000000)) 6 0 0) → Q (some (.int r)) σ) : ∀ n : Nat, (∀ (y2 : Int32) (b2 : Int), y2.toInt = b2 → ∀ (y3 : Int32) (b3 : Int), y3.toInt = b3 → (0 ≤ b3 ∧ b3 ≤ 6) → (g_bs (σ 98 1) (fun q => decide (σ 105 (6 * a0 + q) < 1000000)) (6 - b3).toNat b3 y2 = g_bs (σ 98 1) (fun q => decide (σ 105 (6 * a0 + q) < 1000000)) 6 0 0) → (6 + 1 - b3) * 1000000 + 1000000000 ≤ (n : Int) → h_T g_P (g_Y ns) 165 4 [(0, .ref 98), (1, .int x0), (2, .int y2), (3, .int y3)] [] σ Q) := by
  intro n
  induction n with
  | zero => exact by intro  y2 b2 hy2 y3 b3 hy3 ry3 ex0 hm; exfalso; omega
  | succ n ih =>
    intro  y2 b2 hy2 y3 b3 hy3 ry3 ex0 hm
    refine h_iload_n (pc' := 5) rfl rfl rfl ?_
    refine h_aload_n (pc' := 6) rfl rfl rfl ?_
    refine h_getI (pc' := 9) (v := σ 98 1) rfl rfl rfl rfl rfl rfl (fun z1 hz1 => ?_)
    have tz1 := tf_98_1 hI
    refine h_cge (tg := 44) (pc' := 12) rfl rfl rfl hy3 hz1 (fun c2 => ?_) (fun c2 => ?_)
    · refine h_iload_n (pc' := 45) rfl rfl rfl ?_
      exact h_iret rfl rfl (kk _ _ hy2 (g_bs_o ex0 (by omega)))
    · refine h_iload_n (pc' := 13) rfl rfl rfl ?_
      refine h_aload_n (pc' := 14) rfl rfl rfl ?_
      refine h_getR (pc' := 17) rfl rfl rfl rfl rfl ?_
      refine h_bipush (pc' := 19) (x := (Int32.ofInt 6)) rfl rfl cb_6 ?_
      refine h_iload_n (pc' := 20) rfl rfl rfl ?_
      refine h_imul (pc' := 21) rfl rfl ci_6 hx0 rfl (by omega) (by omega) (fun z3 hz3 => ?_)
      refine h_iload_n (pc' := 22) rfl rfl rfl ?_
      refine h_iadd (pc' := 23) rfl rfl hz3 hy3 rfl (by omega) (by omega) (fun z4 hz4 => ?_)
      refine h_iald (pc' := 24) (v := σ 105 ((6 * a0) + b3)) rfl rfl rfl hz4 (by omega) (by omega) rfl (fun z5 hz5 => ?_)
      have tz5 := ty_105 hI ((6 * a0) + b3)
      refine h_ldc (pc' := 26) (x := (Int32.ofInt 1000000)) rfl rfl rfl ?_
      refine h_cge (tg := 35) (pc' := 29) rfl rfl rfl hz5 ci_1000000 (fun c6 => ?_) (fun c6 => ?_)
      · refine h_iconst (pc' := 36) (x := (Int32.ofInt 0)) rfl rfl rfl ?_
        refine h_ior (pc' := 37) rfl rfl (fun z7 hz7 => ?_)
        refine h_istore_n (pc' := 38) (M := [(2, .int z7), (0, .ref 98), (1, .int x0), (3, .int y3)]) rfl rfl rfl rfl ?_
        refine h_iinc (pc' := 41) (M := fun z8 => [(3, .int z8), (2, .int z7), (0, .ref 98), (1, .int x0)]) rfl rfl rfl rfl hy3 ci_1 rfl (by omega) (by omega) (fun _ => rfl) (fun z8 hz8 => ?_)
        refine h_goto (pc' := 4) rfl rfl ?_
        exact h_wk [(0, .ref 98), (1, .int x0), (2, .int z7), (3, .int z8)] ⟨rfl, rfl, rfl, rfl, trivial⟩ (ih z7 _ rfl z8 _ hz8 (by omega) (g_bs_n ex0 (by omega) (by omega) (decide_eq_false (by omega)) (g_or0 hz7)) (by omega))
      · refine h_iconst (pc' := 30) (x := (Int32.ofInt 1)) rfl rfl rfl ?_
        refine h_iload_n (pc' := 31) rfl rfl rfl ?_
        refine h_shl1 (pc' := 32) rfl rfl ci_1 hy3 (by omega) (by omega) (fun z9 hz9 vz9 => ?_)
        refine h_goto (pc' := 36) rfl rfl ?_
        refine h_ior (pc' := 37) rfl rfl (fun z10 hz10 => ?_)
        refine h_istore_n (pc' := 38) (M := [(2, .int z10), (0, .ref 98), (1, .int x0), (3, .int y3)]) rfl rfl rfl rfl ?_
        refine h_iinc (pc' := 41) (M := fun z11 => [(3, .int z11), (2, .int z10), (0, .ref 98), (1, .int x0)]) rfl rfl rfl rfl hy3 ci_1 rfl (by omega) (by omega) (fun _ => rfl) (fun z11 hz11 => ?_)
        refine h_goto (pc' := 4) rfl rfl ?_
        exact h_wk [(0, .ref 98), (1, .int x0), (2, .int z10), (3, .int z11)] ⟨rfl, rfl, rfl, rfl, trivial⟩ (ih z10 _ rfl z11 _ hz11 (by omega) (g_bs_y ex0 (by omega) (by omega) (decide_eq_true (by omega)) (g_or_of hz10 hz9 hy3)) (by omega))
set_option maxHeartbeats 100000000 in
theorem n_liM {ns : Nat} (σ : h_S) (hI : h_I σ) (x0 : Int32) (a0 : Int) (hx0 : x0.toInt = a0) (ra0 : 0 ≤ a0 ∧ a0 ≤ 5) {Q : Option Value → h_S → Prop} (kk : ∀ (r : Int32) (b : Int) (hb : r.toInt = b), (r = g_bs (σ 98 1) (fun q => decide (σ 105 (6 * a0 + q) < 1000000)) 6 0 0) → Q (some (.int r)) σ) : h_T g_P (g_Y ns) 165 0 [(0, .ref 98), (1, .int x0)] [] σ Q := by
  refine h_iconst (pc' := 1) (x := (Int32.ofInt 0)) rfl rfl rfl ?_
  refine h_istore_n (pc' := 2) (M := [(2, .int (Int32.ofInt 0)), (0, .ref 98), (1, .int x0)]) rfl rfl rfl rfl ?_
  refine h_iconst (pc' := 3) (x := (Int32.ofInt 0)) rfl rfl rfl ?_
  refine h_istore_n (pc' := 4) (M := [(3, .int (Int32.ofInt 0)), (2, .int (Int32.ofInt 0)), (0, .ref 98), (1, .int x0)]) rfl rfl rfl rfl ?_
  exact h_wk [(0, .ref 98), (1, .int x0), (2, .int (Int32.ofInt 0)), (3, .int (Int32.ofInt 0))] ⟨rfl, rfl, rfl, rfl, trivial⟩ ((n_liM_l ns σ hI x0 a0 hx0 ra0 kk 1000000000000) (Int32.ofInt 0) _ ci_0 (Int32.ofInt 0) _ ci_0 (by omega) rfl (by omega))
