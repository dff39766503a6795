/-! SHEETS OF BOTH SIDES -/
def g_SH (s : h_S) : Prop := ∀ k, 0 ≤ k → k ≤ 3 → (s 96 k = -4 ∧ s 111 k = -4) ∨ (s 96 k = s 112 k ∧ 0 ≤ s 96 k ∧ s 95 k = s 111 k ∧ 0 ≤ s 111 k ∧ ∀ i, 0 ≤ i → i < s 96 k → s 94 (k * 40 + i) = s 113 (40 * k + i))
theorem g_SH.e {s s' : h_S} (h : g_SH s) (e1 : s' 94 = s 94) (e2 : s' 95 = s 95) (e3 : s' 96 = s 96) (e4 : s' 111 = s 111) (e5 : s' 112 = s 112) (e6 : s' 113 = s 113) : g_SH s' := fun k a b => by
  rw [e1, e2, e3, e4, e5, e6]
  exact h k a b
def g_zr (f f' : Int → Int) (b c : Int) : Prop := ∀ j, f' j = if b ≤ j ∧ j < b + c then 0 else f j
theorem g_zr_0 {f : Int → Int} {b : Int} : g_zr f f b 0 := fun j => by rw [if_neg (by omega)]
theorem g_zr_s {f f' f'' : Int → Int} {b c e v : Int} (h : g_zr f f' b c) (c0 : 0 ≤ c) (he : e = b + c) (hv : v = 0) (hf : f'' = g_set f' e v) : g_zr f f'' b (c + 1) := fun j => by
  subst hf; subst he; subst hv
  by_cases x : j = b + c
  · rw [g_set_p x, if_pos (by omega)]
  · rw [g_set_n x, h j]
    by_cases y : b ≤ j ∧ j < b + c
    · rw [if_pos y, if_pos (by omega)]
    · rw [if_neg y, if_neg (by omega)]
/-- a new sheet -/
theorem g_SH.new {s s' : h_S} {k l n : Int} (h : g_SH s) (k0 : 0 ≤ k) (k3 : k ≤ 3) (l0 : 0 ≤ l) (n0 : 0 ≤ n) (n4 : n ≤ 40) (sz : ∀ j, 0 ≤ j → j ≤ 3 → s 96 j ≤ 40) (e1 : g_zr (s 94) (s' 94) (k * 40) 40) (e2 : s' 95 = g_set (s 95) k l) (e3 : s' 96 = g_set (s 96) k n) (e4 : s' 111 = g_set (s 111) k l) (e5 : s' 112 = g_set (s 112) k n) (e6 : g_zr (s 113) (s' 113) (40 * k) 40) : g_SH s' := fun j a b => by
  rw [e2, e3, e4, e5]
  by_cases c : j = k
  · subst c
    rw [g_set_p rfl, g_set_p rfl, g_set_p rfl, g_set_p rfl]
    refine Or.inr ⟨rfl, n0, rfl, l0, fun i i0 i1 => ?_⟩
    rw [e1, e6, if_pos (by omega), if_pos (by omega)]
  · rw [g_set_n c, g_set_n c, g_set_n c, g_set_n c]
    have z := sz j a b
    rcases h j a b with y | y
    · exact Or.inl y
    · refine Or.inr ⟨y.1, y.2.1, y.2.2.1, y.2.2.2.1, fun i i0 i1 => ?_⟩
      rw [e1, e6, if_neg (by omega), if_neg (by omega)]
      exact y.2.2.2.2 i i0 i1
/-- a cell is laid -/
theorem g_SH.lay {s s' : h_S} {k i v v' : Int} (h : g_SH s) (k0 : 0 ≤ k) (k3 : k ≤ 3) (i0 : 0 ≤ i) (i4 : i < 40) (sz : ∀ j, 0 ≤ j → j ≤ 3 → s 96 j ≤ 40) (hv : v = v') (e1 : s' 94 = g_set (s 94) (k * 40 + i) v) (e2 : s' 95 = s 95) (e3 : s' 96 = s 96) (e4 : s' 111 = s 111) (e5 : s' 112 = s 112) (e6 : s' 113 = g_set (s 113) (40 * k + i) v') : g_SH s' := fun j a b => by
  rw [e2, e3, e4, e5]
  have z := sz j a b
  rcases h j a b with y | y
  · exact Or.inl y
  · refine Or.inr ⟨y.1, y.2.1, y.2.2.1, y.2.2.2.1, fun m m0 m1 => ?_⟩
    rw [e1, e6]
    by_cases c : j = k ∧ m = i
    · rw [g_set_p (by omega), g_set_p (by omega), hv]
    · rw [g_set_n (by omega), g_set_n (by omega)]
      exact y.2.2.2.2 m m0 m1
theorem g_zr_e {f f' f'' : Int → Int} {b c c' : Int} (h : g_zr f f' b c) (e : f'' = f') (hc : c ≤ c' ∧ c' ≤ c) : g_zr f f'' b c' := by
  have ec : c' = c := by omega
  subst e; subst ec
  exact h
theorem g_zr_f {f f' : Int → Int} {b : Int} (e : f' = f) : g_zr f f' b 0 := e ▸ g_zr_0
def kf_n_renew : List Nat := [97279, 98303, 99327]
set_option maxHeartbeats 100000000 in
set_option maxHeartbeats 100000000 in
theorem n_renew_l (ns : Nat) (σ : h_S) (hI : h_I σ) (x0 : Int32) (a0 : Int) (hx0 : x0.toInt = a0) (ra0 : 0 ≤ a0 ∧ a0 ≤ 3) (x1 : Int32) (a1 : Int) (hx1 : x1.toInt = a1) (ra1 : 0 ≤ a1 ∧ a1 ≤ 2) (x2 : Int32) (a2 : Int) (hx2 : x2.toInt = a2) (ra2 : 0 ≤ a2 ∧ a2 ≤ 40) {Q : Option Value → h_S → Prop} (kk : ∀ (τ : h_S), h_I τ → h_F (k_in kf_n_renew) τ σ → (g_zr (σ 94) (τ 94) (a0 * 40) 40) → (τ 95 = g_set (σ 95) a0 a1) → (τ 96 = g_set (σ 96) a0 a2) → Q none τ) : ∀ n : Nat, (∀ (s0 : h_S), h_I s0 → h_F (k_in kf_n_renew) s0 σ → ∀ (y4 : Int32) (b4 : Int), y4.toInt = b4 → (0 ≤ b4 ∧ b4 ≤ 40) → (g_zr (σ 94) (s0 94) (a0 * 40) b4) → (s0 95 = σ 95) → (s0 96 = σ 96) → (40 + 1 - b4) * 1000000 + 1000000000 ≤ (n : Int) → h_T g_P (g_Y ns) 67 3 [(0, .ref 93), (1, .int x0), (2, .int x1), (3, .int x2), (4, .int y4)] [] s0 Q) := by
  intro n
  induction n with
  | zero => exact by intro s0 I0 F0_ y4 b4 hy4 ry4 ex0 ex1 ex2 hm; exfalso; omega
  | succ n ih =>
    intro s0 I0 F0_ y4 b4 hy4 ry4 ex0 ex1 ex2 hm
    refine h_iload (pc' := 5) rfl rfl rfl ?_
    refine h_bipush (pc' := 7) (x := (Int32.ofInt 40)) rfl rfl cb_40 ?_
    refine h_cge (tg := 29) (pc' := 10) rfl rfl rfl hy4 ci_40 (fun c1 => ?_) (fun c1 => ?_)
    · refine h_aload_n (pc' := 30) rfl rfl rfl ?_
      refine h_getR (pc' := 33) rfl rfl rfl rfl rfl ?_
      refine h_iload_n (pc' := 34) rfl rfl rfl ?_
      refine h_iload_n (pc' := 35) rfl rfl rfl ?_
      refine h_iast (pc' := 36) rfl rfl rfl rfl hx0 (by omega) (by omega) hx1 (h_fgt (E := fun s => s 98 13 = s0 98 13 ∧ s = h_up s0 95 a0 a1) _ (in_95 I0 (by omega)) (F0_.up rfl) ⟨rfl, rfl⟩ (fun s2 Is2 Fs2 (es2 : s2 98 13 = s0 98 13 ∧ s2 = h_up s0 95 a0 a1) => ?_))
      have us2 := es2.2
      refine h_aload_n (pc' := 37) rfl rfl rfl ?_
      refine h_getR (pc' := 40) rfl rfl rfl rfl rfl ?_
      refine h_iload_n (pc' := 41) rfl rfl rfl ?_
      refine h_iload_n (pc' := 42) rfl rfl rfl ?_
      refine h_iast (pc' := 43) rfl rfl rfl rfl hx0 (by omega) (by omega) hx2 (h_fgt (E := fun s => s 98 13 = s0 98 13 ∧ s = h_up s2 96 a0 a2) _ (in_96 Is2 (by omega)) (Fs2.up rfl) ⟨es2.1, rfl⟩ (fun s3 Is3 Fs3 (es3 : s3 98 13 = s0 98 13 ∧ s3 = h_up s2 96 a0 a2) => ?_))
      clear es2
      have us3 := es3.2
      exact h_vret rfl rfl (kk _ Is3 Fs3 (g_zr_e ex0 ((h_upg us3 rfl).trans (h_upg us2 rfl)) (by omega)) ((h_upg us3 rfl).trans ((h_upf us2).trans (g_set_c ex1))) ((h_upf us3).trans (g_set_c ((h_upg us2 rfl).trans ex2))))
    · refine h_aload_n (pc' := 11) rfl rfl rfl ?_
      refine h_getR (pc' := 14) rfl rfl rfl rfl rfl ?_
      refine h_iload_n (pc' := 15) rfl rfl rfl ?_
      refine h_bipush (pc' := 17) (x := (Int32.ofInt 40)) rfl rfl cb_40 ?_
      refine h_imul (pc' := 18) rfl rfl hx0 ci_40 rfl (by omega) (by omega) (fun z4 hz4 => ?_)
      refine h_iload (pc' := 20) rfl rfl rfl ?_
      refine h_iadd (pc' := 21) rfl rfl hz4 hy4 rfl (by omega) (by omega) (fun z5 hz5 => ?_)
      refine h_iconst (pc' := 22) (x := (Int32.ofInt 0)) rfl rfl rfl ?_
      refine h_iast (pc' := 23) rfl rfl rfl rfl hz5 (by omega) (by omega) ci_0 (h_fgt (E := fun s => s 98 13 = s0 98 13 ∧ s = h_up s0 94 ((a0 * 40) + b4) 0) _ (in_94 I0 (h_rgv ci_0)) (F0_.up rfl) ⟨rfl, rfl⟩ (fun s6 Is6 Fs6 (es6 : s6 98 13 = s0 98 13 ∧ s6 = h_up s0 94 ((a0 * 40) + b4) 0) => ?_))
      have us6 := es6.2
      refine h_iinc (pc' := 26) (M := fun z7 => [(4, .int z7), (0, .ref 93), (1, .int x0), (2, .int x1), (3, .int x2)]) rfl rfl rfl rfl hy4 ci_1 rfl (by omega) (by omega) (fun _ => rfl) (fun z7 hz7 => ?_)
      refine h_goto (pc' := 3) rfl rfl ?_
      exact h_wk [(0, .ref 93), (1, .int x0), (2, .int x1), (3, .int x2), (4, .int z7)] ⟨rfl, rfl, rfl, rfl, rfl, trivial⟩ (ih _ Is6 Fs6 z7 _ hz7 (by omega) (g_zr_s ex0 (by omega) rfl rfl (h_upf us6)) ((h_upg us6 rfl).trans ex1) ((h_upg us6 rfl).trans ex2) (by omega))
set_option maxHeartbeats 100000000 in
set_option maxHeartbeats 100000000 in
theorem n_renew {ns : Nat} (σ : h_S) (hI : h_I σ) (x0 : Int32) (a0 : Int) (hx0 : x0.toInt = a0) (ra0 : 0 ≤ a0 ∧ a0 ≤ 3) (x1 : Int32) (a1 : Int) (hx1 : x1.toInt = a1) (ra1 : 0 ≤ a1 ∧ a1 ≤ 2) (x2 : Int32) (a2 : Int) (hx2 : x2.toInt = a2) (ra2 : 0 ≤ a2 ∧ a2 ≤ 40) {Q : Option Value → h_S → Prop} (kk : ∀ (τ : h_S), h_I τ → h_F (k_in kf_n_renew) τ σ → (g_zr (σ 94) (τ 94) (a0 * 40) 40) → (τ 95 = g_set (σ 95) a0 a1) → (τ 96 = g_set (σ 96) a0 a2) → Q none τ) : h_T g_P (g_Y ns) 67 0 [(0, .ref 93), (1, .int x0), (2, .int x1), (3, .int x2)] [] σ Q := by
  have F00 : h_F (k_in kf_n_renew) σ σ := h_F.rf
  refine h_iconst (pc' := 1) (x := (Int32.ofInt 0)) rfl rfl rfl ?_
  refine h_istore (pc' := 3) (M := [(4, .int (Int32.ofInt 0)), (0, .ref 93), (1, .int x0), (2, .int x1), (3, .int x2)]) rfl rfl rfl rfl ?_
  exact h_wk [(0, .ref 93), (1, .int x0), (2, .int x1), (3, .int x2), (4, .int (Int32.ofInt 0))] ⟨rfl, rfl, rfl, rfl, rfl, trivial⟩ ((n_renew_l ns σ hI x0 a0 hx0 ra0 x1 a1 hx1 ra1 x2 a2 hx2 ra2 kk 1000000000000) _ hI F00 (Int32.ofInt 0) _ ci_0 (by omega) g_zr_0 rfl rfl (by omega))
def kf_n_sheM : List Nat := [114687, 115711, 116735]
set_option maxHeartbeats 100000000 in
set_option maxHeartbeats 100000000 in
theorem n_sheM_l (ns : Nat) (σ : h_S) (hI : h_I σ) (x0 : Int32) (a0 : Int) (hx0 : x0.toInt = a0) (x1 : Int32) (a1 : Int) (hx1 : x1.toInt = a1) (x2 : Int32) (a2 : Int) (hx2 : x2.toInt = a2) {Q : Option Value → h_S → Prop} (kk : ∀ (r : Int32) (b : Int) (hb : r.toInt = b) (τ : h_S), h_I τ → h_F (k_in kf_n_sheM) τ σ → ((-14) ≤ b ∧ b ≤ 1) → ((b = -1 ∧ (a0 < 0 ∨ 3 < a0 ∨ a1 < 0 ∨ 2 < a1 ∨ 40 < a2) ∧ τ 111 = σ 111 ∧ τ 112 = σ 112 ∧ τ 113 = σ 113) ∨ (b = -14 ∧ (0 ≤ a0 ∧ a0 ≤ 3 ∧ 0 ≤ a1 ∧ a1 ≤ 2 ∧ a2 < 0) ∧ τ 111 = σ 111 ∧ τ 112 = σ 112 ∧ τ 113 = σ 113) ∨ (b = 1 ∧ (0 ≤ a0 ∧ a0 ≤ 3 ∧ 0 ≤ a1 ∧ a1 ≤ 2 ∧ 0 ≤ a2 ∧ a2 ≤ 40) ∧ τ 111 = g_set (σ 111) a0 a1 ∧ τ 112 = g_set (σ 112) a0 a2 ∧ g_zr (σ 113) (τ 113) (40 * a0) 40)) → Q (some (.int r)) τ) : ∀ n : Nat, (∀ (s0 : h_S), h_I s0 → h_F (k_in kf_n_sheM) s0 σ → ∀ (y4 : Int32) (b4 : Int), y4.toInt = b4 → (0 ≤ b4 ∧ b4 ≤ 40) → (0 ≤ a0 ∧ a0 ≤ 3 ∧ 0 ≤ a1 ∧ a1 ≤ 2 ∧ 0 ≤ a2 ∧ a2 ≤ 40) → (s0 111 = g_set (σ 111) a0 a1) → (s0 112 = g_set (σ 112) a0 a2) → (g_zr (σ 113) (s0 113) (40 * a0) b4) → (40 + 1 - b4) * 1000000 + 1000000000 ≤ (n : Int) → h_T g_P (g_Y ns) 220 56 [(0, .ref 98), (1, .int x0), (2, .int x1), (3, .int x2), (4, .int y4)] [] s0 Q) := by
  intro n
  induction n with
  | zero => exact by intro s0 I0 F0_ y4 b4 hy4 ry4 ex0 ex1 ex2 ex3 hm; exfalso; omega
  | succ n ih =>
    intro s0 I0 F0_ y4 b4 hy4 ry4 ex0 ex1 ex2 ex3 hm
    refine h_iload (pc' := 58) rfl rfl rfl ?_
    refine h_bipush (pc' := 60) (x := (Int32.ofInt 40)) rfl rfl cb_40 ?_
    refine h_cge (tg := 82) (pc' := 63) rfl rfl rfl hy4 ci_40 (fun c1 => ?_) (fun c1 => ?_)
    · refine h_iconst (pc' := 83) (x := (Int32.ofInt 1)) rfl rfl rfl ?_
      exact h_iret rfl rfl (kk _ _ ci_1 _ I0 F0_ (by omega) (Or.inr (Or.inr ⟨by omega, ex0, ex1, ex2, g_zr_e ex3 rfl (by omega)⟩)))
    · refine h_aload_n (pc' := 64) rfl rfl rfl ?_
      refine h_getR (pc' := 67) rfl rfl rfl rfl rfl ?_
      refine h_bipush (pc' := 69) (x := (Int32.ofInt 40)) rfl rfl cb_40 ?_
      refine h_iload_n (pc' := 70) rfl rfl rfl ?_
      refine h_imul (pc' := 71) rfl rfl ci_40 hx0 rfl (by have g0 := h_rgv hx0; omega) (by have g0 := h_rgv hx0; omega) (fun z2 hz2 => ?_)
      refine h_iload (pc' := 73) rfl rfl rfl ?_
      refine h_iadd (pc' := 74) rfl rfl hz2 hy4 rfl (by omega) (by omega) (fun z3 hz3 => ?_)
      refine h_iconst (pc' := 75) (x := (Int32.ofInt 0)) rfl rfl rfl ?_
      refine h_iast (pc' := 76) rfl rfl rfl rfl hz3 (by omega) (by omega) ci_0 (h_fgt (E := fun s => s 98 13 = s0 98 13 ∧ s = h_up s0 113 ((40 * a0) + b4) 0) _ (in_113 I0 (h_rgv ci_0)) (F0_.up rfl) ⟨rfl, rfl⟩ (fun s4 Is4 Fs4 (es4 : s4 98 13 = s0 98 13 ∧ s4 = h_up s0 113 ((40 * a0) + b4) 0) => ?_))
      have us4 := es4.2
      refine h_iinc (pc' := 79) (M := fun z5 => [(4, .int z5), (0, .ref 98), (1, .int x0), (2, .int x1), (3, .int x2)]) rfl rfl rfl rfl hy4 ci_1 rfl (by omega) (by omega) (fun _ => rfl) (fun z5 hz5 => ?_)
      refine h_goto (pc' := 56) rfl rfl ?_
      exact h_wk [(0, .ref 98), (1, .int x0), (2, .int x1), (3, .int x2), (4, .int z5)] ⟨rfl, rfl, rfl, rfl, rfl, trivial⟩ (ih _ Is4 Fs4 z5 _ hz5 (by omega) (by omega) ((h_upg us4 rfl).trans ex1) ((h_upg us4 rfl).trans ex2) (g_zr_s ex3 (by omega) rfl rfl (h_upf us4)) (by omega))
set_option maxHeartbeats 100000000 in
set_option maxHeartbeats 100000000 in
theorem n_sheM {ns : Nat} (σ : h_S) (hI : h_I σ) (x0 : Int32) (a0 : Int) (hx0 : x0.toInt = a0) (x1 : Int32) (a1 : Int) (hx1 : x1.toInt = a1) (x2 : Int32) (a2 : Int) (hx2 : x2.toInt = a2) {Q : Option Value → h_S → Prop} (kk : ∀ (r : Int32) (b : Int) (hb : r.toInt = b) (τ : h_S), h_I τ → h_F (k_in kf_n_sheM) τ σ → ((-14) ≤ b ∧ b ≤ 1) → ((b = -1 ∧ (a0 < 0 ∨ 3 < a0 ∨ a1 < 0 ∨ 2 < a1 ∨ 40 < a2) ∧ τ 111 = σ 111 ∧ τ 112 = σ 112 ∧ τ 113 = σ 113) ∨ (b = -14 ∧ (0 ≤ a0 ∧ a0 ≤ 3 ∧ 0 ≤ a1 ∧ a1 ≤ 2 ∧ a2 < 0) ∧ τ 111 = σ 111 ∧ τ 112 = σ 112 ∧ τ 113 = σ 113) ∨ (b = 1 ∧ (0 ≤ a0 ∧ a0 ≤ 3 ∧ 0 ≤ a1 ∧ a1 ≤ 2 ∧ 0 ≤ a2 ∧ a2 ≤ 40) ∧ τ 111 = g_set (σ 111) a0 a1 ∧ τ 112 = g_set (σ 112) a0 a2 ∧ g_zr (σ 113) (τ 113) (40 * a0) 40)) → Q (some (.int r)) τ) : h_T g_P (g_Y ns) 220 0 [(0, .ref 98), (1, .int x0), (2, .int x1), (3, .int x2)] [] σ Q := by
  have F00 : h_F (k_in kf_n_sheM) σ σ := h_F.rf
  refine h_iload_n (pc' := 1) rfl rfl rfl ?_
  refine h_i2l (pc' := 2) rfl rfl hx0 (fun z1 hz1 => ?_)
  refine h_lconst (pc' := 3) (x := (Int64.ofInt 0)) rfl rfl rfl ?_
  refine h_ldc2 (pc' := 6) (x := (Int64.ofInt 3)) rfl rfl rfl ?_
  refine h_calls (pc' := 9) (M := [(0, .long z1), (2, .long (Int64.ofInt 0)), (4, .long (Int64.ofInt 3))]) rfl rfl rfl rfl rfl rfl ?_
  refine h_lload_n (pc' := 1) rfl rfl rfl ?_
  refine h_lload_n (pc' := 2) rfl rfl rfl ?_
  refine h_lcmp (pc' := 3) rfl rfl hz1 cl_0 (fun z2 hz2 => ?_)
  refine h_zlt (tg := 17) (pc' := 6) rfl rfl rfl rfl (fun c3 => ?_) (fun c3 => ?_)
  · replace c3 := (h_lcr hz2).1 c3
    clear hz2
    refine h_iconst (pc' := 18) (x := (Int32.ofInt 0)) rfl rfl rfl ?_
    refine h_zret rfl rfl ci_0 (by omega) (h_Kv ?_)
    refine h_zeq (tg := 30) (pc' := 12) rfl rfl rfl ci_0 (fun c4 => ?_) (fun c4 => absurd c4 (by omega))
    refine h_iconst (pc' := 31) (x := (Int32.ofInt (-1))) rfl rfl rfl ?_
    exact h_iret rfl rfl (kk _ _ ci_m1 _ hI F00 (by omega) (by first | exact Or.inl ⟨by omega, by omega, rfl, rfl, rfl⟩ | exact Or.inr (Or.inl ⟨by omega, by omega, rfl, rfl, rfl⟩)))
  · replace c3 := (h_lcr hz2).2.1 c3
    clear hz2
    refine h_lload_n (pc' := 7) rfl rfl rfl ?_
    refine h_lload (pc' := 9) rfl rfl rfl ?_
    refine h_lcmp (pc' := 10) rfl rfl hz1 cl_3 (fun z5 hz5 => ?_)
    refine h_zgt (tg := 17) (pc' := 13) rfl rfl rfl rfl (fun c6 => ?_) (fun c6 => ?_)
    · replace c6 := (h_lcr hz5).2.2.2.1 c6
      clear hz5
      refine h_iconst (pc' := 18) (x := (Int32.ofInt 0)) rfl rfl rfl ?_
      refine h_zret rfl rfl ci_0 (by omega) (h_Kv ?_)
      refine h_zeq (tg := 30) (pc' := 12) rfl rfl rfl ci_0 (fun c7 => ?_) (fun c7 => absurd c7 (by omega))
      refine h_iconst (pc' := 31) (x := (Int32.ofInt (-1))) rfl rfl rfl ?_
      exact h_iret rfl rfl (kk _ _ ci_m1 _ hI F00 (by omega) (by first | exact Or.inl ⟨by omega, by omega, rfl, rfl, rfl⟩ | exact Or.inr (Or.inl ⟨by omega, by omega, rfl, rfl, rfl⟩)))
    · replace c6 := (h_lcr hz5).2.2.1 c6
      clear hz5
      refine h_iconst (pc' := 14) (x := (Int32.ofInt 1)) rfl rfl rfl ?_
      refine h_goto (pc' := 18) rfl rfl ?_
      refine h_zret rfl rfl ci_1 (by omega) (h_Kv ?_)
      refine h_zeq (tg := 30) (pc' := 12) rfl rfl rfl ci_1 (fun c8 => absurd c8 (by omega)) (fun c8 => ?_)
      refine h_iload_n (pc' := 13) rfl rfl rfl ?_
      refine h_i2l (pc' := 14) rfl rfl hx1 (fun z9 hz9 => ?_)
      refine h_lconst (pc' := 15) (x := (Int64.ofInt 0)) rfl rfl rfl ?_
      refine h_ldc2 (pc' := 18) (x := (Int64.ofInt 2)) rfl rfl rfl ?_
      refine h_calls (pc' := 21) (M := [(0, .long z9), (2, .long (Int64.ofInt 0)), (4, .long (Int64.ofInt 2))]) rfl rfl rfl rfl rfl rfl ?_
      refine h_lload_n (pc' := 1) rfl rfl rfl ?_
      refine h_lload_n (pc' := 2) rfl rfl rfl ?_
      refine h_lcmp (pc' := 3) rfl rfl hz9 cl_0 (fun z10 hz10 => ?_)
      refine h_zlt (tg := 17) (pc' := 6) rfl rfl rfl rfl (fun c11 => ?_) (fun c11 => ?_)
      · replace c11 := (h_lcr hz10).1 c11
        clear hz10
        refine h_iconst (pc' := 18) (x := (Int32.ofInt 0)) rfl rfl rfl ?_
        refine h_zret rfl rfl ci_0 (by omega) (h_Kv ?_)
        refine h_zeq (tg := 30) (pc' := 24) rfl rfl rfl ci_0 (fun c12 => ?_) (fun c12 => absurd c12 (by omega))
        refine h_iconst (pc' := 31) (x := (Int32.ofInt (-1))) rfl rfl rfl ?_
        exact h_iret rfl rfl (kk _ _ ci_m1 _ hI F00 (by omega) (by first | exact Or.inl ⟨by omega, by omega, rfl, rfl, rfl⟩ | exact Or.inr (Or.inl ⟨by omega, by omega, rfl, rfl, rfl⟩)))
      · replace c11 := (h_lcr hz10).2.1 c11
        clear hz10
        refine h_lload_n (pc' := 7) rfl rfl rfl ?_
        refine h_lload (pc' := 9) rfl rfl rfl ?_
        refine h_lcmp (pc' := 10) rfl rfl hz9 cl_2 (fun z13 hz13 => ?_)
        refine h_zgt (tg := 17) (pc' := 13) rfl rfl rfl rfl (fun c14 => ?_) (fun c14 => ?_)
        · replace c14 := (h_lcr hz13).2.2.2.1 c14
          clear hz13
          refine h_iconst (pc' := 18) (x := (Int32.ofInt 0)) rfl rfl rfl ?_
          refine h_zret rfl rfl ci_0 (by omega) (h_Kv ?_)
          refine h_zeq (tg := 30) (pc' := 24) rfl rfl rfl ci_0 (fun c15 => ?_) (fun c15 => absurd c15 (by omega))
          refine h_iconst (pc' := 31) (x := (Int32.ofInt (-1))) rfl rfl rfl ?_
          exact h_iret rfl rfl (kk _ _ ci_m1 _ hI F00 (by omega) (by first | exact Or.inl ⟨by omega, by omega, rfl, rfl, rfl⟩ | exact Or.inr (Or.inl ⟨by omega, by omega, rfl, rfl, rfl⟩)))
        · replace c14 := (h_lcr hz13).2.2.1 c14
          clear hz13
          refine h_iconst (pc' := 14) (x := (Int32.ofInt 1)) rfl rfl rfl ?_
          refine h_goto (pc' := 18) rfl rfl ?_
          refine h_zret rfl rfl ci_1 (by omega) (h_Kv ?_)
          refine h_zeq (tg := 30) (pc' := 24) rfl rfl rfl ci_1 (fun c16 => absurd c16 (by omega)) (fun c16 => ?_)
          refine h_iload_n (pc' := 25) rfl rfl rfl ?_
          refine h_bipush (pc' := 27) (x := (Int32.ofInt 40)) rfl rfl cb_40 ?_
          refine h_cle (tg := 32) (pc' := 30) rfl rfl rfl hx2 ci_40 (fun c17 => ?_) (fun c17 => ?_)
          · refine h_iload_n (pc' := 33) rfl rfl rfl ?_
            refine h_zge (tg := 39) (pc' := 36) rfl rfl rfl hx2 (fun c18 => ?_) (fun c18 => ?_)
            · refine h_aload_n (pc' := 40) rfl rfl rfl ?_
              refine h_getR (pc' := 43) rfl rfl rfl rfl rfl ?_
              refine h_iload_n (pc' := 44) rfl rfl rfl ?_
              refine h_iload_n (pc' := 45) rfl rfl rfl ?_
              refine h_iast (pc' := 46) rfl rfl rfl rfl hx0 (by omega) (by omega) hx1 (h_fgt (E := fun s => s 98 13 = σ 98 13 ∧ s = h_up σ 111 a0 a1) _ (in_111 hI (by omega)) (F00.up rfl) ⟨rfl, rfl⟩ (fun s19 Is19 Fs19 (es19 : s19 98 13 = σ 98 13 ∧ s19 = h_up σ 111 a0 a1) => ?_))
              have us19 := es19.2
              refine h_aload_n (pc' := 47) rfl rfl rfl ?_
              refine h_getR (pc' := 50) rfl rfl rfl rfl rfl ?_
              refine h_iload_n (pc' := 51) rfl rfl rfl ?_
              refine h_iload_n (pc' := 52) rfl rfl rfl ?_
              refine h_iast (pc' := 53) rfl rfl rfl rfl hx0 (by omega) (by omega) hx2 (h_fgt (E := fun s => s 98 13 = σ 98 13 ∧ s = h_up s19 112 a0 a2) _ (in_112 Is19 (by omega)) (Fs19.up rfl) ⟨es19.1, rfl⟩ (fun s20 Is20 Fs20 (es20 : s20 98 13 = σ 98 13 ∧ s20 = h_up s19 112 a0 a2) => ?_))
              clear es19
              have us20 := es20.2
              refine h_iconst (pc' := 54) (x := (Int32.ofInt 0)) rfl rfl rfl ?_
              refine h_istore (pc' := 56) (M := [(4, .int (Int32.ofInt 0)), (0, .ref 98), (1, .int x0), (2, .int x1), (3, .int x2)]) rfl rfl rfl rfl ?_
              exact h_wk [(0, .ref 98), (1, .int x0), (2, .int x1), (3, .int x2), (4, .int (Int32.ofInt 0))] ⟨rfl, rfl, rfl, rfl, rfl, trivial⟩ ((n_sheM_l ns σ hI x0 a0 hx0 x1 a1 hx1 x2 a2 hx2 kk 1000000000000) _ Is20 Fs20 (Int32.ofInt 0) _ ci_0 (by omega) (by omega) ((h_upg us20 rfl).trans (h_upf us19)) ((h_upf us20).trans (g_set_c (h_upg us19 rfl))) (g_zr_f ((h_upg us20 rfl).trans (h_upg us19 rfl))) (by omega))
            · refine h_bipush (pc' := 38) (x := (Int32.ofInt (-14))) rfl rfl cb_m14 ?_
              exact h_iret rfl rfl (kk _ _ ci_m14 _ hI F00 (by omega) (by first | exact Or.inl ⟨by omega, by omega, rfl, rfl, rfl⟩ | exact Or.inr (Or.inl ⟨by omega, by omega, rfl, rfl, rfl⟩)))
          · refine h_iconst (pc' := 31) (x := (Int32.ofInt (-1))) rfl rfl rfl ?_
            exact h_iret rfl rfl (kk _ _ ci_m1 _ hI F00 (by omega) (by first | exact Or.inl ⟨by omega, by omega, rfl, rfl, rfl⟩ | exact Or.inr (Or.inl ⟨by omega, by omega, rfl, rfl, rfl⟩)))
