set_option maxHeartbeats 100000000 in
theorem u_renew0_l (ns : Nat) (σ : h_S) (hI : h_I σ) (x1 : Int32) (a1 : Int) (hx1 : x1.toInt = a1) (ra1 : 0 ≤ a1 ∧ a1 ≤ 2) (x2 : Int32) (a2 : Int) (hx2 : x2.toInt = a2) (ra2 : 0 ≤ a2 ∧ a2 ≤ 40) {Q : Option Value → h_S → Prop} (kk : ∀ (τ : h_S), h_I τ → h_F k_n0 τ σ → (τ 95 1 = σ 95 1) → (τ 95 2 = σ 95 2) → (τ 95 3 = σ 95 3) → (τ 96 1 = σ 96 1) → (τ 96 2 = σ 96 2) → (τ 96 3 = σ 96 3) → (τ 111 0 = σ 111 0) → (τ 111 1 = σ 111 1) → (τ 111 2 = σ 111 2) → (τ 111 3 = σ 111 3) → (τ 112 0 = σ 112 0) → (τ 112 1 = σ 112 1) → (τ 112 2 = σ 112 2) → (τ 112 3 = σ 112 3) → (τ 95 0 = a1) → (τ 96 0 = a2) → Q none τ) : ∀ n : Nat, (∀ (s0 : h_S), h_I s0 → h_F k_n0 s0 σ → ∀ (y4 : Int32) (b4 : Int), y4.toInt = b4 → (0 ≤ b4 ∧ b4 ≤ 40) → (s0 95 0 = σ 95 0) → (s0 95 1 = σ 95 1) → (s0 95 2 = σ 95 2) → (s0 95 3 = σ 95 3) → (s0 96 0 = σ 96 0) → (s0 96 1 = σ 96 1) → (s0 96 2 = σ 96 2) → (s0 96 3 = σ 96 3) → (s0 111 0 = σ 111 0) → (s0 111 1 = σ 111 1) → (s0 111 2 = σ 111 2) → (s0 111 3 = σ 111 3) → (s0 112 0 = σ 112 0) → (s0 112 1 = σ 112 1) → (s0 112 2 = σ 112 2) → (s0 112 3 = σ 112 3) → (40 + 1 - b4) * 1000000 + 1000000000 ≤ (n : Int) → h_T g_P (g_Y ns) 67 3 [(0, .ref 93), (1, .int (Int32.ofInt 0)), (2, .int x1), (3, .int x2), (4, .int y4)] [] s0 Q) := by
  intro n
  induction n with
  | zero => exact by intro s0 I0 F0_ y4 b4 hy4 ry4 ex0 ex1 ex2 ex3 ex4 ex5 ex6 ex7 ex8 ex9 ex10 ex11 ex12 ex13 ex14 ex15 hm; exfalso; omega
  | succ n ih =>
    intro s0 I0 F0_ y4 b4 hy4 ry4 ex0 ex1 ex2 ex3 ex4 ex5 ex6 ex7 ex8 ex9 ex10 ex11 ex12 ex13 ex14 ex15 hm
    refine h_iload (pc' := 5) rfl rfl rfl ?_
    refine h_bipush (pc' := 7) (x := (Int32.ofInt 40)) rfl rfl cb_40 ?_
    refine h_cge (tg := 29) (pc' := 10) rfl rfl rfl hy4 ci_40 (fun c1 => ?_) (fun c1 => ?_)
    · refine h_aload_n (pc' := 30) rfl rfl rfl ?_
      refine h_getR (pc' := 33) rfl rfl rfl rfl rfl ?_
      refine h_iload_n (pc' := 34) rfl rfl rfl ?_
      refine h_iload_n (pc' := 35) rfl rfl rfl ?_
      refine h_iast (pc' := 36) rfl rfl rfl rfl ci_0 (by omega) (by omega) hx1 (h_fgt (E := fun s => s 95 0 = a1 ∧ s 95 1 = s0 95 1 ∧ s 95 2 = s0 95 2 ∧ s 95 3 = s0 95 3 ∧ s 96 0 = s0 96 0 ∧ s 96 1 = s0 96 1 ∧ s 96 2 = s0 96 2 ∧ s 96 3 = s0 96 3 ∧ s 111 0 = s0 111 0 ∧ s 111 1 = s0 111 1 ∧ s 111 2 = s0 111 2 ∧ s 111 3 = s0 111 3 ∧ s 112 0 = s0 112 0 ∧ s 112 1 = s0 112 1 ∧ s 112 2 = s0 112 2 ∧ s 112 3 = s0 112 3) _ (in_95 I0 (by omega)) (F0_.up rfl) ⟨rfl, rfl, rfl, rfl, rfl, rfl, rfl, rfl, rfl, rfl, rfl, rfl, rfl, rfl, rfl, rfl⟩ (fun s2 Is2 Fs2 (es2 : s2 95 0 = a1 ∧ s2 95 1 = s0 95 1 ∧ s2 95 2 = s0 95 2 ∧ s2 95 3 = s0 95 3 ∧ s2 96 0 = s0 96 0 ∧ s2 96 1 = s0 96 1 ∧ s2 96 2 = s0 96 2 ∧ s2 96 3 = s0 96 3 ∧ s2 111 0 = s0 111 0 ∧ s2 111 1 = s0 111 1 ∧ s2 111 2 = s0 111 2 ∧ s2 111 3 = s0 111 3 ∧ s2 112 0 = s0 112 0 ∧ s2 112 1 = s0 112 1 ∧ s2 112 2 = s0 112 2 ∧ s2 112 3 = s0 112 3) => ?_))
      refine h_aload_n (pc' := 37) rfl rfl rfl ?_
      refine h_getR (pc' := 40) rfl rfl rfl rfl rfl ?_
      refine h_iload_n (pc' := 41) rfl rfl rfl ?_
      refine h_iload_n (pc' := 42) rfl rfl rfl ?_
      refine h_iast (pc' := 43) rfl rfl rfl rfl ci_0 (by omega) (by omega) hx2 (h_fgt (E := fun s => s 95 0 = a1 ∧ s 95 1 = s0 95 1 ∧ s 95 2 = s0 95 2 ∧ s 95 3 = s0 95 3 ∧ s 96 0 = a2 ∧ s 96 1 = s0 96 1 ∧ s 96 2 = s0 96 2 ∧ s 96 3 = s0 96 3 ∧ s 111 0 = s0 111 0 ∧ s 111 1 = s0 111 1 ∧ s 111 2 = s0 111 2 ∧ s 111 3 = s0 111 3 ∧ s 112 0 = s0 112 0 ∧ s 112 1 = s0 112 1 ∧ s 112 2 = s0 112 2 ∧ s 112 3 = s0 112 3) _ (in_96 Is2 (by omega)) (Fs2.up rfl) ⟨es2.1, es2.2.1, es2.2.2.1, es2.2.2.2.1, rfl, es2.2.2.2.2.2.1, es2.2.2.2.2.2.2.1, es2.2.2.2.2.2.2.2.1, es2.2.2.2.2.2.2.2.2.1, es2.2.2.2.2.2.2.2.2.2.1, es2.2.2.2.2.2.2.2.2.2.2.1, es2.2.2.2.2.2.2.2.2.2.2.2.1, es2.2.2.2.2.2.2.2.2.2.2.2.2.1, es2.2.2.2.2.2.2.2.2.2.2.2.2.2.1, es2.2.2.2.2.2.2.2.2.2.2.2.2.2.2.1, es2.2.2.2.2.2.2.2.2.2.2.2.2.2.2.2⟩ (fun s3 Is3 Fs3 (es3 : s3 95 0 = a1 ∧ s3 95 1 = s0 95 1 ∧ s3 95 2 = s0 95 2 ∧ s3 95 3 = s0 95 3 ∧ s3 96 0 = a2 ∧ s3 96 1 = s0 96 1 ∧ s3 96 2 = s0 96 2 ∧ s3 96 3 = s0 96 3 ∧ s3 111 0 = s0 111 0 ∧ s3 111 1 = s0 111 1 ∧ s3 111 2 = s0 111 2 ∧ s3 111 3 = s0 111 3 ∧ s3 112 0 = s0 112 0 ∧ s3 112 1 = s0 112 1 ∧ s3 112 2 = s0 112 2 ∧ s3 112 3 = s0 112 3) => ?_))
      clear es2
      exact h_vret rfl rfl (kk _ Is3 Fs3 (by omega) (by omega) (by omega) (by omega) (by omega) (by omega) (by omega) (by omega) (by omega) (by omega) (by omega) (by omega) (by omega) (by omega) (by omega) (by omega))
    · refine h_aload_n (pc' := 11) rfl rfl rfl ?_
      refine h_getR (pc' := 14) rfl rfl rfl rfl rfl ?_
      refine h_iload_n (pc' := 15) rfl rfl rfl ?_
      refine h_bipush (pc' := 17) (x := (Int32.ofInt 40)) rfl rfl cb_40 ?_
      refine h_imul (pc' := 18) (c := 0) rfl rfl ci_0 ci_40 rfl (by omega) (by omega) (fun z4 hz4 => ?_)
      refine h_iload (pc' := 20) rfl rfl rfl ?_
      refine h_iadd (pc' := 21) rfl rfl hz4 hy4 rfl (by omega) (by omega) (fun z5 hz5 => ?_)
      refine h_iconst (pc' := 22) (x := (Int32.ofInt 0)) rfl rfl rfl ?_
      refine h_iast (pc' := 23) rfl rfl rfl rfl hz5 (by omega) (by omega) ci_0 (h_fgt (E := fun s => s 95 0 = s0 95 0 ∧ s 95 1 = s0 95 1 ∧ s 95 2 = s0 95 2 ∧ s 95 3 = s0 95 3 ∧ s 96 0 = s0 96 0 ∧ s 96 1 = s0 96 1 ∧ s 96 2 = s0 96 2 ∧ s 96 3 = s0 96 3 ∧ s 111 0 = s0 111 0 ∧ s 111 1 = s0 111 1 ∧ s 111 2 = s0 111 2 ∧ s 111 3 = s0 111 3 ∧ s 112 0 = s0 112 0 ∧ s 112 1 = s0 112 1 ∧ s 112 2 = s0 112 2 ∧ s 112 3 = s0 112 3) _ (in_94 I0 (h_rgv ci_0)) (F0_.up rfl) ⟨rfl, rfl, rfl, rfl, rfl, rfl, rfl, rfl, rfl, rfl, rfl, rfl, rfl, rfl, rfl, rfl⟩ (fun s6 Is6 Fs6 (es6 : s6 95 0 = s0 95 0 ∧ s6 95 1 = s0 95 1 ∧ s6 95 2 = s0 95 2 ∧ s6 95 3 = s0 95 3 ∧ s6 96 0 = s0 96 0 ∧ s6 96 1 = s0 96 1 ∧ s6 96 2 = s0 96 2 ∧ s6 96 3 = s0 96 3 ∧ s6 111 0 = s0 111 0 ∧ s6 111 1 = s0 111 1 ∧ s6 111 2 = s0 111 2 ∧ s6 111 3 = s0 111 3 ∧ s6 112 0 = s0 112 0 ∧ s6 112 1 = s0 112 1 ∧ s6 112 2 = s0 112 2 ∧ s6 112 3 = s0 112 3) => ?_))
      refine h_iinc (pc' := 26) (M := fun z7 => [(4, .int z7), (0, .ref 93), (1, .int (Int32.ofInt 0)), (2, .int x1), (3, .int x2)]) rfl rfl rfl rfl hy4 ci_1 rfl (by omega) (by omega) (fun _ => rfl) (fun z7 hz7 => ?_)
      refine h_goto (pc' := 3) rfl rfl ?_
      exact h_wk [(0, .ref 93), (1, .int (Int32.ofInt 0)), (2, .int x1), (3, .int x2), (4, .int z7)] ⟨rfl, rfl, rfl, rfl, rfl, trivial⟩ (ih _ Is6 Fs6 z7 _ hz7 (by omega) (by omega) (by omega) (by omega) (by omega) (by omega) (by omega) (by omega) (by omega) (by omega) (by omega) (by omega) (by omega) (by omega) (by omega) (by omega) (by omega) (by omega))
set_option maxHeartbeats 100000000 in
theorem u_renew0 {ns : Nat} (σ : h_S) (hI : h_I σ) (x1 : Int32) (a1 : Int) (hx1 : x1.toInt = a1) (ra1 : 0 ≤ a1 ∧ a1 ≤ 2) (x2 : Int32) (a2 : Int) (hx2 : x2.toInt = a2) (ra2 : 0 ≤ a2 ∧ a2 ≤ 40) {Q : Option Value → h_S → Prop} (kk : ∀ (τ : h_S), h_I τ → h_F k_n0 τ σ → (τ 95 1 = σ 95 1) → (τ 95 2 = σ 95 2) → (τ 95 3 = σ 95 3) → (τ 96 1 = σ 96 1) → (τ 96 2 = σ 96 2) → (τ 96 3 = σ 96 3) → (τ 111 0 = σ 111 0) → (τ 111 1 = σ 111 1) → (τ 111 2 = σ 111 2) → (τ 111 3 = σ 111 3) → (τ 112 0 = σ 112 0) → (τ 112 1 = σ 112 1) → (τ 112 2 = σ 112 2) → (τ 112 3 = σ 112 3) → (τ 95 0 = a1) → (τ 96 0 = a2) → Q none τ) : h_T g_P (g_Y ns) 67 0 [(0, .ref 93), (1, .int (Int32.ofInt 0)), (2, .int x1), (3, .int x2)] [] σ Q := by
  have F00 : h_F k_n0 σ σ := h_F.rf
  refine h_iconst (pc' := 1) (x := (Int32.ofInt 0)) rfl rfl rfl ?_
  refine h_istore (pc' := 3) (M := [(4, .int (Int32.ofInt 0)), (0, .ref 93), (1, .int (Int32.ofInt 0)), (2, .int x1), (3, .int x2)]) rfl rfl rfl rfl ?_
  exact h_wk [(0, .ref 93), (1, .int (Int32.ofInt 0)), (2, .int x1), (3, .int x2), (4, .int (Int32.ofInt 0))] ⟨rfl, rfl, rfl, rfl, rfl, trivial⟩ ((u_renew0_l ns σ hI x1 a1 hx1 ra1 x2 a2 hx2 ra2 kk 1000000000000) _ hI F00 (Int32.ofInt 0) _ ci_0 (by omega) (by omega) (by omega) (by omega) (by omega) (by omega) (by omega) (by omega) (by omega) (by omega) (by omega) (by omega) (by omega) (by omega) (by omega) (by omega) (by omega) (by omega))
set_option maxHeartbeats 100000000 in
theorem u_renew1_l (ns : Nat) (σ : h_S) (hI : h_I σ) (x1 : Int32) (a1 : Int) (hx1 : x1.toInt = a1) (ra1 : 0 ≤ a1 ∧ a1 ≤ 2) (x2 : Int32) (a2 : Int) (hx2 : x2.toInt = a2) (ra2 : 0 ≤ a2 ∧ a2 ≤ 40) {Q : Option Value → h_S → Prop} (kk : ∀ (τ : h_S), h_I τ → h_F k_n0 τ σ → (τ 95 0 = σ 95 0) → (τ 95 2 = σ 95 2) → (τ 95 3 = σ 95 3) → (τ 96 0 = σ 96 0) → (τ 96 2 = σ 96 2) → (τ 96 3 = σ 96 3) → (τ 111 0 = σ 111 0) → (τ 111 1 = σ 111 1) → (τ 111 2 = σ 111 2) → (τ 111 3 = σ 111 3) → (τ 112 0 = σ 112 0) → (τ 112 1 = σ 112 1) → (τ 112 2 = σ 112 2) → (τ 112 3 = σ 112 3) → (τ 95 1 = a1) → (τ 96 1 = a2) → Q none τ) : ∀ n : Nat, (∀ (s0 : h_S), h_I s0 → h_F k_n0 s0 σ → ∀ (y4 : Int32) (b4 : Int), y4.toInt = b4 → (0 ≤ b4 ∧ b4 ≤ 40) → (s0 95 0 = σ 95 0) → (s0 95 1 = σ 95 1) → (s0 95 2 = σ 95 2) → (s0 95 3 = σ 95 3) → (s0 96 0 = σ 96 0) → (s0 96 1 = σ 96 1) → (s0 96 2 = σ 96 2) → (s0 96 3 = σ 96 3) → (s0 111 0 = σ 111 0) → (s0 111 1 = σ 111 1) → (s0 111 2 = σ 111 2) → (s0 111 3 = σ 111 3) → (s0 112 0 = σ 112 0) → (s0 112 1 = σ 112 1) → (s0 112 2 = σ 112 2) → (s0 112 3 = σ 112 3) → (40 + 1 - b4) * 1000000 + 1000000000 ≤ (n : Int) → h_T g_P (g_Y ns) 67 3 [(0, .ref 93), (1, .int (Int32.ofInt 1)), (2, .int x1), (3, .int x2), (4, .int y4)] [] s0 Q) := by
  intro n
  induction n with
  | zero => exact by intro s0 I0 F0_ y4 b4 hy4 ry4 ex0 ex1 ex2 ex3 ex4 ex5 ex6 ex7 ex8 ex9 ex10 ex11 ex12 ex13 ex14 ex15 hm; exfalso; omega
  | succ n ih =>
    intro s0 I0 F0_ y4 b4 hy4 ry4 ex0 ex1 ex2 ex3 ex4 ex5 ex6 ex7 ex8 ex9 ex10 ex11 ex12 ex13 ex14 ex15 hm
    refine h_iload (pc' := 5) rfl rfl rfl ?_
    refine h_bipush (pc' := 7) (x := (Int32.ofInt 40)) rfl rfl cb_40 ?_
    refine h_cge (tg := 29) (pc' := 10) rfl rfl rfl hy4 ci_40 (fun c1 => ?_) (fun c1 => ?_)
    · refine h_aload_n (pc' := 30) rfl rfl rfl ?_
      refine h_getR (pc' := 33) rfl rfl rfl rfl rfl ?_
      refine h_iload_n (pc' := 34) rfl rfl rfl ?_
      refine h_iload_n (pc' := 35) rfl rfl rfl ?_
      refine h_iast (pc' := 36) rfl rfl rfl rfl ci_1 (by omega) (by omega) hx1 (h_fgt (E := fun s => s 95 0 = s0 95 0 ∧ s 95 1 = a1 ∧ s 95 2 = s0 95 2 ∧ s 95 3 = s0 95 3 ∧ s 96 0 = s0 96 0 ∧ s 96 1 = s0 96 1 ∧ s 96 2 = s0 96 2 ∧ s 96 3 = s0 96 3 ∧ s 111 0 = s0 111 0 ∧ s 111 1 = s0 111 1 ∧ s 111 2 = s0 111 2 ∧ s 111 3 = s0 111 3 ∧ s 112 0 = s0 112 0 ∧ s 112 1 = s0 112 1 ∧ s 112 2 = s0 112 2 ∧ s 112 3 = s0 112 3) _ (in_95 I0 (by omega)) (F0_.up rfl) ⟨rfl, rfl, rfl, rfl, rfl, rfl, rfl, rfl, rfl, rfl, rfl, rfl, rfl, rfl, rfl, rfl⟩ (fun s2 Is2 Fs2 (es2 : s2 95 0 = s0 95 0 ∧ s2 95 1 = a1 ∧ s2 95 2 = s0 95 2 ∧ s2 95 3 = s0 95 3 ∧ s2 96 0 = s0 96 0 ∧ s2 96 1 = s0 96 1 ∧ s2 96 2 = s0 96 2 ∧ s2 96 3 = s0 96 3 ∧ s2 111 0 = s0 111 0 ∧ s2 111 1 = s0 111 1 ∧ s2 111 2 = s0 111 2 ∧ s2 111 3 = s0 111 3 ∧ s2 112 0 = s0 112 0 ∧ s2 112 1 = s0 112 1 ∧ s2 112 2 = s0 112 2 ∧ s2 112 3 = s0 112 3) => ?_))
      refine h_aload_n (pc' := 37) rfl rfl rfl ?_
      refine h_getR (pc' := 40) rfl rfl rfl rfl rfl ?_
      refine h_iload_n (pc' := 41) rfl rfl rfl ?_
      refine h_iload_n (pc' := 42) rfl rfl rfl ?_
      refine h_iast (pc' := 43) rfl rfl rfl rfl ci_1 (by omega) (by omega) hx2 (h_fgt (E := fun s => s 95 0 = s0 95 0 ∧ s 95 1 = a1 ∧ s 95 2 = s0 95 2 ∧ s 95 3 = s0 95 3 ∧ s 96 0 = s0 96 0 ∧ s 96 1 = a2 ∧ s 96 2 = s0 96 2 ∧ s 96 3 = s0 96 3 ∧ s 111 0 = s0 111 0 ∧ s 111 1 = s0 111 1 ∧ s 111 2 = s0 111 2 ∧ s 111 3 = s0 111 3 ∧ s 112 0 = s0 112 0 ∧ s 112 1 = s0 112 1 ∧ s 112 2 = s0 112 2 ∧ s 112 3 = s0 112 3) _ (in_96 Is2 (by omega)) (Fs2.up rfl) ⟨es2.1, es2.2.1, es2.2.2.1, es2.2.2.2.1, es2.2.2.2.2.1, rfl, es2.2.2.2.2.2.2.1, es2.2.2.2.2.2.2.2.1, es2.2.2.2.2.2.2.2.2.1, es2.2.2.2.2.2.2.2.2.2.1, es2.2.2.2.2.2.2.2.2.2.2.1, es2.2.2.2.2.2.2.2.2.2.2.2.1, es2.2.2.2.2.2.2.2.2.2.2.2.2.1, es2.2.2.2.2.2.2.2.2.2.2.2.2.2.1, es2.2.2.2.2.2.2.2.2.2.2.2.2.2.2.1, es2.2.2.2.2.2.2.2.2.2.2.2.2.2.2.2⟩ (fun s3 Is3 Fs3 (es3 : s3 95 0 = s0 95 0 ∧ s3 95 1 = a1 ∧ s3 95 2 = s0 95 2 ∧ s3 95 3 = s0 95 3 ∧ s3 96 0 = s0 96 0 ∧ s3 96 1 = a2 ∧ s3 96 2 = s0 96 2 ∧ s3 96 3 = s0 96 3 ∧ s3 111 0 = s0 111 0 ∧ s3 111 1 = s0 111 1 ∧ s3 111 2 = s0 111 2 ∧ s3 111 3 = s0 111 3 ∧ s3 112 0 = s0 112 0 ∧ s3 112 1 = s0 112 1 ∧ s3 112 2 = s0 112 2 ∧ s3 112 3 = s0 112 3) => ?_))
      clear es2
      exact h_vret rfl rfl (kk _ Is3 Fs3 (by omega) (by omega) (by omega) (by omega) (by omega) (by omega) (by omega) (by omega) (by omega) (by omega) (by omega) (by omega) (by omega) (by omega) (by omega) (by omega))
    · refine h_aload_n (pc' := 11) rfl rfl rfl ?_
      refine h_getR (pc' := 14) rfl rfl rfl rfl rfl ?_
      refine h_iload_n (pc' := 15) rfl rfl rfl ?_
      refine h_bipush (pc' := 17) (x := (Int32.ofInt 40)) rfl rfl cb_40 ?_
      refine h_imul (pc' := 18) (c := 40) rfl rfl ci_1 ci_40 rfl (by omega) (by omega) (fun z4 hz4 => ?_)
      refine h_iload (pc' := 20) rfl rfl rfl ?_
      refine h_iadd (pc' := 21) rfl rfl hz4 hy4 rfl (by omega) (by omega) (fun z5 hz5 => ?_)
      refine h_iconst (pc' := 22) (x := (Int32.ofInt 0)) rfl rfl rfl ?_
      refine h_iast (pc' := 23) rfl rfl rfl rfl hz5 (by omega) (by omega) ci_0 (h_fgt (E := fun s => s 95 0 = s0 95 0 ∧ s 95 1 = s0 95 1 ∧ s 95 2 = s0 95 2 ∧ s 95 3 = s0 95 3 ∧ s 96 0 = s0 96 0 ∧ s 96 1 = s0 96 1 ∧ s 96 2 = s0 96 2 ∧ s 96 3 = s0 96 3 ∧ s 111 0 = s0 111 0 ∧ s 111 1 = s0 111 1 ∧ s 111 2 = s0 111 2 ∧ s 111 3 = s0 111 3 ∧ s 112 0 = s0 112 0 ∧ s 112 1 = s0 112 1 ∧ s 112 2 = s0 112 2 ∧ s 112 3 = s0 112 3) _ (in_94 I0 (h_rgv ci_0)) (F0_.up rfl) ⟨rfl, rfl, rfl, rfl, rfl, rfl, rfl, rfl, rfl, rfl, rfl, rfl, rfl, rfl, rfl, rfl⟩ (fun s6 Is6 Fs6 (es6 : s6 95 0 = s0 95 0 ∧ s6 95 1 = s0 95 1 ∧ s6 95 2 = s0 95 2 ∧ s6 95 3 = s0 95 3 ∧ s6 96 0 = s0 96 0 ∧ s6 96 1 = s0 96 1 ∧ s6 96 2 = s0 96 2 ∧ s6 96 3 = s0 96 3 ∧ s6 111 0 = s0 111 0 ∧ s6 111 1 = s0 111 1 ∧ s6 111 2 = s0 111 2 ∧ s6 111 3 = s0 111 3 ∧ s6 112 0 = s0 112 0 ∧ s6 112 1 = s0 112 1 ∧ s6 112 2 = s0 112 2 ∧ s6 112 3 = s0 112 3) => ?_))
      refine h_iinc (pc' := 26) (M := fun z7 => [(4, .int z7), (0, .ref 93), (1, .int (Int32.ofInt 1)), (2, .int x1), (3, .int x2)]) rfl rfl rfl rfl hy4 ci_1 rfl (by omega) (by omega) (fun _ => rfl) (fun z7 hz7 => ?_)
      refine h_goto (pc' := 3) rfl rfl ?_
      exact h_wk [(0, .ref 93), (1, .int (Int32.ofInt 1)), (2, .int x1), (3, .int x2), (4, .int z7)] ⟨rfl, rfl, rfl, rfl, rfl, trivial⟩ (ih _ Is6 Fs6 z7 _ hz7 (by omega) (by omega) (by omega) (by omega) (by omega) (by omega) (by omega) (by omega) (by omega) (by omega) (by omega) (by omega) (by omega) (by omega) (by omega) (by omega) (by omega) (by omega))
set_option maxHeartbeats 100000000 in
theorem u_renew1 {ns : Nat} (σ : h_S) (hI : h_I σ) (x1 : Int32) (a1 : Int) (hx1 : x1.toInt = a1) (ra1 : 0 ≤ a1 ∧ a1 ≤ 2) (x2 : Int32) (a2 : Int) (hx2 : x2.toInt = a2) (ra2 : 0 ≤ a2 ∧ a2 ≤ 40) {Q : Option Value → h_S → Prop} (kk : ∀ (τ : h_S), h_I τ → h_F k_n0 τ σ → (τ 95 0 = σ 95 0) → (τ 95 2 = σ 95 2) → (τ 95 3 = σ 95 3) → (τ 96 0 = σ 96 0) → (τ 96 2 = σ 96 2) → (τ 96 3 = σ 96 3) → (τ 111 0 = σ 111 0) → (τ 111 1 = σ 111 1) → (τ 111 2 = σ 111 2) → (τ 111 3 = σ 111 3) → (τ 112 0 = σ 112 0) → (τ 112 1 = σ 112 1) → (τ 112 2 = σ 112 2) → (τ 112 3 = σ 112 3) → (τ 95 1 = a1) → (τ 96 1 = a2) → Q none τ) : h_T g_P (g_Y ns) 67 0 [(0, .ref 93), (1, .int (Int32.ofInt 1)), (2, .int x1), (3, .int x2)] [] σ Q := by
  have F00 : h_F k_n0 σ σ := h_F.rf
  refine h_iconst (pc' := 1) (x := (Int32.ofInt 0)) rfl rfl rfl ?_
  refine h_istore (pc' := 3) (M := [(4, .int (Int32.ofInt 0)), (0, .ref 93), (1, .int (Int32.ofInt 1)), (2, .int x1), (3, .int x2)]) rfl rfl rfl rfl ?_
  exact h_wk [(0, .ref 93), (1, .int (Int32.ofInt 1)), (2, .int x1), (3, .int x2), (4, .int (Int32.ofInt 0))] ⟨rfl, rfl, rfl, rfl, rfl, trivial⟩ ((u_renew1_l ns σ hI x1 a1 hx1 ra1 x2 a2 hx2 ra2 kk 1000000000000) _ hI F00 (Int32.ofInt 0) _ ci_0 (by omega) (by omega) (by omega) (by omega) (by omega) (by omega) (by omega) (by omega) (by omega) (by omega) (by omega) (by omega) (by omega) (by omega) (by omega) (by omega) (by omega) (by omega))
set_option maxHeartbeats 100000000 in
theorem u_renew2_l (ns : Nat) (σ : h_S) (hI : h_I σ) (x1 : Int32) (a1 : Int) (hx1 : x1.toInt = a1) (ra1 : 0 ≤ a1 ∧ a1 ≤ 2) (x2 : Int32) (a2 : Int) (hx2 : x2.toInt = a2) (ra2 : 0 ≤ a2 ∧ a2 ≤ 40) {Q : Option Value → h_S → Prop} (kk : ∀ (τ : h_S), h_I τ → h_F k_n0 τ σ → (τ 95 0 = σ 95 0) → (τ 95 1 = σ 95 1) → (τ 95 3 = σ 95 3) → (τ 96 0 = σ 96 0) → (τ 96 1 = σ 96 1) → (τ 96 3 = σ 96 3) → (τ 111 0 = σ 111 0) → (τ 111 1 = σ 111 1) → (τ 111 2 = σ 111 2) → (τ 111 3 = σ 111 3) → (τ 112 0 = σ 112 0) → (τ 112 1 = σ 112 1) → (τ 112 2 = σ 112 2) → (τ 112 3 = σ 112 3) → (τ 95 2 = a1) → (τ 96 2 = a2) → Q none τ) : ∀ n : Nat, (∀ (s0 : h_S), h_I s0 → h_F k_n0 s0 σ → ∀ (y4 : Int32) (b4 : Int), y4.toInt = b4 → (0 ≤ b4 ∧ b4 ≤ 40) → (s0 95 0 = σ 95 0) → (s0 95 1 = σ 95 1) → (s0 95 2 = σ 95 2) → (s0 95 3 = σ 95 3) → (s0 96 0 = σ 96 0) → (s0 96 1 = σ 96 1) → (s0 96 2 = σ 96 2) → (s0 96 3 = σ 96 3) → (s0 111 0 = σ 111 0) → (s0 111 1 = σ 111 1) → (s0 111 2 = σ 111 2) → (s0 111 3 = σ 111 3) → (s0 112 0 = σ 112 0) → (s0 112 1 = σ 112 1) → (s0 112 2 = σ 112 2) → (s0 112 3 = σ 112 3) → (40 + 1 - b4) * 1000000 + 1000000000 ≤ (n : Int) → h_T g_P (g_Y ns) 67 3 [(0, .ref 93), (1, .int (Int32.ofInt 2)), (2, .int x1), (3, .int x2), (4, .int y4)] [] s0 Q) := by
  intro n
  induction n with
  | zero => exact by intro s0 I0 F0_ y4 b4 hy4 ry4 ex0 ex1 ex2 ex3 ex4 ex5 ex6 ex7 ex8 ex9 ex10 ex11 ex12 ex13 ex14 ex15 hm; exfalso; omega
  | succ n ih =>
    intro s0 I0 F0_ y4 b4 hy4 ry4 ex0 ex1 ex2 ex3 ex4 ex5 ex6 ex7 ex8 ex9 ex10 ex11 ex12 ex13 ex14 ex15 hm
    refine h_iload (pc' := 5) rfl rfl rfl ?_
    refine h_bipush (pc' := 7) (x := (Int32.ofInt 40)) rfl rfl cb_40 ?_
    refine h_cge (tg := 29) (pc' := 10) rfl rfl rfl hy4 ci_40 (fun c1 => ?_) (fun c1 => ?_)
    · refine h_aload_n (pc' := 30) rfl rfl rfl ?_
      refine h_getR (pc' := 33) rfl rfl rfl rfl rfl ?_
      refine h_iload_n (pc' := 34) rfl rfl rfl ?_
      refine h_iload_n (pc' := 35) rfl rfl rfl ?_
      refine h_iast (pc' := 36) rfl rfl rfl rfl ci_2 (by omega) (by omega) hx1 (h_fgt (E := fun s => s 95 0 = s0 95 0 ∧ s 95 1 = s0 95 1 ∧ s 95 2 = a1 ∧ s 95 3 = s0 95 3 ∧ s 96 0 = s0 96 0 ∧ s 96 1 = s0 96 1 ∧ s 96 2 = s0 96 2 ∧ s 96 3 = s0 96 3 ∧ s 111 0 = s0 111 0 ∧ s 111 1 = s0 111 1 ∧ s 111 2 = s0 111 2 ∧ s 111 3 = s0 111 3 ∧ s 112 0 = s0 112 0 ∧ s 112 1 = s0 112 1 ∧ s 112 2 = s0 112 2 ∧ s 112 3 = s0 112 3) _ (in_95 I0 (by omega)) (F0_.up rfl) ⟨rfl, rfl, rfl, rfl, rfl, rfl, rfl, rfl, rfl, rfl, rfl, rfl, rfl, rfl, rfl, rfl⟩ (fun s2 Is2 Fs2 (es2 : s2 95 0 = s0 95 0 ∧ s2 95 1 = s0 95 1 ∧ s2 95 2 = a1 ∧ s2 95 3 = s0 95 3 ∧ s2 96 0 = s0 96 0 ∧ s2 96 1 = s0 96 1 ∧ s2 96 2 = s0 96 2 ∧ s2 96 3 = s0 96 3 ∧ s2 111 0 = s0 111 0 ∧ s2 111 1 = s0 111 1 ∧ s2 111 2 = s0 111 2 ∧ s2 111 3 = s0 111 3 ∧ s2 112 0 = s0 112 0 ∧ s2 112 1 = s0 112 1 ∧ s2 112 2 = s0 112 2 ∧ s2 112 3 = s0 112 3) => ?_))
      refine h_aload_n (pc' := 37) rfl rfl rfl ?_
      refine h_getR (pc' := 40) rfl rfl rfl rfl rfl ?_
      refine h_iload_n (pc' := 41) rfl rfl rfl ?_
      refine h_iload_n (pc' := 42) rfl rfl rfl ?_
      refine h_iast (pc' := 43) rfl rfl rfl rfl ci_2 (by omega) (by omega) hx2 (h_fgt (E := fun s => s 95 0 = s0 95 0 ∧ s 95 1 = s0 95 1 ∧ s 95 2 = a1 ∧ s 95 3 = s0 95 3 ∧ s 96 0 = s0 96 0 ∧ s 96 1 = s0 96 1 ∧ s 96 2 = a2 ∧ s 96 3 = s0 96 3 ∧ s 111 0 = s0 111 0 ∧ s 111 1 = s0 111 1 ∧ s 111 2 = s0 111 2 ∧ s 111 3 = s0 111 3 ∧ s 112 0 = s0 112 0 ∧ s 112 1 = s0 112 1 ∧ s 112 2 = s0 112 2 ∧ s 112 3 = s0 112 3) _ (in_96 Is2 (by omega)) (Fs2.up rfl) ⟨es2.1, es2.2.1, es2.2.2.1, es2.2.2.2.1, es2.2.2.2.2.1, es2.2.2.2.2.2.1, rfl, es2.2.2.2.2.2.2.2.1, es2.2.2.2.2.2.2.2.2.1, es2.2.2.2.2.2.2.2.2.2.1, es2.2.2.2.2.2.2.2.2.2.2.1, es2.2.2.2.2.2.2.2.2.2.2.2.1, es2.2.2.2.2.2.2.2.2.2.2.2.2.1, es2.2.2.2.2.2.2.2.2.2.2.2.2.2.1, es2.2.2.2.2.2.2.2.2.2.2.2.2.2.2.1, es2.2.2.2.2.2.2.2.2.2.2.2.2.2.2.2⟩ (fun s3 Is3 Fs3 (es3 : s3 95 0 = s0 95 0 ∧ s3 95 1 = s0 95 1 ∧ s3 95 2 = a1 ∧ s3 95 3 = s0 95 3 ∧ s3 96 0 = s0 96 0 ∧ s3 96 1 = s0 96 1 ∧ s3 96 2 = a2 ∧ s3 96 3 = s0 96 3 ∧ s3 111 0 = s0 111 0 ∧ s3 111 1 = s0 111 1 ∧ s3 111 2 = s0 111 2 ∧ s3 111 3 = s0 111 3 ∧ s3 112 0 = s0 112 0 ∧ s3 112 1 = s0 112 1 ∧ s3 112 2 = s0 112 2 ∧ s3 112 3 = s0 112 3) => ?_))
      clear es2
      exact h_vret rfl rfl (kk _ Is3 Fs3 (by omega) (by omega) (by omega) (by omega) (by omega) (by omega) (by omega) (by omega) (by omega) (by omega) (by omega) (by omega) (by omega) (by omega) (by omega) (by omega))
    · refine h_aload_n (pc' := 11) rfl rfl rfl ?_
      refine h_getR (pc' := 14) rfl rfl rfl rfl rfl ?_
      refine h_iload_n (pc' := 15) rfl rfl rfl ?_
      refine h_bipush (pc' := 17) (x := (Int32.ofInt 40)) rfl rfl cb_40 ?_
      refine h_imul (pc' := 18) (c := 80) rfl rfl ci_2 ci_40 rfl (by omega) (by omega) (fun z4 hz4 => ?_)
      refine h_iload (pc' := 20) rfl rfl rfl ?_
      refine h_iadd (pc' := 21) rfl rfl hz4 hy4 rfl (by omega) (by omega) (fun z5 hz5 => ?_)
      refine h_iconst (pc' := 22) (x := (Int32.ofInt 0)) rfl rfl rfl ?_
      refine h_iast (pc' := 23) rfl rfl rfl rfl hz5 (by omega) (by omega) ci_0 (h_fgt (E := fun s => s 95 0 = s0 95 0 ∧ s 95 1 = s0 95 1 ∧ s 95 2 = s0 95 2 ∧ s 95 3 = s0 95 3 ∧ s 96 0 = s0 96 0 ∧ s 96 1 = s0 96 1 ∧ s 96 2 = s0 96 2 ∧ s 96 3 = s0 96 3 ∧ s 111 0 = s0 111 0 ∧ s 111 1 = s0 111 1 ∧ s 111 2 = s0 111 2 ∧ s 111 3 = s0 111 3 ∧ s 112 0 = s0 112 0 ∧ s 112 1 = s0 112 1 ∧ s 112 2 = s0 112 2 ∧ s 112 3 = s0 112 3) _ (in_94 I0 (h_rgv ci_0)) (F0_.up rfl) ⟨rfl, rfl, rfl, rfl, rfl, rfl, rfl, rfl, rfl, rfl, rfl, rfl, rfl, rfl, rfl, rfl⟩ (fun s6 Is6 Fs6 (es6 : s6 95 0 = s0 95 0 ∧ s6 95 1 = s0 95 1 ∧ s6 95 2 = s0 95 2 ∧ s6 95 3 = s0 95 3 ∧ s6 96 0 = s0 96 0 ∧ s6 96 1 = s0 96 1 ∧ s6 96 2 = s0 96 2 ∧ s6 96 3 = s0 96 3 ∧ s6 111 0 = s0 111 0 ∧ s6 111 1 = s0 111 1 ∧ s6 111 2 = s0 111 2 ∧ s6 111 3 = s0 111 3 ∧ s6 112 0 = s0 112 0 ∧ s6 112 1 = s0 112 1 ∧ s6 112 2 = s0 112 2 ∧ s6 112 3 = s0 112 3) => ?_))
      refine h_iinc (pc' := 26) (M := fun z7 => [(4, .int z7), (0, .ref 93), (1, .int (Int32.ofInt 2)), (2, .int x1), (3, .int x2)]) rfl rfl rfl rfl hy4 ci_1 rfl (by omega) (by omega) (fun _ => rfl) (fun z7 hz7 => ?_)
      refine h_goto (pc' := 3) rfl rfl ?_
      exact h_wk [(0, .ref 93), (1, .int (Int32.ofInt 2)), (2, .int x1), (3, .int x2), (4, .int z7)] ⟨rfl, rfl, rfl, rfl, rfl, trivial⟩ (ih _ Is6 Fs6 z7 _ hz7 (by omega) (by omega) (by omega) (by omega) (by omega) (by omega) (by omega) (by omega) (by omega) (by omega) (by omega) (by omega) (by omega) (by omega) (by omega) (by omega) (by omega) (by omega))
set_option maxHeartbeats 100000000 in
theorem u_renew2 {ns : Nat} (σ : h_S) (hI : h_I σ) (x1 : Int32) (a1 : Int) (hx1 : x1.toInt = a1) (ra1 : 0 ≤ a1 ∧ a1 ≤ 2) (x2 : Int32) (a2 : Int) (hx2 : x2.toInt = a2) (ra2 : 0 ≤ a2 ∧ a2 ≤ 40) {Q : Option Value → h_S → Prop} (kk : ∀ (τ : h_S), h_I τ → h_F k_n0 τ σ → (τ 95 0 = σ 95 0) → (τ 95 1 = σ 95 1) → (τ 95 3 = σ 95 3) → (τ 96 0 = σ 96 0) → (τ 96 1 = σ 96 1) → (τ 96 3 = σ 96 3) → (τ 111 0 = σ 111 0) → (τ 111 1 = σ 111 1) → (τ 111 2 = σ 111 2) → (τ 111 3 = σ 111 3) → (τ 112 0 = σ 112 0) → (τ 112 1 = σ 112 1) → (τ 112 2 = σ 112 2) → (τ 112 3 = σ 112 3) → (τ 95 2 = a1) → (τ 96 2 = a2) → Q none τ) : h_T g_P (g_Y ns) 67 0 [(0, .ref 93), (1, .int (Int32.ofInt 2)), (2, .int x1), (3, .int x2)] [] σ Q := by
  have F00 : h_F k_n0 σ σ := h_F.rf
  refine h_iconst (pc' := 1) (x := (Int32.ofInt 0)) rfl rfl rfl ?_
  refine h_istore (pc' := 3) (M := [(4, .int (Int32.ofInt 0)), (0, .ref 93), (1, .int (Int32.ofInt 2)), (2, .int x1), (3, .int x2)]) rfl rfl rfl rfl ?_
  exact h_wk [(0, .ref 93), (1, .int (Int32.ofInt 2)), (2, .int x1), (3, .int x2), (4, .int (Int32.ofInt 0))] ⟨rfl, rfl, rfl, rfl, rfl, trivial⟩ ((u_renew2_l ns σ hI x1 a1 hx1 ra1 x2 a2 hx2 ra2 kk 1000000000000) _ hI F00 (Int32.ofInt 0) _ ci_0 (by omega) (by omega) (by omega) (by omega) (by omega) (by omega) (by omega) (by omega) (by omega) (by omega) (by omega) (by omega) (by omega) (by omega) (by omega) (by omega) (by omega) (by omega))
set_option maxHeartbeats 100000000 in
theorem u_renew3_l (ns : Nat) (σ : h_S) (hI : h_I σ) (x1 : Int32) (a1 : Int) (hx1 : x1.toInt = a1) (ra1 : 0 ≤ a1 ∧ a1 ≤ 2) (x2 : Int32) (a2 : Int) (hx2 : x2.toInt = a2) (ra2 : 0 ≤ a2 ∧ a2 ≤ 40) {Q : Option Value → h_S → Prop} (kk : ∀ (τ : h_S), h_I τ → h_F k_n0 τ σ → (τ 95 0 = σ 95 0) → (τ 95 1 = σ 95 1) → (τ 95 2 = σ 95 2) → (τ 96 0 = σ 96 0) → (τ 96 1 = σ 96 1) → (τ 96 2 = σ 96 2) → (τ 111 0 = σ 111 0) → (τ 111 1 = σ 111 1) → (τ 111 2 = σ 111 2) → (τ 111 3 = σ 111 3) → (τ 112 0 = σ 112 0) → (τ 112 1 = σ 112 1) → (τ 112 2 = σ 112 2) → (τ 112 3 = σ 112 3) → (τ 95 3 = a1) → (τ 96 3 = a2) → Q none τ) : ∀ n : Nat, (∀ (s0 : h_S), h_I s0 → h_F k_n0 s0 σ → ∀ (y4 : Int32) (b4 : Int), y4.toInt = b4 → (0 ≤ b4 ∧ b4 ≤ 40) → (s0 95 0 = σ 95 0) → (s0 95 1 = σ 95 1) → (s0 95 2 = σ 95 2) → (s0 95 3 = σ 95 3) → (s0 96 0 = σ 96 0) → (s0 96 1 = σ 96 1) → (s0 96 2 = σ 96 2) → (s0 96 3 = σ 96 3) → (s0 111 0 = σ 111 0) → (s0 111 1 = σ 111 1) → (s0 111 2 = σ 111 2) → (s0 111 3 = σ 111 3) → (s0 112 0 = σ 112 0) → (s0 112 1 = σ 112 1) → (s0 112 2 = σ 112 2) → (s0 112 3 = σ 112 3) → (40 + 1 - b4) * 1000000 + 1000000000 ≤ (n : Int) → h_T g_P (g_Y ns) 67 3 [(0, .ref 93), (1, .int (Int32.ofInt 3)), (2, .int x1), (3, .int x2), (4, .int y4)] [] s0 Q) := by
  intro n
  induction n with
  | zero => exact by intro s0 I0 F0_ y4 b4 hy4 ry4 ex0 ex1 ex2 ex3 ex4 ex5 ex6 ex7 ex8 ex9 ex10 ex11 ex12 ex13 ex14 ex15 hm; exfalso; omega
  | succ n ih =>
    intro s0 I0 F0_ y4 b4 hy4 ry4 ex0 ex1 ex2 ex3 ex4 ex5 ex6 ex7 ex8 ex9 ex10 ex11 ex12 ex13 ex14 ex15 hm
    refine h_iload (pc' := 5) rfl rfl rfl ?_
    refine h_bipush (pc' := 7) (x := (Int32.ofInt 40)) rfl rfl cb_40 ?_
    refine h_cge (tg := 29) (pc' := 10) rfl rfl rfl hy4 ci_40 (fun c1 => ?_) (fun c1 => ?_)
    · refine h_aload_n (pc' := 30) rfl rfl rfl ?_
      refine h_getR (pc' := 33) rfl rfl rfl rfl rfl ?_
      refine h_iload_n (pc' := 34) rfl rfl rfl ?_
      refine h_iload_n (pc' := 35) rfl rfl rfl ?_
      refine h_iast (pc' := 36) rfl rfl rfl rfl ci_3 (by omega) (by omega) hx1 (h_fgt (E := fun s => s 95 0 = s0 95 0 ∧ s 95 1 = s0 95 1 ∧ s 95 2 = s0 95 2 ∧ s 95 3 = a1 ∧ s 96 0 = s0 96 0 ∧ s 96 1 = s0 96 1 ∧ s 96 2 = s0 96 2 ∧ s 96 3 = s0 96 3 ∧ s 111 0 = s0 111 0 ∧ s 111 1 = s0 111 1 ∧ s 111 2 = s0 111 2 ∧ s 111 3 = s0 111 3 ∧ s 112 0 = s0 112 0 ∧ s 112 1 = s0 112 1 ∧ s 112 2 = s0 112 2 ∧ s 112 3 = s0 112 3) _ (in_95 I0 (by omega)) (F0_.up rfl) ⟨rfl, rfl, rfl, rfl, rfl, rfl, rfl, rfl, rfl, rfl, rfl, rfl, rfl, rfl, rfl, rfl⟩ (fun s2 Is2 Fs2 (es2 : s2 95 0 = s0 95 0 ∧ s2 95 1 = s0 95 1 ∧ s2 95 2 = s0 95 2 ∧ s2 95 3 = a1 ∧ s2 96 0 = s0 96 0 ∧ s2 96 1 = s0 96 1 ∧ s2 96 2 = s0 96 2 ∧ s2 96 3 = s0 96 3 ∧ s2 111 0 = s0 111 0 ∧ s2 111 1 = s0 111 1 ∧ s2 111 2 = s0 111 2 ∧ s2 111 3 = s0 111 3 ∧ s2 112 0 = s0 112 0 ∧ s2 112 1 = s0 112 1 ∧ s2 112 2 = s0 112 2 ∧ s2 112 3 = s0 112 3) => ?_))
      refine h_aload_n (pc' := 37) rfl rfl rfl ?_
      refine h_getR (pc' := 40) rfl rfl rfl rfl rfl ?_
      refine h_iload_n (pc' := 41) rfl rfl rfl ?_
      refine h_iload_n (pc' := 42) rfl rfl rfl ?_
      refine h_iast (pc' := 43) rfl rfl rfl rfl ci_3 (by omega) (by omega) hx2 (h_fgt (E := fun s => s 95 0 = s0 95 0 ∧ s 95 1 = s0 95 1 ∧ s 95 2 = s0 95 2 ∧ s 95 3 = a1 ∧ s 96 0 = s0 96 0 ∧ s 96 1 = s0 96 1 ∧ s 96 2 = s0 96 2 ∧ s 96 3 = a2 ∧ s 111 0 = s0 111 0 ∧ s 111 1 = s0 111 1 ∧ s 111 2 = s0 111 2 ∧ s 111 3 = s0 111 3 ∧ s 112 0 = s0 112 0 ∧ s 112 1 = s0 112 1 ∧ s 112 2 = s0 112 2 ∧ s 112 3 = s0 112 3) _ (in_96 Is2 (by omega)) (Fs2.up rfl) ⟨es2.1, es2.2.1, es2.2.2.1, es2.2.2.2.1, es2.2.2.2.2.1, es2.2.2.2.2.2.1, es2.2.2.2.2.2.2.1, rfl, es2.2.2.2.2.2.2.2.2.1, es2.2.2.2.2.2.2.2.2.2.1, es2.2.2.2.2.2.2.2.2.2.2.1, es2.2.2.2.2.2.2.2.2.2.2.2.1, es2.2.2.2.2.2.2.2.2.2.2.2.2.1, es2.2.2.2.2.2.2.2.2.2.2.2.2.2.1, es2.2.2.2.2.2.2.2.2.2.2.2.2.2.2.1, es2.2.2.2.2.2.2.2.2.2.2.2.2.2.2.2⟩ (fun s3 Is3 Fs3 (es3 : s3 95 0 = s0 95 0 ∧ s3 95 1 = s0 95 1 ∧ s3 95 2 = s0 95 2 ∧ s3 95 3 = a1 ∧ s3 96 0 = s0 96 0 ∧ s3 96 1 = s0 96 1 ∧ s3 96 2 = s0 96 2 ∧ s3 96 3 = a2 ∧ s3 111 0 = s0 111 0 ∧ s3 111 1 = s0 111 1 ∧ s3 111 2 = s0 111 2 ∧ s3 111 3 = s0 111 3 ∧ s3 112 0 = s0 112 0 ∧ s3 112 1 = s0 112 1 ∧ s3 112 2 = s0 112 2 ∧ s3 112 3 = s0 112 3) => ?_))
      clear es2
      exact h_vret rfl rfl (kk _ Is3 Fs3 (by omega) (by omega) (by omega) (by omega) (by omega) (by omega) (by omega) (by omega) (by omega) (by omega) (by omega) (by omega) (by omega) (by omega) (by omega) (by omega))
    · refine h_aload_n (pc' := 11) rfl rfl rfl ?_
      refine h_getR (pc' := 14) rfl rfl rfl rfl rfl ?_
      refine h_iload_n (pc' := 15) rfl rfl rfl ?_
      refine h_bipush (pc' := 17) (x := (Int32.ofInt 40)) rfl rfl cb_40 ?_
      refine h_imul (pc' := 18) (c := 120) rfl rfl ci_3 ci_40 rfl (by omega) (by omega) (fun z4 hz4 => ?_)
      refine h_iload (pc' := 20) rfl rfl rfl ?_
      refine h_iadd (pc' := 21) rfl rfl hz4 hy4 rfl (by omega) (by omega) (fun z5 hz5 => ?_)
      refine h_iconst (pc' := 22) (x := (Int32.ofInt 0)) rfl rfl rfl ?_
      refine h_iast (pc' := 23) rfl rfl rfl rfl hz5 (by omega) (by omega) ci_0 (h_fgt (E := fun s => s 95 0 = s0 95 0 ∧ s 95 1 = s0 95 1 ∧ s 95 2 = s0 95 2 ∧ s 95 3 = s0 95 3 ∧ s 96 0 = s0 96 0 ∧ s 96 1 = s0 96 1 ∧ s 96 2 = s0 96 2 ∧ s 96 3 = s0 96 3 ∧ s 111 0 = s0 111 0 ∧ s 111 1 = s0 111 1 ∧ s 111 2 = s0 111 2 ∧ s 111 3 = s0 111 3 ∧ s 112 0 = s0 112 0 ∧ s 112 1 = s0 112 1 ∧ s 112 2 = s0 112 2 ∧ s 112 3 = s0 112 3) _ (in_94 I0 (h_rgv ci_0)) (F0_.up rfl) ⟨rfl, rfl, rfl, rfl, rfl, rfl, rfl, rfl, rfl, rfl, rfl, rfl, rfl, rfl, rfl, rfl⟩ (fun s6 Is6 Fs6 (es6 : s6 95 0 = s0 95 0 ∧ s6 95 1 = s0 95 1 ∧ s6 95 2 = s0 95 2 ∧ s6 95 3 = s0 95 3 ∧ s6 96 0 = s0 96 0 ∧ s6 96 1 = s0 96 1 ∧ s6 96 2 = s0 96 2 ∧ s6 96 3 = s0 96 3 ∧ s6 111 0 = s0 111 0 ∧ s6 111 1 = s0 111 1 ∧ s6 111 2 = s0 111 2 ∧ s6 111 3 = s0 111 3 ∧ s6 112 0 = s0 112 0 ∧ s6 112 1 = s0 112 1 ∧ s6 112 2 = s0 112 2 ∧ s6 112 3 = s0 112 3) => ?_))
      refine h_iinc (pc' := 26) (M := fun z7 => [(4, .int z7), (0, .ref 93), (1, .int (Int32.ofInt 3)), (2, .int x1), (3, .int x2)]) rfl rfl rfl rfl hy4 ci_1 rfl (by omega) (by omega) (fun _ => rfl) (fun z7 hz7 => ?_)
      refine h_goto (pc' := 3) rfl rfl ?_
      exact h_wk [(0, .ref 93), (1, .int (Int32.ofInt 3)), (2, .int x1), (3, .int x2), (4, .int z7)] ⟨rfl, rfl, rfl, rfl, rfl, trivial⟩ (ih _ Is6 Fs6 z7 _ hz7 (by omega) (by omega) (by omega) (by omega) (by omega) (by omega) (by omega) (by omega) (by omega) (by omega) (by omega) (by omega) (by omega) (by omega) (by omega) (by omega) (by omega) (by omega))
set_option maxHeartbeats 100000000 in
theorem u_renew3 {ns : Nat} (σ : h_S) (hI : h_I σ) (x1 : Int32) (a1 : Int) (hx1 : x1.toInt = a1) (ra1 : 0 ≤ a1 ∧ a1 ≤ 2) (x2 : Int32) (a2 : Int) (hx2 : x2.toInt = a2) (ra2 : 0 ≤ a2 ∧ a2 ≤ 40) {Q : Option Value → h_S → Prop} (kk : ∀ (τ : h_S), h_I τ → h_F k_n0 τ σ → (τ 95 0 = σ 95 0) → (τ 95 1 = σ 95 1) → (τ 95 2 = σ 95 2) → (τ 96 0 = σ 96 0) → (τ 96 1 = σ 96 1) → (τ 96 2 = σ 96 2) → (τ 111 0 = σ 111 0) → (τ 111 1 = σ 111 1) → (τ 111 2 = σ 111 2) → (τ 111 3 = σ 111 3) → (τ 112 0 = σ 112 0) → (τ 112 1 = σ 112 1) → (τ 112 2 = σ 112 2) → (τ 112 3 = σ 112 3) → (τ 95 3 = a1) → (τ 96 3 = a2) → Q none τ) : h_T g_P (g_Y ns) 67 0 [(0, .ref 93), (1, .int (Int32.ofInt 3)), (2, .int x1), (3, .int x2)] [] σ Q := by
  have F00 : h_F k_n0 σ σ := h_F.rf
  refine h_iconst (pc' := 1) (x := (Int32.ofInt 0)) rfl rfl rfl ?_
  refine h_istore (pc' := 3) (M := [(4, .int (Int32.ofInt 0)), (0, .ref 93), (1, .int (Int32.ofInt 3)), (2, .int x1), (3, .int x2)]) rfl rfl rfl rfl ?_
  exact h_wk [(0, .ref 93), (1, .int (Int32.ofInt 3)), (2, .int x1), (3, .int x2), (4, .int (Int32.ofInt 0))] ⟨rfl, rfl, rfl, rfl, rfl, trivial⟩ ((u_renew3_l ns σ hI x1 a1 hx1 ra1 x2 a2 hx2 ra2 kk 1000000000000) _ hI F00 (Int32.ofInt 0) _ ci_0 (by omega) (by omega) (by omega) (by omega) (by omega) (by omega) (by omega) (by omega) (by omega) (by omega) (by omega) (by omega) (by omega) (by omega) (by omega) (by omega) (by omega) (by omega))
set_option maxHeartbeats 100000000 in
theorem u_sheetX0 {ns : Nat} (σ : h_S) (hI : h_I σ) (x1 : Int32) (a1 : Int) (hx1 : x1.toInt = a1) (x2 : Int32) (a2 : Int) (hx2 : x2.toInt = a2) {Q : Option Value → h_S → Prop} (kk : ∀ (r : Int32) (b : Int) (hb : r.toInt = b) (τ : h_S), h_I τ → h_F k_n0 τ σ → ((-14) ≤ b ∧ b ≤ 1) → (((b = (-1)) ∧ (a1 < 0 ∨ 2 < a1 ∨ 40 < a2) ∧ (τ 95 0 = σ 95 0) ∧ (τ 95 1 = σ 95 1) ∧ (τ 95 2 = σ 95 2) ∧ (τ 95 3 = σ 95 3) ∧ (τ 96 0 = σ 96 0) ∧ (τ 96 1 = σ 96 1) ∧ (τ 96 2 = σ 96 2) ∧ (τ 96 3 = σ 96 3) ∧ (τ 111 0 = σ 111 0) ∧ (τ 111 1 = σ 111 1) ∧ (τ 111 2 = σ 111 2) ∧ (τ 111 3 = σ 111 3) ∧ (τ 112 0 = σ 112 0) ∧ (τ 112 1 = σ 112 1) ∧ (τ 112 2 = σ 112 2) ∧ (τ 112 3 = σ 112 3)) ∨ ((b = (-14)) ∧ (0 ≤ a1 ∧ a1 ≤ 2 ∧ a2 < 0) ∧ (τ 95 0 = σ 95 0) ∧ (τ 95 1 = σ 95 1) ∧ (τ 95 2 = σ 95 2) ∧ (τ 95 3 = σ 95 3) ∧ (τ 96 0 = σ 96 0) ∧ (τ 96 1 = σ 96 1) ∧ (τ 96 2 = σ 96 2) ∧ (τ 96 3 = σ 96 3) ∧ (τ 111 0 = σ 111 0) ∧ (τ 111 1 = σ 111 1) ∧ (τ 111 2 = σ 111 2) ∧ (τ 111 3 = σ 111 3) ∧ (τ 112 0 = σ 112 0) ∧ (τ 112 1 = σ 112 1) ∧ (τ 112 2 = σ 112 2) ∧ (τ 112 3 = σ 112 3)) ∨ ((b = 1) ∧ (0 ≤ a1 ∧ a1 ≤ 2 ∧ 0 ≤ a2 ∧ a2 ≤ 40) ∧ (τ 95 1 = σ 95 1) ∧ (τ 95 2 = σ 95 2) ∧ (τ 95 3 = σ 95 3) ∧ (τ 96 1 = σ 96 1) ∧ (τ 96 2 = σ 96 2) ∧ (τ 96 3 = σ 96 3) ∧ (τ 111 0 = σ 111 0) ∧ (τ 111 1 = σ 111 1) ∧ (τ 111 2 = σ 111 2) ∧ (τ 111 3 = σ 111 3) ∧ (τ 112 0 = σ 112 0) ∧ (τ 112 1 = σ 112 1) ∧ (τ 112 2 = σ 112 2) ∧ (τ 112 3 = σ 112 3) ∧ (τ 95 0 = a1) ∧ (τ 96 0 = a2))) → Q (some (.int r)) τ) : h_T g_P (g_Y ns) 118 0 [(0, .ref 9), (1, .int (Int32.ofInt 0)), (2, .int x1), (3, .int x2)] [] σ Q := by
  have F00 : h_F k_n0 σ σ := h_F.rf
  refine h_iload_n (pc' := 1) rfl rfl rfl ?_
  refine h_calls (pc' := 4) (M := [(0, .int (Int32.ofInt 0))]) rfl rfl rfl rfl rfl rfl ?_
  refine h_iload_n (pc' := 1) rfl rfl rfl ?_
  refine h_zlt (tg := 13) (pc' := 4) rfl rfl rfl ci_0 (fun c1 => absurd c1 (by omega)) (fun c1 => ?_)
  refine h_iload_n (pc' := 5) rfl rfl rfl ?_
  refine h_iconst (pc' := 6) (x := (Int32.ofInt 4)) rfl rfl rfl ?_
  refine h_cge (tg := 13) (pc' := 9) rfl rfl rfl ci_0 ci_4 (fun c2 => absurd c2 (by omega)) (fun c2 => ?_)
  refine h_iconst (pc' := 10) (x := (Int32.ofInt 1)) rfl rfl rfl ?_
  refine h_goto (pc' := 14) rfl rfl ?_
  refine h_zret rfl rfl ci_1 (by omega) (h_Kv ?_)
  refine h_zeq (tg := 20) (pc' := 7) rfl rfl rfl ci_1 (fun c3 => absurd c3 (by omega)) (fun c3 => ?_)
  refine h_iload_n (pc' := 8) rfl rfl rfl ?_
  refine h_calls (pc' := 11) (M := [(0, .int x1)]) rfl rfl rfl rfl rfl rfl ?_
  refine h_iload_n (pc' := 1) rfl rfl rfl ?_
  refine h_zlt (tg := 13) (pc' := 4) rfl rfl rfl hx1 (fun c4 => ?_) (fun c4 => ?_)
  · refine h_iconst (pc' := 14) (x := (Int32.ofInt 0)) rfl rfl rfl ?_
    refine h_zret rfl rfl ci_0 (by omega) (h_Kv ?_)
    refine h_zeq (tg := 20) (pc' := 14) rfl rfl rfl ci_0 (fun c5 => ?_) (fun c5 => absurd c5 (by omega))
    refine h_iconst (pc' := 21) (x := (Int32.ofInt (-1))) rfl rfl rfl ?_
    exact h_iret rfl rfl (kk _ _ ci_m1 _ hI F00 (by omega) (Or.inl ⟨by omega, by omega, by omega, by omega, by omega, by omega, by omega, by omega, by omega, by omega, by omega, by omega, by omega, by omega, by omega, by omega, by omega, by omega⟩))
  · refine h_iload_n (pc' := 5) rfl rfl rfl ?_
    refine h_iconst (pc' := 6) (x := (Int32.ofInt 2)) rfl rfl rfl ?_
    refine h_cgt (tg := 13) (pc' := 9) rfl rfl rfl hx1 ci_2 (fun c6 => ?_) (fun c6 => ?_)
    · refine h_iconst (pc' := 14) (x := (Int32.ofInt 0)) rfl rfl rfl ?_
      refine h_zret rfl rfl ci_0 (by omega) (h_Kv ?_)
      refine h_zeq (tg := 20) (pc' := 14) rfl rfl rfl ci_0 (fun c7 => ?_) (fun c7 => absurd c7 (by omega))
      refine h_iconst (pc' := 21) (x := (Int32.ofInt (-1))) rfl rfl rfl ?_
      exact h_iret rfl rfl (kk _ _ ci_m1 _ hI F00 (by omega) (Or.inl ⟨by omega, by omega, by omega, by omega, by omega, by omega, by omega, by omega, by omega, by omega, by omega, by omega, by omega, by omega, by omega, by omega, by omega, by omega⟩))
    · refine h_iconst (pc' := 10) (x := (Int32.ofInt 1)) rfl rfl rfl ?_
      refine h_goto (pc' := 14) rfl rfl ?_
      refine h_zret rfl rfl ci_1 (by omega) (h_Kv ?_)
      refine h_zeq (tg := 20) (pc' := 14) rfl rfl rfl ci_1 (fun c8 => absurd c8 (by omega)) (fun c8 => ?_)
      refine h_iload_n (pc' := 15) rfl rfl rfl ?_
      refine h_bipush (pc' := 17) (x := (Int32.ofInt 40)) rfl rfl cb_40 ?_
      refine h_cle (tg := 22) (pc' := 20) rfl rfl rfl hx2 ci_40 (fun c9 => ?_) (fun c9 => ?_)
      · refine h_iload_n (pc' := 23) rfl rfl rfl ?_
        refine h_zge (tg := 29) (pc' := 26) rfl rfl rfl hx2 (fun c10 => ?_) (fun c10 => ?_)
        · refine h_aload_n (pc' := 30) rfl rfl rfl ?_
          refine h_getR (pc' := 33) rfl rfl rfl rfl rfl ?_
          refine h_iload_n (pc' := 34) rfl rfl rfl ?_
          refine h_iload_n (pc' := 35) rfl rfl rfl ?_
          refine h_iload_n (pc' := 36) rfl rfl rfl ?_
          refine h_call (sp := false) (pc' := 39) (M := [(0, .ref 93), (1, .int (Int32.ofInt 0)), (2, .int x1), (3, .int x2)]) rfl rfl rfl rfl rfl rfl rfl rfl ?_
          refine u_renew0 _ hI  x1 _ hx1 (by omega) x2 _ hx2 (by omega) (fun s12 Is12 Gs12 ps12_0 ps12_1 ps12_2 ps12_3 ps12_4 ps12_5 ps12_6 ps12_7 ps12_8 ps12_9 ps12_10 ps12_11 ps12_12 ps12_13 ps12_14 ps12_15 => h_Kn ?_)
          have Fs12 := (Gs12).tr F00
          refine h_iconst (pc' := 40) (x := (Int32.ofInt 1)) rfl rfl rfl ?_
          exact h_iret rfl rfl (kk _ _ ci_1 _ Is12 Fs12 (by omega) (Or.inr (Or.inr ⟨by omega, by omega, by omega, by omega, by omega, by omega, by omega, by omega, by omega, by omega, by omega, by omega, by omega, by omega, by omega, by omega, by omega, by omega⟩)))
        · refine h_bipush (pc' := 28) (x := (Int32.ofInt (-14))) rfl rfl cb_m14 ?_
          exact h_iret rfl rfl (kk _ _ ci_m14 _ hI F00 (by omega) (Or.inr (Or.inl ⟨by omega, by omega, by omega, by omega, by omega, by omega, by omega, by omega, by omega, by omega, by omega, by omega, by omega, by omega, by omega, by omega, by omega, by omega⟩)))
      · refine h_iconst (pc' := 21) (x := (Int32.ofInt (-1))) rfl rfl rfl ?_
        exact h_iret rfl rfl (kk _ _ ci_m1 _ hI F00 (by omega) (Or.inl ⟨by omega, by omega, by omega, by omega, by omega, by omega, by omega, by omega, by omega, by omega, by omega, by omega, by omega, by omega, by omega, by omega, by omega, by omega⟩))
set_option maxHeartbeats 100000000 in
theorem u_sheetX1 {ns : Nat} (σ : h_S) (hI : h_I σ) (x1 : Int32) (a1 : Int) (hx1 : x1.toInt = a1) (x2 : Int32) (a2 : Int) (hx2 : x2.toInt = a2) {Q : Option Value → h_S → Prop} (kk : ∀ (r : Int32) (b : Int) (hb : r.toInt = b) (τ : h_S), h_I τ → h_F k_n0 τ σ → ((-14) ≤ b ∧ b ≤ 1) → (((b = (-1)) ∧ (a1 < 0 ∨ 2 < a1 ∨ 40 < a2) ∧ (τ 95 0 = σ 95 0) ∧ (τ 95 1 = σ 95 1) ∧ (τ 95 2 = σ 95 2) ∧ (τ 95 3 = σ 95 3) ∧ (τ 96 0 = σ 96 0) ∧ (τ 96 1 = σ 96 1) ∧ (τ 96 2 = σ 96 2) ∧ (τ 96 3 = σ 96 3) ∧ (τ 111 0 = σ 111 0) ∧ (τ 111 1 = σ 111 1) ∧ (τ 111 2 = σ 111 2) ∧ (τ 111 3 = σ 111 3) ∧ (τ 112 0 = σ 112 0) ∧ (τ 112 1 = σ 112 1) ∧ (τ 112 2 = σ 112 2) ∧ (τ 112 3 = σ 112 3)) ∨ ((b = (-14)) ∧ (0 ≤ a1 ∧ a1 ≤ 2 ∧ a2 < 0) ∧ (τ 95 0 = σ 95 0) ∧ (τ 95 1 = σ 95 1) ∧ (τ 95 2 = σ 95 2) ∧ (τ 95 3 = σ 95 3) ∧ (τ 96 0 = σ 96 0) ∧ (τ 96 1 = σ 96 1) ∧ (τ 96 2 = σ 96 2) ∧ (τ 96 3 = σ 96 3) ∧ (τ 111 0 = σ 111 0) ∧ (τ 111 1 = σ 111 1) ∧ (τ 111 2 = σ 111 2) ∧ (τ 111 3 = σ 111 3) ∧ (τ 112 0 = σ 112 0) ∧ (τ 112 1 = σ 112 1) ∧ (τ 112 2 = σ 112 2) ∧ (τ 112 3 = σ 112 3)) ∨ ((b = 1) ∧ (0 ≤ a1 ∧ a1 ≤ 2 ∧ 0 ≤ a2 ∧ a2 ≤ 40) ∧ (τ 95 0 = σ 95 0) ∧ (τ 95 2 = σ 95 2) ∧ (τ 95 3 = σ 95 3) ∧ (τ 96 0 = σ 96 0) ∧ (τ 96 2 = σ 96 2) ∧ (τ 96 3 = σ 96 3) ∧ (τ 111 0 = σ 111 0) ∧ (τ 111 1 = σ 111 1) ∧ (τ 111 2 = σ 111 2) ∧ (τ 111 3 = σ 111 3) ∧ (τ 112 0 = σ 112 0) ∧ (τ 112 1 = σ 112 1) ∧ (τ 112 2 = σ 112 2) ∧ (τ 112 3 = σ 112 3) ∧ (τ 95 1 = a1) ∧ (τ 96 1 = a2))) → Q (some (.int r)) τ) : h_T g_P (g_Y ns) 118 0 [(0, .ref 9), (1, .int (Int32.ofInt 1)), (2, .int x1), (3, .int x2)] [] σ Q := by
  have F00 : h_F k_n0 σ σ := h_F.rf
  refine h_iload_n (pc' := 1) rfl rfl rfl ?_
  refine h_calls (pc' := 4) (M := [(0, .int (Int32.ofInt 1))]) rfl rfl rfl rfl rfl rfl ?_
  refine h_iload_n (pc' := 1) rfl rfl rfl ?_
  refine h_zlt (tg := 13) (pc' := 4) rfl rfl rfl ci_1 (fun c1 => absurd c1 (by omega)) (fun c1 => ?_)
  refine h_iload_n (pc' := 5) rfl rfl rfl ?_
  refine h_iconst (pc' := 6) (x := (Int32.ofInt 4)) rfl rfl rfl ?_
  refine h_cge (tg := 13) (pc' := 9) rfl rfl rfl ci_1 ci_4 (fun c2 => absurd c2 (by omega)) (fun c2 => ?_)
  refine h_iconst (pc' := 10) (x := (Int32.ofInt 1)) rfl rfl rfl ?_
  refine h_goto (pc' := 14) rfl rfl ?_
  refine h_zret rfl rfl ci_1 (by omega) (h_Kv ?_)
  refine h_zeq (tg := 20) (pc' := 7) rfl rfl rfl ci_1 (fun c3 => absurd c3 (by omega)) (fun c3 => ?_)
  refine h_iload_n (pc' := 8) rfl rfl rfl ?_
  refine h_calls (pc' := 11) (M := [(0, .int x1)]) rfl rfl rfl rfl rfl rfl ?_
  refine h_iload_n (pc' := 1) rfl rfl rfl ?_
  refine h_zlt (tg := 13) (pc' := 4) rfl rfl rfl hx1 (fun c4 => ?_) (fun c4 => ?_)
  · refine h_iconst (pc' := 14) (x := (Int32.ofInt 0)) rfl rfl rfl ?_
    refine h_zret rfl rfl ci_0 (by omega) (h_Kv ?_)
    refine h_zeq (tg := 20) (pc' := 14) rfl rfl rfl ci_0 (fun c5 => ?_) (fun c5 => absurd c5 (by omega))
    refine h_iconst (pc' := 21) (x := (Int32.ofInt (-1))) rfl rfl rfl ?_
    exact h_iret rfl rfl (kk _ _ ci_m1 _ hI F00 (by omega) (Or.inl ⟨by omega, by omega, by omega, by omega, by omega, by omega, by omega, by omega, by omega, by omega, by omega, by omega, by omega, by omega, by omega, by omega, by omega, by omega⟩))
  · refine h_iload_n (pc' := 5) rfl rfl rfl ?_
    refine h_iconst (pc' := 6) (x := (Int32.ofInt 2)) rfl rfl rfl ?_
    refine h_cgt (tg := 13) (pc' := 9) rfl rfl rfl hx1 ci_2 (fun c6 => ?_) (fun c6 => ?_)
    · refine h_iconst (pc' := 14) (x := (Int32.ofInt 0)) rfl rfl rfl ?_
      refine h_zret rfl rfl ci_0 (by omega) (h_Kv ?_)
      refine h_zeq (tg := 20) (pc' := 14) rfl rfl rfl ci_0 (fun c7 => ?_) (fun c7 => absurd c7 (by omega))
      refine h_iconst (pc' := 21) (x := (Int32.ofInt (-1))) rfl rfl rfl ?_
      exact h_iret rfl rfl (kk _ _ ci_m1 _ hI F00 (by omega) (Or.inl ⟨by omega, by omega, by omega, by omega, by omega, by omega, by omega, by omega, by omega, by omega, by omega, by omega, by omega, by omega, by omega, by omega, by omega, by omega⟩))
    · refine h_iconst (pc' := 10) (x := (Int32.ofInt 1)) rfl rfl rfl ?_
      refine h_goto (pc' := 14) rfl rfl ?_
      refine h_zret rfl rfl ci_1 (by omega) (h_Kv ?_)
      refine h_zeq (tg := 20) (pc' := 14) rfl rfl rfl ci_1 (fun c8 => absurd c8 (by omega)) (fun c8 => ?_)
      refine h_iload_n (pc' := 15) rfl rfl rfl ?_
      refine h_bipush (pc' := 17) (x := (Int32.ofInt 40)) rfl rfl cb_40 ?_
      refine h_cle (tg := 22) (pc' := 20) rfl rfl rfl hx2 ci_40 (fun c9 => ?_) (fun c9 => ?_)
      · refine h_iload_n (pc' := 23) rfl rfl rfl ?_
        refine h_zge (tg := 29) (pc' := 26) rfl rfl rfl hx2 (fun c10 => ?_) (fun c10 => ?_)
        · refine h_aload_n (pc' := 30) rfl rfl rfl ?_
          refine h_getR (pc' := 33) rfl rfl rfl rfl rfl ?_
          refine h_iload_n (pc' := 34) rfl rfl rfl ?_
          refine h_iload_n (pc' := 35) rfl rfl rfl ?_
          refine h_iload_n (pc' := 36) rfl rfl rfl ?_
          refine h_call (sp := false) (pc' := 39) (M := [(0, .ref 93), (1, .int (Int32.ofInt 1)), (2, .int x1), (3, .int x2)]) rfl rfl rfl rfl rfl rfl rfl rfl ?_
          refine u_renew1 _ hI  x1 _ hx1 (by omega) x2 _ hx2 (by omega) (fun s12 Is12 Gs12 ps12_0 ps12_1 ps12_2 ps12_3 ps12_4 ps12_5 ps12_6 ps12_7 ps12_8 ps12_9 ps12_10 ps12_11 ps12_12 ps12_13 ps12_14 ps12_15 => h_Kn ?_)
          have Fs12 := (Gs12).tr F00
          refine h_iconst (pc' := 40) (x := (Int32.ofInt 1)) rfl rfl rfl ?_
          exact h_iret rfl rfl (kk _ _ ci_1 _ Is12 Fs12 (by omega) (Or.inr (Or.inr ⟨by omega, by omega, by omega, by omega, by omega, by omega, by omega, by omega, by omega, by omega, by omega, by omega, by omega, by omega, by omega, by omega, by omega, by omega⟩)))
        · refine h_bipush (pc' := 28) (x := (Int32.ofInt (-14))) rfl rfl cb_m14 ?_
          exact h_iret rfl rfl (kk _ _ ci_m14 _ hI F00 (by omega) (Or.inr (Or.inl ⟨by omega, by omega, by omega, by omega, by omega, by omega, by omega, by omega, by omega, by omega, by omega, by omega, by omega, by omega, by omega, by omega, by omega, by omega⟩)))
      · refine h_iconst (pc' := 21) (x := (Int32.ofInt (-1))) rfl rfl rfl ?_
        exact h_iret rfl rfl (kk _ _ ci_m1 _ hI F00 (by omega) (Or.inl ⟨by omega, by omega, by omega, by omega, by omega, by omega, by omega, by omega, by omega, by omega, by omega, by omega, by omega, by omega, by omega, by omega, by omega, by omega⟩))
set_option maxHeartbeats 100000000 in
theorem u_sheetX2 {ns : Nat} (σ : h_S) (hI : h_I σ) (x1 : Int32) (a1 : Int) (hx1 : x1.toInt = a1) (x2 : Int32) (a2 : Int) (hx2 : x2.toInt = a2) {Q : Option Value → h_S → Prop} (kk : ∀ (r : Int32) (b : Int) (hb : r.toInt = b) (τ : h_S), h_I τ → h_F k_n0 τ σ → ((-14) ≤ b ∧ b ≤ 1) → (((b = (-1)) ∧ (a1 < 0 ∨ 2 < a1 ∨ 40 < a2) ∧ (τ 95 0 = σ 95 0) ∧ (τ 95 1 = σ 95 1) ∧ (τ 95 2 = σ 95 2) ∧ (τ 95 3 = σ 95 3) ∧ (τ 96 0 = σ 96 0) ∧ (τ 96 1 = σ 96 1) ∧ (τ 96 2 = σ 96 2) ∧ (τ 96 3 = σ 96 3) ∧ (τ 111 0 = σ 111 0) ∧ (τ 111 1 = σ 111 1) ∧ (τ 111 2 = σ 111 2) ∧ (τ 111 3 = σ 111 3) ∧ (τ 112 0 = σ 112 0) ∧ (τ 112 1 = σ 112 1) ∧ (τ 112 2 = σ 112 2) ∧ (τ 112 3 = σ 112 3)) ∨ ((b = (-14)) ∧ (0 ≤ a1 ∧ a1 ≤ 2 ∧ a2 < 0) ∧ (τ 95 0 = σ 95 0) ∧ (τ 95 1 = σ 95 1) ∧ (τ 95 2 = σ 95 2) ∧ (τ 95 3 = σ 95 3) ∧ (τ 96 0 = σ 96 0) ∧ (τ 96 1 = σ 96 1) ∧ (τ 96 2 = σ 96 2) ∧ (τ 96 3 = σ 96 3) ∧ (τ 111 0 = σ 111 0) ∧ (τ 111 1 = σ 111 1) ∧ (τ 111 2 = σ 111 2) ∧ (τ 111 3 = σ 111 3) ∧ (τ 112 0 = σ 112 0) ∧ (τ 112 1 = σ 112 1) ∧ (τ 112 2 = σ 112 2) ∧ (τ 112 3 = σ 112 3)) ∨ ((b = 1) ∧ (0 ≤ a1 ∧ a1 ≤ 2 ∧ 0 ≤ a2 ∧ a2 ≤ 40) ∧ (τ 95 0 = σ 95 0) ∧ (τ 95 1 = σ 95 1) ∧ (τ 95 3 = σ 95 3) ∧ (τ 96 0 = σ 96 0) ∧ (τ 96 1 = σ 96 1) ∧ (τ 96 3 = σ 96 3) ∧ (τ 111 0 = σ 111 0) ∧ (τ 111 1 = σ 111 1) ∧ (τ 111 2 = σ 111 2) ∧ (τ 111 3 = σ 111 3) ∧ (τ 112 0 = σ 112 0) ∧ (τ 112 1 = σ 112 1) ∧ (τ 112 2 = σ 112 2) ∧ (τ 112 3 = σ 112 3) ∧ (τ 95 2 = a1) ∧ (τ 96 2 = a2))) → Q (some (.int r)) τ) : h_T g_P (g_Y ns) 118 0 [(0, .ref 9), (1, .int (Int32.ofInt 2)), (2, .int x1), (3, .int x2)] [] σ Q := by
  have F00 : h_F k_n0 σ σ := h_F.rf
  refine h_iload_n (pc' := 1) rfl rfl rfl ?_
  refine h_calls (pc' := 4) (M := [(0, .int (Int32.ofInt 2))]) rfl rfl rfl rfl rfl rfl ?_
  refine h_iload_n (pc' := 1) rfl rfl rfl ?_
  refine h_zlt (tg := 13) (pc' := 4) rfl rfl rfl ci_2 (fun c1 => absurd c1 (by omega)) (fun c1 => ?_)
  refine h_iload_n (pc' := 5) rfl rfl rfl ?_
  refine h_iconst (pc' := 6) (x := (Int32.ofInt 4)) rfl rfl rfl ?_
  refine h_cge (tg := 13) (pc' := 9) rfl rfl rfl ci_2 ci_4 (fun c2 => absurd c2 (by omega)) (fun c2 => ?_)
  refine h_iconst (pc' := 10) (x := (Int32.ofInt 1)) rfl rfl rfl ?_
  refine h_goto (pc' := 14) rfl rfl ?_
  refine h_zret rfl rfl ci_1 (by omega) (h_Kv ?_)
  refine h_zeq (tg := 20) (pc' := 7) rfl rfl rfl ci_1 (fun c3 => absurd c3 (by omega)) (fun c3 => ?_)
  refine h_iload_n (pc' := 8) rfl rfl rfl ?_
  refine h_calls (pc' := 11) (M := [(0, .int x1)]) rfl rfl rfl rfl rfl rfl ?_
  refine h_iload_n (pc' := 1) rfl rfl rfl ?_
  refine h_zlt (tg := 13) (pc' := 4) rfl rfl rfl hx1 (fun c4 => ?_) (fun c4 => ?_)
  · refine h_iconst (pc' := 14) (x := (Int32.ofInt 0)) rfl rfl rfl ?_
    refine h_zret rfl rfl ci_0 (by omega) (h_Kv ?_)
    refine h_zeq (tg := 20) (pc' := 14) rfl rfl rfl ci_0 (fun c5 => ?_) (fun c5 => absurd c5 (by omega))
    refine h_iconst (pc' := 21) (x := (Int32.ofInt (-1))) rfl rfl rfl ?_
    exact h_iret rfl rfl (kk _ _ ci_m1 _ hI F00 (by omega) (Or.inl ⟨by omega, by omega, by omega, by omega, by omega, by omega, by omega, by omega, by omega, by omega, by omega, by omega, by omega, by omega, by omega, by omega, by omega, by omega⟩))
  · refine h_iload_n (pc' := 5) rfl rfl rfl ?_
    refine h_iconst (pc' := 6) (x := (Int32.ofInt 2)) rfl rfl rfl ?_
    refine h_cgt (tg := 13) (pc' := 9) rfl rfl rfl hx1 ci_2 (fun c6 => ?_) (fun c6 => ?_)
    · refine h_iconst (pc' := 14) (x := (Int32.ofInt 0)) rfl rfl rfl ?_
      refine h_zret rfl rfl ci_0 (by omega) (h_Kv ?_)
      refine h_zeq (tg := 20) (pc' := 14) rfl rfl rfl ci_0 (fun c7 => ?_) (fun c7 => absurd c7 (by omega))
      refine h_iconst (pc' := 21) (x := (Int32.ofInt (-1))) rfl rfl rfl ?_
      exact h_iret rfl rfl (kk _ _ ci_m1 _ hI F00 (by omega) (Or.inl ⟨by omega, by omega, by omega, by omega, by omega, by omega, by omega, by omega, by omega, by omega, by omega, by omega, by omega, by omega, by omega, by omega, by omega, by omega⟩))
    · refine h_iconst (pc' := 10) (x := (Int32.ofInt 1)) rfl rfl rfl ?_
      refine h_goto (pc' := 14) rfl rfl ?_
      refine h_zret rfl rfl ci_1 (by omega) (h_Kv ?_)
      refine h_zeq (tg := 20) (pc' := 14) rfl rfl rfl ci_1 (fun c8 => absurd c8 (by omega)) (fun c8 => ?_)
      refine h_iload_n (pc' := 15) rfl rfl rfl ?_
      refine h_bipush (pc' := 17) (x := (Int32.ofInt 40)) rfl rfl cb_40 ?_
      refine h_cle (tg := 22) (pc' := 20) rfl rfl rfl hx2 ci_40 (fun c9 => ?_) (fun c9 => ?_)
      · refine h_iload_n (pc' := 23) rfl rfl rfl ?_
        refine h_zge (tg := 29) (pc' := 26) rfl rfl rfl hx2 (fun c10 => ?_) (fun c10 => ?_)
        · refine h_aload_n (pc' := 30) rfl rfl rfl ?_
          refine h_getR (pc' := 33) rfl rfl rfl rfl rfl ?_
          refine h_iload_n (pc' := 34) rfl rfl rfl ?_
          refine h_iload_n (pc' := 35) rfl rfl rfl ?_
          refine h_iload_n (pc' := 36) rfl rfl rfl ?_
          refine h_call (sp := false) (pc' := 39) (M := [(0, .ref 93), (1, .int (Int32.ofInt 2)), (2, .int x1), (3, .int x2)]) rfl rfl rfl rfl rfl rfl rfl rfl ?_
          refine u_renew2 _ hI  x1 _ hx1 (by omega) x2 _ hx2 (by omega) (fun s12 Is12 Gs12 ps12_0 ps12_1 ps12_2 ps12_3 ps12_4 ps12_5 ps12_6 ps12_7 ps12_8 ps12_9 ps12_10 ps12_11 ps12_12 ps12_13 ps12_14 ps12_15 => h_Kn ?_)
          have Fs12 := (Gs12).tr F00
          refine h_iconst (pc' := 40) (x := (Int32.ofInt 1)) rfl rfl rfl ?_
          exact h_iret rfl rfl (kk _ _ ci_1 _ Is12 Fs12 (by omega) (Or.inr (Or.inr ⟨by omega, by omega, by omega, by omega, by omega, by omega, by omega, by omega, by omega, by omega, by omega, by omega, by omega, by omega, by omega, by omega, by omega, by omega⟩)))
        · refine h_bipush (pc' := 28) (x := (Int32.ofInt (-14))) rfl rfl cb_m14 ?_
          exact h_iret rfl rfl (kk _ _ ci_m14 _ hI F00 (by omega) (Or.inr (Or.inl ⟨by omega, by omega, by omega, by omega, by omega, by omega, by omega, by omega, by omega, by omega, by omega, by omega, by omega, by omega, by omega, by omega, by omega, by omega⟩)))
      · refine h_iconst (pc' := 21) (x := (Int32.ofInt (-1))) rfl rfl rfl ?_
        exact h_iret rfl rfl (kk _ _ ci_m1 _ hI F00 (by omega) (Or.inl ⟨by omega, by omega, by omega, by omega, by omega, by omega, by omega, by omega, by omega, by omega, by omega, by omega, by omega, by omega, by omega, by omega, by omega, by omega⟩))
set_option maxHeartbeats 100000000 in
theorem u_sheetX3 {ns : Nat} (σ : h_S) (hI : h_I σ) (x1 : Int32) (a1 : Int) (hx1 : x1.toInt = a1) (x2 : Int32) (a2 : Int) (hx2 : x2.toInt = a2) {Q : Option Value → h_S → Prop} (kk : ∀ (r : Int32) (b : Int) (hb : r.toInt = b) (τ : h_S), h_I τ → h_F k_n0 τ σ → ((-14) ≤ b ∧ b ≤ 1) → (((b = (-1)) ∧ (a1 < 0 ∨ 2 < a1 ∨ 40 < a2) ∧ (τ 95 0 = σ 95 0) ∧ (τ 95 1 = σ 95 1) ∧ (τ 95 2 = σ 95 2) ∧ (τ 95 3 = σ 95 3) ∧ (τ 96 0 = σ 96 0) ∧ (τ 96 1 = σ 96 1) ∧ (τ 96 2 = σ 96 2) ∧ (τ 96 3 = σ 96 3) ∧ (τ 111 0 = σ 111 0) ∧ (τ 111 1 = σ 111 1) ∧ (τ 111 2 = σ 111 2) ∧ (τ 111 3 = σ 111 3) ∧ (τ 112 0 = σ 112 0) ∧ (τ 112 1 = σ 112 1) ∧ (τ 112 2 = σ 112 2) ∧ (τ 112 3 = σ 112 3)) ∨ ((b = (-14)) ∧ (0 ≤ a1 ∧ a1 ≤ 2 ∧ a2 < 0) ∧ (τ 95 0 = σ 95 0) ∧ (τ 95 1 = σ 95 1) ∧ (τ 95 2 = σ 95 2) ∧ (τ 95 3 = σ 95 3) ∧ (τ 96 0 = σ 96 0) ∧ (τ 96 1 = σ 96 1) ∧ (τ 96 2 = σ 96 2) ∧ (τ 96 3 = σ 96 3) ∧ (τ 111 0 = σ 111 0) ∧ (τ 111 1 = σ 111 1) ∧ (τ 111 2 = σ 111 2) ∧ (τ 111 3 = σ 111 3) ∧ (τ 112 0 = σ 112 0) ∧ (τ 112 1 = σ 112 1) ∧ (τ 112 2 = σ 112 2) ∧ (τ 112 3 = σ 112 3)) ∨ ((b = 1) ∧ (0 ≤ a1 ∧ a1 ≤ 2 ∧ 0 ≤ a2 ∧ a2 ≤ 40) ∧ (τ 95 0 = σ 95 0) ∧ (τ 95 1 = σ 95 1) ∧ (τ 95 2 = σ 95 2) ∧ (τ 96 0 = σ 96 0) ∧ (τ 96 1 = σ 96 1) ∧ (τ 96 2 = σ 96 2) ∧ (τ 111 0 = σ 111 0) ∧ (τ 111 1 = σ 111 1) ∧ (τ 111 2 = σ 111 2) ∧ (τ 111 3 = σ 111 3) ∧ (τ 112 0 = σ 112 0) ∧ (τ 112 1 = σ 112 1) ∧ (τ 112 2 = σ 112 2) ∧ (τ 112 3 = σ 112 3) ∧ (τ 95 3 = a1) ∧ (τ 96 3 = a2))) → Q (some (.int r)) τ) : h_T g_P (g_Y ns) 118 0 [(0, .ref 9), (1, .int (Int32.ofInt 3)), (2, .int x1), (3, .int x2)] [] σ Q := by
  have F00 : h_F k_n0 σ σ := h_F.rf
  refine h_iload_n (pc' := 1) rfl rfl rfl ?_
  refine h_calls (pc' := 4) (M := [(0, .int (Int32.ofInt 3))]) rfl rfl rfl rfl rfl rfl ?_
  refine h_iload_n (pc' := 1) rfl rfl rfl ?_
  refine h_zlt (tg := 13) (pc' := 4) rfl rfl rfl ci_3 (fun c1 => absurd c1 (by omega)) (fun c1 => ?_)
  refine h_iload_n (pc' := 5) rfl rfl rfl ?_
  refine h_iconst (pc' := 6) (x := (Int32.ofInt 4)) rfl rfl rfl ?_
  refine h_cge (tg := 13) (pc' := 9) rfl rfl rfl ci_3 ci_4 (fun c2 => absurd c2 (by omega)) (fun c2 => ?_)
  refine h_iconst (pc' := 10) (x := (Int32.ofInt 1)) rfl rfl rfl ?_
  refine h_goto (pc' := 14) rfl rfl ?_
  refine h_zret rfl rfl ci_1 (by omega) (h_Kv ?_)
  refine h_zeq (tg := 20) (pc' := 7) rfl rfl rfl ci_1 (fun c3 => absurd c3 (by omega)) (fun c3 => ?_)
  refine h_iload_n (pc' := 8) rfl rfl rfl ?_
  refine h_calls (pc' := 11) (M := [(0, .int x1)]) rfl rfl rfl rfl rfl rfl ?_
  refine h_iload_n (pc' := 1) rfl rfl rfl ?_
  refine h_zlt (tg := 13) (pc' := 4) rfl rfl rfl hx1 (fun c4 => ?_) (fun c4 => ?_)
  · refine h_iconst (pc' := 14) (x := (Int32.ofInt 0)) rfl rfl rfl ?_
    refine h_zret rfl rfl ci_0 (by omega) (h_Kv ?_)
    refine h_zeq (tg := 20) (pc' := 14) rfl rfl rfl ci_0 (fun c5 => ?_) (fun c5 => absurd c5 (by omega))
    refine h_iconst (pc' := 21) (x := (Int32.ofInt (-1))) rfl rfl rfl ?_
    exact h_iret rfl rfl (kk _ _ ci_m1 _ hI F00 (by omega) (Or.inl ⟨by omega, by omega, by omega, by omega, by omega, by omega, by omega, by omega, by omega, by omega, by omega, by omega, by omega, by omega, by omega, by omega, by omega, by omega⟩))
  · refine h_iload_n (pc' := 5) rfl rfl rfl ?_
    refine h_iconst (pc' := 6) (x := (Int32.ofInt 2)) rfl rfl rfl ?_
    refine h_cgt (tg := 13) (pc' := 9) rfl rfl rfl hx1 ci_2 (fun c6 => ?_) (fun c6 => ?_)
    · refine h_iconst (pc' := 14) (x := (Int32.ofInt 0)) rfl rfl rfl ?_
      refine h_zret rfl rfl ci_0 (by omega) (h_Kv ?_)
      refine h_zeq (tg := 20) (pc' := 14) rfl rfl rfl ci_0 (fun c7 => ?_) (fun c7 => absurd c7 (by omega))
      refine h_iconst (pc' := 21) (x := (Int32.ofInt (-1))) rfl rfl rfl ?_
      exact h_iret rfl rfl (kk _ _ ci_m1 _ hI F00 (by omega) (Or.inl ⟨by omega, by omega, by omega, by omega, by omega, by omega, by omega, by omega, by omega, by omega, by omega, by omega, by omega, by omega, by omega, by omega, by omega, by omega⟩))
    · refine h_iconst (pc' := 10) (x := (Int32.ofInt 1)) rfl rfl rfl ?_
      refine h_goto (pc' := 14) rfl rfl ?_
      refine h_zret rfl rfl ci_1 (by omega) (h_Kv ?_)
      refine h_zeq (tg := 20) (pc' := 14) rfl rfl rfl ci_1 (fun c8 => absurd c8 (by omega)) (fun c8 => ?_)
      refine h_iload_n (pc' := 15) rfl rfl rfl ?_
      refine h_bipush (pc' := 17) (x := (Int32.ofInt 40)) rfl rfl cb_40 ?_
      refine h_cle (tg := 22) (pc' := 20) rfl rfl rfl hx2 ci_40 (fun c9 => ?_) (fun c9 => ?_)
      · refine h_iload_n (pc' := 23) rfl rfl rfl ?_
        refine h_zge (tg := 29) (pc' := 26) rfl rfl rfl hx2 (fun c10 => ?_) (fun c10 => ?_)
        · refine h_aload_n (pc' := 30) rfl rfl rfl ?_
          refine h_getR (pc' := 33) rfl rfl rfl rfl rfl ?_
          refine h_iload_n (pc' := 34) rfl rfl rfl ?_
          refine h_iload_n (pc' := 35) rfl rfl rfl ?_
          refine h_iload_n (pc' := 36) rfl rfl rfl ?_
          refine h_call (sp := false) (pc' := 39) (M := [(0, .ref 93), (1, .int (Int32.ofInt 3)), (2, .int x1), (3, .int x2)]) rfl rfl rfl rfl rfl rfl rfl rfl ?_
          refine u_renew3 _ hI  x1 _ hx1 (by omega) x2 _ hx2 (by omega) (fun s12 Is12 Gs12 ps12_0 ps12_1 ps12_2 ps12_3 ps12_4 ps12_5 ps12_6 ps12_7 ps12_8 ps12_9 ps12_10 ps12_11 ps12_12 ps12_13 ps12_14 ps12_15 => h_Kn ?_)
          have Fs12 := (Gs12).tr F00
          refine h_iconst (pc' := 40) (x := (Int32.ofInt 1)) rfl rfl rfl ?_
          exact h_iret rfl rfl (kk _ _ ci_1 _ Is12 Fs12 (by omega) (Or.inr (Or.inr ⟨by omega, by omega, by omega, by omega, by omega, by omega, by omega, by omega, by omega, by omega, by omega, by omega, by omega, by omega, by omega, by omega, by omega, by omega⟩)))
        · refine h_bipush (pc' := 28) (x := (Int32.ofInt (-14))) rfl rfl cb_m14 ?_
          exact h_iret rfl rfl (kk _ _ ci_m14 _ hI F00 (by omega) (Or.inr (Or.inl ⟨by omega, by omega, by omega, by omega, by omega, by omega, by omega, by omega, by omega, by omega, by omega, by omega, by omega, by omega, by omega, by omega, by omega, by omega⟩)))
      · refine h_iconst (pc' := 21) (x := (Int32.ofInt (-1))) rfl rfl rfl ?_
        exact h_iret rfl rfl (kk _ _ ci_m1 _ hI F00 (by omega) (Or.inl ⟨by omega, by omega, by omega, by omega, by omega, by omega, by omega, by omega, by omega, by omega, by omega, by omega, by omega, by omega, by omega, by omega, by omega, by omega⟩))
set_option maxHeartbeats 100000000 in
theorem u_sheetXn {ns : Nat} (σ : h_S) (hI : h_I σ) (x0 : Int32) (a0 : Int) (hx0 : x0.toInt = a0) (ra0 : -2147483648 ≤ a0 ∧ a0 ≤ -1) (x1 : Int32) (a1 : Int) (hx1 : x1.toInt = a1) (x2 : Int32) (a2 : Int) (hx2 : x2.toInt = a2) {Q : Option Value → h_S → Prop} (kk : ∀ (r : Int32) (b : Int) (hb : r.toInt = b) (τ : h_S), h_I τ → h_F k_sc τ σ → ((-1) ≤ b ∧ b ≤ (-1)) → (((b = (-1)) ∧ (τ 95 0 = σ 95 0) ∧ (τ 95 1 = σ 95 1) ∧ (τ 95 2 = σ 95 2) ∧ (τ 95 3 = σ 95 3) ∧ (τ 96 0 = σ 96 0) ∧ (τ 96 1 = σ 96 1) ∧ (τ 96 2 = σ 96 2) ∧ (τ 96 3 = σ 96 3) ∧ (τ 111 0 = σ 111 0) ∧ (τ 111 1 = σ 111 1) ∧ (τ 111 2 = σ 111 2) ∧ (τ 111 3 = σ 111 3) ∧ (τ 112 0 = σ 112 0) ∧ (τ 112 1 = σ 112 1) ∧ (τ 112 2 = σ 112 2) ∧ (τ 112 3 = σ 112 3))) → Q (some (.int r)) τ) : h_T g_P (g_Y ns) 118 0 [(0, .ref 9), (1, .int x0), (2, .int x1), (3, .int x2)] [] σ Q := by
  have F00 : h_F k_sc σ σ := h_F.rf
  refine h_iload_n (pc' := 1) rfl rfl rfl ?_
  refine h_calls (pc' := 4) (M := [(0, .int x0)]) rfl rfl rfl rfl rfl rfl ?_
  refine h_iload_n (pc' := 1) rfl rfl rfl ?_
  refine h_zlt (tg := 13) (pc' := 4) rfl rfl rfl hx0 (fun c1 => ?_) (fun c1 => absurd c1 (by omega))
  refine h_iconst (pc' := 14) (x := (Int32.ofInt 0)) rfl rfl rfl ?_
  refine h_zret rfl rfl ci_0 (by omega) (h_Kv ?_)
  refine h_zeq (tg := 20) (pc' := 7) rfl rfl rfl ci_0 (fun c2 => ?_) (fun c2 => absurd c2 (by omega))
  refine h_iconst (pc' := 21) (x := (Int32.ofInt (-1))) rfl rfl rfl ?_
  exact h_iret rfl rfl (kk _ _ ci_m1 _ hI F00 (by omega) ⟨by omega, by omega, by omega, by omega, by omega, by omega, by omega, by omega, by omega, by omega, by omega, by omega, by omega, by omega, by omega, by omega, by omega⟩)
set_option maxHeartbeats 100000000 in
theorem u_sheetXp {ns : Nat} (σ : h_S) (hI : h_I σ) (x0 : Int32) (a0 : Int) (hx0 : x0.toInt = a0) (ra0 : 4 ≤ a0 ∧ a0 ≤ 2147483647) (x1 : Int32) (a1 : Int) (hx1 : x1.toInt = a1) (x2 : Int32) (a2 : Int) (hx2 : x2.toInt = a2) {Q : Option Value → h_S → Prop} (kk : ∀ (r : Int32) (b : Int) (hb : r.toInt = b) (τ : h_S), h_I τ → h_F k_sc τ σ → ((-1) ≤ b ∧ b ≤ (-1)) → (((b = (-1)) ∧ (τ 95 0 = σ 95 0) ∧ (τ 95 1 = σ 95 1) ∧ (τ 95 2 = σ 95 2) ∧ (τ 95 3 = σ 95 3) ∧ (τ 96 0 = σ 96 0) ∧ (τ 96 1 = σ 96 1) ∧ (τ 96 2 = σ 96 2) ∧ (τ 96 3 = σ 96 3) ∧ (τ 111 0 = σ 111 0) ∧ (τ 111 1 = σ 111 1) ∧ (τ 111 2 = σ 111 2) ∧ (τ 111 3 = σ 111 3) ∧ (τ 112 0 = σ 112 0) ∧ (τ 112 1 = σ 112 1) ∧ (τ 112 2 = σ 112 2) ∧ (τ 112 3 = σ 112 3))) → Q (some (.int r)) τ) : h_T g_P (g_Y ns) 118 0 [(0, .ref 9), (1, .int x0), (2, .int x1), (3, .int x2)] [] σ Q := by
  have F00 : h_F k_sc σ σ := h_F.rf
  refine h_iload_n (pc' := 1) rfl rfl rfl ?_
  refine h_calls (pc' := 4) (M := [(0, .int x0)]) rfl rfl rfl rfl rfl rfl ?_
  refine h_iload_n (pc' := 1) rfl rfl rfl ?_
  refine h_zlt (tg := 13) (pc' := 4) rfl rfl rfl hx0 (fun c1 => absurd c1 (by omega)) (fun c1 => ?_)
  refine h_iload_n (pc' := 5) rfl rfl rfl ?_
  refine h_iconst (pc' := 6) (x := (Int32.ofInt 4)) rfl rfl rfl ?_
  refine h_cge (tg := 13) (pc' := 9) rfl rfl rfl hx0 ci_4 (fun c2 => ?_) (fun c2 => absurd c2 (by omega))
  refine h_iconst (pc' := 14) (x := (Int32.ofInt 0)) rfl rfl rfl ?_
  refine h_zret rfl rfl ci_0 (by omega) (h_Kv ?_)
  refine h_zeq (tg := 20) (pc' := 7) rfl rfl rfl ci_0 (fun c3 => ?_) (fun c3 => absurd c3 (by omega))
  refine h_iconst (pc' := 21) (x := (Int32.ofInt (-1))) rfl rfl rfl ?_
  exact h_iret rfl rfl (kk _ _ ci_m1 _ hI F00 (by omega) ⟨by omega, by omega, by omega, by omega, by omega, by omega, by omega, by omega, by omega, by omega, by omega, by omega, by omega, by omega, by omega, by omega, by omega⟩)
set_option maxHeartbeats 100000000 in
theorem u_sheetM0_l (ns : Nat) (σ : h_S) (hI : h_I σ) (x1 : Int32) (a1 : Int) (hx1 : x1.toInt = a1) (x2 : Int32) (a2 : Int) (hx2 : x2.toInt = a2) {Q : Option Value → h_S → Prop} (kk : ∀ (r : Int32) (b : Int) (hb : r.toInt = b) (τ : h_S), h_I τ → h_F k_n0 τ σ → ((-14) ≤ b ∧ b ≤ 1) → (((b = (-1)) ∧ (a1 < 0 ∨ 2 < a1 ∨ 40 < a2) ∧ (τ 95 0 = σ 95 0) ∧ (τ 95 1 = σ 95 1) ∧ (τ 95 2 = σ 95 2) ∧ (τ 95 3 = σ 95 3) ∧ (τ 96 0 = σ 96 0) ∧ (τ 96 1 = σ 96 1) ∧ (τ 96 2 = σ 96 2) ∧ (τ 96 3 = σ 96 3) ∧ (τ 111 0 = σ 111 0) ∧ (τ 111 1 = σ 111 1) ∧ (τ 111 2 = σ 111 2) ∧ (τ 111 3 = σ 111 3) ∧ (τ 112 0 = σ 112 0) ∧ (τ 112 1 = σ 112 1) ∧ (τ 112 2 = σ 112 2) ∧ (τ 112 3 = σ 112 3)) ∨ ((b = (-14)) ∧ (0 ≤ a1 ∧ a1 ≤ 2 ∧ a2 < 0) ∧ (τ 95 0 = σ 95 0) ∧ (τ 95 1 = σ 95 1) ∧ (τ 95 2 = σ 95 2) ∧ (τ 95 3 = σ 95 3) ∧ (τ 96 0 = σ 96 0) ∧ (τ 96 1 = σ 96 1) ∧ (τ 96 2 = σ 96 2) ∧ (τ 96 3 = σ 96 3) ∧ (τ 111 0 = σ 111 0) ∧ (τ 111 1 = σ 111 1) ∧ (τ 111 2 = σ 111 2) ∧ (τ 111 3 = σ 111 3) ∧ (τ 112 0 = σ 112 0) ∧ (τ 112 1 = σ 112 1) ∧ (τ 112 2 = σ 112 2) ∧ (τ 112 3 = σ 112 3)) ∨ ((b = 1) ∧ (0 ≤ a1 ∧ a1 ≤ 2 ∧ 0 ≤ a2 ∧ a2 ≤ 40) ∧ (τ 95 0 = σ 95 0) ∧ (τ 95 1 = σ 95 1) ∧ (τ 95 2 = σ 95 2) ∧ (τ 95 3 = σ 95 3) ∧ (τ 96 0 = σ 96 0) ∧ (τ 96 1 = σ 96 1) ∧ (τ 96 2 = σ 96 2) ∧ (τ 96 3 = σ 96 3) ∧ (τ 111 1 = σ 111 1) ∧ (τ 111 2 = σ 111 2) ∧ (τ 111 3 = σ 111 3) ∧ (τ 112 1 = σ 112 1) ∧ (τ 112 2 = σ 112 2) ∧ (τ 112 3 = σ 112 3) ∧ (τ 111 0 = a1) ∧ (τ 112 0 = a2))) → Q (some (.int r)) τ) : ∀ n : Nat, (∀ (s0 : h_S), h_I s0 → h_F k_n0 s0 σ → ∀ (y4 : Int32) (b4 : Int), y4.toInt = b4 → (0 ≤ b4 ∧ b4 ≤ 40) → (0 ≤ a1 ∧ a1 ≤ 2 ∧ 0 ≤ a2 ∧ a2 ≤ 40) → (s0 95 0 = σ 95 0) → (s0 95 1 = σ 95 1) → (s0 95 2 = σ 95 2) → (s0 95 3 = σ 95 3) → (s0 96 0 = σ 96 0) → (s0 96 1 = σ 96 1) → (s0 96 2 = σ 96 2) → (s0 96 3 = σ 96 3) → (s0 111 1 = σ 111 1) → (s0 111 2 = σ 111 2) → (s0 111 3 = σ 111 3) → (s0 112 1 = σ 112 1) → (s0 112 2 = σ 112 2) → (s0 112 3 = σ 112 3) → (s0 111 0 = a1) → (s0 112 0 = a2) → (40 + 1 - b4) * 1000000 + 1000000000 ≤ (n : Int) → h_T g_P (g_Y ns) 220 56 [(0, .ref 98), (1, .int (Int32.ofInt 0)), (2, .int x1), (3, .int x2), (4, .int y4)] [] s0 Q) := by
  intro n
  induction n with
  | zero => exact by intro s0 I0 F0_ y4 b4 hy4 ry4 ex0 ex1 ex2 ex3 ex4 ex5 ex6 ex7 ex8 ex9 ex10 ex11 ex12 ex13 ex14 ex15 ex16 hm; exfalso; omega
  | succ n ih =>
    intro s0 I0 F0_ y4 b4 hy4 ry4 ex0 ex1 ex2 ex3 ex4 ex5 ex6 ex7 ex8 ex9 ex10 ex11 ex12 ex13 ex14 ex15 ex16 hm
    refine h_iload (pc' := 58) rfl rfl rfl ?_
    refine h_bipush (pc' := 60) (x := (Int32.ofInt 40)) rfl rfl cb_40 ?_
    refine h_cge (tg := 82) (pc' := 63) rfl rfl rfl hy4 ci_40 (fun c1 => ?_) (fun c1 => ?_)
    · refine h_iconst (pc' := 83) (x := (Int32.ofInt 1)) rfl rfl rfl ?_
      exact h_iret rfl rfl (kk _ _ ci_1 _ I0 F0_ (by omega) (Or.inr (Or.inr ⟨by omega, by omega, by omega, by omega, by omega, by omega, by omega, by omega, by omega, by omega, by omega, by omega, by omega, by omega, by omega, by omega, by omega, by omega⟩)))
    · refine h_aload_n (pc' := 64) rfl rfl rfl ?_
      refine h_getR (pc' := 67) rfl rfl rfl rfl rfl ?_
      refine h_bipush (pc' := 69) (x := (Int32.ofInt 40)) rfl rfl cb_40 ?_
      refine h_iload_n (pc' := 70) rfl rfl rfl ?_
      refine h_imul (pc' := 71) (c := 0) rfl rfl ci_40 ci_0 rfl (by omega) (by omega) (fun z2 hz2 => ?_)
      refine h_iload (pc' := 73) rfl rfl rfl ?_
      refine h_iadd (pc' := 74) rfl rfl hz2 hy4 rfl (by omega) (by omega) (fun z3 hz3 => ?_)
      refine h_iconst (pc' := 75) (x := (Int32.ofInt 0)) rfl rfl rfl ?_
      refine h_iast (pc' := 76) rfl rfl rfl rfl hz3 (by omega) (by omega) ci_0 (h_fgt (E := fun s => s 95 0 = s0 95 0 ∧ s 95 1 = s0 95 1 ∧ s 95 2 = s0 95 2 ∧ s 95 3 = s0 95 3 ∧ s 96 0 = s0 96 0 ∧ s 96 1 = s0 96 1 ∧ s 96 2 = s0 96 2 ∧ s 96 3 = s0 96 3 ∧ s 111 0 = s0 111 0 ∧ s 111 1 = s0 111 1 ∧ s 111 2 = s0 111 2 ∧ s 111 3 = s0 111 3 ∧ s 112 0 = s0 112 0 ∧ s 112 1 = s0 112 1 ∧ s 112 2 = s0 112 2 ∧ s 112 3 = s0 112 3) _ (in_113 I0 (h_rgv ci_0)) (F0_.up rfl) ⟨rfl, rfl, rfl, rfl, rfl, rfl, rfl, rfl, rfl, rfl, rfl, rfl, rfl, rfl, rfl, rfl⟩ (fun s4 Is4 Fs4 (es4 : s4 95 0 = s0 95 0 ∧ s4 95 1 = s0 95 1 ∧ s4 95 2 = s0 95 2 ∧ s4 95 3 = s0 95 3 ∧ s4 96 0 = s0 96 0 ∧ s4 96 1 = s0 96 1 ∧ s4 96 2 = s0 96 2 ∧ s4 96 3 = s0 96 3 ∧ s4 111 0 = s0 111 0 ∧ s4 111 1 = s0 111 1 ∧ s4 111 2 = s0 111 2 ∧ s4 111 3 = s0 111 3 ∧ s4 112 0 = s0 112 0 ∧ s4 112 1 = s0 112 1 ∧ s4 112 2 = s0 112 2 ∧ s4 112 3 = s0 112 3) => ?_))
      refine h_iinc (pc' := 79) (M := fun z5 => [(4, .int z5), (0, .ref 98), (1, .int (Int32.ofInt 0)), (2, .int x1), (3, .int x2)]) rfl rfl rfl rfl hy4 ci_1 rfl (by omega) (by omega) (fun _ => rfl) (fun z5 hz5 => ?_)
      refine h_goto (pc' := 56) rfl rfl ?_
      exact h_wk [(0, .ref 98), (1, .int (Int32.ofInt 0)), (2, .int x1), (3, .int x2), (4, .int z5)] ⟨rfl, rfl, rfl, rfl, rfl, trivial⟩ (ih _ Is4 Fs4 z5 _ hz5 (by omega) (by omega) (by omega) (by omega) (by omega) (by omega) (by omega) (by omega) (by omega) (by omega) (by omega) (by omega) (by omega) (by omega) (by omega) (by omega) (by omega) (by omega) (by omega))
set_option maxHeartbeats 100000000 in
theorem u_sheetM0 {ns : Nat} (σ : h_S) (hI : h_I σ) (x1 : Int32) (a1 : Int) (hx1 : x1.toInt = a1) (x2 : Int32) (a2 : Int) (hx2 : x2.toInt = a2) {Q : Option Value → h_S → Prop} (kk : ∀ (r : Int32) (b : Int) (hb : r.toInt = b) (τ : h_S), h_I τ → h_F k_n0 τ σ → ((-14) ≤ b ∧ b ≤ 1) → (((b = (-1)) ∧ (a1 < 0 ∨ 2 < a1 ∨ 40 < a2) ∧ (τ 95 0 = σ 95 0) ∧ (τ 95 1 = σ 95 1) ∧ (τ 95 2 = σ 95 2) ∧ (τ 95 3 = σ 95 3) ∧ (τ 96 0 = σ 96 0) ∧ (τ 96 1 = σ 96 1) ∧ (τ 96 2 = σ 96 2) ∧ (τ 96 3 = σ 96 3) ∧ (τ 111 0 = σ 111 0) ∧ (τ 111 1 = σ 111 1) ∧ (τ 111 2 = σ 111 2) ∧ (τ 111 3 = σ 111 3) ∧ (τ 112 0 = σ 112 0) ∧ (τ 112 1 = σ 112 1) ∧ (τ 112 2 = σ 112 2) ∧ (τ 112 3 = σ 112 3)) ∨ ((b = (-14)) ∧ (0 ≤ a1 ∧ a1 ≤ 2 ∧ a2 < 0) ∧ (τ 95 0 = σ 95 0) ∧ (τ 95 1 = σ 95 1) ∧ (τ 95 2 = σ 95 2) ∧ (τ 95 3 = σ 95 3) ∧ (τ 96 0 = σ 96 0) ∧ (τ 96 1 = σ 96 1) ∧ (τ 96 2 = σ 96 2) ∧ (τ 96 3 = σ 96 3) ∧ (τ 111 0 = σ 111 0) ∧ (τ 111 1 = σ 111 1) ∧ (τ 111 2 = σ 111 2) ∧ (τ 111 3 = σ 111 3) ∧ (τ 112 0 = σ 112 0) ∧ (τ 112 1 = σ 112 1) ∧ (τ 112 2 = σ 112 2) ∧ (τ 112 3 = σ 112 3)) ∨ ((b = 1) ∧ (0 ≤ a1 ∧ a1 ≤ 2 ∧ 0 ≤ a2 ∧ a2 ≤ 40) ∧ (τ 95 0 = σ 95 0) ∧ (τ 95 1 = σ 95 1) ∧ (τ 95 2 = σ 95 2) ∧ (τ 95 3 = σ 95 3) ∧ (τ 96 0 = σ 96 0) ∧ (τ 96 1 = σ 96 1) ∧ (τ 96 2 = σ 96 2) ∧ (τ 96 3 = σ 96 3) ∧ (τ 111 1 = σ 111 1) ∧ (τ 111 2 = σ 111 2) ∧ (τ 111 3 = σ 111 3) ∧ (τ 112 1 = σ 112 1) ∧ (τ 112 2 = σ 112 2) ∧ (τ 112 3 = σ 112 3) ∧ (τ 111 0 = a1) ∧ (τ 112 0 = a2))) → Q (some (.int r)) τ) : h_T g_P (g_Y ns) 220 0 [(0, .ref 98), (1, .int (Int32.ofInt 0)), (2, .int x1), (3, .int x2)] [] σ Q := by
  have F00 : h_F k_n0 σ σ := h_F.rf
  refine h_iload_n (pc' := 1) rfl rfl rfl ?_
  refine h_i2l (pc' := 2) rfl rfl ci_0 (fun z1 hz1 => ?_)
  refine h_lconst (pc' := 3) (x := (Int64.ofInt 0)) rfl rfl rfl ?_
  refine h_ldc2 (pc' := 6) (x := (Int64.ofInt 3)) rfl rfl rfl ?_
  refine h_calls (pc' := 9) (M := [(0, .long z1), (2, .long (Int64.ofInt 0)), (4, .long (Int64.ofInt 3))]) rfl rfl rfl rfl rfl rfl ?_
  refine h_lload_n (pc' := 1) rfl rfl rfl ?_
  refine h_lload_n (pc' := 2) rfl rfl rfl ?_
  refine h_lcmp (pc' := 3) rfl rfl hz1 cl_0 (fun z2 hz2 => ?_)
  refine h_zlt (tg := 17) (pc' := 6) rfl rfl rfl rfl (fun c3 => absurd c3 (by omega)) (fun c3 => ?_)
  replace c3 := (h_lcr hz2).2.1 c3
  clear hz2
  refine h_lload_n (pc' := 7) rfl rfl rfl ?_
  refine h_lload (pc' := 9) rfl rfl rfl ?_
  refine h_lcmp (pc' := 10) rfl rfl hz1 cl_3 (fun z4 hz4 => ?_)
  refine h_zgt (tg := 17) (pc' := 13) rfl rfl rfl rfl (fun c5 => absurd c5 (by omega)) (fun c5 => ?_)
  replace c5 := (h_lcr hz4).2.2.1 c5
  clear hz4
  refine h_iconst (pc' := 14) (x := (Int32.ofInt 1)) rfl rfl rfl ?_
  refine h_goto (pc' := 18) rfl rfl ?_
  refine h_zret rfl rfl ci_1 (by omega) (h_Kv ?_)
  refine h_zeq (tg := 30) (pc' := 12) rfl rfl rfl ci_1 (fun c6 => absurd c6 (by omega)) (fun c6 => ?_)
  refine h_iload_n (pc' := 13) rfl rfl rfl ?_
  refine h_i2l (pc' := 14) rfl rfl hx1 (fun z7 hz7 => ?_)
  refine h_lconst (pc' := 15) (x := (Int64.ofInt 0)) rfl rfl rfl ?_
  refine h_ldc2 (pc' := 18) (x := (Int64.ofInt 2)) rfl rfl rfl ?_
  refine h_calls (pc' := 21) (M := [(0, .long z7), (2, .long (Int64.ofInt 0)), (4, .long (Int64.ofInt 2))]) rfl rfl rfl rfl rfl rfl ?_
  refine h_lload_n (pc' := 1) rfl rfl rfl ?_
  refine h_lload_n (pc' := 2) rfl rfl rfl ?_
  refine h_lcmp (pc' := 3) rfl rfl hz7 cl_0 (fun z8 hz8 => ?_)
  refine h_zlt (tg := 17) (pc' := 6) rfl rfl rfl rfl (fun c9 => ?_) (fun c9 => ?_)
  · replace c9 := (h_lcr hz8).1 c9
    clear hz8
    refine h_iconst (pc' := 18) (x := (Int32.ofInt 0)) rfl rfl rfl ?_
    refine h_zret rfl rfl ci_0 (by omega) (h_Kv ?_)
    refine h_zeq (tg := 30) (pc' := 24) rfl rfl rfl ci_0 (fun c10 => ?_) (fun c10 => absurd c10 (by omega))
    refine h_iconst (pc' := 31) (x := (Int32.ofInt (-1))) rfl rfl rfl ?_
    exact h_iret rfl rfl (kk _ _ ci_m1 _ hI F00 (by omega) (Or.inl ⟨by omega, by omega, by omega, by omega, by omega, by omega, by omega, by omega, by omega, by omega, by omega, by omega, by omega, by omega, by omega, by omega, by omega, by omega⟩))
  · replace c9 := (h_lcr hz8).2.1 c9
    clear hz8
    refine h_lload_n (pc' := 7) rfl rfl rfl ?_
    refine h_lload (pc' := 9) rfl rfl rfl ?_
    refine h_lcmp (pc' := 10) rfl rfl hz7 cl_2 (fun z11 hz11 => ?_)
    refine h_zgt (tg := 17) (pc' := 13) rfl rfl rfl rfl (fun c12 => ?_) (fun c12 => ?_)
    · replace c12 := (h_lcr hz11).2.2.2.1 c12
      clear hz11
      refine h_iconst (pc' := 18) (x := (Int32.ofInt 0)) rfl rfl rfl ?_
      refine h_zret rfl rfl ci_0 (by omega) (h_Kv ?_)
      refine h_zeq (tg := 30) (pc' := 24) rfl rfl rfl ci_0 (fun c13 => ?_) (fun c13 => absurd c13 (by omega))
      refine h_iconst (pc' := 31) (x := (Int32.ofInt (-1))) rfl rfl rfl ?_
      exact h_iret rfl rfl (kk _ _ ci_m1 _ hI F00 (by omega) (Or.inl ⟨by omega, by omega, by omega, by omega, by omega, by omega, by omega, by omega, by omega, by omega, by omega, by omega, by omega, by omega, by omega, by omega, by omega, by omega⟩))
    · replace c12 := (h_lcr hz11).2.2.1 c12
      clear hz11
      refine h_iconst (pc' := 14) (x := (Int32.ofInt 1)) rfl rfl rfl ?_
      refine h_goto (pc' := 18) rfl rfl ?_
      refine h_zret rfl rfl ci_1 (by omega) (h_Kv ?_)
      refine h_zeq (tg := 30) (pc' := 24) rfl rfl rfl ci_1 (fun c14 => absurd c14 (by omega)) (fun c14 => ?_)
      refine h_iload_n (pc' := 25) rfl rfl rfl ?_
      refine h_bipush (pc' := 27) (x := (Int32.ofInt 40)) rfl rfl cb_40 ?_
      refine h_cle (tg := 32) (pc' := 30) rfl rfl rfl hx2 ci_40 (fun c15 => ?_) (fun c15 => ?_)
      · refine h_iload_n (pc' := 33) rfl rfl rfl ?_
        refine h_zge (tg := 39) (pc' := 36) rfl rfl rfl hx2 (fun c16 => ?_) (fun c16 => ?_)
        · refine h_aload_n (pc' := 40) rfl rfl rfl ?_
          refine h_getR (pc' := 43) rfl rfl rfl rfl rfl ?_
          refine h_iload_n (pc' := 44) rfl rfl rfl ?_
          refine h_iload_n (pc' := 45) rfl rfl rfl ?_
          refine h_iast (pc' := 46) rfl rfl rfl rfl ci_0 (by omega) (by omega) hx1 (h_fgt (E := fun s => s 95 0 = σ 95 0 ∧ s 95 1 = σ 95 1 ∧ s 95 2 = σ 95 2 ∧ s 95 3 = σ 95 3 ∧ s 96 0 = σ 96 0 ∧ s 96 1 = σ 96 1 ∧ s 96 2 = σ 96 2 ∧ s 96 3 = σ 96 3 ∧ s 111 0 = a1 ∧ s 111 1 = σ 111 1 ∧ s 111 2 = σ 111 2 ∧ s 111 3 = σ 111 3 ∧ s 112 0 = σ 112 0 ∧ s 112 1 = σ 112 1 ∧ s 112 2 = σ 112 2 ∧ s 112 3 = σ 112 3) _ (in_111 hI (by omega)) (F00.up rfl) ⟨rfl, rfl, rfl, rfl, rfl, rfl, rfl, rfl, rfl, rfl, rfl, rfl, rfl, rfl, rfl, rfl⟩ (fun s17 Is17 Fs17 (es17 : s17 95 0 = σ 95 0 ∧ s17 95 1 = σ 95 1 ∧ s17 95 2 = σ 95 2 ∧ s17 95 3 = σ 95 3 ∧ s17 96 0 = σ 96 0 ∧ s17 96 1 = σ 96 1 ∧ s17 96 2 = σ 96 2 ∧ s17 96 3 = σ 96 3 ∧ s17 111 0 = a1 ∧ s17 111 1 = σ 111 1 ∧ s17 111 2 = σ 111 2 ∧ s17 111 3 = σ 111 3 ∧ s17 112 0 = σ 112 0 ∧ s17 112 1 = σ 112 1 ∧ s17 112 2 = σ 112 2 ∧ s17 112 3 = σ 112 3) => ?_))
          refine h_aload_n (pc' := 47) rfl rfl rfl ?_
          refine h_getR (pc' := 50) rfl rfl rfl rfl rfl ?_
          refine h_iload_n (pc' := 51) rfl rfl rfl ?_
          refine h_iload_n (pc' := 52) rfl rfl rfl ?_
          refine h_iast (pc' := 53) rfl rfl rfl rfl ci_0 (by omega) (by omega) hx2 (h_fgt (E := fun s => s 95 0 = σ 95 0 ∧ s 95 1 = σ 95 1 ∧ s 95 2 = σ 95 2 ∧ s 95 3 = σ 95 3 ∧ s 96 0 = σ 96 0 ∧ s 96 1 = σ 96 1 ∧ s 96 2 = σ 96 2 ∧ s 96 3 = σ 96 3 ∧ s 111 0 = a1 ∧ s 111 1 = σ 111 1 ∧ s 111 2 = σ 111 2 ∧ s 111 3 = σ 111 3 ∧ s 112 0 = a2 ∧ s 112 1 = σ 112 1 ∧ s 112 2 = σ 112 2 ∧ s 112 3 = σ 112 3) _ (in_112 Is17 (by omega)) (Fs17.up rfl) ⟨es17.1, es17.2.1, es17.2.2.1, es17.2.2.2.1, es17.2.2.2.2.1, es17.2.2.2.2.2.1, es17.2.2.2.2.2.2.1, es17.2.2.2.2.2.2.2.1, es17.2.2.2.2.2.2.2.2.1, es17.2.2.2.2.2.2.2.2.2.1, es17.2.2.2.2.2.2.2.2.2.2.1, es17.2.2.2.2.2.2.2.2.2.2.2.1, rfl, es17.2.2.2.2.2.2.2.2.2.2.2.2.2.1, es17.2.2.2.2.2.2.2.2.2.2.2.2.2.2.1, es17.2.2.2.2.2.2.2.2.2.2.2.2.2.2.2⟩ (fun s18 Is18 Fs18 (es18 : s18 95 0 = σ 95 0 ∧ s18 95 1 = σ 95 1 ∧ s18 95 2 = σ 95 2 ∧ s18 95 3 = σ 95 3 ∧ s18 96 0 = σ 96 0 ∧ s18 96 1 = σ 96 1 ∧ s18 96 2 = σ 96 2 ∧ s18 96 3 = σ 96 3 ∧ s18 111 0 = a1 ∧ s18 111 1 = σ 111 1 ∧ s18 111 2 = σ 111 2 ∧ s18 111 3 = σ 111 3 ∧ s18 112 0 = a2 ∧ s18 112 1 = σ 112 1 ∧ s18 112 2 = σ 112 2 ∧ s18 112 3 = σ 112 3) => ?_))
          clear es17
          refine h_iconst (pc' := 54) (x := (Int32.ofInt 0)) rfl rfl rfl ?_
          refine h_istore (pc' := 56) (M := [(4, .int (Int32.ofInt 0)), (0, .ref 98), (1, .int (Int32.ofInt 0)), (2, .int x1), (3, .int x2)]) rfl rfl rfl rfl ?_
          exact h_wk [(0, .ref 98), (1, .int (Int32.ofInt 0)), (2, .int x1), (3, .int x2), (4, .int (Int32.ofInt 0))] ⟨rfl, rfl, rfl, rfl, rfl, trivial⟩ ((u_sheetM0_l ns σ hI x1 a1 hx1 x2 a2 hx2 kk 1000000000000) _ Is18 Fs18 (Int32.ofInt 0) _ ci_0 (by omega) (by omega) (by omega) (by omega) (by omega) (by omega) (by omega) (by omega) (by omega) (by omega) (by omega) (by omega) (by omega) (by omega) (by omega) (by omega) (by omega) (by omega) (by omega))
        · refine h_bipush (pc' := 38) (x := (Int32.ofInt (-14))) rfl rfl cb_m14 ?_
          exact h_iret rfl rfl (kk _ _ ci_m14 _ hI F00 (by omega) (Or.inr (Or.inl ⟨by omega, by omega, by omega, by omega, by omega, by omega, by omega, by omega, by omega, by omega, by omega, by omega, by omega, by omega, by omega, by omega, by omega, by omega⟩)))
      · refine h_iconst (pc' := 31) (x := (Int32.ofInt (-1))) rfl rfl rfl ?_
        exact h_iret rfl rfl (kk _ _ ci_m1 _ hI F00 (by omega) (Or.inl ⟨by omega, by omega, by omega, by omega, by omega, by omega, by omega, by omega, by omega, by omega, by omega, by omega, by omega, by omega, by omega, by omega, by omega, by omega⟩))
set_option maxHeartbeats 100000000 in
theorem u_sheetM1_l (ns : Nat) (σ : h_S) (hI : h_I σ) (x1 : Int32) (a1 : Int) (hx1 : x1.toInt = a1) (x2 : Int32) (a2 : Int) (hx2 : x2.toInt = a2) {Q : Option Value → h_S → Prop} (kk : ∀ (r : Int32) (b : Int) (hb : r.toInt = b) (τ : h_S), h_I τ → h_F k_n0 τ σ → ((-14) ≤ b ∧ b ≤ 1) → (((b = (-1)) ∧ (a1 < 0 ∨ 2 < a1 ∨ 40 < a2) ∧ (τ 95 0 = σ 95 0) ∧ (τ 95 1 = σ 95 1) ∧ (τ 95 2 = σ 95 2) ∧ (τ 95 3 = σ 95 3) ∧ (τ 96 0 = σ 96 0) ∧ (τ 96 1 = σ 96 1) ∧ (τ 96 2 = σ 96 2) ∧ (τ 96 3 = σ 96 3) ∧ (τ 111 0 = σ 111 0) ∧ (τ 111 1 = σ 111 1) ∧ (τ 111 2 = σ 111 2) ∧ (τ 111 3 = σ 111 3) ∧ (τ 112 0 = σ 112 0) ∧ (τ 112 1 = σ 112 1) ∧ (τ 112 2 = σ 112 2) ∧ (τ 112 3 = σ 112 3)) ∨ ((b = (-14)) ∧ (0 ≤ a1 ∧ a1 ≤ 2 ∧ a2 < 0) ∧ (τ 95 0 = σ 95 0) ∧ (τ 95 1 = σ 95 1) ∧ (τ 95 2 = σ 95 2) ∧ (τ 95 3 = σ 95 3) ∧ (τ 96 0 = σ 96 0) ∧ (τ 96 1 = σ 96 1) ∧ (τ 96 2 = σ 96 2) ∧ (τ 96 3 = σ 96 3) ∧ (τ 111 0 = σ 111 0) ∧ (τ 111 1 = σ 111 1) ∧ (τ 111 2 = σ 111 2) ∧ (τ 111 3 = σ 111 3) ∧ (τ 112 0 = σ 112 0) ∧ (τ 112 1 = σ 112 1) ∧ (τ 112 2 = σ 112 2) ∧ (τ 112 3 = σ 112 3)) ∨ ((b = 1) ∧ (0 ≤ a1 ∧ a1 ≤ 2 ∧ 0 ≤ a2 ∧ a2 ≤ 40) ∧ (τ 95 0 = σ 95 0) ∧ (τ 95 1 = σ 95 1) ∧ (τ 95 2 = σ 95 2) ∧ (τ 95 3 = σ 95 3) ∧ (τ 96 0 = σ 96 0) ∧ (τ 96 1 = σ 96 1) ∧ (τ 96 2 = σ 96 2) ∧ (τ 96 3 = σ 96 3) ∧ (τ 111 0 = σ 111 0) ∧ (τ 111 2 = σ 111 2) ∧ (τ 111 3 = σ 111 3) ∧ (τ 112 0 = σ 112 0) ∧ (τ 112 2 = σ 112 2) ∧ (τ 112 3 = σ 112 3) ∧ (τ 111 1 = a1) ∧ (τ 112 1 = a2))) → Q (some (.int r)) τ) : ∀ n : Nat, (∀ (s0 : h_S), h_I s0 → h_F k_n0 s0 σ → ∀ (y4 : Int32) (b4 : Int), y4.toInt = b4 → (0 ≤ b4 ∧ b4 ≤ 40) → (0 ≤ a1 ∧ a1 ≤ 2 ∧ 0 ≤ a2 ∧ a2 ≤ 40) → (s0 95 0 = σ 95 0) → (s0 95 1 = σ 95 1) → (s0 95 2 = σ 95 2) → (s0 95 3 = σ 95 3) → (s0 96 0 = σ 96 0) → (s0 96 1 = σ 96 1) → (s0 96 2 = σ 96 2) → (s0 96 3 = σ 96 3) → (s0 111 0 = σ 111 0) → (s0 111 2 = σ 111 2) → (s0 111 3 = σ 111 3) → (s0 112 0 = σ 112 0) → (s0 112 2 = σ 112 2) → (s0 112 3 = σ 112 3) → (s0 111 1 = a1) → (s0 112 1 = a2) → (40 + 1 - b4) * 1000000 + 1000000000 ≤ (n : Int) → h_T g_P (g_Y ns) 220 56 [(0, .ref 98), (1, .int (Int32.ofInt 1)), (2, .int x1), (3, .int x2), (4, .int y4)] [] s0 Q) := by
  intro n
  induction n with
  | zero => exact by intro s0 I0 F0_ y4 b4 hy4 ry4 ex0 ex1 ex2 ex3 ex4 ex5 ex6 ex7 ex8 ex9 ex10 ex11 ex12 ex13 ex14 ex15 ex16 hm; exfalso; omega
  | succ n ih =>
    intro s0 I0 F0_ y4 b4 hy4 ry4 ex0 ex1 ex2 ex3 ex4 ex5 ex6 ex7 ex8 ex9 ex10 ex11 ex12 ex13 ex14 ex15 ex16 hm
    refine h_iload (pc' := 58) rfl rfl rfl ?_
    refine h_bipush (pc' := 60) (x := (Int32.ofInt 40)) rfl rfl cb_40 ?_
    refine h_cge (tg := 82) (pc' := 63) rfl rfl rfl hy4 ci_40 (fun c1 => ?_) (fun c1 => ?_)
    · refine h_iconst (pc' := 83) (x := (Int32.ofInt 1)) rfl rfl rfl ?_
      exact h_iret rfl rfl (kk _ _ ci_1 _ I0 F0_ (by omega) (Or.inr (Or.inr ⟨by omega, by omega, by omega, by omega, by omega, by omega, by omega, by omega, by omega, by omega, by omega, by omega, by omega, by omega, by omega, by omega, by omega, by omega⟩)))
    · refine h_aload_n (pc' := 64) rfl rfl rfl ?_
      refine h_getR (pc' := 67) rfl rfl rfl rfl rfl ?_
      refine h_bipush (pc' := 69) (x := (Int32.ofInt 40)) rfl rfl cb_40 ?_
      refine h_iload_n (pc' := 70) rfl rfl rfl ?_
      refine h_imul (pc' := 71) (c := 40) rfl rfl ci_40 ci_1 rfl (by omega) (by omega) (fun z2 hz2 => ?_)
      refine h_iload (pc' := 73) rfl rfl rfl ?_
      refine h_iadd (pc' := 74) rfl rfl hz2 hy4 rfl (by omega) (by omega) (fun z3 hz3 => ?_)
      refine h_iconst (pc' := 75) (x := (Int32.ofInt 0)) rfl rfl rfl ?_
      refine h_iast (pc' := 76) rfl rfl rfl rfl hz3 (by omega) (by omega) ci_0 (h_fgt (E := fun s => s 95 0 = s0 95 0 ∧ s 95 1 = s0 95 1 ∧ s 95 2 = s0 95 2 ∧ s 95 3 = s0 95 3 ∧ s 96 0 = s0 96 0 ∧ s 96 1 = s0 96 1 ∧ s 96 2 = s0 96 2 ∧ s 96 3 = s0 96 3 ∧ s 111 0 = s0 111 0 ∧ s 111 1 = s0 111 1 ∧ s 111 2 = s0 111 2 ∧ s 111 3 = s0 111 3 ∧ s 112 0 = s0 112 0 ∧ s 112 1 = s0 112 1 ∧ s 112 2 = s0 112 2 ∧ s 112 3 = s0 112 3) _ (in_113 I0 (h_rgv ci_0)) (F0_.up rfl) ⟨rfl, rfl, rfl, rfl, rfl, rfl, rfl, rfl, rfl, rfl, rfl, rfl, rfl, rfl, rfl, rfl⟩ (fun s4 Is4 Fs4 (es4 : s4 95 0 = s0 95 0 ∧ s4 95 1 = s0 95 1 ∧ s4 95 2 = s0 95 2 ∧ s4 95 3 = s0 95 3 ∧ s4 96 0 = s0 96 0 ∧ s4 96 1 = s0 96 1 ∧ s4 96 2 = s0 96 2 ∧ s4 96 3 = s0 96 3 ∧ s4 111 0 = s0 111 0 ∧ s4 111 1 = s0 111 1 ∧ s4 111 2 = s0 111 2 ∧ s4 111 3 = s0 111 3 ∧ s4 112 0 = s0 112 0 ∧ s4 112 1 = s0 112 1 ∧ s4 112 2 = s0 112 2 ∧ s4 112 3 = s0 112 3) => ?_))
      refine h_iinc (pc' := 79) (M := fun z5 => [(4, .int z5), (0, .ref 98), (1, .int (Int32.ofInt 1)), (2, .int x1), (3, .int x2)]) rfl rfl rfl rfl hy4 ci_1 rfl (by omega) (by omega) (fun _ => rfl) (fun z5 hz5 => ?_)
      refine h_goto (pc' := 56) rfl rfl ?_
      exact h_wk [(0, .ref 98), (1, .int (Int32.ofInt 1)), (2, .int x1), (3, .int x2), (4, .int z5)] ⟨rfl, rfl, rfl, rfl, rfl, trivial⟩ (ih _ Is4 Fs4 z5 _ hz5 (by omega) (by omega) (by omega) (by omega) (by omega) (by omega) (by omega) (by omega) (by omega) (by omega) (by omega) (by omega) (by omega) (by omega) (by omega) (by omega) (by omega) (by omega) (by omega))
set_option maxHeartbeats 100000000 in
theorem u_sheetM1 {ns : Nat} (σ : h_S) (hI : h_I σ) (x1 : Int32) (a1 : Int) (hx1 : x1.toInt = a1) (x2 : Int32) (a2 : Int) (hx2 : x2.toInt = a2) {Q : Option Value → h_S → Prop} (kk : ∀ (r : Int32) (b : Int) (hb : r.toInt = b) (τ : h_S), h_I τ → h_F k_n0 τ σ → ((-14) ≤ b ∧ b ≤ 1) → (((b = (-1)) ∧ (a1 < 0 ∨ 2 < a1 ∨ 40 < a2) ∧ (τ 95 0 = σ 95 0) ∧ (τ 95 1 = σ 95 1) ∧ (τ 95 2 = σ 95 2) ∧ (τ 95 3 = σ 95 3) ∧ (τ 96 0 = σ 96 0) ∧ (τ 96 1 = σ 96 1) ∧ (τ 96 2 = σ 96 2) ∧ (τ 96 3 = σ 96 3) ∧ (τ 111 0 = σ 111 0) ∧ (τ 111 1 = σ 111 1) ∧ (τ 111 2 = σ 111 2) ∧ (τ 111 3 = σ 111 3) ∧ (τ 112 0 = σ 112 0) ∧ (τ 112 1 = σ 112 1) ∧ (τ 112 2 = σ 112 2) ∧ (τ 112 3 = σ 112 3)) ∨ ((b = (-14)) ∧ (0 ≤ a1 ∧ a1 ≤ 2 ∧ a2 < 0) ∧ (τ 95 0 = σ 95 0) ∧ (τ 95 1 = σ 95 1) ∧ (τ 95 2 = σ 95 2) ∧ (τ 95 3 = σ 95 3) ∧ (τ 96 0 = σ 96 0) ∧ (τ 96 1 = σ 96 1) ∧ (τ 96 2 = σ 96 2) ∧ (τ 96 3 = σ 96 3) ∧ (τ 111 0 = σ 111 0) ∧ (τ 111 1 = σ 111 1) ∧ (τ 111 2 = σ 111 2) ∧ (τ 111 3 = σ 111 3) ∧ (τ 112 0 = σ 112 0) ∧ (τ 112 1 = σ 112 1) ∧ (τ 112 2 = σ 112 2) ∧ (τ 112 3 = σ 112 3)) ∨ ((b = 1) ∧ (0 ≤ a1 ∧ a1 ≤ 2 ∧ 0 ≤ a2 ∧ a2 ≤ 40) ∧ (τ 95 0 = σ 95 0) ∧ (τ 95 1 = σ 95 1) ∧ (τ 95 2 = σ 95 2) ∧ (τ 95 3 = σ 95 3) ∧ (τ 96 0 = σ 96 0) ∧ (τ 96 1 = σ 96 1) ∧ (τ 96 2 = σ 96 2) ∧ (τ 96 3 = σ 96 3) ∧ (τ 111 0 = σ 111 0) ∧ (τ 111 2 = σ 111 2) ∧ (τ 111 3 = σ 111 3) ∧ (τ 112 0 = σ 112 0) ∧ (τ 112 2 = σ 112 2) ∧ (τ 112 3 = σ 112 3) ∧ (τ 111 1 = a1) ∧ (τ 112 1 = a2))) → Q (some (.int r)) τ) : h_T g_P (g_Y ns) 220 0 [(0, .ref 98), (1, .int (Int32.ofInt 1)), (2, .int x1), (3, .int x2)] [] σ Q := by
  have F00 : h_F k_n0 σ σ := h_F.rf
  refine h_iload_n (pc' := 1) rfl rfl rfl ?_
  refine h_i2l (pc' := 2) rfl rfl ci_1 (fun z1 hz1 => ?_)
  refine h_lconst (pc' := 3) (x := (Int64.ofInt 0)) rfl rfl rfl ?_
  refine h_ldc2 (pc' := 6) (x := (Int64.ofInt 3)) rfl rfl rfl ?_
  refine h_calls (pc' := 9) (M := [(0, .long z1), (2, .long (Int64.ofInt 0)), (4, .long (Int64.ofInt 3))]) rfl rfl rfl rfl rfl rfl ?_
  refine h_lload_n (pc' := 1) rfl rfl rfl ?_
  refine h_lload_n (pc' := 2) rfl rfl rfl ?_
  refine h_lcmp (pc' := 3) rfl rfl hz1 cl_0 (fun z2 hz2 => ?_)
  refine h_zlt (tg := 17) (pc' := 6) rfl rfl rfl rfl (fun c3 => absurd c3 (by omega)) (fun c3 => ?_)
  replace c3 := (h_lcr hz2).2.1 c3
  clear hz2
  refine h_lload_n (pc' := 7) rfl rfl rfl ?_
  refine h_lload (pc' := 9) rfl rfl rfl ?_
  refine h_lcmp (pc' := 10) rfl rfl hz1 cl_3 (fun z4 hz4 => ?_)
  refine h_zgt (tg := 17) (pc' := 13) rfl rfl rfl rfl (fun c5 => absurd c5 (by omega)) (fun c5 => ?_)
  replace c5 := (h_lcr hz4).2.2.1 c5
  clear hz4
  refine h_iconst (pc' := 14) (x := (Int32.ofInt 1)) rfl rfl rfl ?_
  refine h_goto (pc' := 18) rfl rfl ?_
  refine h_zret rfl rfl ci_1 (by omega) (h_Kv ?_)
  refine h_zeq (tg := 30) (pc' := 12) rfl rfl rfl ci_1 (fun c6 => absurd c6 (by omega)) (fun c6 => ?_)
  refine h_iload_n (pc' := 13) rfl rfl rfl ?_
  refine h_i2l (pc' := 14) rfl rfl hx1 (fun z7 hz7 => ?_)
  refine h_lconst (pc' := 15) (x := (Int64.ofInt 0)) rfl rfl rfl ?_
  refine h_ldc2 (pc' := 18) (x := (Int64.ofInt 2)) rfl rfl rfl ?_
  refine h_calls (pc' := 21) (M := [(0, .long z7), (2, .long (Int64.ofInt 0)), (4, .long (Int64.ofInt 2))]) rfl rfl rfl rfl rfl rfl ?_
  refine h_lload_n (pc' := 1) rfl rfl rfl ?_
  refine h_lload_n (pc' := 2) rfl rfl rfl ?_
  refine h_lcmp (pc' := 3) rfl rfl hz7 cl_0 (fun z8 hz8 => ?_)
  refine h_zlt (tg := 17) (pc' := 6) rfl rfl rfl rfl (fun c9 => ?_) (fun c9 => ?_)
  · replace c9 := (h_lcr hz8).1 c9
    clear hz8
    refine h_iconst (pc' := 18) (x := (Int32.ofInt 0)) rfl rfl rfl ?_
    refine h_zret rfl rfl ci_0 (by omega) (h_Kv ?_)
    refine h_zeq (tg := 30) (pc' := 24) rfl rfl rfl ci_0 (fun c10 => ?_) (fun c10 => absurd c10 (by omega))
    refine h_iconst (pc' := 31) (x := (Int32.ofInt (-1))) rfl rfl rfl ?_
    exact h_iret rfl rfl (kk _ _ ci_m1 _ hI F00 (by omega) (Or.inl ⟨by omega, by omega, by omega, by omega, by omega, by omega, by omega, by omega, by omega, by omega, by omega, by omega, by omega, by omega, by omega, by omega, by omega, by omega⟩))
  · replace c9 := (h_lcr hz8).2.1 c9
    clear hz8
    refine h_lload_n (pc' := 7) rfl rfl rfl ?_
    refine h_lload (pc' := 9) rfl rfl rfl ?_
    refine h_lcmp (pc' := 10) rfl rfl hz7 cl_2 (fun z11 hz11 => ?_)
    refine h_zgt (tg := 17) (pc' := 13) rfl rfl rfl rfl (fun c12 => ?_) (fun c12 => ?_)
    · replace c12 := (h_lcr hz11).2.2.2.1 c12
      clear hz11
      refine h_iconst (pc' := 18) (x := (Int32.ofInt 0)) rfl rfl rfl ?_
      refine h_zret rfl rfl ci_0 (by omega) (h_Kv ?_)
      refine h_zeq (tg := 30) (pc' := 24) rfl rfl rfl ci_0 (fun c13 => ?_) (fun c13 => absurd c13 (by omega))
      refine h_iconst (pc' := 31) (x := (Int32.ofInt (-1))) rfl rfl rfl ?_
      exact h_iret rfl rfl (kk _ _ ci_m1 _ hI F00 (by omega) (Or.inl ⟨by omega, by omega, by omega, by omega, by omega, by omega, by omega, by omega, by omega, by omega, by omega, by omega, by omega, by omega, by omega, by omega, by omega, by omega⟩))
    · replace c12 := (h_lcr hz11).2.2.1 c12
      clear hz11
      refine h_iconst (pc' := 14) (x := (Int32.ofInt 1)) rfl rfl rfl ?_
      refine h_goto (pc' := 18) rfl rfl ?_
      refine h_zret rfl rfl ci_1 (by omega) (h_Kv ?_)
      refine h_zeq (tg := 30) (pc' := 24) rfl rfl rfl ci_1 (fun c14 => absurd c14 (by omega)) (fun c14 => ?_)
      refine h_iload_n (pc' := 25) rfl rfl rfl ?_
      refine h_bipush (pc' := 27) (x := (Int32.ofInt 40)) rfl rfl cb_40 ?_
      refine h_cle (tg := 32) (pc' := 30) rfl rfl rfl hx2 ci_40 (fun c15 => ?_) (fun c15 => ?_)
      · refine h_iload_n (pc' := 33) rfl rfl rfl ?_
        refine h_zge (tg := 39) (pc' := 36) rfl rfl rfl hx2 (fun c16 => ?_) (fun c16 => ?_)
        · refine h_aload_n (pc' := 40) rfl rfl rfl ?_
          refine h_getR (pc' := 43) rfl rfl rfl rfl rfl ?_
          refine h_iload_n (pc' := 44) rfl rfl rfl ?_
          refine h_iload_n (pc' := 45) rfl rfl rfl ?_
          refine h_iast (pc' := 46) rfl rfl rfl rfl ci_1 (by omega) (by omega) hx1 (h_fgt (E := fun s => s 95 0 = σ 95 0 ∧ s 95 1 = σ 95 1 ∧ s 95 2 = σ 95 2 ∧ s 95 3 = σ 95 3 ∧ s 96 0 = σ 96 0 ∧ s 96 1 = σ 96 1 ∧ s 96 2 = σ 96 2 ∧ s 96 3 = σ 96 3 ∧ s 111 0 = σ 111 0 ∧ s 111 1 = a1 ∧ s 111 2 = σ 111 2 ∧ s 111 3 = σ 111 3 ∧ s 112 0 = σ 112 0 ∧ s 112 1 = σ 112 1 ∧ s 112 2 = σ 112 2 ∧ s 112 3 = σ 112 3) _ (in_111 hI (by omega)) (F00.up rfl) ⟨rfl, rfl, rfl, rfl, rfl, rfl, rfl, rfl, rfl, rfl, rfl, rfl, rfl, rfl, rfl, rfl⟩ (fun s17 Is17 Fs17 (es17 : s17 95 0 = σ 95 0 ∧ s17 95 1 = σ 95 1 ∧ s17 95 2 = σ 95 2 ∧ s17 95 3 = σ 95 3 ∧ s17 96 0 = σ 96 0 ∧ s17 96 1 = σ 96 1 ∧ s17 96 2 = σ 96 2 ∧ s17 96 3 = σ 96 3 ∧ s17 111 0 = σ 111 0 ∧ s17 111 1 = a1 ∧ s17 111 2 = σ 111 2 ∧ s17 111 3 = σ 111 3 ∧ s17 112 0 = σ 112 0 ∧ s17 112 1 = σ 112 1 ∧ s17 112 2 = σ 112 2 ∧ s17 112 3 = σ 112 3) => ?_))
          refine h_aload_n (pc' := 47) rfl rfl rfl ?_
          refine h_getR (pc' := 50) rfl rfl rfl rfl rfl ?_
          refine h_iload_n (pc' := 51) rfl rfl rfl ?_
          refine h_iload_n (pc' := 52) rfl rfl rfl ?_
          refine h_iast (pc' := 53) rfl rfl rfl rfl ci_1 (by omega) (by omega) hx2 (h_fgt (E := fun s => s 95 0 = σ 95 0 ∧ s 95 1 = σ 95 1 ∧ s 95 2 = σ 95 2 ∧ s 95 3 = σ 95 3 ∧ s 96 0 = σ 96 0 ∧ s 96 1 = σ 96 1 ∧ s 96 2 = σ 96 2 ∧ s 96 3 = σ 96 3 ∧ s 111 0 = σ 111 0 ∧ s 111 1 = a1 ∧ s 111 2 = σ 111 2 ∧ s 111 3 = σ 111 3 ∧ s 112 0 = σ 112 0 ∧ s 112 1 = a2 ∧ s 112 2 = σ 112 2 ∧ s 112 3 = σ 112 3) _ (in_112 Is17 (by omega)) (Fs17.up rfl) ⟨es17.1, es17.2.1, es17.2.2.1, es17.2.2.2.1, es17.2.2.2.2.1, es17.2.2.2.2.2.1, es17.2.2.2.2.2.2.1, es17.2.2.2.2.2.2.2.1, es17.2.2.2.2.2.2.2.2.1, es17.2.2.2.2.2.2.2.2.2.1, es17.2.2.2.2.2.2.2.2.2.2.1, es17.2.2.2.2.2.2.2.2.2.2.2.1, es17.2.2.2.2.2.2.2.2.2.2.2.2.1, rfl, es17.2.2.2.2.2.2.2.2.2.2.2.2.2.2.1, es17.2.2.2.2.2.2.2.2.2.2.2.2.2.2.2⟩ (fun s18 Is18 Fs18 (es18 : s18 95 0 = σ 95 0 ∧ s18 95 1 = σ 95 1 ∧ s18 95 2 = σ 95 2 ∧ s18 95 3 = σ 95 3 ∧ s18 96 0 = σ 96 0 ∧ s18 96 1 = σ 96 1 ∧ s18 96 2 = σ 96 2 ∧ s18 96 3 = σ 96 3 ∧ s18 111 0 = σ 111 0 ∧ s18 111 1 = a1 ∧ s18 111 2 = σ 111 2 ∧ s18 111 3 = σ 111 3 ∧ s18 112 0 = σ 112 0 ∧ s18 112 1 = a2 ∧ s18 112 2 = σ 112 2 ∧ s18 112 3 = σ 112 3) => ?_))
          clear es17
          refine h_iconst (pc' := 54) (x := (Int32.ofInt 0)) rfl rfl rfl ?_
          refine h_istore (pc' := 56) (M := [(4, .int (Int32.ofInt 0)), (0, .ref 98), (1, .int (Int32.ofInt 1)), (2, .int x1), (3, .int x2)]) rfl rfl rfl rfl ?_
          exact h_wk [(0, .ref 98), (1, .int (Int32.ofInt 1)), (2, .int x1), (3, .int x2), (4, .int (Int32.ofInt 0))] ⟨rfl, rfl, rfl, rfl, rfl, trivial⟩ ((u_sheetM1_l ns σ hI x1 a1 hx1 x2 a2 hx2 kk 1000000000000) _ Is18 Fs18 (Int32.ofInt 0) _ ci_0 (by omega) (by omega) (by omega) (by omega) (by omega) (by omega) (by omega) (by omega) (by omega) (by omega) (by omega) (by omega) (by omega) (by omega) (by omega) (by omega) (by omega) (by omega) (by omega))
        · refine h_bipush (pc' := 38) (x := (Int32.ofInt (-14))) rfl rfl cb_m14 ?_
          exact h_iret rfl rfl (kk _ _ ci_m14 _ hI F00 (by omega) (Or.inr (Or.inl ⟨by omega, by omega, by omega, by omega, by omega, by omega, by omega, by omega, by omega, by omega, by omega, by omega, by omega, by omega, by omega, by omega, by omega, by omega⟩)))
      · refine h_iconst (pc' := 31) (x := (Int32.ofInt (-1))) rfl rfl rfl ?_
        exact h_iret rfl rfl (kk _ _ ci_m1 _ hI F00 (by omega) (Or.inl ⟨by omega, by omega, by omega, by omega, by omega, by omega, by omega, by omega, by omega, by omega, by omega, by omega, by omega, by omega, by omega, by omega, by omega, by omega⟩))
set_option maxHeartbeats 100000000 in
theorem u_sheetM2_l (ns : Nat) (σ : h_S) (hI : h_I σ) (x1 : Int32) (a1 : Int) (hx1 : x1.toInt = a1) (x2 : Int32) (a2 : Int) (hx2 : x2.toInt = a2) {Q : Option Value → h_S → Prop} (kk : ∀ (r : Int32) (b : Int) (hb : r.toInt = b) (τ : h_S), h_I τ → h_F k_n0 τ σ → ((-14) ≤ b ∧ b ≤ 1) → (((b = (-1)) ∧ (a1 < 0 ∨ 2 < a1 ∨ 40 < a2) ∧ (τ 95 0 = σ 95 0) ∧ (τ 95 1 = σ 95 1) ∧ (τ 95 2 = σ 95 2) ∧ (τ 95 3 = σ 95 3) ∧ (τ 96 0 = σ 96 0) ∧ (τ 96 1 = σ 96 1) ∧ (τ 96 2 = σ 96 2) ∧ (τ 96 3 = σ 96 3) ∧ (τ 111 0 = σ 111 0) ∧ (τ 111 1 = σ 111 1) ∧ (τ 111 2 = σ 111 2) ∧ (τ 111 3 = σ 111 3) ∧ (τ 112 0 = σ 112 0) ∧ (τ 112 1 = σ 112 1) ∧ (τ 112 2 = σ 112 2) ∧ (τ 112 3 = σ 112 3)) ∨ ((b = (-14)) ∧ (0 ≤ a1 ∧ a1 ≤ 2 ∧ a2 < 0) ∧ (τ 95 0 = σ 95 0) ∧ (τ 95 1 = σ 95 1) ∧ (τ 95 2 = σ 95 2) ∧ (τ 95 3 = σ 95 3) ∧ (τ 96 0 = σ 96 0) ∧ (τ 96 1 = σ 96 1) ∧ (τ 96 2 = σ 96 2) ∧ (τ 96 3 = σ 96 3) ∧ (τ 111 0 = σ 111 0) ∧ (τ 111 1 = σ 111 1) ∧ (τ 111 2 = σ 111 2) ∧ (τ 111 3 = σ 111 3) ∧ (τ 112 0 = σ 112 0) ∧ (τ 112 1 = σ 112 1) ∧ (τ 112 2 = σ 112 2) ∧ (τ 112 3 = σ 112 3)) ∨ ((b = 1) ∧ (0 ≤ a1 ∧ a1 ≤ 2 ∧ 0 ≤ a2 ∧ a2 ≤ 40) ∧ (τ 95 0 = σ 95 0) ∧ (τ 95 1 = σ 95 1) ∧ (τ 95 2 = σ 95 2) ∧ (τ 95 3 = σ 95 3) ∧ (τ 96 0 = σ 96 0) ∧ (τ 96 1 = σ 96 1) ∧ (τ 96 2 = σ 96 2) ∧ (τ 96 3 = σ 96 3) ∧ (τ 111 0 = σ 111 0) ∧ (τ 111 1 = σ 111 1) ∧ (τ 111 3 = σ 111 3) ∧ (τ 112 0 = σ 112 0) ∧ (τ 112 1 = σ 112 1) ∧ (τ 112 3 = σ 112 3) ∧ (τ 111 2 = a1) ∧ (τ 112 2 = a2))) → Q (some (.int r)) τ) : ∀ n : Nat, (∀ (s0 : h_S), h_I s0 → h_F k_n0 s0 σ → ∀ (y4 : Int32) (b4 : Int), y4.toInt = b4 → (0 ≤ b4 ∧ b4 ≤ 40) → (0 ≤ a1 ∧ a1 ≤ 2 ∧ 0 ≤ a2 ∧ a2 ≤ 40) → (s0 95 0 = σ 95 0) → (s0 95 1 = σ 95 1) → (s0 95 2 = σ 95 2) → (s0 95 3 = σ 95 3) → (s0 96 0 = σ 96 0) → (s0 96 1 = σ 96 1) → (s0 96 2 = σ 96 2) → (s0 96 3 = σ 96 3) → (s0 111 0 = σ 111 0) → (s0 111 1 = σ 111 1) → (s0 111 3 = σ 111 3) → (s0 112 0 = σ 112 0) → (s0 112 1 = σ 112 1) → (s0 112 3 = σ 112 3) → (s0 111 2 = a1) → (s0 112 2 = a2) → (40 + 1 - b4) * 1000000 + 1000000000 ≤ (n : Int) → h_T g_P (g_Y ns) 220 56 [(0, .ref 98), (1, .int (Int32.ofInt 2)), (2, .int x1), (3, .int x2), (4, .int y4)] [] s0 Q) := by
  intro n
  induction n with
  | zero => exact by intro s0 I0 F0_ y4 b4 hy4 ry4 ex0 ex1 ex2 ex3 ex4 ex5 ex6 ex7 ex8 ex9 ex10 ex11 ex12 ex13 ex14 ex15 ex16 hm; exfalso; omega
  | succ n ih =>
    intro s0 I0 F0_ y4 b4 hy4 ry4 ex0 ex1 ex2 ex3 ex4 ex5 ex6 ex7 ex8 ex9 ex10 ex11 ex12 ex13 ex14 ex15 ex16 hm
    refine h_iload (pc' := 58) rfl rfl rfl ?_
    refine h_bipush (pc' := 60) (x := (Int32.ofInt 40)) rfl rfl cb_40 ?_
    refine h_cge (tg := 82) (pc' := 63) rfl rfl rfl hy4 ci_40 (fun c1 => ?_) (fun c1 => ?_)
    · refine h_iconst (pc' := 83) (x := (Int32.ofInt 1)) rfl rfl rfl ?_
      exact h_iret rfl rfl (kk _ _ ci_1 _ I0 F0_ (by omega) (Or.inr (Or.inr ⟨by omega, by omega, by omega, by omega, by omega, by omega, by omega, by omega, by omega, by omega, by omega, by omega, by omega, by omega, by omega, by omega, by omega, by omega⟩)))
    · refine h_aload_n (pc' := 64) rfl rfl rfl ?_
      refine h_getR (pc' := 67) rfl rfl rfl rfl rfl ?_
      refine h_bipush (pc' := 69) (x := (Int32.ofInt 40)) rfl rfl cb_40 ?_
      refine h_iload_n (pc' := 70) rfl rfl rfl ?_
      refine h_imul (pc' := 71) (c := 80) rfl rfl ci_40 ci_2 rfl (by omega) (by omega) (fun z2 hz2 => ?_)
      refine h_iload (pc' := 73) rfl rfl rfl ?_
      refine h_iadd (pc' := 74) rfl rfl hz2 hy4 rfl (by omega) (by omega) (fun z3 hz3 => ?_)
      refine h_iconst (pc' := 75) (x := (Int32.ofInt 0)) rfl rfl rfl ?_
      refine h_iast (pc' := 76) rfl rfl rfl rfl hz3 (by omega) (by omega) ci_0 (h_fgt (E := fun s => s 95 0 = s0 95 0 ∧ s 95 1 = s0 95 1 ∧ s 95 2 = s0 95 2 ∧ s 95 3 = s0 95 3 ∧ s 96 0 = s0 96 0 ∧ s 96 1 = s0 96 1 ∧ s 96 2 = s0 96 2 ∧ s 96 3 = s0 96 3 ∧ s 111 0 = s0 111 0 ∧ s 111 1 = s0 111 1 ∧ s 111 2 = s0 111 2 ∧ s 111 3 = s0 111 3 ∧ s 112 0 = s0 112 0 ∧ s 112 1 = s0 112 1 ∧ s 112 2 = s0 112 2 ∧ s 112 3 = s0 112 3) _ (in_113 I0 (h_rgv ci_0)) (F0_.up rfl) ⟨rfl, rfl, rfl, rfl, rfl, rfl, rfl, rfl, rfl, rfl, rfl, rfl, rfl, rfl, rfl, rfl⟩ (fun s4 Is4 Fs4 (es4 : s4 95 0 = s0 95 0 ∧ s4 95 1 = s0 95 1 ∧ s4 95 2 = s0 95 2 ∧ s4 95 3 = s0 95 3 ∧ s4 96 0 = s0 96 0 ∧ s4 96 1 = s0 96 1 ∧ s4 96 2 = s0 96 2 ∧ s4 96 3 = s0 96 3 ∧ s4 111 0 = s0 111 0 ∧ s4 111 1 = s0 111 1 ∧ s4 111 2 = s0 111 2 ∧ s4 111 3 = s0 111 3 ∧ s4 112 0 = s0 112 0 ∧ s4 112 1 = s0 112 1 ∧ s4 112 2 = s0 112 2 ∧ s4 112 3 = s0 112 3) => ?_))
      refine h_iinc (pc' := 79) (M := fun z5 => [(4, .int z5), (0, .ref 98), (1, .int (Int32.ofInt 2)), (2, .int x1), (3, .int x2)]) rfl rfl rfl rfl hy4 ci_1 rfl (by omega) (by omega) (fun _ => rfl) (fun z5 hz5 => ?_)
      refine h_goto (pc' := 56) rfl rfl ?_
      exact h_wk [(0, .ref 98), (1, .int (Int32.ofInt 2)), (2, .int x1), (3, .int x2), (4, .int z5)] ⟨rfl, rfl, rfl, rfl, rfl, trivial⟩ (ih _ Is4 Fs4 z5 _ hz5 (by omega) (by omega) (by omega) (by omega) (by omega) (by omega) (by omega) (by omega) (by omega) (by omega) (by omega) (by omega) (by omega) (by omega) (by omega) (by omega) (by omega) (by omega) (by omega))
set_option maxHeartbeats 100000000 in
theorem u_sheetM2 {ns : Nat} (σ : h_S) (hI : h_I σ) (x1 : Int32) (a1 : Int) (hx1 : x1.toInt = a1) (x2 : Int32) (a2 : Int) (hx2 : x2.toInt = a2) {Q : Option Value → h_S → Prop} (kk : ∀ (r : Int32) (b : Int) (hb : r.toInt = b) (τ : h_S), h_I τ → h_F k_n0 τ σ → ((-14) ≤ b ∧ b ≤ 1) → (((b = (-1)) ∧ (a1 < 0 ∨ 2 < a1 ∨ 40 < a2) ∧ (τ 95 0 = σ 95 0) ∧ (τ 95 1 = σ 95 1) ∧ (τ 95 2 = σ 95 2) ∧ (τ 95 3 = σ 95 3) ∧ (τ 96 0 = σ 96 0) ∧ (τ 96 1 = σ 96 1) ∧ (τ 96 2 = σ 96 2) ∧ (τ 96 3 = σ 96 3) ∧ (τ 111 0 = σ 111 0) ∧ (τ 111 1 = σ 111 1) ∧ (τ 111 2 = σ 111 2) ∧ (τ 111 3 = σ 111 3) ∧ (τ 112 0 = σ 112 0) ∧ (τ 112 1 = σ 112 1) ∧ (τ 112 2 = σ 112 2) ∧ (τ 112 3 = σ 112 3)) ∨ ((b = (-14)) ∧ (0 ≤ a1 ∧ a1 ≤ 2 ∧ a2 < 0) ∧ (τ 95 0 = σ 95 0) ∧ (τ 95 1 = σ 95 1) ∧ (τ 95 2 = σ 95 2) ∧ (τ 95 3 = σ 95 3) ∧ (τ 96 0 = σ 96 0) ∧ (τ 96 1 = σ 96 1) ∧ (τ 96 2 = σ 96 2) ∧ (τ 96 3 = σ 96 3) ∧ (τ 111 0 = σ 111 0) ∧ (τ 111 1 = σ 111 1) ∧ (τ 111 2 = σ 111 2) ∧ (τ 111 3 = σ 111 3) ∧ (τ 112 0 = σ 112 0) ∧ (τ 112 1 = σ 112 1) ∧ (τ 112 2 = σ 112 2) ∧ (τ 112 3 = σ 112 3)) ∨ ((b = 1) ∧ (0 ≤ a1 ∧ a1 ≤ 2 ∧ 0 ≤ a2 ∧ a2 ≤ 40) ∧ (τ 95 0 = σ 95 0) ∧ (τ 95 1 = σ 95 1) ∧ (τ 95 2 = σ 95 2) ∧ (τ 95 3 = σ 95 3) ∧ (τ 96 0 = σ 96 0) ∧ (τ 96 1 = σ 96 1) ∧ (τ 96 2 = σ 96 2) ∧ (τ 96 3 = σ 96 3) ∧ (τ 111 0 = σ 111 0) ∧ (τ 111 1 = σ 111 1) ∧ (τ 111 3 = σ 111 3) ∧ (τ 112 0 = σ 112 0) ∧ (τ 112 1 = σ 112 1) ∧ (τ 112 3 = σ 112 3) ∧ (τ 111 2 = a1) ∧ (τ 112 2 = a2))) → Q (some (.int r)) τ) : h_T g_P (g_Y ns) 220 0 [(0, .ref 98), (1, .int (Int32.ofInt 2)), (2, .int x1), (3, .int x2)] [] σ Q := by
  have F00 : h_F k_n0 σ σ := h_F.rf
  refine h_iload_n (pc' := 1) rfl rfl rfl ?_
  refine h_i2l (pc' := 2) rfl rfl ci_2 (fun z1 hz1 => ?_)
  refine h_lconst (pc' := 3) (x := (Int64.ofInt 0)) rfl rfl rfl ?_
  refine h_ldc2 (pc' := 6) (x := (Int64.ofInt 3)) rfl rfl rfl ?_
  refine h_calls (pc' := 9) (M := [(0, .long z1), (2, .long (Int64.ofInt 0)), (4, .long (Int64.ofInt 3))]) rfl rfl rfl rfl rfl rfl ?_
  refine h_lload_n (pc' := 1) rfl rfl rfl ?_
  refine h_lload_n (pc' := 2) rfl rfl rfl ?_
  refine h_lcmp (pc' := 3) rfl rfl hz1 cl_0 (fun z2 hz2 => ?_)
  refine h_zlt (tg := 17) (pc' := 6) rfl rfl rfl rfl (fun c3 => absurd c3 (by omega)) (fun c3 => ?_)
  replace c3 := (h_lcr hz2).2.1 c3
  clear hz2
  refine h_lload_n (pc' := 7) rfl rfl rfl ?_
  refine h_lload (pc' := 9) rfl rfl rfl ?_
  refine h_lcmp (pc' := 10) rfl rfl hz1 cl_3 (fun z4 hz4 => ?_)
  refine h_zgt (tg := 17) (pc' := 13) rfl rfl rfl rfl (fun c5 => absurd c5 (by omega)) (fun c5 => ?_)
  replace c5 := (h_lcr hz4).2.2.1 c5
  clear hz4
  refine h_iconst (pc' := 14) (x := (Int32.ofInt 1)) rfl rfl rfl ?_
  refine h_goto (pc' := 18) rfl rfl ?_
  refine h_zret rfl rfl ci_1 (by omega) (h_Kv ?_)
  refine h_zeq (tg := 30) (pc' := 12) rfl rfl rfl ci_1 (fun c6 => absurd c6 (by omega)) (fun c6 => ?_)
  refine h_iload_n (pc' := 13) rfl rfl rfl ?_
  refine h_i2l (pc' := 14) rfl rfl hx1 (fun z7 hz7 => ?_)
  refine h_lconst (pc' := 15) (x := (Int64.ofInt 0)) rfl rfl rfl ?_
  refine h_ldc2 (pc' := 18) (x := (Int64.ofInt 2)) rfl rfl rfl ?_
  refine h_calls (pc' := 21) (M := [(0, .long z7), (2, .long (Int64.ofInt 0)), (4, .long (Int64.ofInt 2))]) rfl rfl rfl rfl rfl rfl ?_
  refine h_lload_n (pc' := 1) rfl rfl rfl ?_
  refine h_lload_n (pc' := 2) rfl rfl rfl ?_
  refine h_lcmp (pc' := 3) rfl rfl hz7 cl_0 (fun z8 hz8 => ?_)
  refine h_zlt (tg := 17) (pc' := 6) rfl rfl rfl rfl (fun c9 => ?_) (fun c9 => ?_)
  · replace c9 := (h_lcr hz8).1 c9
    clear hz8
    refine h_iconst (pc' := 18) (x := (Int32.ofInt 0)) rfl rfl rfl ?_
    refine h_zret rfl rfl ci_0 (by omega) (h_Kv ?_)
    refine h_zeq (tg := 30) (pc' := 24) rfl rfl rfl ci_0 (fun c10 => ?_) (fun c10 => absurd c10 (by omega))
    refine h_iconst (pc' := 31) (x := (Int32.ofInt (-1))) rfl rfl rfl ?_
    exact h_iret rfl rfl (kk _ _ ci_m1 _ hI F00 (by omega) (Or.inl ⟨by omega, by omega, by omega, by omega, by omega, by omega, by omega, by omega, by omega, by omega, by omega, by omega, by omega, by omega, by omega, by omega, by omega, by omega⟩))
  · replace c9 := (h_lcr hz8).2.1 c9
    clear hz8
    refine h_lload_n (pc' := 7) rfl rfl rfl ?_
    refine h_lload (pc' := 9) rfl rfl rfl ?_
    refine h_lcmp (pc' := 10) rfl rfl hz7 cl_2 (fun z11 hz11 => ?_)
    refine h_zgt (tg := 17) (pc' := 13) rfl rfl rfl rfl (fun c12 => ?_) (fun c12 => ?_)
    · replace c12 := (h_lcr hz11).2.2.2.1 c12
      clear hz11
      refine h_iconst (pc' := 18) (x := (Int32.ofInt 0)) rfl rfl rfl ?_
      refine h_zret rfl rfl ci_0 (by omega) (h_Kv ?_)
      refine h_zeq (tg := 30) (pc' := 24) rfl rfl rfl ci_0 (fun c13 => ?_) (fun c13 => absurd c13 (by omega))
      refine h_iconst (pc' := 31) (x := (Int32.ofInt (-1))) rfl rfl rfl ?_
      exact h_iret rfl rfl (kk _ _ ci_m1 _ hI F00 (by omega) (Or.inl ⟨by omega, by omega, by omega, by omega, by omega, by omega, by omega, by omega, by omega, by omega, by omega, by omega, by omega, by omega, by omega, by omega, by omega, by omega⟩))
    · replace c12 := (h_lcr hz11).2.2.1 c12
      clear hz11
      refine h_iconst (pc' := 14) (x := (Int32.ofInt 1)) rfl rfl rfl ?_
      refine h_goto (pc' := 18) rfl rfl ?_
      refine h_zret rfl rfl ci_1 (by omega) (h_Kv ?_)
      refine h_zeq (tg := 30) (pc' := 24) rfl rfl rfl ci_1 (fun c14 => absurd c14 (by omega)) (fun c14 => ?_)
      refine h_iload_n (pc' := 25) rfl rfl rfl ?_
      refine h_bipush (pc' := 27) (x := (Int32.ofInt 40)) rfl rfl cb_40 ?_
      refine h_cle (tg := 32) (pc' := 30) rfl rfl rfl hx2 ci_40 (fun c15 => ?_) (fun c15 => ?_)
      · refine h_iload_n (pc' := 33) rfl rfl rfl ?_
        refine h_zge (tg := 39) (pc' := 36) rfl rfl rfl hx2 (fun c16 => ?_) (fun c16 => ?_)
        · refine h_aload_n (pc' := 40) rfl rfl rfl ?_
          refine h_getR (pc' := 43) rfl rfl rfl rfl rfl ?_
          refine h_iload_n (pc' := 44) rfl rfl rfl ?_
          refine h_iload_n (pc' := 45) rfl rfl rfl ?_
          refine h_iast (pc' := 46) rfl rfl rfl rfl ci_2 (by omega) (by omega) hx1 (h_fgt (E := fun s => s 95 0 = σ 95 0 ∧ s 95 1 = σ 95 1 ∧ s 95 2 = σ 95 2 ∧ s 95 3 = σ 95 3 ∧ s 96 0 = σ 96 0 ∧ s 96 1 = σ 96 1 ∧ s 96 2 = σ 96 2 ∧ s 96 3 = σ 96 3 ∧ s 111 0 = σ 111 0 ∧ s 111 1 = σ 111 1 ∧ s 111 2 = a1 ∧ s 111 3 = σ 111 3 ∧ s 112 0 = σ 112 0 ∧ s 112 1 = σ 112 1 ∧ s 112 2 = σ 112 2 ∧ s 112 3 = σ 112 3) _ (in_111 hI (by omega)) (F00.up rfl) ⟨rfl, rfl, rfl, rfl, rfl, rfl, rfl, rfl, rfl, rfl, rfl, rfl, rfl, rfl, rfl, rfl⟩ (fun s17 Is17 Fs17 (es17 : s17 95 0 = σ 95 0 ∧ s17 95 1 = σ 95 1 ∧ s17 95 2 = σ 95 2 ∧ s17 95 3 = σ 95 3 ∧ s17 96 0 = σ 96 0 ∧ s17 96 1 = σ 96 1 ∧ s17 96 2 = σ 96 2 ∧ s17 96 3 = σ 96 3 ∧ s17 111 0 = σ 111 0 ∧ s17 111 1 = σ 111 1 ∧ s17 111 2 = a1 ∧ s17 111 3 = σ 111 3 ∧ s17 112 0 = σ 112 0 ∧ s17 112 1 = σ 112 1 ∧ s17 112 2 = σ 112 2 ∧ s17 112 3 = σ 112 3) => ?_))
          refine h_aload_n (pc' := 47) rfl rfl rfl ?_
          refine h_getR (pc' := 50) rfl rfl rfl rfl rfl ?_
          refine h_iload_n (pc' := 51) rfl rfl rfl ?_
          refine h_iload_n (pc' := 52) rfl rfl rfl ?_
          refine h_iast (pc' := 53) rfl rfl rfl rfl ci_2 (by omega) (by omega) hx2 (h_fgt (E := fun s => s 95 0 = σ 95 0 ∧ s 95 1 = σ 95 1 ∧ s 95 2 = σ 95 2 ∧ s 95 3 = σ 95 3 ∧ s 96 0 = σ 96 0 ∧ s 96 1 = σ 96 1 ∧ s 96 2 = σ 96 2 ∧ s 96 3 = σ 96 3 ∧ s 111 0 = σ 111 0 ∧ s 111 1 = σ 111 1 ∧ s 111 2 = a1 ∧ s 111 3 = σ 111 3 ∧ s 112 0 = σ 112 0 ∧ s 112 1 = σ 112 1 ∧ s 112 2 = a2 ∧ s 112 3 = σ 112 3) _ (in_112 Is17 (by omega)) (Fs17.up rfl) ⟨es17.1, es17.2.1, es17.2.2.1, es17.2.2.2.1, es17.2.2.2.2.1, es17.2.2.2.2.2.1, es17.2.2.2.2.2.2.1, es17.2.2.2.2.2.2.2.1, es17.2.2.2.2.2.2.2.2.1, es17.2.2.2.2.2.2.2.2.2.1, es17.2.2.2.2.2.2.2.2.2.2.1, es17.2.2.2.2.2.2.2.2.2.2.2.1, es17.2.2.2.2.2.2.2.2.2.2.2.2.1, es17.2.2.2.2.2.2.2.2.2.2.2.2.2.1, rfl, es17.2.2.2.2.2.2.2.2.2.2.2.2.2.2.2⟩ (fun s18 Is18 Fs18 (es18 : s18 95 0 = σ 95 0 ∧ s18 95 1 = σ 95 1 ∧ s18 95 2 = σ 95 2 ∧ s18 95 3 = σ 95 3 ∧ s18 96 0 = σ 96 0 ∧ s18 96 1 = σ 96 1 ∧ s18 96 2 = σ 96 2 ∧ s18 96 3 = σ 96 3 ∧ s18 111 0 = σ 111 0 ∧ s18 111 1 = σ 111 1 ∧ s18 111 2 = a1 ∧ s18 111 3 = σ 111 3 ∧ s18 112 0 = σ 112 0 ∧ s18 112 1 = σ 112 1 ∧ s18 112 2 = a2 ∧ s18 112 3 = σ 112 3) => ?_))
          clear es17
          refine h_iconst (pc' := 54) (x := (Int32.ofInt 0)) rfl rfl rfl ?_
          refine h_istore (pc' := 56) (M := [(4, .int (Int32.ofInt 0)), (0, .ref 98), (1, .int (Int32.ofInt 2)), (2, .int x1), (3, .int x2)]) rfl rfl rfl rfl ?_
          exact h_wk [(0, .ref 98), (1, .int (Int32.ofInt 2)), (2, .int x1), (3, .int x2), (4, .int (Int32.ofInt 0))] ⟨rfl, rfl, rfl, rfl, rfl, trivial⟩ ((u_sheetM2_l ns σ hI x1 a1 hx1 x2 a2 hx2 kk 1000000000000) _ Is18 Fs18 (Int32.ofInt 0) _ ci_0 (by omega) (by omega) (by omega) (by omega) (by omega) (by omega) (by omega) (by omega) (by omega) (by omega) (by omega) (by omega) (by omega) (by omega) (by omega) (by omega) (by omega) (by omega) (by omega))
        · refine h_bipush (pc' := 38) (x := (Int32.ofInt (-14))) rfl rfl cb_m14 ?_
          exact h_iret rfl rfl (kk _ _ ci_m14 _ hI F00 (by omega) (Or.inr (Or.inl ⟨by omega, by omega, by omega, by omega, by omega, by omega, by omega, by omega, by omega, by omega, by omega, by omega, by omega, by omega, by omega, by omega, by omega, by omega⟩)))
      · refine h_iconst (pc' := 31) (x := (Int32.ofInt (-1))) rfl rfl rfl ?_
        exact h_iret rfl rfl (kk _ _ ci_m1 _ hI F00 (by omega) (Or.inl ⟨by omega, by omega, by omega, by omega, by omega, by omega, by omega, by omega, by omega, by omega, by omega, by omega, by omega, by omega, by omega, by omega, by omega, by omega⟩))
set_option maxHeartbeats 100000000 in
theorem u_sheetM3_l (ns : Nat) (σ : h_S) (hI : h_I σ) (x1 : Int32) (a1 : Int) (hx1 : x1.toInt = a1) (x2 : Int32) (a2 : Int) (hx2 : x2.toInt = a2) {Q : Option Value → h_S → Prop} (kk : ∀ (r : Int32) (b : Int) (hb : r.toInt = b) (τ : h_S), h_I τ → h_F k_n0 τ σ → ((-14) ≤ b ∧ b ≤ 1) → (((b = (-1)) ∧ (a1 < 0 ∨ 2 < a1 ∨ 40 < a2) ∧ (τ 95 0 = σ 95 0) ∧ (τ 95 1 = σ 95 1) ∧ (τ 95 2 = σ 95 2) ∧ (τ 95 3 = σ 95 3) ∧ (τ 96 0 = σ 96 0) ∧ (τ 96 1 = σ 96 1) ∧ (τ 96 2 = σ 96 2) ∧ (τ 96 3 = σ 96 3) ∧ (τ 111 0 = σ 111 0) ∧ (τ 111 1 = σ 111 1) ∧ (τ 111 2 = σ 111 2) ∧ (τ 111 3 = σ 111 3) ∧ (τ 112 0 = σ 112 0) ∧ (τ 112 1 = σ 112 1) ∧ (τ 112 2 = σ 112 2) ∧ (τ 112 3 = σ 112 3)) ∨ ((b = (-14)) ∧ (0 ≤ a1 ∧ a1 ≤ 2 ∧ a2 < 0) ∧ (τ 95 0 = σ 95 0) ∧ (τ 95 1 = σ 95 1) ∧ (τ 95 2 = σ 95 2) ∧ (τ 95 3 = σ 95 3) ∧ (τ 96 0 = σ 96 0) ∧ (τ 96 1 = σ 96 1) ∧ (τ 96 2 = σ 96 2) ∧ (τ 96 3 = σ 96 3) ∧ (τ 111 0 = σ 111 0) ∧ (τ 111 1 = σ 111 1) ∧ (τ 111 2 = σ 111 2) ∧ (τ 111 3 = σ 111 3) ∧ (τ 112 0 = σ 112 0) ∧ (τ 112 1 = σ 112 1) ∧ (τ 112 2 = σ 112 2) ∧ (τ 112 3 = σ 112 3)) ∨ ((b = 1) ∧ (0 ≤ a1 ∧ a1 ≤ 2 ∧ 0 ≤ a2 ∧ a2 ≤ 40) ∧ (τ 95 0 = σ 95 0) ∧ (τ 95 1 = σ 95 1) ∧ (τ 95 2 = σ 95 2) ∧ (τ 95 3 = σ 95 3) ∧ (τ 96 0 = σ 96 0) ∧ (τ 96 1 = σ 96 1) ∧ (τ 96 2 = σ 96 2) ∧ (τ 96 3 = σ 96 3) ∧ (τ 111 0 = σ 111 0) ∧ (τ 111 1 = σ 111 1) ∧ (τ 111 2 = σ 111 2) ∧ (τ 112 0 = σ 112 0) ∧ (τ 112 1 = σ 112 1) ∧ (τ 112 2 = σ 112 2) ∧ (τ 111 3 = a1) ∧ (τ 112 3 = a2))) → Q (some (.int r)) τ) : ∀ n : Nat, (∀ (s0 : h_S), h_I s0 → h_F k_n0 s0 σ → ∀ (y4 : Int32) (b4 : Int), y4.toInt = b4 → (0 ≤ b4 ∧ b4 ≤ 40) → (0 ≤ a1 ∧ a1 ≤ 2 ∧ 0 ≤ a2 ∧ a2 ≤ 40) → (s0 95 0 = σ 95 0) → (s0 95 1 = σ 95 1) → (s0 95 2 = σ 95 2) → (s0 95 3 = σ 95 3) → (s0 96 0 = σ 96 0) → (s0 96 1 = σ 96 1) → (s0 96 2 = σ 96 2) → (s0 96 3 = σ 96 3) → (s0 111 0 = σ 111 0) → (s0 111 1 = σ 111 1) → (s0 111 2 = σ 111 2) → (s0 112 0 = σ 112 0) → (s0 112 1 = σ 112 1) → (s0 112 2 = σ 112 2) → (s0 111 3 = a1) → (s0 112 3 = a2) → (40 + 1 - b4) * 1000000 + 1000000000 ≤ (n : Int) → h_T g_P (g_Y ns) 220 56 [(0, .ref 98), (1, .int (Int32.ofInt 3)), (2, .int x1), (3, .int x2), (4, .int y4)] [] s0 Q) := by
  intro n
  induction n with
  | zero => exact by intro s0 I0 F0_ y4 b4 hy4 ry4 ex0 ex1 ex2 ex3 ex4 ex5 ex6 ex7 ex8 ex9 ex10 ex11 ex12 ex13 ex14 ex15 ex16 hm; exfalso; omega
  | succ n ih =>
    intro s0 I0 F0_ y4 b4 hy4 ry4 ex0 ex1 ex2 ex3 ex4 ex5 ex6 ex7 ex8 ex9 ex10 ex11 ex12 ex13 ex14 ex15 ex16 hm
    refine h_iload (pc' := 58) rfl rfl rfl ?_
    refine h_bipush (pc' := 60) (x := (Int32.ofInt 40)) rfl rfl cb_40 ?_
    refine h_cge (tg := 82) (pc' := 63) rfl rfl rfl hy4 ci_40 (fun c1 => ?_) (fun c1 => ?_)
    · refine h_iconst (pc' := 83) (x := (Int32.ofInt 1)) rfl rfl rfl ?_
      exact h_iret rfl rfl (kk _ _ ci_1 _ I0 F0_ (by omega) (Or.inr (Or.inr ⟨by omega, by omega, by omega, by omega, by omega, by omega, by omega, by omega, by omega, by omega, by omega, by omega, by omega, by omega, by omega, by omega, by omega, by omega⟩)))
    · refine h_aload_n (pc' := 64) rfl rfl rfl ?_
      refine h_getR (pc' := 67) rfl rfl rfl rfl rfl ?_
      refine h_bipush (pc' := 69) (x := (Int32.ofInt 40)) rfl rfl cb_40 ?_
      refine h_iload_n (pc' := 70) rfl rfl rfl ?_
      refine h_imul (pc' := 71) (c := 120) rfl rfl ci_40 ci_3 rfl (by omega) (by omega) (fun z2 hz2 => ?_)
      refine h_iload (pc' := 73) rfl rfl rfl ?_
      refine h_iadd (pc' := 74) rfl rfl hz2 hy4 rfl (by omega) (by omega) (fun z3 hz3 => ?_)
      refine h_iconst (pc' := 75) (x := (Int32.ofInt 0)) rfl rfl rfl ?_
      refine h_iast (pc' := 76) rfl rfl rfl rfl hz3 (by omega) (by omega) ci_0 (h_fgt (E := fun s => s 95 0 = s0 95 0 ∧ s 95 1 = s0 95 1 ∧ s 95 2 = s0 95 2 ∧ s 95 3 = s0 95 3 ∧ s 96 0 = s0 96 0 ∧ s 96 1 = s0 96 1 ∧ s 96 2 = s0 96 2 ∧ s 96 3 = s0 96 3 ∧ s 111 0 = s0 111 0 ∧ s 111 1 = s0 111 1 ∧ s 111 2 = s0 111 2 ∧ s 111 3 = s0 111 3 ∧ s 112 0 = s0 112 0 ∧ s 112 1 = s0 112 1 ∧ s 112 2 = s0 112 2 ∧ s 112 3 = s0 112 3) _ (in_113 I0 (h_rgv ci_0)) (F0_.up rfl) ⟨rfl, rfl, rfl, rfl, rfl, rfl, rfl, rfl, rfl, rfl, rfl, rfl, rfl, rfl, rfl, rfl⟩ (fun s4 Is4 Fs4 (es4 : s4 95 0 = s0 95 0 ∧ s4 95 1 = s0 95 1 ∧ s4 95 2 = s0 95 2 ∧ s4 95 3 = s0 95 3 ∧ s4 96 0 = s0 96 0 ∧ s4 96 1 = s0 96 1 ∧ s4 96 2 = s0 96 2 ∧ s4 96 3 = s0 96 3 ∧ s4 111 0 = s0 111 0 ∧ s4 111 1 = s0 111 1 ∧ s4 111 2 = s0 111 2 ∧ s4 111 3 = s0 111 3 ∧ s4 112 0 = s0 112 0 ∧ s4 112 1 = s0 112 1 ∧ s4 112 2 = s0 112 2 ∧ s4 112 3 = s0 112 3) => ?_))
      refine h_iinc (pc' := 79) (M := fun z5 => [(4, .int z5), (0, .ref 98), (1, .int (Int32.ofInt 3)), (2, .int x1), (3, .int x2)]) rfl rfl rfl rfl hy4 ci_1 rfl (by omega) (by omega) (fun _ => rfl) (fun z5 hz5 => ?_)
      refine h_goto (pc' := 56) rfl rfl ?_
      exact h_wk [(0, .ref 98), (1, .int (Int32.ofInt 3)), (2, .int x1), (3, .int x2), (4, .int z5)] ⟨rfl, rfl, rfl, rfl, rfl, trivial⟩ (ih _ Is4 Fs4 z5 _ hz5 (by omega) (by omega) (by omega) (by omega) (by omega) (by omega) (by omega) (by omega) (by omega) (by omega) (by omega) (by omega) (by omega) (by omega) (by omega) (by omega) (by omega) (by omega) (by omega))
set_option maxHeartbeats 100000000 in
theorem u_sheetM3 {ns : Nat} (σ : h_S) (hI : h_I σ) (x1 : Int32) (a1 : Int) (hx1 : x1.toInt = a1) (x2 : Int32) (a2 : Int) (hx2 : x2.toInt = a2) {Q : Option Value → h_S → Prop} (kk : ∀ (r : Int32) (b : Int) (hb : r.toInt = b) (τ : h_S), h_I τ → h_F k_n0 τ σ → ((-14) ≤ b ∧ b ≤ 1) → (((b = (-1)) ∧ (a1 < 0 ∨ 2 < a1 ∨ 40 < a2) ∧ (τ 95 0 = σ 95 0) ∧ (τ 95 1 = σ 95 1) ∧ (τ 95 2 = σ 95 2) ∧ (τ 95 3 = σ 95 3) ∧ (τ 96 0 = σ 96 0) ∧ (τ 96 1 = σ 96 1) ∧ (τ 96 2 = σ 96 2) ∧ (τ 96 3 = σ 96 3) ∧ (τ 111 0 = σ 111 0) ∧ (τ 111 1 = σ 111 1) ∧ (τ 111 2 = σ 111 2) ∧ (τ 111 3 = σ 111 3) ∧ (τ 112 0 = σ 112 0) ∧ (τ 112 1 = σ 112 1) ∧ (τ 112 2 = σ 112 2) ∧ (τ 112 3 = σ 112 3)) ∨ ((b = (-14)) ∧ (0 ≤ a1 ∧ a1 ≤ 2 ∧ a2 < 0) ∧ (τ 95 0 = σ 95 0) ∧ (τ 95 1 = σ 95 1) ∧ (τ 95 2 = σ 95 2) ∧ (τ 95 3 = σ 95 3) ∧ (τ 96 0 = σ 96 0) ∧ (τ 96 1 = σ 96 1) ∧ (τ 96 2 = σ 96 2) ∧ (τ 96 3 = σ 96 3) ∧ (τ 111 0 = σ 111 0) ∧ (τ 111 1 = σ 111 1) ∧ (τ 111 2 = σ 111 2) ∧ (τ 111 3 = σ 111 3) ∧ (τ 112 0 = σ 112 0) ∧ (τ 112 1 = σ 112 1) ∧ (τ 112 2 = σ 112 2) ∧ (τ 112 3 = σ 112 3)) ∨ ((b = 1) ∧ (0 ≤ a1 ∧ a1 ≤ 2 ∧ 0 ≤ a2 ∧ a2 ≤ 40) ∧ (τ 95 0 = σ 95 0) ∧ (τ 95 1 = σ 95 1) ∧ (τ 95 2 = σ 95 2) ∧ (τ 95 3 = σ 95 3) ∧ (τ 96 0 = σ 96 0) ∧ (τ 96 1 = σ 96 1) ∧ (τ 96 2 = σ 96 2) ∧ (τ 96 3 = σ 96 3) ∧ (τ 111 0 = σ 111 0) ∧ (τ 111 1 = σ 111 1) ∧ (τ 111 2 = σ 111 2) ∧ (τ 112 0 = σ 112 0) ∧ (τ 112 1 = σ 112 1) ∧ (τ 112 2 = σ 112 2) ∧ (τ 111 3 = a1) ∧ (τ 112 3 = a2))) → Q (some (.int r)) τ) : h_T g_P (g_Y ns) 220 0 [(0, .ref 98), (1, .int (Int32.ofInt 3)), (2, .int x1), (3, .int x2)] [] σ Q := by
  have F00 : h_F k_n0 σ σ := h_F.rf
  refine h_iload_n (pc' := 1) rfl rfl rfl ?_
  refine h_i2l (pc' := 2) rfl rfl ci_3 (fun z1 hz1 => ?_)
  refine h_lconst (pc' := 3) (x := (Int64.ofInt 0)) rfl rfl rfl ?_
  refine h_ldc2 (pc' := 6) (x := (Int64.ofInt 3)) rfl rfl rfl ?_
  refine h_calls (pc' := 9) (M := [(0, .long z1), (2, .long (Int64.ofInt 0)), (4, .long (Int64.ofInt 3))]) rfl rfl rfl rfl rfl rfl ?_
  refine h_lload_n (pc' := 1) rfl rfl rfl ?_
  refine h_lload_n (pc' := 2) rfl rfl rfl ?_
  refine h_lcmp (pc' := 3) rfl rfl hz1 cl_0 (fun z2 hz2 => ?_)
  refine h_zlt (tg := 17) (pc' := 6) rfl rfl rfl rfl (fun c3 => absurd c3 (by omega)) (fun c3 => ?_)
  replace c3 := (h_lcr hz2).2.1 c3
  clear hz2
  refine h_lload_n (pc' := 7) rfl rfl rfl ?_
  refine h_lload (pc' := 9) rfl rfl rfl ?_
  refine h_lcmp (pc' := 10) rfl rfl hz1 cl_3 (fun z4 hz4 => ?_)
  refine h_zgt (tg := 17) (pc' := 13) rfl rfl rfl rfl (fun c5 => absurd c5 (by omega)) (fun c5 => ?_)
  replace c5 := (h_lcr hz4).2.2.1 c5
  clear hz4
  refine h_iconst (pc' := 14) (x := (Int32.ofInt 1)) rfl rfl rfl ?_
  refine h_goto (pc' := 18) rfl rfl ?_
  refine h_zret rfl rfl ci_1 (by omega) (h_Kv ?_)
  refine h_zeq (tg := 30) (pc' := 12) rfl rfl rfl ci_1 (fun c6 => absurd c6 (by omega)) (fun c6 => ?_)
  refine h_iload_n (pc' := 13) rfl rfl rfl ?_
  refine h_i2l (pc' := 14) rfl rfl hx1 (fun z7 hz7 => ?_)
  refine h_lconst (pc' := 15) (x := (Int64.ofInt 0)) rfl rfl rfl ?_
  refine h_ldc2 (pc' := 18) (x := (Int64.ofInt 2)) rfl rfl rfl ?_
  refine h_calls (pc' := 21) (M := [(0, .long z7), (2, .long (Int64.ofInt 0)), (4, .long (Int64.ofInt 2))]) rfl rfl rfl rfl rfl rfl ?_
  refine h_lload_n (pc' := 1) rfl rfl rfl ?_
  refine h_lload_n (pc' := 2) rfl rfl rfl ?_
  refine h_lcmp (pc' := 3) rfl rfl hz7 cl_0 (fun z8 hz8 => ?_)
  refine h_zlt (tg := 17) (pc' := 6) rfl rfl rfl rfl (fun c9 => ?_) (fun c9 => ?_)
  · replace c9 := (h_lcr hz8).1 c9
    clear hz8
    refine h_iconst (pc' := 18) (x := (Int32.ofInt 0)) rfl rfl rfl ?_
    refine h_zret rfl rfl ci_0 (by omega) (h_Kv ?_)
    refine h_zeq (tg := 30) (pc' := 24) rfl rfl rfl ci_0 (fun c10 => ?_) (fun c10 => absurd c10 (by omega))
    refine h_iconst (pc' := 31) (x := (Int32.ofInt (-1))) rfl rfl rfl ?_
    exact h_iret rfl rfl (kk _ _ ci_m1 _ hI F00 (by omega) (Or.inl ⟨by omega, by omega, by omega, by omega, by omega, by omega, by omega, by omega, by omega, by omega, by omega, by omega, by omega, by omega, by omega, by omega, by omega, by omega⟩))
  · replace c9 := (h_lcr hz8).2.1 c9
    clear hz8
    refine h_lload_n (pc' := 7) rfl rfl rfl ?_
    refine h_lload (pc' := 9) rfl rfl rfl ?_
    refine h_lcmp (pc' := 10) rfl rfl hz7 cl_2 (fun z11 hz11 => ?_)
    refine h_zgt (tg := 17) (pc' := 13) rfl rfl rfl rfl (fun c12 => ?_) (fun c12 => ?_)
    · replace c12 := (h_lcr hz11).2.2.2.1 c12
      clear hz11
      refine h_iconst (pc' := 18) (x := (Int32.ofInt 0)) rfl rfl rfl ?_
      refine h_zret rfl rfl ci_0 (by omega) (h_Kv ?_)
      refine h_zeq (tg := 30) (pc' := 24) rfl rfl rfl ci_0 (fun c13 => ?_) (fun c13 => absurd c13 (by omega))
      refine h_iconst (pc' := 31) (x := (Int32.ofInt (-1))) rfl rfl rfl ?_
      exact h_iret rfl rfl (kk _ _ ci_m1 _ hI F00 (by omega) (Or.inl ⟨by omega, by omega, by omega, by omega, by omega, by omega, by omega, by omega, by omega, by omega, by omega, by omega, by omega, by omega, by omega, by omega, by omega, by omega⟩))
    · replace c12 := (h_lcr hz11).2.2.1 c12
      clear hz11
      refine h_iconst (pc' := 14) (x := (Int32.ofInt 1)) rfl rfl rfl ?_
      refine h_goto (pc' := 18) rfl rfl ?_
      refine h_zret rfl rfl ci_1 (by omega) (h_Kv ?_)
      refine h_zeq (tg := 30) (pc' := 24) rfl rfl rfl ci_1 (fun c14 => absurd c14 (by omega)) (fun c14 => ?_)
      refine h_iload_n (pc' := 25) rfl rfl rfl ?_
      refine h_bipush (pc' := 27) (x := (Int32.ofInt 40)) rfl rfl cb_40 ?_
      refine h_cle (tg := 32) (pc' := 30) rfl rfl rfl hx2 ci_40 (fun c15 => ?_) (fun c15 => ?_)
      · refine h_iload_n (pc' := 33) rfl rfl rfl ?_
        refine h_zge (tg := 39) (pc' := 36) rfl rfl rfl hx2 (fun c16 => ?_) (fun c16 => ?_)
        · refine h_aload_n (pc' := 40) rfl rfl rfl ?_
          refine h_getR (pc' := 43) rfl rfl rfl rfl rfl ?_
          refine h_iload_n (pc' := 44) rfl rfl rfl ?_
          refine h_iload_n (pc' := 45) rfl rfl rfl ?_
          refine h_iast (pc' := 46) rfl rfl rfl rfl ci_3 (by omega) (by omega) hx1 (h_fgt (E := fun s => s 95 0 = σ 95 0 ∧ s 95 1 = σ 95 1 ∧ s 95 2 = σ 95 2 ∧ s 95 3 = σ 95 3 ∧ s 96 0 = σ 96 0 ∧ s 96 1 = σ 96 1 ∧ s 96 2 = σ 96 2 ∧ s 96 3 = σ 96 3 ∧ s 111 0 = σ 111 0 ∧ s 111 1 = σ 111 1 ∧ s 111 2 = σ 111 2 ∧ s 111 3 = a1 ∧ s 112 0 = σ 112 0 ∧ s 112 1 = σ 112 1 ∧ s 112 2 = σ 112 2 ∧ s 112 3 = σ 112 3) _ (in_111 hI (by omega)) (F00.up rfl) ⟨rfl, rfl, rfl, rfl, rfl, rfl, rfl, rfl, rfl, rfl, rfl, rfl, rfl, rfl, rfl, rfl⟩ (fun s17 Is17 Fs17 (es17 : s17 95 0 = σ 95 0 ∧ s17 95 1 = σ 95 1 ∧ s17 95 2 = σ 95 2 ∧ s17 95 3 = σ 95 3 ∧ s17 96 0 = σ 96 0 ∧ s17 96 1 = σ 96 1 ∧ s17 96 2 = σ 96 2 ∧ s17 96 3 = σ 96 3 ∧ s17 111 0 = σ 111 0 ∧ s17 111 1 = σ 111 1 ∧ s17 111 2 = σ 111 2 ∧ s17 111 3 = a1 ∧ s17 112 0 = σ 112 0 ∧ s17 112 1 = σ 112 1 ∧ s17 112 2 = σ 112 2 ∧ s17 112 3 = σ 112 3) => ?_))
          refine h_aload_n (pc' := 47) rfl rfl rfl ?_
          refine h_getR (pc' := 50) rfl rfl rfl rfl rfl ?_
          refine h_iload_n (pc' := 51) rfl rfl rfl ?_
          refine h_iload_n (pc' := 52) rfl rfl rfl ?_
          refine h_iast (pc' := 53) rfl rfl rfl rfl ci_3 (by omega) (by omega) hx2 (h_fgt (E := fun s => s 95 0 = σ 95 0 ∧ s 95 1 = σ 95 1 ∧ s 95 2 = σ 95 2 ∧ s 95 3 = σ 95 3 ∧ s 96 0 = σ 96 0 ∧ s 96 1 = σ 96 1 ∧ s 96 2 = σ 96 2 ∧ s 96 3 = σ 96 3 ∧ s 111 0 = σ 111 0 ∧ s 111 1 = σ 111 1 ∧ s 111 2 = σ 111 2 ∧ s 111 3 = a1 ∧ s 112 0 = σ 112 0 ∧ s 112 1 = σ 112 1 ∧ s 112 2 = σ 112 2 ∧ s 112 3 = a2) _ (in_112 Is17 (by omega)) (Fs17.up rfl) ⟨es17.1, es17.2.1, es17.2.2.1, es17.2.2.2.1, es17.2.2.2.2.1, es17.2.2.2.2.2.1, es17.2.2.2.2.2.2.1, es17.2.2.2.2.2.2.2.1, es17.2.2.2.2.2.2.2.2.1, es17.2.2.2.2.2.2.2.2.2.1, es17.2.2.2.2.2.2.2.2.2.2.1, es17.2.2.2.2.2.2.2.2.2.2.2.1, es17.2.2.2.2.2.2.2.2.2.2.2.2.1, es17.2.2.2.2.2.2.2.2.2.2.2.2.2.1, es17.2.2.2.2.2.2.2.2.2.2.2.2.2.2.1, rfl⟩ (fun s18 Is18 Fs18 (es18 : s18 95 0 = σ 95 0 ∧ s18 95 1 = σ 95 1 ∧ s18 95 2 = σ 95 2 ∧ s18 95 3 = σ 95 3 ∧ s18 96 0 = σ 96 0 ∧ s18 96 1 = σ 96 1 ∧ s18 96 2 = σ 96 2 ∧ s18 96 3 = σ 96 3 ∧ s18 111 0 = σ 111 0 ∧ s18 111 1 = σ 111 1 ∧ s18 111 2 = σ 111 2 ∧ s18 111 3 = a1 ∧ s18 112 0 = σ 112 0 ∧ s18 112 1 = σ 112 1 ∧ s18 112 2 = σ 112 2 ∧ s18 112 3 = a2) => ?_))
          clear es17
          refine h_iconst (pc' := 54) (x := (Int32.ofInt 0)) rfl rfl rfl ?_
          refine h_istore (pc' := 56) (M := [(4, .int (Int32.ofInt 0)), (0, .ref 98), (1, .int (Int32.ofInt 3)), (2, .int x1), (3, .int x2)]) rfl rfl rfl rfl ?_
          exact h_wk [(0, .ref 98), (1, .int (Int32.ofInt 3)), (2, .int x1), (3, .int x2), (4, .int (Int32.ofInt 0))] ⟨rfl, rfl, rfl, rfl, rfl, trivial⟩ ((u_sheetM3_l ns σ hI x1 a1 hx1 x2 a2 hx2 kk 1000000000000) _ Is18 Fs18 (Int32.ofInt 0) _ ci_0 (by omega) (by omega) (by omega) (by omega) (by omega) (by omega) (by omega) (by omega) (by omega) (by omega) (by omega) (by omega) (by omega) (by omega) (by omega) (by omega) (by omega) (by omega) (by omega))
        · refine h_bipush (pc' := 38) (x := (Int32.ofInt (-14))) rfl rfl cb_m14 ?_
          exact h_iret rfl rfl (kk _ _ ci_m14 _ hI F00 (by omega) (Or.inr (Or.inl ⟨by omega, by omega, by omega, by omega, by omega, by omega, by omega, by omega, by omega, by omega, by omega, by omega, by omega, by omega, by omega, by omega, by omega, by omega⟩)))
      · refine h_iconst (pc' := 31) (x := (Int32.ofInt (-1))) rfl rfl rfl ?_
        exact h_iret rfl rfl (kk _ _ ci_m1 _ hI F00 (by omega) (Or.inl ⟨by omega, by omega, by omega, by omega, by omega, by omega, by omega, by omega, by omega, by omega, by omega, by omega, by omega, by omega, by omega, by omega, by omega, by omega⟩))
set_option maxHeartbeats 100000000 in
theorem u_sheetMn {ns : Nat} (σ : h_S) (hI : h_I σ) (x0 : Int32) (a0 : Int) (hx0 : x0.toInt = a0) (ra0 : -2147483648 ≤ a0 ∧ a0 ≤ -1) (x1 : Int32) (a1 : Int) (hx1 : x1.toInt = a1) (x2 : Int32) (a2 : Int) (hx2 : x2.toInt = a2) {Q : Option Value → h_S → Prop} (kk : ∀ (r : Int32) (b : Int) (hb : r.toInt = b) (τ : h_S), h_I τ → h_F k_sc τ σ → ((-1) ≤ b ∧ b ≤ (-1)) → (((b = (-1)) ∧ (τ 95 0 = σ 95 0) ∧ (τ 95 1 = σ 95 1) ∧ (τ 95 2 = σ 95 2) ∧ (τ 95 3 = σ 95 3) ∧ (τ 96 0 = σ 96 0) ∧ (τ 96 1 = σ 96 1) ∧ (τ 96 2 = σ 96 2) ∧ (τ 96 3 = σ 96 3) ∧ (τ 111 0 = σ 111 0) ∧ (τ 111 1 = σ 111 1) ∧ (τ 111 2 = σ 111 2) ∧ (τ 111 3 = σ 111 3) ∧ (τ 112 0 = σ 112 0) ∧ (τ 112 1 = σ 112 1) ∧ (τ 112 2 = σ 112 2) ∧ (τ 112 3 = σ 112 3))) → Q (some (.int r)) τ) : h_T g_P (g_Y ns) 220 0 [(0, .ref 98), (1, .int x0), (2, .int x1), (3, .int x2)] [] σ Q := by
  have F00 : h_F k_sc σ σ := h_F.rf
  refine h_iload_n (pc' := 1) rfl rfl rfl ?_
  refine h_i2l (pc' := 2) rfl rfl hx0 (fun z1 hz1 => ?_)
  refine h_lconst (pc' := 3) (x := (Int64.ofInt 0)) rfl rfl rfl ?_
  refine h_ldc2 (pc' := 6) (x := (Int64.ofInt 3)) rfl rfl rfl ?_
  refine h_calls (pc' := 9) (M := [(0, .long z1), (2, .long (Int64.ofInt 0)), (4, .long (Int64.ofInt 3))]) rfl rfl rfl rfl rfl rfl ?_
  refine h_lload_n (pc' := 1) rfl rfl rfl ?_
  refine h_lload_n (pc' := 2) rfl rfl rfl ?_
  refine h_lcmp (pc' := 3) rfl rfl hz1 cl_0 (fun z2 hz2 => ?_)
  refine h_zlt (tg := 17) (pc' := 6) rfl rfl rfl rfl (fun c3 => ?_) (fun c3 => absurd c3 (by omega))
  replace c3 := (h_lcr hz2).1 c3
  clear hz2
  refine h_iconst (pc' := 18) (x := (Int32.ofInt 0)) rfl rfl rfl ?_
  refine h_zret rfl rfl ci_0 (by omega) (h_Kv ?_)
  refine h_zeq (tg := 30) (pc' := 12) rfl rfl rfl ci_0 (fun c4 => ?_) (fun c4 => absurd c4 (by omega))
  refine h_iconst (pc' := 31) (x := (Int32.ofInt (-1))) rfl rfl rfl ?_
  exact h_iret rfl rfl (kk _ _ ci_m1 _ hI F00 (by omega) ⟨by omega, by omega, by omega, by omega, by omega, by omega, by omega, by omega, by omega, by omega, by omega, by omega, by omega, by omega, by omega, by omega, by omega⟩)
set_option maxHeartbeats 100000000 in
theorem u_sheetMp {ns : Nat} (σ : h_S) (hI : h_I σ) (x0 : Int32) (a0 : Int) (hx0 : x0.toInt = a0) (ra0 : 4 ≤ a0 ∧ a0 ≤ 2147483647) (x1 : Int32) (a1 : Int) (hx1 : x1.toInt = a1) (x2 : Int32) (a2 : Int) (hx2 : x2.toInt = a2) {Q : Option Value → h_S → Prop} (kk : ∀ (r : Int32) (b : Int) (hb : r.toInt = b) (τ : h_S), h_I τ → h_F k_sc τ σ → ((-1) ≤ b ∧ b ≤ (-1)) → (((b = (-1)) ∧ (τ 95 0 = σ 95 0) ∧ (τ 95 1 = σ 95 1) ∧ (τ 95 2 = σ 95 2) ∧ (τ 95 3 = σ 95 3) ∧ (τ 96 0 = σ 96 0) ∧ (τ 96 1 = σ 96 1) ∧ (τ 96 2 = σ 96 2) ∧ (τ 96 3 = σ 96 3) ∧ (τ 111 0 = σ 111 0) ∧ (τ 111 1 = σ 111 1) ∧ (τ 111 2 = σ 111 2) ∧ (τ 111 3 = σ 111 3) ∧ (τ 112 0 = σ 112 0) ∧ (τ 112 1 = σ 112 1) ∧ (τ 112 2 = σ 112 2) ∧ (τ 112 3 = σ 112 3))) → Q (some (.int r)) τ) : h_T g_P (g_Y ns) 220 0 [(0, .ref 98), (1, .int x0), (2, .int x1), (3, .int x2)] [] σ Q := by
  have F00 : h_F k_sc σ σ := h_F.rf
  refine h_iload_n (pc' := 1) rfl rfl rfl ?_
  refine h_i2l (pc' := 2) rfl rfl hx0 (fun z1 hz1 => ?_)
  refine h_lconst (pc' := 3) (x := (Int64.ofInt 0)) rfl rfl rfl ?_
  refine h_ldc2 (pc' := 6) (x := (Int64.ofInt 3)) rfl rfl rfl ?_
  refine h_calls (pc' := 9) (M := [(0, .long z1), (2, .long (Int64.ofInt 0)), (4, .long (Int64.ofInt 3))]) rfl rfl rfl rfl rfl rfl ?_
  refine h_lload_n (pc' := 1) rfl rfl rfl ?_
  refine h_lload_n (pc' := 2) rfl rfl rfl ?_
  refine h_lcmp (pc' := 3) rfl rfl hz1 cl_0 (fun z2 hz2 => ?_)
  refine h_zlt (tg := 17) (pc' := 6) rfl rfl rfl rfl (fun c3 => absurd c3 (by omega)) (fun c3 => ?_)
  replace c3 := (h_lcr hz2).2.1 c3
  clear hz2
  refine h_lload_n (pc' := 7) rfl rfl rfl ?_
  refine h_lload (pc' := 9) rfl rfl rfl ?_
  refine h_lcmp (pc' := 10) rfl rfl hz1 cl_3 (fun z4 hz4 => ?_)
  refine h_zgt (tg := 17) (pc' := 13) rfl rfl rfl rfl (fun c5 => ?_) (fun c5 => absurd c5 (by omega))
  replace c5 := (h_lcr hz4).2.2.2.1 c5
  clear hz4
  refine h_iconst (pc' := 18) (x := (Int32.ofInt 0)) rfl rfl rfl ?_
  refine h_zret rfl rfl ci_0 (by omega) (h_Kv ?_)
  refine h_zeq (tg := 30) (pc' := 12) rfl rfl rfl ci_0 (fun c6 => ?_) (fun c6 => absurd c6 (by omega))
  refine h_iconst (pc' := 31) (x := (Int32.ofInt (-1))) rfl rfl rfl ?_
  exact h_iret rfl rfl (kk _ _ ci_m1 _ hI F00 (by omega) ⟨by omega, by omega, by omega, by omega, by omega, by omega, by omega, by omega, by omega, by omega, by omega, by omega, by omega, by omega, by omega, by omega, by omega⟩)
set_option maxHeartbeats 100000000 in
theorem u_layX0 {ns : Nat} (σ : h_S) (hI : h_I σ) (x1 : Int32) (a1 : Int) (hx1 : x1.toInt = a1) (x2 : Int32) (a2 : Int) (hx2 : x2.toInt = a2) {Q : Option Value → h_S → Prop} (kk : ∀ (r : Int32) (b : Int) (hb : r.toInt = b) (τ : h_S), h_I τ → h_F k_nt τ σ → ((-13) ≤ b ∧ b ≤ 1) → (((b = (-11)) ∧ (σ 96 0 = -4)) ∨ ((b = (-12)) ∧ (¬ σ 96 0 = -4) ∧ (a1 < 0 ∨ σ 96 0 ≤ a1)) ∨ ((b = 1) ∧ (¬ σ 96 0 = -4) ∧ (0 ≤ a1 ∧ a1 < σ 96 0))) → Q (some (.int r)) τ) : h_T g_P (g_Y ns) 119 0 [(0, .ref 9), (1, .int (Int32.ofInt 0)), (2, .int x1), (3, .int x2)] [] σ Q := by
  have F00 : h_F k_nt σ σ := h_F.rf
  refine h_iload_n (pc' := 1) rfl rfl rfl ?_
  refine h_calls (pc' := 4) (M := [(0, .int (Int32.ofInt 0))]) rfl rfl rfl rfl rfl rfl ?_
  refine h_iload_n (pc' := 1) rfl rfl rfl ?_
  refine h_zlt (tg := 13) (pc' := 4) rfl rfl rfl ci_0 (fun c1 => absurd c1 (by omega)) (fun c1 => ?_)
  refine h_iload_n (pc' := 5) rfl rfl rfl ?_
  refine h_iconst (pc' := 6) (x := (Int32.ofInt 4)) rfl rfl rfl ?_
  refine h_cge (tg := 13) (pc' := 9) rfl rfl rfl ci_0 ci_4 (fun c2 => absurd c2 (by omega)) (fun c2 => ?_)
  refine h_iconst (pc' := 10) (x := (Int32.ofInt 1)) rfl rfl rfl ?_
  refine h_goto (pc' := 14) rfl rfl ?_
  refine h_zret rfl rfl ci_1 (by omega) (h_Kv ?_)
  refine h_zne (tg := 9) (pc' := 7) rfl rfl rfl ci_1 (fun c3 => ?_) (fun c3 => absurd c3 (by omega))
  refine h_aload_n (pc' := 10) rfl rfl rfl ?_
  refine h_getR (pc' := 13) rfl rfl rfl rfl rfl ?_
  refine h_iload_n (pc' := 14) rfl rfl rfl ?_
  refine h_aload_n (pc' := 15) rfl rfl rfl ?_
  refine h_getR (pc' := 18) rfl rfl rfl rfl rfl ?_
  refine h_getR (pc' := 21) rfl rfl rfl rfl rfl ?_
  refine h_iload_n (pc' := 22) rfl rfl rfl ?_
  refine h_iald (pc' := 23) (v := σ 95 0) rfl rfl rfl ci_0 (by omega) (by omega) rfl (fun z4 hz4 => ?_)
  have tz4 := ty_95 hI 0
  refine h_iload_n (pc' := 24) rfl rfl rfl ?_
  refine h_call (sp := false) (pc' := 27) (M := [(0, .ref 93), (1, .int (Int32.ofInt 0)), (2, .int z4), (3, .int x1)]) rfl rfl rfl rfl rfl rfl rfl rfl ?_
  refine h_aload_n (pc' := 1) rfl rfl rfl ?_
  refine h_getR (pc' := 4) rfl rfl rfl rfl rfl ?_
  refine h_iload_n (pc' := 5) rfl rfl rfl ?_
  refine h_iald (pc' := 6) (v := σ 96 0) rfl rfl rfl ci_0 (by omega) (by omega) rfl (fun z5 hz5 => ?_)
  have tz5 := ty_96 hI 0
  refine h_bipush (pc' := 8) (x := (Int32.ofInt (-4))) rfl rfl cb_m4 ?_
  refine h_cne (tg := 13) (pc' := 11) rfl rfl rfl hz5 ci_m4 (fun c6 => ?_) (fun c6 => ?_)
  · refine h_aload_n (pc' := 14) rfl rfl rfl ?_
    refine h_getR (pc' := 17) rfl rfl rfl rfl rfl ?_
    refine h_iload_n (pc' := 18) rfl rfl rfl ?_
    refine h_iald (pc' := 19) (v := σ 95 0) rfl rfl rfl ci_0 (by omega) (by omega) rfl (fun z7 hz7 => ?_)
    have tz7 := ty_95 hI 0
    refine h_iload_n (pc' := 20) rfl rfl rfl ?_
    refine h_ceq (tg := 25) (pc' := 23) rfl rfl rfl hz7 hz4 (fun c8 => ?_) (fun c8 => ?_)
    · refine h_iload_n (pc' := 26) rfl rfl rfl ?_
      refine h_zlt (tg := 43) (pc' := 29) rfl rfl rfl hx1 (fun c9 => ?_) (fun c9 => ?_)
      · refine h_iconst (pc' := 44) (x := (Int32.ofInt 2)) rfl rfl rfl ?_
        refine h_iret rfl rfl (h_Kv ?_)
        refine h_istore (pc' := 29) (M := [(4, .int (Int32.ofInt 2)), (0, .ref 9), (1, .int (Int32.ofInt 0)), (2, .int x1), (3, .int x2)]) rfl rfl rfl rfl ?_
        refine h_iload (pc' := 31) rfl rfl rfl ?_
        refine h_zeq (tg := 40) (pc' := 34) rfl rfl rfl ci_2 (fun c10 => absurd c10 (by omega)) (fun c10 => ?_)
        refine h_bipush (pc' := 36) (x := (Int32.ofInt (-10))) rfl rfl cb_m10 ?_
        refine h_iload (pc' := 38) rfl rfl rfl ?_
        refine h_isub (pc' := 39) (c := (-12)) rfl rfl ci_m10 ci_2 rfl (by omega) (by omega) (fun z11 hz11 => ?_)
        exact h_iret rfl rfl (kk _ _ hz11 _ hI F00 (by omega) (Or.inr (Or.inl ⟨by omega, by omega, by omega⟩)))
      · refine h_iload_n (pc' := 30) rfl rfl rfl ?_
        refine h_aload_n (pc' := 31) rfl rfl rfl ?_
        refine h_getR (pc' := 34) rfl rfl rfl rfl rfl ?_
        refine h_iload_n (pc' := 35) rfl rfl rfl ?_
        refine h_iald (pc' := 36) (v := σ 96 0) rfl rfl rfl ci_0 (by omega) (by omega) rfl (fun z12 hz12 => ?_)
        have tz12 := ty_96 hI 0
        refine h_cge (tg := 43) (pc' := 39) rfl rfl rfl hx1 hz12 (fun c13 => ?_) (fun c13 => ?_)
        · refine h_iconst (pc' := 44) (x := (Int32.ofInt 2)) rfl rfl rfl ?_
          refine h_iret rfl rfl (h_Kv ?_)
          refine h_istore (pc' := 29) (M := [(4, .int (Int32.ofInt 2)), (0, .ref 9), (1, .int (Int32.ofInt 0)), (2, .int x1), (3, .int x2)]) rfl rfl rfl rfl ?_
          refine h_iload (pc' := 31) rfl rfl rfl ?_
          refine h_zeq (tg := 40) (pc' := 34) rfl rfl rfl ci_2 (fun c14 => absurd c14 (by omega)) (fun c14 => ?_)
          refine h_bipush (pc' := 36) (x := (Int32.ofInt (-10))) rfl rfl cb_m10 ?_
          refine h_iload (pc' := 38) rfl rfl rfl ?_
          refine h_isub (pc' := 39) (c := (-12)) rfl rfl ci_m10 ci_2 rfl (by omega) (by omega) (fun z15 hz15 => ?_)
          exact h_iret rfl rfl (kk _ _ hz15 _ hI F00 (by omega) (Or.inr (Or.inl ⟨by omega, by omega, by omega⟩)))
        · refine h_iconst (pc' := 40) (x := (Int32.ofInt 0)) rfl rfl rfl ?_
          refine h_goto (pc' := 44) rfl rfl ?_
          refine h_iret rfl rfl (h_Kv ?_)
          refine h_istore (pc' := 29) (M := [(4, .int (Int32.ofInt 0)), (0, .ref 9), (1, .int (Int32.ofInt 0)), (2, .int x1), (3, .int x2)]) rfl rfl rfl rfl ?_
          refine h_iload (pc' := 31) rfl rfl rfl ?_
          refine h_zeq (tg := 40) (pc' := 34) rfl rfl rfl ci_0 (fun c16 => ?_) (fun c16 => absurd c16 (by omega))
          refine h_aload_n (pc' := 41) rfl rfl rfl ?_
          refine h_getR (pc' := 44) rfl rfl rfl rfl rfl ?_
          refine h_iload_n (pc' := 45) rfl rfl rfl ?_
          refine h_iload_n (pc' := 46) rfl rfl rfl ?_
          refine h_iload_n (pc' := 47) rfl rfl rfl ?_
          refine h_call (sp := false) (pc' := 50) (M := [(0, .ref 93), (1, .int (Int32.ofInt 0)), (2, .int x1), (3, .int x2)]) rfl rfl rfl rfl rfl rfl rfl rfl ?_
          refine w_70_93 _ hI (Int32.ofInt 0) _ ci_0 (by omega) x1 _ hx1 (by omega) x2 _ hx2 (fun s18 Is18 Gs18 => h_Kn ?_)
          have Fs18 := (Gs18).tr F00
          have es18_0 : s18 95 0 = σ 95 0 := (Gs18 95 0 rfl).trans rfl
          have es18_1 : s18 95 1 = σ 95 1 := (Gs18 95 1 rfl).trans rfl
          have es18_2 : s18 95 2 = σ 95 2 := (Gs18 95 2 rfl).trans rfl
          have es18_3 : s18 95 3 = σ 95 3 := (Gs18 95 3 rfl).trans rfl
          have es18_4 : s18 96 0 = σ 96 0 := (Gs18 96 0 rfl).trans rfl
          have es18_5 : s18 96 1 = σ 96 1 := (Gs18 96 1 rfl).trans rfl
          have es18_6 : s18 96 2 = σ 96 2 := (Gs18 96 2 rfl).trans rfl
          have es18_7 : s18 96 3 = σ 96 3 := (Gs18 96 3 rfl).trans rfl
          have es18_8 : s18 111 0 = σ 111 0 := (Gs18 111 0 rfl).trans rfl
          have es18_9 : s18 111 1 = σ 111 1 := (Gs18 111 1 rfl).trans rfl
          have es18_10 : s18 111 2 = σ 111 2 := (Gs18 111 2 rfl).trans rfl
          have es18_11 : s18 111 3 = σ 111 3 := (Gs18 111 3 rfl).trans rfl
          have es18_12 : s18 112 0 = σ 112 0 := (Gs18 112 0 rfl).trans rfl
          have es18_13 : s18 112 1 = σ 112 1 := (Gs18 112 1 rfl).trans rfl
          have es18_14 : s18 112 2 = σ 112 2 := (Gs18 112 2 rfl).trans rfl
          have es18_15 : s18 112 3 = σ 112 3 := (Gs18 112 3 rfl).trans rfl
          refine h_iconst (pc' := 51) (x := (Int32.ofInt 1)) rfl rfl rfl ?_
          exact h_iret rfl rfl (kk _ _ ci_1 _ Is18 Fs18 (by omega) (Or.inr (Or.inr ⟨by omega, by omega, by omega⟩)))
    · refine h_iconst (pc' := 24) (x := (Int32.ofInt 3)) rfl rfl rfl ?_
      refine h_iret rfl rfl (h_Kv ?_)
      refine h_istore (pc' := 29) (M := [(4, .int (Int32.ofInt 3)), (0, .ref 9), (1, .int (Int32.ofInt 0)), (2, .int x1), (3, .int x2)]) rfl rfl rfl rfl ?_
      refine h_iload (pc' := 31) rfl rfl rfl ?_
      refine h_zeq (tg := 40) (pc' := 34) rfl rfl rfl ci_3 (fun c19 => absurd c19 (by omega)) (fun c19 => ?_)
      refine h_bipush (pc' := 36) (x := (Int32.ofInt (-10))) rfl rfl cb_m10 ?_
      refine h_iload (pc' := 38) rfl rfl rfl ?_
      refine h_isub (pc' := 39) (c := (-13)) rfl rfl ci_m10 ci_3 rfl (by omega) (by omega) (fun z20 hz20 => ?_)
      exact h_iret rfl rfl (kk _ _ hz20 _ hI F00 (by omega) (by omega))
  · refine h_iconst (pc' := 12) (x := (Int32.ofInt 1)) rfl rfl rfl ?_
    refine h_iret rfl rfl (h_Kv ?_)
    refine h_istore (pc' := 29) (M := [(4, .int (Int32.ofInt 1)), (0, .ref 9), (1, .int (Int32.ofInt 0)), (2, .int x1), (3, .int x2)]) rfl rfl rfl rfl ?_
    refine h_iload (pc' := 31) rfl rfl rfl ?_
    refine h_zeq (tg := 40) (pc' := 34) rfl rfl rfl ci_1 (fun c21 => absurd c21 (by omega)) (fun c21 => ?_)
    refine h_bipush (pc' := 36) (x := (Int32.ofInt (-10))) rfl rfl cb_m10 ?_
    refine h_iload (pc' := 38) rfl rfl rfl ?_
    refine h_isub (pc' := 39) (c := (-11)) rfl rfl ci_m10 ci_1 rfl (by omega) (by omega) (fun z22 hz22 => ?_)
    exact h_iret rfl rfl (kk _ _ hz22 _ hI F00 (by omega) (Or.inl ⟨by omega, by omega⟩))
set_option maxHeartbeats 100000000 in
theorem u_layX1 {ns : Nat} (σ : h_S) (hI : h_I σ) (x1 : Int32) (a1 : Int) (hx1 : x1.toInt = a1) (x2 : Int32) (a2 : Int) (hx2 : x2.toInt = a2) {Q : Option Value → h_S → Prop} (kk : ∀ (r : Int32) (b : Int) (hb : r.toInt = b) (τ : h_S), h_I τ → h_F k_nt τ σ → ((-13) ≤ b ∧ b ≤ 1) → (((b = (-11)) ∧ (σ 96 1 = -4)) ∨ ((b = (-12)) ∧ (¬ σ 96 1 = -4) ∧ (a1 < 0 ∨ σ 96 1 ≤ a1)) ∨ ((b = 1) ∧ (¬ σ 96 1 = -4) ∧ (0 ≤ a1 ∧ a1 < σ 96 1))) → Q (some (.int r)) τ) : h_T g_P (g_Y ns) 119 0 [(0, .ref 9), (1, .int (Int32.ofInt 1)), (2, .int x1), (3, .int x2)] [] σ Q := by
  have F00 : h_F k_nt σ σ := h_F.rf
  refine h_iload_n (pc' := 1) rfl rfl rfl ?_
  refine h_calls (pc' := 4) (M := [(0, .int (Int32.ofInt 1))]) rfl rfl rfl rfl rfl rfl ?_
  refine h_iload_n (pc' := 1) rfl rfl rfl ?_
  refine h_zlt (tg := 13) (pc' := 4) rfl rfl rfl ci_1 (fun c1 => absurd c1 (by omega)) (fun c1 => ?_)
  refine h_iload_n (pc' := 5) rfl rfl rfl ?_
  refine h_iconst (pc' := 6) (x := (Int32.ofInt 4)) rfl rfl rfl ?_
  refine h_cge (tg := 13) (pc' := 9) rfl rfl rfl ci_1 ci_4 (fun c2 => absurd c2 (by omega)) (fun c2 => ?_)
  refine h_iconst (pc' := 10) (x := (Int32.ofInt 1)) rfl rfl rfl ?_
  refine h_goto (pc' := 14) rfl rfl ?_
  refine h_zret rfl rfl ci_1 (by omega) (h_Kv ?_)
  refine h_zne (tg := 9) (pc' := 7) rfl rfl rfl ci_1 (fun c3 => ?_) (fun c3 => absurd c3 (by omega))
  refine h_aload_n (pc' := 10) rfl rfl rfl ?_
  refine h_getR (pc' := 13) rfl rfl rfl rfl rfl ?_
  refine h_iload_n (pc' := 14) rfl rfl rfl ?_
  refine h_aload_n (pc' := 15) rfl rfl rfl ?_
  refine h_getR (pc' := 18) rfl rfl rfl rfl rfl ?_
  refine h_getR (pc' := 21) rfl rfl rfl rfl rfl ?_
  refine h_iload_n (pc' := 22) rfl rfl rfl ?_
  refine h_iald (pc' := 23) (v := σ 95 1) rfl rfl rfl ci_1 (by omega) (by omega) rfl (fun z4 hz4 => ?_)
  have tz4 := ty_95 hI 1
  refine h_iload_n (pc' := 24) rfl rfl rfl ?_
  refine h_call (sp := false) (pc' := 27) (M := [(0, .ref 93), (1, .int (Int32.ofInt 1)), (2, .int z4), (3, .int x1)]) rfl rfl rfl rfl rfl rfl rfl rfl ?_
  refine h_aload_n (pc' := 1) rfl rfl rfl ?_
  refine h_getR (pc' := 4) rfl rfl rfl rfl rfl ?_
  refine h_iload_n (pc' := 5) rfl rfl rfl ?_
  refine h_iald (pc' := 6) (v := σ 96 1) rfl rfl rfl ci_1 (by omega) (by omega) rfl (fun z5 hz5 => ?_)
  have tz5 := ty_96 hI 1
  refine h_bipush (pc' := 8) (x := (Int32.ofInt (-4))) rfl rfl cb_m4 ?_
  refine h_cne (tg := 13) (pc' := 11) rfl rfl rfl hz5 ci_m4 (fun c6 => ?_) (fun c6 => ?_)
  · refine h_aload_n (pc' := 14) rfl rfl rfl ?_
    refine h_getR (pc' := 17) rfl rfl rfl rfl rfl ?_
    refine h_iload_n (pc' := 18) rfl rfl rfl ?_
    refine h_iald (pc' := 19) (v := σ 95 1) rfl rfl rfl ci_1 (by omega) (by omega) rfl (fun z7 hz7 => ?_)
    have tz7 := ty_95 hI 1
    refine h_iload_n (pc' := 20) rfl rfl rfl ?_
    refine h_ceq (tg := 25) (pc' := 23) rfl rfl rfl hz7 hz4 (fun c8 => ?_) (fun c8 => ?_)
    · refine h_iload_n (pc' := 26) rfl rfl rfl ?_
      refine h_zlt (tg := 43) (pc' := 29) rfl rfl rfl hx1 (fun c9 => ?_) (fun c9 => ?_)
      · refine h_iconst (pc' := 44) (x := (Int32.ofInt 2)) rfl rfl rfl ?_
        refine h_iret rfl rfl (h_Kv ?_)
        refine h_istore (pc' := 29) (M := [(4, .int (Int32.ofInt 2)), (0, .ref 9), (1, .int (Int32.ofInt 1)), (2, .int x1), (3, .int x2)]) rfl rfl rfl rfl ?_
        refine h_iload (pc' := 31) rfl rfl rfl ?_
        refine h_zeq (tg := 40) (pc' := 34) rfl rfl rfl ci_2 (fun c10 => absurd c10 (by omega)) (fun c10 => ?_)
        refine h_bipush (pc' := 36) (x := (Int32.ofInt (-10))) rfl rfl cb_m10 ?_
        refine h_iload (pc' := 38) rfl rfl rfl ?_
        refine h_isub (pc' := 39) (c := (-12)) rfl rfl ci_m10 ci_2 rfl (by omega) (by omega) (fun z11 hz11 => ?_)
        exact h_iret rfl rfl (kk _ _ hz11 _ hI F00 (by omega) (Or.inr (Or.inl ⟨by omega, by omega, by omega⟩)))
      · refine h_iload_n (pc' := 30) rfl rfl rfl ?_
        refine h_aload_n (pc' := 31) rfl rfl rfl ?_
        refine h_getR (pc' := 34) rfl rfl rfl rfl rfl ?_
        refine h_iload_n (pc' := 35) rfl rfl rfl ?_
        refine h_iald (pc' := 36) (v := σ 96 1) rfl rfl rfl ci_1 (by omega) (by omega) rfl (fun z12 hz12 => ?_)
        have tz12 := ty_96 hI 1
        refine h_cge (tg := 43) (pc' := 39) rfl rfl rfl hx1 hz12 (fun c13 => ?_) (fun c13 => ?_)
        · refine h_iconst (pc' := 44) (x := (Int32.ofInt 2)) rfl rfl rfl ?_
          refine h_iret rfl rfl (h_Kv ?_)
          refine h_istore (pc' := 29) (M := [(4, .int (Int32.ofInt 2)), (0, .ref 9), (1, .int (Int32.ofInt 1)), (2, .int x1), (3, .int x2)]) rfl rfl rfl rfl ?_
          refine h_iload (pc' := 31) rfl rfl rfl ?_
          refine h_zeq (tg := 40) (pc' := 34) rfl rfl rfl ci_2 (fun c14 => absurd c14 (by omega)) (fun c14 => ?_)
          refine h_bipush (pc' := 36) (x := (Int32.ofInt (-10))) rfl rfl cb_m10 ?_
          refine h_iload (pc' := 38) rfl rfl rfl ?_
          refine h_isub (pc' := 39) (c := (-12)) rfl rfl ci_m10 ci_2 rfl (by omega) (by omega) (fun z15 hz15 => ?_)
          exact h_iret rfl rfl (kk _ _ hz15 _ hI F00 (by omega) (Or.inr (Or.inl ⟨by omega, by omega, by omega⟩)))
        · refine h_iconst (pc' := 40) (x := (Int32.ofInt 0)) rfl rfl rfl ?_
          refine h_goto (pc' := 44) rfl rfl ?_
          refine h_iret rfl rfl (h_Kv ?_)
          refine h_istore (pc' := 29) (M := [(4, .int (Int32.ofInt 0)), (0, .ref 9), (1, .int (Int32.ofInt 1)), (2, .int x1), (3, .int x2)]) rfl rfl rfl rfl ?_
          refine h_iload (pc' := 31) rfl rfl rfl ?_
          refine h_zeq (tg := 40) (pc' := 34) rfl rfl rfl ci_0 (fun c16 => ?_) (fun c16 => absurd c16 (by omega))
          refine h_aload_n (pc' := 41) rfl rfl rfl ?_
          refine h_getR (pc' := 44) rfl rfl rfl rfl rfl ?_
          refine h_iload_n (pc' := 45) rfl rfl rfl ?_
          refine h_iload_n (pc' := 46) rfl rfl rfl ?_
          refine h_iload_n (pc' := 47) rfl rfl rfl ?_
          refine h_call (sp := false) (pc' := 50) (M := [(0, .ref 93), (1, .int (Int32.ofInt 1)), (2, .int x1), (3, .int x2)]) rfl rfl rfl rfl rfl rfl rfl rfl ?_
          refine w_70_93 _ hI (Int32.ofInt 1) _ ci_1 (by omega) x1 _ hx1 (by omega) x2 _ hx2 (fun s18 Is18 Gs18 => h_Kn ?_)
          have Fs18 := (Gs18).tr F00
          have es18_0 : s18 95 0 = σ 95 0 := (Gs18 95 0 rfl).trans rfl
          have es18_1 : s18 95 1 = σ 95 1 := (Gs18 95 1 rfl).trans rfl
          have es18_2 : s18 95 2 = σ 95 2 := (Gs18 95 2 rfl).trans rfl
          have es18_3 : s18 95 3 = σ 95 3 := (Gs18 95 3 rfl).trans rfl
          have es18_4 : s18 96 0 = σ 96 0 := (Gs18 96 0 rfl).trans rfl
          have es18_5 : s18 96 1 = σ 96 1 := (Gs18 96 1 rfl).trans rfl
          have es18_6 : s18 96 2 = σ 96 2 := (Gs18 96 2 rfl).trans rfl
          have es18_7 : s18 96 3 = σ 96 3 := (Gs18 96 3 rfl).trans rfl
          have es18_8 : s18 111 0 = σ 111 0 := (Gs18 111 0 rfl).trans rfl
          have es18_9 : s18 111 1 = σ 111 1 := (Gs18 111 1 rfl).trans rfl
          have es18_10 : s18 111 2 = σ 111 2 := (Gs18 111 2 rfl).trans rfl
          have es18_11 : s18 111 3 = σ 111 3 := (Gs18 111 3 rfl).trans rfl
          have es18_12 : s18 112 0 = σ 112 0 := (Gs18 112 0 rfl).trans rfl
          have es18_13 : s18 112 1 = σ 112 1 := (Gs18 112 1 rfl).trans rfl
          have es18_14 : s18 112 2 = σ 112 2 := (Gs18 112 2 rfl).trans rfl
          have es18_15 : s18 112 3 = σ 112 3 := (Gs18 112 3 rfl).trans rfl
          refine h_iconst (pc' := 51) (x := (Int32.ofInt 1)) rfl rfl rfl ?_
          exact h_iret rfl rfl (kk _ _ ci_1 _ Is18 Fs18 (by omega) (Or.inr (Or.inr ⟨by omega, by omega, by omega⟩)))
    · refine h_iconst (pc' := 24) (x := (Int32.ofInt 3)) rfl rfl rfl ?_
      refine h_iret rfl rfl (h_Kv ?_)
      refine h_istore (pc' := 29) (M := [(4, .int (Int32.ofInt 3)), (0, .ref 9), (1, .int (Int32.ofInt 1)), (2, .int x1), (3, .int x2)]) rfl rfl rfl rfl ?_
      refine h_iload (pc' := 31) rfl rfl rfl ?_
      refine h_zeq (tg := 40) (pc' := 34) rfl rfl rfl ci_3 (fun c19 => absurd c19 (by omega)) (fun c19 => ?_)
      refine h_bipush (pc' := 36) (x := (Int32.ofInt (-10))) rfl rfl cb_m10 ?_
      refine h_iload (pc' := 38) rfl rfl rfl ?_
      refine h_isub (pc' := 39) (c := (-13)) rfl rfl ci_m10 ci_3 rfl (by omega) (by omega) (fun z20 hz20 => ?_)
      exact h_iret rfl rfl (kk _ _ hz20 _ hI F00 (by omega) (by omega))
  · refine h_iconst (pc' := 12) (x := (Int32.ofInt 1)) rfl rfl rfl ?_
    refine h_iret rfl rfl (h_Kv ?_)
    refine h_istore (pc' := 29) (M := [(4, .int (Int32.ofInt 1)), (0, .ref 9), (1, .int (Int32.ofInt 1)), (2, .int x1), (3, .int x2)]) rfl rfl rfl rfl ?_
    refine h_iload (pc' := 31) rfl rfl rfl ?_
    refine h_zeq (tg := 40) (pc' := 34) rfl rfl rfl ci_1 (fun c21 => absurd c21 (by omega)) (fun c21 => ?_)
    refine h_bipush (pc' := 36) (x := (Int32.ofInt (-10))) rfl rfl cb_m10 ?_
    refine h_iload (pc' := 38) rfl rfl rfl ?_
    refine h_isub (pc' := 39) (c := (-11)) rfl rfl ci_m10 ci_1 rfl (by omega) (by omega) (fun z22 hz22 => ?_)
    exact h_iret rfl rfl (kk _ _ hz22 _ hI F00 (by omega) (Or.inl ⟨by omega, by omega⟩))
set_option maxHeartbeats 100000000 in
theorem u_layX2 {ns : Nat} (σ : h_S) (hI : h_I σ) (x1 : Int32) (a1 : Int) (hx1 : x1.toInt = a1) (x2 : Int32) (a2 : Int) (hx2 : x2.toInt = a2) {Q : Option Value → h_S → Prop} (kk : ∀ (r : Int32) (b : Int) (hb : r.toInt = b) (τ : h_S), h_I τ → h_F k_nt τ σ → ((-13) ≤ b ∧ b ≤ 1) → (((b = (-11)) ∧ (σ 96 2 = -4)) ∨ ((b = (-12)) ∧ (¬ σ 96 2 = -4) ∧ (a1 < 0 ∨ σ 96 2 ≤ a1)) ∨ ((b = 1) ∧ (¬ σ 96 2 = -4) ∧ (0 ≤ a1 ∧ a1 < σ 96 2))) → Q (some (.int r)) τ) : h_T g_P (g_Y ns) 119 0 [(0, .ref 9), (1, .int (Int32.ofInt 2)), (2, .int x1), (3, .int x2)] [] σ Q := by
  have F00 : h_F k_nt σ σ := h_F.rf
  refine h_iload_n (pc' := 1) rfl rfl rfl ?_
  refine h_calls (pc' := 4) (M := [(0, .int (Int32.ofInt 2))]) rfl rfl rfl rfl rfl rfl ?_
  refine h_iload_n (pc' := 1) rfl rfl rfl ?_
  refine h_zlt (tg := 13) (pc' := 4) rfl rfl rfl ci_2 (fun c1 => absurd c1 (by omega)) (fun c1 => ?_)
  refine h_iload_n (pc' := 5) rfl rfl rfl ?_
  refine h_iconst (pc' := 6) (x := (Int32.ofInt 4)) rfl rfl rfl ?_
  refine h_cge (tg := 13) (pc' := 9) rfl rfl rfl ci_2 ci_4 (fun c2 => absurd c2 (by omega)) (fun c2 => ?_)
  refine h_iconst (pc' := 10) (x := (Int32.ofInt 1)) rfl rfl rfl ?_
  refine h_goto (pc' := 14) rfl rfl ?_
  refine h_zret rfl rfl ci_1 (by omega) (h_Kv ?_)
  refine h_zne (tg := 9) (pc' := 7) rfl rfl rfl ci_1 (fun c3 => ?_) (fun c3 => absurd c3 (by omega))
  refine h_aload_n (pc' := 10) rfl rfl rfl ?_
  refine h_getR (pc' := 13) rfl rfl rfl rfl rfl ?_
  refine h_iload_n (pc' := 14) rfl rfl rfl ?_
  refine h_aload_n (pc' := 15) rfl rfl rfl ?_
  refine h_getR (pc' := 18) rfl rfl rfl rfl rfl ?_
  refine h_getR (pc' := 21) rfl rfl rfl rfl rfl ?_
  refine h_iload_n (pc' := 22) rfl rfl rfl ?_
  refine h_iald (pc' := 23) (v := σ 95 2) rfl rfl rfl ci_2 (by omega) (by omega) rfl (fun z4 hz4 => ?_)
  have tz4 := ty_95 hI 2
  refine h_iload_n (pc' := 24) rfl rfl rfl ?_
  refine h_call (sp := false) (pc' := 27) (M := [(0, .ref 93), (1, .int (Int32.ofInt 2)), (2, .int z4), (3, .int x1)]) rfl rfl rfl rfl rfl rfl rfl rfl ?_
  refine h_aload_n (pc' := 1) rfl rfl rfl ?_
  refine h_getR (pc' := 4) rfl rfl rfl rfl rfl ?_
  refine h_iload_n (pc' := 5) rfl rfl rfl ?_
  refine h_iald (pc' := 6) (v := σ 96 2) rfl rfl rfl ci_2 (by omega) (by omega) rfl (fun z5 hz5 => ?_)
  have tz5 := ty_96 hI 2
  refine h_bipush (pc' := 8) (x := (Int32.ofInt (-4))) rfl rfl cb_m4 ?_
  refine h_cne (tg := 13) (pc' := 11) rfl rfl rfl hz5 ci_m4 (fun c6 => ?_) (fun c6 => ?_)
  · refine h_aload_n (pc' := 14) rfl rfl rfl ?_
    refine h_getR (pc' := 17) rfl rfl rfl rfl rfl ?_
    refine h_iload_n (pc' := 18) rfl rfl rfl ?_
    refine h_iald (pc' := 19) (v := σ 95 2) rfl rfl rfl ci_2 (by omega) (by omega) rfl (fun z7 hz7 => ?_)
    have tz7 := ty_95 hI 2
    refine h_iload_n (pc' := 20) rfl rfl rfl ?_
    refine h_ceq (tg := 25) (pc' := 23) rfl rfl rfl hz7 hz4 (fun c8 => ?_) (fun c8 => ?_)
    · refine h_iload_n (pc' := 26) rfl rfl rfl ?_
      refine h_zlt (tg := 43) (pc' := 29) rfl rfl rfl hx1 (fun c9 => ?_) (fun c9 => ?_)
      · refine h_iconst (pc' := 44) (x := (Int32.ofInt 2)) rfl rfl rfl ?_
        refine h_iret rfl rfl (h_Kv ?_)
        refine h_istore (pc' := 29) (M := [(4, .int (Int32.ofInt 2)), (0, .ref 9), (1, .int (Int32.ofInt 2)), (2, .int x1), (3, .int x2)]) rfl rfl rfl rfl ?_
        refine h_iload (pc' := 31) rfl rfl rfl ?_
        refine h_zeq (tg := 40) (pc' := 34) rfl rfl rfl ci_2 (fun c10 => absurd c10 (by omega)) (fun c10 => ?_)
        refine h_bipush (pc' := 36) (x := (Int32.ofInt (-10))) rfl rfl cb_m10 ?_
        refine h_iload (pc' := 38) rfl rfl rfl ?_
        refine h_isub (pc' := 39) (c := (-12)) rfl rfl ci_m10 ci_2 rfl (by omega) (by omega) (fun z11 hz11 => ?_)
        exact h_iret rfl rfl (kk _ _ hz11 _ hI F00 (by omega) (Or.inr (Or.inl ⟨by omega, by omega, by omega⟩)))
      · refine h_iload_n (pc' := 30) rfl rfl rfl ?_
        refine h_aload_n (pc' := 31) rfl rfl rfl ?_
        refine h_getR (pc' := 34) rfl rfl rfl rfl rfl ?_
        refine h_iload_n (pc' := 35) rfl rfl rfl ?_
        refine h_iald (pc' := 36) (v := σ 96 2) rfl rfl rfl ci_2 (by omega) (by omega) rfl (fun z12 hz12 => ?_)
        have tz12 := ty_96 hI 2
        refine h_cge (tg := 43) (pc' := 39) rfl rfl rfl hx1 hz12 (fun c13 => ?_) (fun c13 => ?_)
        · refine h_iconst (pc' := 44) (x := (Int32.ofInt 2)) rfl rfl rfl ?_
          refine h_iret rfl rfl (h_Kv ?_)
          refine h_istore (pc' := 29) (M := [(4, .int (Int32.ofInt 2)), (0, .ref 9), (1, .int (Int32.ofInt 2)), (2, .int x1), (3, .int x2)]) rfl rfl rfl rfl ?_
          refine h_iload (pc' := 31) rfl rfl rfl ?_
          refine h_zeq (tg := 40) (pc' := 34) rfl rfl rfl ci_2 (fun c14 => absurd c14 (by omega)) (fun c14 => ?_)
          refine h_bipush (pc' := 36) (x := (Int32.ofInt (-10))) rfl rfl cb_m10 ?_
          refine h_iload (pc' := 38) rfl rfl rfl ?_
          refine h_isub (pc' := 39) (c := (-12)) rfl rfl ci_m10 ci_2 rfl (by omega) (by omega) (fun z15 hz15 => ?_)
          exact h_iret rfl rfl (kk _ _ hz15 _ hI F00 (by omega) (Or.inr (Or.inl ⟨by omega, by omega, by omega⟩)))
        · refine h_iconst (pc' := 40) (x := (Int32.ofInt 0)) rfl rfl rfl ?_
          refine h_goto (pc' := 44) rfl rfl ?_
          refine h_iret rfl rfl (h_Kv ?_)
          refine h_istore (pc' := 29) (M := [(4, .int (Int32.ofInt 0)), (0, .ref 9), (1, .int (Int32.ofInt 2)), (2, .int x1), (3, .int x2)]) rfl rfl rfl rfl ?_
          refine h_iload (pc' := 31) rfl rfl rfl ?_
          refine h_zeq (tg := 40) (pc' := 34) rfl rfl rfl ci_0 (fun c16 => ?_) (fun c16 => absurd c16 (by omega))
          refine h_aload_n (pc' := 41) rfl rfl rfl ?_
          refine h_getR (pc' := 44) rfl rfl rfl rfl rfl ?_
          refine h_iload_n (pc' := 45) rfl rfl rfl ?_
          refine h_iload_n (pc' := 46) rfl rfl rfl ?_
          refine h_iload_n (pc' := 47) rfl rfl rfl ?_
          refine h_call (sp := false) (pc' := 50) (M := [(0, .ref 93), (1, .int (Int32.ofInt 2)), (2, .int x1), (3, .int x2)]) rfl rfl rfl rfl rfl rfl rfl rfl ?_
          refine w_70_93 _ hI (Int32.ofInt 2) _ ci_2 (by omega) x1 _ hx1 (by omega) x2 _ hx2 (fun s18 Is18 Gs18 => h_Kn ?_)
          have Fs18 := (Gs18).tr F00
          have es18_0 : s18 95 0 = σ 95 0 := (Gs18 95 0 rfl).trans rfl
          have es18_1 : s18 95 1 = σ 95 1 := (Gs18 95 1 rfl).trans rfl
          have es18_2 : s18 95 2 = σ 95 2 := (Gs18 95 2 rfl).trans rfl
          have es18_3 : s18 95 3 = σ 95 3 := (Gs18 95 3 rfl).trans rfl
          have es18_4 : s18 96 0 = σ 96 0 := (Gs18 96 0 rfl).trans rfl
          have es18_5 : s18 96 1 = σ 96 1 := (Gs18 96 1 rfl).trans rfl
          have es18_6 : s18 96 2 = σ 96 2 := (Gs18 96 2 rfl).trans rfl
          have es18_7 : s18 96 3 = σ 96 3 := (Gs18 96 3 rfl).trans rfl
          have es18_8 : s18 111 0 = σ 111 0 := (Gs18 111 0 rfl).trans rfl
          have es18_9 : s18 111 1 = σ 111 1 := (Gs18 111 1 rfl).trans rfl
          have es18_10 : s18 111 2 = σ 111 2 := (Gs18 111 2 rfl).trans rfl
          have es18_11 : s18 111 3 = σ 111 3 := (Gs18 111 3 rfl).trans rfl
          have es18_12 : s18 112 0 = σ 112 0 := (Gs18 112 0 rfl).trans rfl
          have es18_13 : s18 112 1 = σ 112 1 := (Gs18 112 1 rfl).trans rfl
          have es18_14 : s18 112 2 = σ 112 2 := (Gs18 112 2 rfl).trans rfl
          have es18_15 : s18 112 3 = σ 112 3 := (Gs18 112 3 rfl).trans rfl
          refine h_iconst (pc' := 51) (x := (Int32.ofInt 1)) rfl rfl rfl ?_
          exact h_iret rfl rfl (kk _ _ ci_1 _ Is18 Fs18 (by omega) (Or.inr (Or.inr ⟨by omega, by omega, by omega⟩)))
    · refine h_iconst (pc' := 24) (x := (Int32.ofInt 3)) rfl rfl rfl ?_
      refine h_iret rfl rfl (h_Kv ?_)
      refine h_istore (pc' := 29) (M := [(4, .int (Int32.ofInt 3)), (0, .ref 9), (1, .int (Int32.ofInt 2)), (2, .int x1), (3, .int x2)]) rfl rfl rfl rfl ?_
      refine h_iload (pc' := 31) rfl rfl rfl ?_
      refine h_zeq (tg := 40) (pc' := 34) rfl rfl rfl ci_3 (fun c19 => absurd c19 (by omega)) (fun c19 => ?_)
      refine h_bipush (pc' := 36) (x := (Int32.ofInt (-10))) rfl rfl cb_m10 ?_
      refine h_iload (pc' := 38) rfl rfl rfl ?_
      refine h_isub (pc' := 39) (c := (-13)) rfl rfl ci_m10 ci_3 rfl (by omega) (by omega) (fun z20 hz20 => ?_)
      exact h_iret rfl rfl (kk _ _ hz20 _ hI F00 (by omega) (by omega))
  · refine h_iconst (pc' := 12) (x := (Int32.ofInt 1)) rfl rfl rfl ?_
    refine h_iret rfl rfl (h_Kv ?_)
    refine h_istore (pc' := 29) (M := [(4, .int (Int32.ofInt 1)), (0, .ref 9), (1, .int (Int32.ofInt 2)), (2, .int x1), (3, .int x2)]) rfl rfl rfl rfl ?_
    refine h_iload (pc' := 31) rfl rfl rfl ?_
    refine h_zeq (tg := 40) (pc' := 34) rfl rfl rfl ci_1 (fun c21 => absurd c21 (by omega)) (fun c21 => ?_)
    refine h_bipush (pc' := 36) (x := (Int32.ofInt (-10))) rfl rfl cb_m10 ?_
    refine h_iload (pc' := 38) rfl rfl rfl ?_
    refine h_isub (pc' := 39) (c := (-11)) rfl rfl ci_m10 ci_1 rfl (by omega) (by omega) (fun z22 hz22 => ?_)
    exact h_iret rfl rfl (kk _ _ hz22 _ hI F00 (by omega) (Or.inl ⟨by omega, by omega⟩))
set_option maxHeartbeats 100000000 in
theorem u_layX3 {ns : Nat} (σ : h_S) (hI : h_I σ) (x1 : Int32) (a1 : Int) (hx1 : x1.toInt = a1) (x2 : Int32) (a2 : Int) (hx2 : x2.toInt = a2) {Q : Option Value → h_S → Prop} (kk : ∀ (r : Int32) (b : Int) (hb : r.toInt = b) (τ : h_S), h_I τ → h_F k_nt τ σ → ((-13) ≤ b ∧ b ≤ 1) → (((b = (-11)) ∧ (σ 96 3 = -4)) ∨ ((b = (-12)) ∧ (¬ σ 96 3 = -4) ∧ (a1 < 0 ∨ σ 96 3 ≤ a1)) ∨ ((b = 1) ∧ (¬ σ 96 3 = -4) ∧ (0 ≤ a1 ∧ a1 < σ 96 3))) → Q (some (.int r)) τ) : h_T g_P (g_Y ns) 119 0 [(0, .ref 9), (1, .int (Int32.ofInt 3)), (2, .int x1), (3, .int x2)] [] σ Q := by
  have F00 : h_F k_nt σ σ := h_F.rf
  refine h_iload_n (pc' := 1) rfl rfl rfl ?_
  refine h_calls (pc' := 4) (M := [(0, .int (Int32.ofInt 3))]) rfl rfl rfl rfl rfl rfl ?_
  refine h_iload_n (pc' := 1) rfl rfl rfl ?_
  refine h_zlt (tg := 13) (pc' := 4) rfl rfl rfl ci_3 (fun c1 => absurd c1 (by omega)) (fun c1 => ?_)
  refine h_iload_n (pc' := 5) rfl rfl rfl ?_
  refine h_iconst (pc' := 6) (x := (Int32.ofInt 4)) rfl rfl rfl ?_
  refine h_cge (tg := 13) (pc' := 9) rfl rfl rfl ci_3 ci_4 (fun c2 => absurd c2 (by omega)) (fun c2 => ?_)
  refine h_iconst (pc' := 10) (x := (Int32.ofInt 1)) rfl rfl rfl ?_
  refine h_goto (pc' := 14) rfl rfl ?_
  refine h_zret rfl rfl ci_1 (by omega) (h_Kv ?_)
  refine h_zne (tg := 9) (pc' := 7) rfl rfl rfl ci_1 (fun c3 => ?_) (fun c3 => absurd c3 (by omega))
  refine h_aload_n (pc' := 10) rfl rfl rfl ?_
  refine h_getR (pc' := 13) rfl rfl rfl rfl rfl ?_
  refine h_iload_n (pc' := 14) rfl rfl rfl ?_
  refine h_aload_n (pc' := 15) rfl rfl rfl ?_
  refine h_getR (pc' := 18) rfl rfl rfl rfl rfl ?_
  refine h_getR (pc' := 21) rfl rfl rfl rfl rfl ?_
  refine h_iload_n (pc' := 22) rfl rfl rfl ?_
  refine h_iald (pc' := 23) (v := σ 95 3) rfl rfl rfl ci_3 (by omega) (by omega) rfl (fun z4 hz4 => ?_)
  have tz4 := ty_95 hI 3
  refine h_iload_n (pc' := 24) rfl rfl rfl ?_
  refine h_call (sp := false) (pc' := 27) (M := [(0, .ref 93), (1, .int (Int32.ofInt 3)), (2, .int z4), (3, .int x1)]) rfl rfl rfl rfl rfl rfl rfl rfl ?_
  refine h_aload_n (pc' := 1) rfl rfl rfl ?_
  refine h_getR (pc' := 4) rfl rfl rfl rfl rfl ?_
  refine h_iload_n (pc' := 5) rfl rfl rfl ?_
  refine h_iald (pc' := 6) (v := σ 96 3) rfl rfl rfl ci_3 (by omega) (by omega) rfl (fun z5 hz5 => ?_)
  have tz5 := ty_96 hI 3
  refine h_bipush (pc' := 8) (x := (Int32.ofInt (-4))) rfl rfl cb_m4 ?_
  refine h_cne (tg := 13) (pc' := 11) rfl rfl rfl hz5 ci_m4 (fun c6 => ?_) (fun c6 => ?_)
  · refine h_aload_n (pc' := 14) rfl rfl rfl ?_
    refine h_getR (pc' := 17) rfl rfl rfl rfl rfl ?_
    refine h_iload_n (pc' := 18) rfl rfl rfl ?_
    refine h_iald (pc' := 19) (v := σ 95 3) rfl rfl rfl ci_3 (by omega) (by omega) rfl (fun z7 hz7 => ?_)
    have tz7 := ty_95 hI 3
    refine h_iload_n (pc' := 20) rfl rfl rfl ?_
    refine h_ceq (tg := 25) (pc' := 23) rfl rfl rfl hz7 hz4 (fun c8 => ?_) (fun c8 => ?_)
    · refine h_iload_n (pc' := 26) rfl rfl rfl ?_
      refine h_zlt (tg := 43) (pc' := 29) rfl rfl rfl hx1 (fun c9 => ?_) (fun c9 => ?_)
      · refine h_iconst (pc' := 44) (x := (Int32.ofInt 2)) rfl rfl rfl ?_
        refine h_iret rfl rfl (h_Kv ?_)
        refine h_istore (pc' := 29) (M := [(4, .int (Int32.ofInt 2)), (0, .ref 9), (1, .int (Int32.ofInt 3)), (2, .int x1), (3, .int x2)]) rfl rfl rfl rfl ?_
        refine h_iload (pc' := 31) rfl rfl rfl ?_
        refine h_zeq (tg := 40) (pc' := 34) rfl rfl rfl ci_2 (fun c10 => absurd c10 (by omega)) (fun c10 => ?_)
        refine h_bipush (pc' := 36) (x := (Int32.ofInt (-10))) rfl rfl cb_m10 ?_
        refine h_iload (pc' := 38) rfl rfl rfl ?_
        refine h_isub (pc' := 39) (c := (-12)) rfl rfl ci_m10 ci_2 rfl (by omega) (by omega) (fun z11 hz11 => ?_)
        exact h_iret rfl rfl (kk _ _ hz11 _ hI F00 (by omega) (Or.inr (Or.inl ⟨by omega, by omega, by omega⟩)))
      · refine h_iload_n (pc' := 30) rfl rfl rfl ?_
        refine h_aload_n (pc' := 31) rfl rfl rfl ?_
        refine h_getR (pc' := 34) rfl rfl rfl rfl rfl ?_
        refine h_iload_n (pc' := 35) rfl rfl rfl ?_
        refine h_iald (pc' := 36) (v := σ 96 3) rfl rfl rfl ci_3 (by omega) (by omega) rfl (fun z12 hz12 => ?_)
        have tz12 := ty_96 hI 3
        refine h_cge (tg := 43) (pc' := 39) rfl rfl rfl hx1 hz12 (fun c13 => ?_) (fun c13 => ?_)
        · refine h_iconst (pc' := 44) (x := (Int32.ofInt 2)) rfl rfl rfl ?_
          refine h_iret rfl rfl (h_Kv ?_)
          refine h_istore (pc' := 29) (M := [(4, .int (Int32.ofInt 2)), (0, .ref 9), (1, .int (Int32.ofInt 3)), (2, .int x1), (3, .int x2)]) rfl rfl rfl rfl ?_
          refine h_iload (pc' := 31) rfl rfl rfl ?_
          refine h_zeq (tg := 40) (pc' := 34) rfl rfl rfl ci_2 (fun c14 => absurd c14 (by omega)) (fun c14 => ?_)
          refine h_bipush (pc' := 36) (x := (Int32.ofInt (-10))) rfl rfl cb_m10 ?_
          refine h_iload (pc' := 38) rfl rfl rfl ?_
          refine h_isub (pc' := 39) (c := (-12)) rfl rfl ci_m10 ci_2 rfl (by omega) (by omega) (fun z15 hz15 => ?_)
          exact h_iret rfl rfl (kk _ _ hz15 _ hI F00 (by omega) (Or.inr (Or.inl ⟨by omega, by omega, by omega⟩)))
        · refine h_iconst (pc' := 40) (x := (Int32.ofInt 0)) rfl rfl rfl ?_
          refine h_goto (pc' := 44) rfl rfl ?_
          refine h_iret rfl rfl (h_Kv ?_)
          refine h_istore (pc' := 29) (M := [(4, .int (Int32.ofInt 0)), (0, .ref 9), (1, .int (Int32.ofInt 3)), (2, .int x1), (3, .int x2)]) rfl rfl rfl rfl ?_
          refine h_iload (pc' := 31) rfl rfl rfl ?_
          refine h_zeq (tg := 40) (pc' := 34) rfl rfl rfl ci_0 (fun c16 => ?_) (fun c16 => absurd c16 (by omega))
          refine h_aload_n (pc' := 41) rfl rfl rfl ?_
          refine h_getR (pc' := 44) rfl rfl rfl rfl rfl ?_
          refine h_iload_n (pc' := 45) rfl rfl rfl ?_
          refine h_iload_n (pc' := 46) rfl rfl rfl ?_
          refine h_iload_n (pc' := 47) rfl rfl rfl ?_
          refine h_call (sp := false) (pc' := 50) (M := [(0, .ref 93), (1, .int (Int32.ofInt 3)), (2, .int x1), (3, .int x2)]) rfl rfl rfl rfl rfl rfl rfl rfl ?_
          refine w_70_93 _ hI (Int32.ofInt 3) _ ci_3 (by omega) x1 _ hx1 (by omega) x2 _ hx2 (fun s18 Is18 Gs18 => h_Kn ?_)
          have Fs18 := (Gs18).tr F00
          have es18_0 : s18 95 0 = σ 95 0 := (Gs18 95 0 rfl).trans rfl
          have es18_1 : s18 95 1 = σ 95 1 := (Gs18 95 1 rfl).trans rfl
          have es18_2 : s18 95 2 = σ 95 2 := (Gs18 95 2 rfl).trans rfl
          have es18_3 : s18 95 3 = σ 95 3 := (Gs18 95 3 rfl).trans rfl
          have es18_4 : s18 96 0 = σ 96 0 := (Gs18 96 0 rfl).trans rfl
          have es18_5 : s18 96 1 = σ 96 1 := (Gs18 96 1 rfl).trans rfl
          have es18_6 : s18 96 2 = σ 96 2 := (Gs18 96 2 rfl).trans rfl
          have es18_7 : s18 96 3 = σ 96 3 := (Gs18 96 3 rfl).trans rfl
          have es18_8 : s18 111 0 = σ 111 0 := (Gs18 111 0 rfl).trans rfl
          have es18_9 : s18 111 1 = σ 111 1 := (Gs18 111 1 rfl).trans rfl
          have es18_10 : s18 111 2 = σ 111 2 := (Gs18 111 2 rfl).trans rfl
          have es18_11 : s18 111 3 = σ 111 3 := (Gs18 111 3 rfl).trans rfl
          have es18_12 : s18 112 0 = σ 112 0 := (Gs18 112 0 rfl).trans rfl
          have es18_13 : s18 112 1 = σ 112 1 := (Gs18 112 1 rfl).trans rfl
          have es18_14 : s18 112 2 = σ 112 2 := (Gs18 112 2 rfl).trans rfl
          have es18_15 : s18 112 3 = σ 112 3 := (Gs18 112 3 rfl).trans rfl
          refine h_iconst (pc' := 51) (x := (Int32.ofInt 1)) rfl rfl rfl ?_
          exact h_iret rfl rfl (kk _ _ ci_1 _ Is18 Fs18 (by omega) (Or.inr (Or.inr ⟨by omega, by omega, by omega⟩)))
    · refine h_iconst (pc' := 24) (x := (Int32.ofInt 3)) rfl rfl rfl ?_
      refine h_iret rfl rfl (h_Kv ?_)
      refine h_istore (pc' := 29) (M := [(4, .int (Int32.ofInt 3)), (0, .ref 9), (1, .int (Int32.ofInt 3)), (2, .int x1), (3, .int x2)]) rfl rfl rfl rfl ?_
      refine h_iload (pc' := 31) rfl rfl rfl ?_
      refine h_zeq (tg := 40) (pc' := 34) rfl rfl rfl ci_3 (fun c19 => absurd c19 (by omega)) (fun c19 => ?_)
      refine h_bipush (pc' := 36) (x := (Int32.ofInt (-10))) rfl rfl cb_m10 ?_
      refine h_iload (pc' := 38) rfl rfl rfl ?_
      refine h_isub (pc' := 39) (c := (-13)) rfl rfl ci_m10 ci_3 rfl (by omega) (by omega) (fun z20 hz20 => ?_)
      exact h_iret rfl rfl (kk _ _ hz20 _ hI F00 (by omega) (by omega))
  · refine h_iconst (pc' := 12) (x := (Int32.ofInt 1)) rfl rfl rfl ?_
    refine h_iret rfl rfl (h_Kv ?_)
    refine h_istore (pc' := 29) (M := [(4, .int (Int32.ofInt 1)), (0, .ref 9), (1, .int (Int32.ofInt 3)), (2, .int x1), (3, .int x2)]) rfl rfl rfl rfl ?_
    refine h_iload (pc' := 31) rfl rfl rfl ?_
    refine h_zeq (tg := 40) (pc' := 34) rfl rfl rfl ci_1 (fun c21 => absurd c21 (by omega)) (fun c21 => ?_)
    refine h_bipush (pc' := 36) (x := (Int32.ofInt (-10))) rfl rfl cb_m10 ?_
    refine h_iload (pc' := 38) rfl rfl rfl ?_
    refine h_isub (pc' := 39) (c := (-11)) rfl rfl ci_m10 ci_1 rfl (by omega) (by omega) (fun z22 hz22 => ?_)
    exact h_iret rfl rfl (kk _ _ hz22 _ hI F00 (by omega) (Or.inl ⟨by omega, by omega⟩))
set_option maxHeartbeats 100000000 in
theorem u_layXn {ns : Nat} (σ : h_S) (hI : h_I σ) (x0 : Int32) (a0 : Int) (hx0 : x0.toInt = a0) (ra0 : -2147483648 ≤ a0 ∧ a0 ≤ -1) (x1 : Int32) (a1 : Int) (hx1 : x1.toInt = a1) (x2 : Int32) (a2 : Int) (hx2 : x2.toInt = a2) {Q : Option Value → h_S → Prop} (kk : ∀ (r : Int32) (b : Int) (hb : r.toInt = b) (τ : h_S), h_I τ → h_F k_sc τ σ → ((-1) ≤ b ∧ b ≤ (-1)) → (((b = (-1)))) → Q (some (.int r)) τ) : h_T g_P (g_Y ns) 119 0 [(0, .ref 9), (1, .int x0), (2, .int x1), (3, .int x2)] [] σ Q := by
  have F00 : h_F k_sc σ σ := h_F.rf
  refine h_iload_n (pc' := 1) rfl rfl rfl ?_
  refine h_calls (pc' := 4) (M := [(0, .int x0)]) rfl rfl rfl rfl rfl rfl ?_
  refine h_iload_n (pc' := 1) rfl rfl rfl ?_
  refine h_zlt (tg := 13) (pc' := 4) rfl rfl rfl hx0 (fun c1 => ?_) (fun c1 => absurd c1 (by omega))
  refine h_iconst (pc' := 14) (x := (Int32.ofInt 0)) rfl rfl rfl ?_
  refine h_zret rfl rfl ci_0 (by omega) (h_Kv ?_)
  refine h_zne (tg := 9) (pc' := 7) rfl rfl rfl ci_0 (fun c2 => absurd c2 (by omega)) (fun c2 => ?_)
  refine h_iconst (pc' := 8) (x := (Int32.ofInt (-1))) rfl rfl rfl ?_
  exact h_iret rfl rfl (kk _ _ ci_m1 _ hI F00 (by omega) (by omega))
set_option maxHeartbeats 100000000 in
theorem u_layXp {ns : Nat} (σ : h_S) (hI : h_I σ) (x0 : Int32) (a0 : Int) (hx0 : x0.toInt = a0) (ra0 : 4 ≤ a0 ∧ a0 ≤ 2147483647) (x1 : Int32) (a1 : Int) (hx1 : x1.toInt = a1) (x2 : Int32) (a2 : Int) (hx2 : x2.toInt = a2) {Q : Option Value → h_S → Prop} (kk : ∀ (r : Int32) (b : Int) (hb : r.toInt = b) (τ : h_S), h_I τ → h_F k_sc τ σ → ((-1) ≤ b ∧ b ≤ (-1)) → (((b = (-1)))) → Q (some (.int r)) τ) : h_T g_P (g_Y ns) 119 0 [(0, .ref 9), (1, .int x0), (2, .int x1), (3, .int x2)] [] σ Q := by
  have F00 : h_F k_sc σ σ := h_F.rf
  refine h_iload_n (pc' := 1) rfl rfl rfl ?_
  refine h_calls (pc' := 4) (M := [(0, .int x0)]) rfl rfl rfl rfl rfl rfl ?_
  refine h_iload_n (pc' := 1) rfl rfl rfl ?_
  refine h_zlt (tg := 13) (pc' := 4) rfl rfl rfl hx0 (fun c1 => absurd c1 (by omega)) (fun c1 => ?_)
  refine h_iload_n (pc' := 5) rfl rfl rfl ?_
  refine h_iconst (pc' := 6) (x := (Int32.ofInt 4)) rfl rfl rfl ?_
  refine h_cge (tg := 13) (pc' := 9) rfl rfl rfl hx0 ci_4 (fun c2 => ?_) (fun c2 => absurd c2 (by omega))
  refine h_iconst (pc' := 14) (x := (Int32.ofInt 0)) rfl rfl rfl ?_
  refine h_zret rfl rfl ci_0 (by omega) (h_Kv ?_)
  refine h_zne (tg := 9) (pc' := 7) rfl rfl rfl ci_0 (fun c3 => absurd c3 (by omega)) (fun c3 => ?_)
  refine h_iconst (pc' := 8) (x := (Int32.ofInt (-1))) rfl rfl rfl ?_
  exact h_iret rfl rfl (kk _ _ ci_m1 _ hI F00 (by omega) (by omega))
set_option maxHeartbeats 100000000 in
theorem u_layM0 {ns : Nat} (σ : h_S) (hI : h_I σ) (x1 : Int32) (a1 : Int) (hx1 : x1.toInt = a1) (x2 : Int32) (a2 : Int) (hx2 : x2.toInt = a2) {Q : Option Value → h_S → Prop} (kk : ∀ (r : Int32) (b : Int) (hb : r.toInt = b) (τ : h_S), h_I τ → h_F k_nt τ σ → ((-12) ≤ b ∧ b ≤ 1) → (((b = (-11)) ∧ (σ 111 0 = -4)) ∨ ((b = (-12)) ∧ (¬ σ 111 0 = -4) ∧ (a1 < 0 ∨ σ 112 0 ≤ a1)) ∨ ((b = 1) ∧ (¬ σ 111 0 = -4) ∧ (0 ≤ a1 ∧ a1 < σ 112 0))) → Q (some (.int r)) τ) : h_T g_P (g_Y ns) 221 0 [(0, .ref 98), (1, .int (Int32.ofInt 0)), (2, .int x1), (3, .int x2)] [] σ Q := by
  have F00 : h_F k_nt σ σ := h_F.rf
  refine h_iload_n (pc' := 1) rfl rfl rfl ?_
  refine h_i2l (pc' := 2) rfl rfl ci_0 (fun z1 hz1 => ?_)
  refine h_lconst (pc' := 3) (x := (Int64.ofInt 0)) rfl rfl rfl ?_
  refine h_ldc2 (pc' := 6) (x := (Int64.ofInt 3)) rfl rfl rfl ?_
  refine h_calls (pc' := 9) (M := [(0, .long z1), (2, .long (Int64.ofInt 0)), (4, .long (Int64.ofInt 3))]) rfl rfl rfl rfl rfl rfl ?_
  refine h_lload_n (pc' := 1) rfl rfl rfl ?_
  refine h_lload_n (pc' := 2) rfl rfl rfl ?_
  refine h_lcmp (pc' := 3) rfl rfl hz1 cl_0 (fun z2 hz2 => ?_)
  refine h_zlt (tg := 17) (pc' := 6) rfl rfl rfl rfl (fun c3 => absurd c3 (by omega)) (fun c3 => ?_)
  replace c3 := (h_lcr hz2).2.1 c3
  clear hz2
  refine h_lload_n (pc' := 7) rfl rfl rfl ?_
  refine h_lload (pc' := 9) rfl rfl rfl ?_
  refine h_lcmp (pc' := 10) rfl rfl hz1 cl_3 (fun z4 hz4 => ?_)
  refine h_zgt (tg := 17) (pc' := 13) rfl rfl rfl rfl (fun c5 => absurd c5 (by omega)) (fun c5 => ?_)
  replace c5 := (h_lcr hz4).2.2.1 c5
  clear hz4
  refine h_iconst (pc' := 14) (x := (Int32.ofInt 1)) rfl rfl rfl ?_
  refine h_goto (pc' := 18) rfl rfl ?_
  refine h_zret rfl rfl ci_1 (by omega) (h_Kv ?_)
  refine h_zne (tg := 14) (pc' := 12) rfl rfl rfl ci_1 (fun c6 => ?_) (fun c6 => absurd c6 (by omega))
  refine h_aload_n (pc' := 15) rfl rfl rfl ?_
  refine h_getR (pc' := 18) rfl rfl rfl rfl rfl ?_
  refine h_iload_n (pc' := 19) rfl rfl rfl ?_
  refine h_iald (pc' := 20) (v := σ 111 0) rfl rfl rfl ci_0 (by omega) (by omega) rfl (fun z7 hz7 => ?_)
  have tz7 := ty_111 hI 0
  refine h_bipush (pc' := 22) (x := (Int32.ofInt (-4))) rfl rfl cb_m4 ?_
  refine h_cne (tg := 28) (pc' := 25) rfl rfl rfl hz7 ci_m4 (fun c8 => ?_) (fun c8 => ?_)
  · refine h_iload_n (pc' := 29) rfl rfl rfl ?_
    refine h_i2l (pc' := 30) rfl rfl hx1 (fun z9 hz9 => ?_)
    refine h_lconst (pc' := 31) (x := (Int64.ofInt 0)) rfl rfl rfl ?_
    refine h_aload_n (pc' := 32) rfl rfl rfl ?_
    refine h_getR (pc' := 35) rfl rfl rfl rfl rfl ?_
    refine h_iload_n (pc' := 36) rfl rfl rfl ?_
    refine h_iald (pc' := 37) (v := σ 112 0) rfl rfl rfl ci_0 (by omega) (by omega) rfl (fun z10 hz10 => ?_)
    have tz10 := ty_112 hI 0
    refine h_iconst (pc' := 38) (x := (Int32.ofInt 1)) rfl rfl rfl ?_
    refine h_isub (pc' := 39) rfl rfl hz10 ci_1 rfl (by omega) (by omega) (fun z11 hz11 => ?_)
    refine h_i2l (pc' := 40) rfl rfl hz11 (fun z12 hz12 => ?_)
    refine h_calls (pc' := 43) (M := [(0, .long z9), (2, .long (Int64.ofInt 0)), (4, .long z12)]) rfl rfl rfl rfl rfl rfl ?_
    refine h_lload_n (pc' := 1) rfl rfl rfl ?_
    refine h_lload_n (pc' := 2) rfl rfl rfl ?_
    refine h_lcmp (pc' := 3) rfl rfl hz9 cl_0 (fun z13 hz13 => ?_)
    refine h_zlt (tg := 17) (pc' := 6) rfl rfl rfl rfl (fun c14 => ?_) (fun c14 => ?_)
    · replace c14 := (h_lcr hz13).1 c14
      clear hz13
      refine h_iconst (pc' := 18) (x := (Int32.ofInt 0)) rfl rfl rfl ?_
      refine h_zret rfl rfl ci_0 (by omega) (h_Kv ?_)
      refine h_zne (tg := 49) (pc' := 46) rfl rfl rfl ci_0 (fun c15 => absurd c15 (by omega)) (fun c15 => ?_)
      refine h_bipush (pc' := 48) (x := (Int32.ofInt (-12))) rfl rfl cb_m12 ?_
      exact h_iret rfl rfl (kk _ _ ci_m12 _ hI F00 (by omega) (Or.inr (Or.inl ⟨by omega, by omega, by omega⟩)))
    · replace c14 := (h_lcr hz13).2.1 c14
      clear hz13
      refine h_lload_n (pc' := 7) rfl rfl rfl ?_
      refine h_lload (pc' := 9) rfl rfl rfl ?_
      refine h_lcmp (pc' := 10) rfl rfl hz9 hz12 (fun z16 hz16 => ?_)
      refine h_zgt (tg := 17) (pc' := 13) rfl rfl rfl rfl (fun c17 => ?_) (fun c17 => ?_)
      · replace c17 := (h_lcr hz16).2.2.2.1 c17
        clear hz16
        refine h_iconst (pc' := 18) (x := (Int32.ofInt 0)) rfl rfl rfl ?_
        refine h_zret rfl rfl ci_0 (by omega) (h_Kv ?_)
        refine h_zne (tg := 49) (pc' := 46) rfl rfl rfl ci_0 (fun c18 => absurd c18 (by omega)) (fun c18 => ?_)
        refine h_bipush (pc' := 48) (x := (Int32.ofInt (-12))) rfl rfl cb_m12 ?_
        exact h_iret rfl rfl (kk _ _ ci_m12 _ hI F00 (by omega) (Or.inr (Or.inl ⟨by omega, by omega, by omega⟩)))
      · replace c17 := (h_lcr hz16).2.2.1 c17
        clear hz16
        refine h_iconst (pc' := 14) (x := (Int32.ofInt 1)) rfl rfl rfl ?_
        refine h_goto (pc' := 18) rfl rfl ?_
        refine h_zret rfl rfl ci_1 (by omega) (h_Kv ?_)
        refine h_zne (tg := 49) (pc' := 46) rfl rfl rfl ci_1 (fun c19 => ?_) (fun c19 => absurd c19 (by omega))
        refine h_aload_n (pc' := 50) rfl rfl rfl ?_
        refine h_getR (pc' := 53) rfl rfl rfl rfl rfl ?_
        refine h_bipush (pc' := 55) (x := (Int32.ofInt 40)) rfl rfl cb_40 ?_
        refine h_iload_n (pc' := 56) rfl rfl rfl ?_
        refine h_imul (pc' := 57) (c := 0) rfl rfl ci_40 ci_0 rfl (by omega) (by omega) (fun z20 hz20 => ?_)
        refine h_iload_n (pc' := 58) rfl rfl rfl ?_
        refine h_iadd (pc' := 59) rfl rfl hz20 hx1 rfl (by have g0 := h_rgv hx1; omega) (by have g0 := h_rgv hx1; omega) (fun z21 hz21 => ?_)
        refine h_aload_n (pc' := 60) rfl rfl rfl ?_
        refine h_getR (pc' := 63) rfl rfl rfl rfl rfl ?_
        refine h_iload_n (pc' := 64) rfl rfl rfl ?_
        refine h_iald (pc' := 65) (v := σ 111 0) rfl rfl rfl ci_0 (by omega) (by omega) rfl (fun z22 hz22 => ?_)
        have tz22 := ty_111 hI 0
        refine h_zne (tg := 78) (pc' := 68) rfl rfl rfl hz22 (fun c23 => ?_) (fun c23 => ?_)
        · refine h_aload_n (pc' := 79) rfl rfl rfl ?_
          refine h_getR (pc' := 82) rfl rfl rfl rfl rfl ?_
          refine h_iload_n (pc' := 83) rfl rfl rfl ?_
          refine h_iald (pc' := 84) (v := σ 111 0) rfl rfl rfl ci_0 (by omega) (by omega) rfl (fun z24 hz24 => ?_)
          have tz24 := ty_111 hI 0
          refine h_iconst (pc' := 85) (x := (Int32.ofInt 1)) rfl rfl rfl ?_
          refine h_cne (tg := 98) (pc' := 88) rfl rfl rfl hz24 ci_1 (fun c25 => ?_) (fun c25 => ?_)
          · refine h_iload_n (pc' := 99) rfl rfl rfl ?_
            refine h_iast (pc' := 100) rfl rfl rfl rfl hz21 (by omega) (by omega) hx2 (h_fgt (E := fun s => s 95 0 = σ 95 0 ∧ s 95 1 = σ 95 1 ∧ s 95 2 = σ 95 2 ∧ s 95 3 = σ 95 3 ∧ s 96 0 = σ 96 0 ∧ s 96 1 = σ 96 1 ∧ s 96 2 = σ 96 2 ∧ s 96 3 = σ 96 3 ∧ s 111 0 = σ 111 0 ∧ s 111 1 = σ 111 1 ∧ s 111 2 = σ 111 2 ∧ s 111 3 = σ 111 3 ∧ s 112 0 = σ 112 0 ∧ s 112 1 = σ 112 1 ∧ s 112 2 = σ 112 2 ∧ s 112 3 = σ 112 3) _ (in_113 hI (h_rgv hx2)) (F00.up rfl) ⟨rfl, rfl, rfl, rfl, rfl, rfl, rfl, rfl, rfl, rfl, rfl, rfl, rfl, rfl, rfl, rfl⟩ (fun s26 Is26 Fs26 (es26 : s26 95 0 = σ 95 0 ∧ s26 95 1 = σ 95 1 ∧ s26 95 2 = σ 95 2 ∧ s26 95 3 = σ 95 3 ∧ s26 96 0 = σ 96 0 ∧ s26 96 1 = σ 96 1 ∧ s26 96 2 = σ 96 2 ∧ s26 96 3 = σ 96 3 ∧ s26 111 0 = σ 111 0 ∧ s26 111 1 = σ 111 1 ∧ s26 111 2 = σ 111 2 ∧ s26 111 3 = σ 111 3 ∧ s26 112 0 = σ 112 0 ∧ s26 112 1 = σ 112 1 ∧ s26 112 2 = σ 112 2 ∧ s26 112 3 = σ 112 3) => ?_))
            refine h_iconst (pc' := 101) (x := (Int32.ofInt 1)) rfl rfl rfl ?_
            exact h_iret rfl rfl (kk _ _ ci_1 _ Is26 Fs26 (by omega) (Or.inr (Or.inr ⟨by omega, by omega, by omega⟩)))
          · refine h_iload_n (pc' := 89) rfl rfl rfl ?_
            refine h_bipush (pc' := 91) (x := (Int32.ofInt 16)) rfl rfl cb_16 ?_
            refine h_ishl (pc' := 92) rfl rfl (fun z27 hz27 => ?_)
            refine h_bipush (pc' := 94) (x := (Int32.ofInt 16)) rfl rfl cb_16 ?_
            refine h_ishr (pc' := 95) rfl rfl (fun z28 hz28 => ?_)
            refine h_goto (pc' := 99) rfl rfl ?_
            refine h_iast (pc' := 100) rfl rfl rfl rfl hz21 (by omega) (by omega) rfl (h_fgt (E := fun s => s 95 0 = σ 95 0 ∧ s 95 1 = σ 95 1 ∧ s 95 2 = σ 95 2 ∧ s 95 3 = σ 95 3 ∧ s 96 0 = σ 96 0 ∧ s 96 1 = σ 96 1 ∧ s 96 2 = σ 96 2 ∧ s 96 3 = σ 96 3 ∧ s 111 0 = σ 111 0 ∧ s 111 1 = σ 111 1 ∧ s 111 2 = σ 111 2 ∧ s 111 3 = σ 111 3 ∧ s 112 0 = σ 112 0 ∧ s 112 1 = σ 112 1 ∧ s 112 2 = σ 112 2 ∧ s 112 3 = σ 112 3) _ (in_113 hI (h_rgv rfl)) (F00.up rfl) ⟨rfl, rfl, rfl, rfl, rfl, rfl, rfl, rfl, rfl, rfl, rfl, rfl, rfl, rfl, rfl, rfl⟩ (fun s29 Is29 Fs29 (es29 : s29 95 0 = σ 95 0 ∧ s29 95 1 = σ 95 1 ∧ s29 95 2 = σ 95 2 ∧ s29 95 3 = σ 95 3 ∧ s29 96 0 = σ 96 0 ∧ s29 96 1 = σ 96 1 ∧ s29 96 2 = σ 96 2 ∧ s29 96 3 = σ 96 3 ∧ s29 111 0 = σ 111 0 ∧ s29 111 1 = σ 111 1 ∧ s29 111 2 = σ 111 2 ∧ s29 111 3 = σ 111 3 ∧ s29 112 0 = σ 112 0 ∧ s29 112 1 = σ 112 1 ∧ s29 112 2 = σ 112 2 ∧ s29 112 3 = σ 112 3) => ?_))
            refine h_iconst (pc' := 101) (x := (Int32.ofInt 1)) rfl rfl rfl ?_
            exact h_iret rfl rfl (kk _ _ ci_1 _ Is29 Fs29 (by omega) (Or.inr (Or.inr ⟨by omega, by omega, by omega⟩)))
        · refine h_iload_n (pc' := 69) rfl rfl rfl ?_
          refine h_bipush (pc' := 71) (x := (Int32.ofInt 24)) rfl rfl cb_24 ?_
          refine h_ishl (pc' := 72) rfl rfl (fun z30 hz30 => ?_)
          refine h_bipush (pc' := 74) (x := (Int32.ofInt 24)) rfl rfl cb_24 ?_
          refine h_ishr (pc' := 75) rfl rfl (fun z31 hz31 => ?_)
          refine h_goto (pc' := 99) rfl rfl ?_
          refine h_iast (pc' := 100) rfl rfl rfl rfl hz21 (by omega) (by omega) rfl (h_fgt (E := fun s => s 95 0 = σ 95 0 ∧ s 95 1 = σ 95 1 ∧ s 95 2 = σ 95 2 ∧ s 95 3 = σ 95 3 ∧ s 96 0 = σ 96 0 ∧ s 96 1 = σ 96 1 ∧ s 96 2 = σ 96 2 ∧ s 96 3 = σ 96 3 ∧ s 111 0 = σ 111 0 ∧ s 111 1 = σ 111 1 ∧ s 111 2 = σ 111 2 ∧ s 111 3 = σ 111 3 ∧ s 112 0 = σ 112 0 ∧ s 112 1 = σ 112 1 ∧ s 112 2 = σ 112 2 ∧ s 112 3 = σ 112 3) _ (in_113 hI (h_rgv rfl)) (F00.up rfl) ⟨rfl, rfl, rfl, rfl, rfl, rfl, rfl, rfl, rfl, rfl, rfl, rfl, rfl, rfl, rfl, rfl⟩ (fun s32 Is32 Fs32 (es32 : s32 95 0 = σ 95 0 ∧ s32 95 1 = σ 95 1 ∧ s32 95 2 = σ 95 2 ∧ s32 95 3 = σ 95 3 ∧ s32 96 0 = σ 96 0 ∧ s32 96 1 = σ 96 1 ∧ s32 96 2 = σ 96 2 ∧ s32 96 3 = σ 96 3 ∧ s32 111 0 = σ 111 0 ∧ s32 111 1 = σ 111 1 ∧ s32 111 2 = σ 111 2 ∧ s32 111 3 = σ 111 3 ∧ s32 112 0 = σ 112 0 ∧ s32 112 1 = σ 112 1 ∧ s32 112 2 = σ 112 2 ∧ s32 112 3 = σ 112 3) => ?_))
          refine h_iconst (pc' := 101) (x := (Int32.ofInt 1)) rfl rfl rfl ?_
          exact h_iret rfl rfl (kk _ _ ci_1 _ Is32 Fs32 (by omega) (Or.inr (Or.inr ⟨by omega, by omega, by omega⟩)))
  · refine h_bipush (pc' := 27) (x := (Int32.ofInt (-11))) rfl rfl cb_m11 ?_
    exact h_iret rfl rfl (kk _ _ ci_m11 _ hI F00 (by omega) (Or.inl ⟨by omega, by omega⟩))
set_option maxHeartbeats 100000000 in
theorem u_layM1 {ns : Nat} (σ : h_S) (hI : h_I σ) (x1 : Int32) (a1 : Int) (hx1 : x1.toInt = a1) (x2 : Int32) (a2 : Int) (hx2 : x2.toInt = a2) {Q : Option Value → h_S → Prop} (kk : ∀ (r : Int32) (b : Int) (hb : r.toInt = b) (τ : h_S), h_I τ → h_F k_nt τ σ → ((-12) ≤ b ∧ b ≤ 1) → (((b = (-11)) ∧ (σ 111 1 = -4)) ∨ ((b = (-12)) ∧ (¬ σ 111 1 = -4) ∧ (a1 < 0 ∨ σ 112 1 ≤ a1)) ∨ ((b = 1) ∧ (¬ σ 111 1 = -4) ∧ (0 ≤ a1 ∧ a1 < σ 112 1))) → Q (some (.int r)) τ) : h_T g_P (g_Y ns) 221 0 [(0, .ref 98), (1, .int (Int32.ofInt 1)), (2, .int x1), (3, .int x2)] [] σ Q := by
  have F00 : h_F k_nt σ σ := h_F.rf
  refine h_iload_n (pc' := 1) rfl rfl rfl ?_
  refine h_i2l (pc' := 2) rfl rfl ci_1 (fun z1 hz1 => ?_)
  refine h_lconst (pc' := 3) (x := (Int64.ofInt 0)) rfl rfl rfl ?_
  refine h_ldc2 (pc' := 6) (x := (Int64.ofInt 3)) rfl rfl rfl ?_
  refine h_calls (pc' := 9) (M := [(0, .long z1), (2, .long (Int64.ofInt 0)), (4, .long (Int64.ofInt 3))]) rfl rfl rfl rfl rfl rfl ?_
  refine h_lload_n (pc' := 1) rfl rfl rfl ?_
  refine h_lload_n (pc' := 2) rfl rfl rfl ?_
  refine h_lcmp (pc' := 3) rfl rfl hz1 cl_0 (fun z2 hz2 => ?_)
  refine h_zlt (tg := 17) (pc' := 6) rfl rfl rfl rfl (fun c3 => absurd c3 (by omega)) (fun c3 => ?_)
  replace c3 := (h_lcr hz2).2.1 c3
  clear hz2
  refine h_lload_n (pc' := 7) rfl rfl rfl ?_
  refine h_lload (pc' := 9) rfl rfl rfl ?_
  refine h_lcmp (pc' := 10) rfl rfl hz1 cl_3 (fun z4 hz4 => ?_)
  refine h_zgt (tg := 17) (pc' := 13) rfl rfl rfl rfl (fun c5 => absurd c5 (by omega)) (fun c5 => ?_)
  replace c5 := (h_lcr hz4).2.2.1 c5
  clear hz4
  refine h_iconst (pc' := 14) (x := (Int32.ofInt 1)) rfl rfl rfl ?_
  refine h_goto (pc' := 18) rfl rfl ?_
  refine h_zret rfl rfl ci_1 (by omega) (h_Kv ?_)
  refine h_zne (tg := 14) (pc' := 12) rfl rfl rfl ci_1 (fun c6 => ?_) (fun c6 => absurd c6 (by omega))
  refine h_aload_n (pc' := 15) rfl rfl rfl ?_
  refine h_getR (pc' := 18) rfl rfl rfl rfl rfl ?_
  refine h_iload_n (pc' := 19) rfl rfl rfl ?_
  refine h_iald (pc' := 20) (v := σ 111 1) rfl rfl rfl ci_1 (by omega) (by omega) rfl (fun z7 hz7 => ?_)
  have tz7 := ty_111 hI 1
  refine h_bipush (pc' := 22) (x := (Int32.ofInt (-4))) rfl rfl cb_m4 ?_
  refine h_cne (tg := 28) (pc' := 25) rfl rfl rfl hz7 ci_m4 (fun c8 => ?_) (fun c8 => ?_)
  · refine h_iload_n (pc' := 29) rfl rfl rfl ?_
    refine h_i2l (pc' := 30) rfl rfl hx1 (fun z9 hz9 => ?_)
    refine h_lconst (pc' := 31) (x := (Int64.ofInt 0)) rfl rfl rfl ?_
    refine h_aload_n (pc' := 32) rfl rfl rfl ?_
    refine h_getR (pc' := 35) rfl rfl rfl rfl rfl ?_
    refine h_iload_n (pc' := 36) rfl rfl rfl ?_
    refine h_iald (pc' := 37) (v := σ 112 1) rfl rfl rfl ci_1 (by omega) (by omega) rfl (fun z10 hz10 => ?_)
    have tz10 := ty_112 hI 1
    refine h_iconst (pc' := 38) (x := (Int32.ofInt 1)) rfl rfl rfl ?_
    refine h_isub (pc' := 39) rfl rfl hz10 ci_1 rfl (by omega) (by omega) (fun z11 hz11 => ?_)
    refine h_i2l (pc' := 40) rfl rfl hz11 (fun z12 hz12 => ?_)
    refine h_calls (pc' := 43) (M := [(0, .long z9), (2, .long (Int64.ofInt 0)), (4, .long z12)]) rfl rfl rfl rfl rfl rfl ?_
    refine h_lload_n (pc' := 1) rfl rfl rfl ?_
    refine h_lload_n (pc' := 2) rfl rfl rfl ?_
    refine h_lcmp (pc' := 3) rfl rfl hz9 cl_0 (fun z13 hz13 => ?_)
    refine h_zlt (tg := 17) (pc' := 6) rfl rfl rfl rfl (fun c14 => ?_) (fun c14 => ?_)
    · replace c14 := (h_lcr hz13).1 c14
      clear hz13
      refine h_iconst (pc' := 18) (x := (Int32.ofInt 0)) rfl rfl rfl ?_
      refine h_zret rfl rfl ci_0 (by omega) (h_Kv ?_)
      refine h_zne (tg := 49) (pc' := 46) rfl rfl rfl ci_0 (fun c15 => absurd c15 (by omega)) (fun c15 => ?_)
      refine h_bipush (pc' := 48) (x := (Int32.ofInt (-12))) rfl rfl cb_m12 ?_
      exact h_iret rfl rfl (kk _ _ ci_m12 _ hI F00 (by omega) (Or.inr (Or.inl ⟨by omega, by omega, by omega⟩)))
    · replace c14 := (h_lcr hz13).2.1 c14
      clear hz13
      refine h_lload_n (pc' := 7) rfl rfl rfl ?_
      refine h_lload (pc' := 9) rfl rfl rfl ?_
      refine h_lcmp (pc' := 10) rfl rfl hz9 hz12 (fun z16 hz16 => ?_)
      refine h_zgt (tg := 17) (pc' := 13) rfl rfl rfl rfl (fun c17 => ?_) (fun c17 => ?_)
      · replace c17 := (h_lcr hz16).2.2.2.1 c17
        clear hz16
        refine h_iconst (pc' := 18) (x := (Int32.ofInt 0)) rfl rfl rfl ?_
        refine h_zret rfl rfl ci_0 (by omega) (h_Kv ?_)
        refine h_zne (tg := 49) (pc' := 46) rfl rfl rfl ci_0 (fun c18 => absurd c18 (by omega)) (fun c18 => ?_)
        refine h_bipush (pc' := 48) (x := (Int32.ofInt (-12))) rfl rfl cb_m12 ?_
        exact h_iret rfl rfl (kk _ _ ci_m12 _ hI F00 (by omega) (Or.inr (Or.inl ⟨by omega, by omega, by omega⟩)))
      · replace c17 := (h_lcr hz16).2.2.1 c17
        clear hz16
        refine h_iconst (pc' := 14) (x := (Int32.ofInt 1)) rfl rfl rfl ?_
        refine h_goto (pc' := 18) rfl rfl ?_
        refine h_zret rfl rfl ci_1 (by omega) (h_Kv ?_)
        refine h_zne (tg := 49) (pc' := 46) rfl rfl rfl ci_1 (fun c19 => ?_) (fun c19 => absurd c19 (by omega))
        refine h_aload_n (pc' := 50) rfl rfl rfl ?_
        refine h_getR (pc' := 53) rfl rfl rfl rfl rfl ?_
        refine h_bipush (pc' := 55) (x := (Int32.ofInt 40)) rfl rfl cb_40 ?_
        refine h_iload_n (pc' := 56) rfl rfl rfl ?_
        refine h_imul (pc' := 57) (c := 40) rfl rfl ci_40 ci_1 rfl (by omega) (by omega) (fun z20 hz20 => ?_)
        refine h_iload_n (pc' := 58) rfl rfl rfl ?_
        refine h_iadd (pc' := 59) rfl rfl hz20 hx1 rfl (by have g0 := h_rgv hx1; omega) (by have g0 := h_rgv hx1; omega) (fun z21 hz21 => ?_)
        refine h_aload_n (pc' := 60) rfl rfl rfl ?_
        refine h_getR (pc' := 63) rfl rfl rfl rfl rfl ?_
        refine h_iload_n (pc' := 64) rfl rfl rfl ?_
        refine h_iald (pc' := 65) (v := σ 111 1) rfl rfl rfl ci_1 (by omega) (by omega) rfl (fun z22 hz22 => ?_)
        have tz22 := ty_111 hI 1
        refine h_zne (tg := 78) (pc' := 68) rfl rfl rfl hz22 (fun c23 => ?_) (fun c23 => ?_)
        · refine h_aload_n (pc' := 79) rfl rfl rfl ?_
          refine h_getR (pc' := 82) rfl rfl rfl rfl rfl ?_
          refine h_iload_n (pc' := 83) rfl rfl rfl ?_
          refine h_iald (pc' := 84) (v := σ 111 1) rfl rfl rfl ci_1 (by omega) (by omega) rfl (fun z24 hz24 => ?_)
          have tz24 := ty_111 hI 1
          refine h_iconst (pc' := 85) (x := (Int32.ofInt 1)) rfl rfl rfl ?_
          refine h_cne (tg := 98) (pc' := 88) rfl rfl rfl hz24 ci_1 (fun c25 => ?_) (fun c25 => ?_)
          · refine h_iload_n (pc' := 99) rfl rfl rfl ?_
            refine h_iast (pc' := 100) rfl rfl rfl rfl hz21 (by omega) (by omega) hx2 (h_fgt (E := fun s => s 95 0 = σ 95 0 ∧ s 95 1 = σ 95 1 ∧ s 95 2 = σ 95 2 ∧ s 95 3 = σ 95 3 ∧ s 96 0 = σ 96 0 ∧ s 96 1 = σ 96 1 ∧ s 96 2 = σ 96 2 ∧ s 96 3 = σ 96 3 ∧ s 111 0 = σ 111 0 ∧ s 111 1 = σ 111 1 ∧ s 111 2 = σ 111 2 ∧ s 111 3 = σ 111 3 ∧ s 112 0 = σ 112 0 ∧ s 112 1 = σ 112 1 ∧ s 112 2 = σ 112 2 ∧ s 112 3 = σ 112 3) _ (in_113 hI (h_rgv hx2)) (F00.up rfl) ⟨rfl, rfl, rfl, rfl, rfl, rfl, rfl, rfl, rfl, rfl, rfl, rfl, rfl, rfl, rfl, rfl⟩ (fun s26 Is26 Fs26 (es26 : s26 95 0 = σ 95 0 ∧ s26 95 1 = σ 95 1 ∧ s26 95 2 = σ 95 2 ∧ s26 95 3 = σ 95 3 ∧ s26 96 0 = σ 96 0 ∧ s26 96 1 = σ 96 1 ∧ s26 96 2 = σ 96 2 ∧ s26 96 3 = σ 96 3 ∧ s26 111 0 = σ 111 0 ∧ s26 111 1 = σ 111 1 ∧ s26 111 2 = σ 111 2 ∧ s26 111 3 = σ 111 3 ∧ s26 112 0 = σ 112 0 ∧ s26 112 1 = σ 112 1 ∧ s26 112 2 = σ 112 2 ∧ s26 112 3 = σ 112 3) => ?_))
            refine h_iconst (pc' := 101) (x := (Int32.ofInt 1)) rfl rfl rfl ?_
            exact h_iret rfl rfl (kk _ _ ci_1 _ Is26 Fs26 (by omega) (Or.inr (Or.inr ⟨by omega, by omega, by omega⟩)))
          · refine h_iload_n (pc' := 89) rfl rfl rfl ?_
            refine h_bipush (pc' := 91) (x := (Int32.ofInt 16)) rfl rfl cb_16 ?_
            refine h_ishl (pc' := 92) rfl rfl (fun z27 hz27 => ?_)
            refine h_bipush (pc' := 94) (x := (Int32.ofInt 16)) rfl rfl cb_16 ?_
            refine h_ishr (pc' := 95) rfl rfl (fun z28 hz28 => ?_)
            refine h_goto (pc' := 99) rfl rfl ?_
            refine h_iast (pc' := 100) rfl rfl rfl rfl hz21 (by omega) (by omega) rfl (h_fgt (E := fun s => s 95 0 = σ 95 0 ∧ s 95 1 = σ 95 1 ∧ s 95 2 = σ 95 2 ∧ s 95 3 = σ 95 3 ∧ s 96 0 = σ 96 0 ∧ s 96 1 = σ 96 1 ∧ s 96 2 = σ 96 2 ∧ s 96 3 = σ 96 3 ∧ s 111 0 = σ 111 0 ∧ s 111 1 = σ 111 1 ∧ s 111 2 = σ 111 2 ∧ s 111 3 = σ 111 3 ∧ s 112 0 = σ 112 0 ∧ s 112 1 = σ 112 1 ∧ s 112 2 = σ 112 2 ∧ s 112 3 = σ 112 3) _ (in_113 hI (h_rgv rfl)) (F00.up rfl) ⟨rfl, rfl, rfl, rfl, rfl, rfl, rfl, rfl, rfl, rfl, rfl, rfl, rfl, rfl, rfl, rfl⟩ (fun s29 Is29 Fs29 (es29 : s29 95 0 = σ 95 0 ∧ s29 95 1 = σ 95 1 ∧ s29 95 2 = σ 95 2 ∧ s29 95 3 = σ 95 3 ∧ s29 96 0 = σ 96 0 ∧ s29 96 1 = σ 96 1 ∧ s29 96 2 = σ 96 2 ∧ s29 96 3 = σ 96 3 ∧ s29 111 0 = σ 111 0 ∧ s29 111 1 = σ 111 1 ∧ s29 111 2 = σ 111 2 ∧ s29 111 3 = σ 111 3 ∧ s29 112 0 = σ 112 0 ∧ s29 112 1 = σ 112 1 ∧ s29 112 2 = σ 112 2 ∧ s29 112 3 = σ 112 3) => ?_))
            refine h_iconst (pc' := 101) (x := (Int32.ofInt 1)) rfl rfl rfl ?_
            exact h_iret rfl rfl (kk _ _ ci_1 _ Is29 Fs29 (by omega) (Or.inr (Or.inr ⟨by omega, by omega, by omega⟩)))
        · refine h_iload_n (pc' := 69) rfl rfl rfl ?_
          refine h_bipush (pc' := 71) (x := (Int32.ofInt 24)) rfl rfl cb_24 ?_
          refine h_ishl (pc' := 72) rfl rfl (fun z30 hz30 => ?_)
          refine h_bipush (pc' := 74) (x := (Int32.ofInt 24)) rfl rfl cb_24 ?_
          refine h_ishr (pc' := 75) rfl rfl (fun z31 hz31 => ?_)
          refine h_goto (pc' := 99) rfl rfl ?_
          refine h_iast (pc' := 100) rfl rfl rfl rfl hz21 (by omega) (by omega) rfl (h_fgt (E := fun s => s 95 0 = σ 95 0 ∧ s 95 1 = σ 95 1 ∧ s 95 2 = σ 95 2 ∧ s 95 3 = σ 95 3 ∧ s 96 0 = σ 96 0 ∧ s 96 1 = σ 96 1 ∧ s 96 2 = σ 96 2 ∧ s 96 3 = σ 96 3 ∧ s 111 0 = σ 111 0 ∧ s 111 1 = σ 111 1 ∧ s 111 2 = σ 111 2 ∧ s 111 3 = σ 111 3 ∧ s 112 0 = σ 112 0 ∧ s 112 1 = σ 112 1 ∧ s 112 2 = σ 112 2 ∧ s 112 3 = σ 112 3) _ (in_113 hI (h_rgv rfl)) (F00.up rfl) ⟨rfl, rfl, rfl, rfl, rfl, rfl, rfl, rfl, rfl, rfl, rfl, rfl, rfl, rfl, rfl, rfl⟩ (fun s32 Is32 Fs32 (es32 : s32 95 0 = σ 95 0 ∧ s32 95 1 = σ 95 1 ∧ s32 95 2 = σ 95 2 ∧ s32 95 3 = σ 95 3 ∧ s32 96 0 = σ 96 0 ∧ s32 96 1 = σ 96 1 ∧ s32 96 2 = σ 96 2 ∧ s32 96 3 = σ 96 3 ∧ s32 111 0 = σ 111 0 ∧ s32 111 1 = σ 111 1 ∧ s32 111 2 = σ 111 2 ∧ s32 111 3 = σ 111 3 ∧ s32 112 0 = σ 112 0 ∧ s32 112 1 = σ 112 1 ∧ s32 112 2 = σ 112 2 ∧ s32 112 3 = σ 112 3) => ?_))
          refine h_iconst (pc' := 101) (x := (Int32.ofInt 1)) rfl rfl rfl ?_
          exact h_iret rfl rfl (kk _ _ ci_1 _ Is32 Fs32 (by omega) (Or.inr (Or.inr ⟨by omega, by omega, by omega⟩)))
  · refine h_bipush (pc' := 27) (x := (Int32.ofInt (-11))) rfl rfl cb_m11 ?_
    exact h_iret rfl rfl (kk _ _ ci_m11 _ hI F00 (by omega) (Or.inl ⟨by omega, by omega⟩))
set_option maxHeartbeats 100000000 in
theorem u_layM2 {ns : Nat} (σ : h_S) (hI : h_I σ) (x1 : Int32) (a1 : Int) (hx1 : x1.toInt = a1) (x2 : Int32) (a2 : Int) (hx2 : x2.toInt = a2) {Q : Option Value → h_S → Prop} (kk : ∀ (r : Int32) (b : Int) (hb : r.toInt = b) (τ : h_S), h_I τ → h_F k_nt τ σ → ((-12) ≤ b ∧ b ≤ 1) → (((b = (-11)) ∧ (σ 111 2 = -4)) ∨ ((b = (-12)) ∧ (¬ σ 111 2 = -4) ∧ (a1 < 0 ∨ σ 112 2 ≤ a1)) ∨ ((b = 1) ∧ (¬ σ 111 2 = -4) ∧ (0 ≤ a1 ∧ a1 < σ 112 2))) → Q (some (.int r)) τ) : h_T g_P (g_Y ns) 221 0 [(0, .ref 98), (1, .int (Int32.ofInt 2)), (2, .int x1), (3, .int x2)] [] σ Q := by
  have F00 : h_F k_nt σ σ := h_F.rf
  refine h_iload_n (pc' := 1) rfl rfl rfl ?_
  refine h_i2l (pc' := 2) rfl rfl ci_2 (fun z1 hz1 => ?_)
  refine h_lconst (pc' := 3) (x := (Int64.ofInt 0)) rfl rfl rfl ?_
  refine h_ldc2 (pc' := 6) (x := (Int64.ofInt 3)) rfl rfl rfl ?_
  refine h_calls (pc' := 9) (M := [(0, .long z1), (2, .long (Int64.ofInt 0)), (4, .long (Int64.ofInt 3))]) rfl rfl rfl rfl rfl rfl ?_
  refine h_lload_n (pc' := 1) rfl rfl rfl ?_
  refine h_lload_n (pc' := 2) rfl rfl rfl ?_
  refine h_lcmp (pc' := 3) rfl rfl hz1 cl_0 (fun z2 hz2 => ?_)
  refine h_zlt (tg := 17) (pc' := 6) rfl rfl rfl rfl (fun c3 => absurd c3 (by omega)) (fun c3 => ?_)
  replace c3 := (h_lcr hz2).2.1 c3
  clear hz2
  refine h_lload_n (pc' := 7) rfl rfl rfl ?_
  refine h_lload (pc' := 9) rfl rfl rfl ?_
  refine h_lcmp (pc' := 10) rfl rfl hz1 cl_3 (fun z4 hz4 => ?_)
  refine h_zgt (tg := 17) (pc' := 13) rfl rfl rfl rfl (fun c5 => absurd c5 (by omega)) (fun c5 => ?_)
  replace c5 := (h_lcr hz4).2.2.1 c5
  clear hz4
  refine h_iconst (pc' := 14) (x := (Int32.ofInt 1)) rfl rfl rfl ?_
  refine h_goto (pc' := 18) rfl rfl ?_
  refine h_zret rfl rfl ci_1 (by omega) (h_Kv ?_)
  refine h_zne (tg := 14) (pc' := 12) rfl rfl rfl ci_1 (fun c6 => ?_) (fun c6 => absurd c6 (by omega))
  refine h_aload_n (pc' := 15) rfl rfl rfl ?_
  refine h_getR (pc' := 18) rfl rfl rfl rfl rfl ?_
  refine h_iload_n (pc' := 19) rfl rfl rfl ?_
  refine h_iald (pc' := 20) (v := σ 111 2) rfl rfl rfl ci_2 (by omega) (by omega) rfl (fun z7 hz7 => ?_)
  have tz7 := ty_111 hI 2
  refine h_bipush (pc' := 22) (x := (Int32.ofInt (-4))) rfl rfl cb_m4 ?_
  refine h_cne (tg := 28) (pc' := 25) rfl rfl rfl hz7 ci_m4 (fun c8 => ?_) (fun c8 => ?_)
  · refine h_iload_n (pc' := 29) rfl rfl rfl ?_
    refine h_i2l (pc' := 30) rfl rfl hx1 (fun z9 hz9 => ?_)
    refine h_lconst (pc' := 31) (x := (Int64.ofInt 0)) rfl rfl rfl ?_
    refine h_aload_n (pc' := 32) rfl rfl rfl ?_
    refine h_getR (pc' := 35) rfl rfl rfl rfl rfl ?_
    refine h_iload_n (pc' := 36) rfl rfl rfl ?_
    refine h_iald (pc' := 37) (v := σ 112 2) rfl rfl rfl ci_2 (by omega) (by omega) rfl (fun z10 hz10 => ?_)
    have tz10 := ty_112 hI 2
    refine h_iconst (pc' := 38) (x := (Int32.ofInt 1)) rfl rfl rfl ?_
    refine h_isub (pc' := 39) rfl rfl hz10 ci_1 rfl (by omega) (by omega) (fun z11 hz11 => ?_)
    refine h_i2l (pc' := 40) rfl rfl hz11 (fun z12 hz12 => ?_)
    refine h_calls (pc' := 43) (M := [(0, .long z9), (2, .long (Int64.ofInt 0)), (4, .long z12)]) rfl rfl rfl rfl rfl rfl ?_
    refine h_lload_n (pc' := 1) rfl rfl rfl ?_
    refine h_lload_n (pc' := 2) rfl rfl rfl ?_
    refine h_lcmp (pc' := 3) rfl rfl hz9 cl_0 (fun z13 hz13 => ?_)
    refine h_zlt (tg := 17) (pc' := 6) rfl rfl rfl rfl (fun c14 => ?_) (fun c14 => ?_)
    · replace c14 := (h_lcr hz13).1 c14
      clear hz13
      refine h_iconst (pc' := 18) (x := (Int32.ofInt 0)) rfl rfl rfl ?_
      refine h_zret rfl rfl ci_0 (by omega) (h_Kv ?_)
      refine h_zne (tg := 49) (pc' := 46) rfl rfl rfl ci_0 (fun c15 => absurd c15 (by omega)) (fun c15 => ?_)
      refine h_bipush (pc' := 48) (x := (Int32.ofInt (-12))) rfl rfl cb_m12 ?_
      exact h_iret rfl rfl (kk _ _ ci_m12 _ hI F00 (by omega) (Or.inr (Or.inl ⟨by omega, by omega, by omega⟩)))
    · replace c14 := (h_lcr hz13).2.1 c14
      clear hz13
      refine h_lload_n (pc' := 7) rfl rfl rfl ?_
      refine h_lload (pc' := 9) rfl rfl rfl ?_
      refine h_lcmp (pc' := 10) rfl rfl hz9 hz12 (fun z16 hz16 => ?_)
      refine h_zgt (tg := 17) (pc' := 13) rfl rfl rfl rfl (fun c17 => ?_) (fun c17 => ?_)
      · replace c17 := (h_lcr hz16).2.2.2.1 c17
        clear hz16
        refine h_iconst (pc' := 18) (x := (Int32.ofInt 0)) rfl rfl rfl ?_
        refine h_zret rfl rfl ci_0 (by omega) (h_Kv ?_)
        refine h_zne (tg := 49) (pc' := 46) rfl rfl rfl ci_0 (fun c18 => absurd c18 (by omega)) (fun c18 => ?_)
        refine h_bipush (pc' := 48) (x := (Int32.ofInt (-12))) rfl rfl cb_m12 ?_
        exact h_iret rfl rfl (kk _ _ ci_m12 _ hI F00 (by omega) (Or.inr (Or.inl ⟨by omega, by omega, by omega⟩)))
      · replace c17 := (h_lcr hz16).2.2.1 c17
        clear hz16
        refine h_iconst (pc' := 14) (x := (Int32.ofInt 1)) rfl rfl rfl ?_
        refine h_goto (pc' := 18) rfl rfl ?_
        refine h_zret rfl rfl ci_1 (by omega) (h_Kv ?_)
        refine h_zne (tg := 49) (pc' := 46) rfl rfl rfl ci_1 (fun c19 => ?_) (fun c19 => absurd c19 (by omega))
        refine h_aload_n (pc' := 50) rfl rfl rfl ?_
        refine h_getR (pc' := 53) rfl rfl rfl rfl rfl ?_
        refine h_bipush (pc' := 55) (x := (Int32.ofInt 40)) rfl rfl cb_40 ?_
        refine h_iload_n (pc' := 56) rfl rfl rfl ?_
        refine h_imul (pc' := 57) (c := 80) rfl rfl ci_40 ci_2 rfl (by omega) (by omega) (fun z20 hz20 => ?_)
        refine h_iload_n (pc' := 58) rfl rfl rfl ?_
        refine h_iadd (pc' := 59) rfl rfl hz20 hx1 rfl (by have g0 := h_rgv hx1; omega) (by have g0 := h_rgv hx1; omega) (fun z21 hz21 => ?_)
        refine h_aload_n (pc' := 60) rfl rfl rfl ?_
        refine h_getR (pc' := 63) rfl rfl rfl rfl rfl ?_
        refine h_iload_n (pc' := 64) rfl rfl rfl ?_
        refine h_iald (pc' := 65) (v := σ 111 2) rfl rfl rfl ci_2 (by omega) (by omega) rfl (fun z22 hz22 => ?_)
        have tz22 := ty_111 hI 2
        refine h_zne (tg := 78) (pc' := 68) rfl rfl rfl hz22 (fun c23 => ?_) (fun c23 => ?_)
        · refine h_aload_n (pc' := 79) rfl rfl rfl ?_
          refine h_getR (pc' := 82) rfl rfl rfl rfl rfl ?_
          refine h_iload_n (pc' := 83) rfl rfl rfl ?_
          refine h_iald (pc' := 84) (v := σ 111 2) rfl rfl rfl ci_2 (by omega) (by omega) rfl (fun z24 hz24 => ?_)
          have tz24 := ty_111 hI 2
          refine h_iconst (pc' := 85) (x := (Int32.ofInt 1)) rfl rfl rfl ?_
          refine h_cne (tg := 98) (pc' := 88) rfl rfl rfl hz24 ci_1 (fun c25 => ?_) (fun c25 => ?_)
          · refine h_iload_n (pc' := 99) rfl rfl rfl ?_
            refine h_iast (pc' := 100) rfl rfl rfl rfl hz21 (by omega) (by omega) hx2 (h_fgt (E := fun s => s 95 0 = σ 95 0 ∧ s 95 1 = σ 95 1 ∧ s 95 2 = σ 95 2 ∧ s 95 3 = σ 95 3 ∧ s 96 0 = σ 96 0 ∧ s 96 1 = σ 96 1 ∧ s 96 2 = σ 96 2 ∧ s 96 3 = σ 96 3 ∧ s 111 0 = σ 111 0 ∧ s 111 1 = σ 111 1 ∧ s 111 2 = σ 111 2 ∧ s 111 3 = σ 111 3 ∧ s 112 0 = σ 112 0 ∧ s 112 1 = σ 112 1 ∧ s 112 2 = σ 112 2 ∧ s 112 3 = σ 112 3) _ (in_113 hI (h_rgv hx2)) (F00.up rfl) ⟨rfl, rfl, rfl, rfl, rfl, rfl, rfl, rfl, rfl, rfl, rfl, rfl, rfl, rfl, rfl, rfl⟩ (fun s26 Is26 Fs26 (es26 : s26 95 0 = σ 95 0 ∧ s26 95 1 = σ 95 1 ∧ s26 95 2 = σ 95 2 ∧ s26 95 3 = σ 95 3 ∧ s26 96 0 = σ 96 0 ∧ s26 96 1 = σ 96 1 ∧ s26 96 2 = σ 96 2 ∧ s26 96 3 = σ 96 3 ∧ s26 111 0 = σ 111 0 ∧ s26 111 1 = σ 111 1 ∧ s26 111 2 = σ 111 2 ∧ s26 111 3 = σ 111 3 ∧ s26 112 0 = σ 112 0 ∧ s26 112 1 = σ 112 1 ∧ s26 112 2 = σ 112 2 ∧ s26 112 3 = σ 112 3) => ?_))
            refine h_iconst (pc' := 101) (x := (Int32.ofInt 1)) rfl rfl rfl ?_
            exact h_iret rfl rfl (kk _ _ ci_1 _ Is26 Fs26 (by omega) (Or.inr (Or.inr ⟨by omega, by omega, by omega⟩)))
          · refine h_iload_n (pc' := 89) rfl rfl rfl ?_
            refine h_bipush (pc' := 91) (x := (Int32.ofInt 16)) rfl rfl cb_16 ?_
            refine h_ishl (pc' := 92) rfl rfl (fun z27 hz27 => ?_)
            refine h_bipush (pc' := 94) (x := (Int32.ofInt 16)) rfl rfl cb_16 ?_
            refine h_ishr (pc' := 95) rfl rfl (fun z28 hz28 => ?_)
            refine h_goto (pc' := 99) rfl rfl ?_
            refine h_iast (pc' := 100) rfl rfl rfl rfl hz21 (by omega) (by omega) rfl (h_fgt (E := fun s => s 95 0 = σ 95 0 ∧ s 95 1 = σ 95 1 ∧ s 95 2 = σ 95 2 ∧ s 95 3 = σ 95 3 ∧ s 96 0 = σ 96 0 ∧ s 96 1 = σ 96 1 ∧ s 96 2 = σ 96 2 ∧ s 96 3 = σ 96 3 ∧ s 111 0 = σ 111 0 ∧ s 111 1 = σ 111 1 ∧ s 111 2 = σ 111 2 ∧ s 111 3 = σ 111 3 ∧ s 112 0 = σ 112 0 ∧ s 112 1 = σ 112 1 ∧ s 112 2 = σ 112 2 ∧ s 112 3 = σ 112 3) _ (in_113 hI (h_rgv rfl)) (F00.up rfl) ⟨rfl, rfl, rfl, rfl, rfl, rfl, rfl, rfl, rfl, rfl, rfl, rfl, rfl, rfl, rfl, rfl⟩ (fun s29 Is29 Fs29 (es29 : s29 95 0 = σ 95 0 ∧ s29 95 1 = σ 95 1 ∧ s29 95 2 = σ 95 2 ∧ s29 95 3 = σ 95 3 ∧ s29 96 0 = σ 96 0 ∧ s29 96 1 = σ 96 1 ∧ s29 96 2 = σ 96 2 ∧ s29 96 3 = σ 96 3 ∧ s29 111 0 = σ 111 0 ∧ s29 111 1 = σ 111 1 ∧ s29 111 2 = σ 111 2 ∧ s29 111 3 = σ 111 3 ∧ s29 112 0 = σ 112 0 ∧ s29 112 1 = σ 112 1 ∧ s29 112 2 = σ 112 2 ∧ s29 112 3 = σ 112 3) => ?_))
            refine h_iconst (pc' := 101) (x := (Int32.ofInt 1)) rfl rfl rfl ?_
            exact h_iret rfl rfl (kk _ _ ci_1 _ Is29 Fs29 (by omega) (Or.inr (Or.inr ⟨by omega, by omega, by omega⟩)))
        · refine h_iload_n (pc' := 69) rfl rfl rfl ?_
          refine h_bipush (pc' := 71) (x := (Int32.ofInt 24)) rfl rfl cb_24 ?_
          refine h_ishl (pc' := 72) rfl rfl (fun z30 hz30 => ?_)
          refine h_bipush (pc' := 74) (x := (Int32.ofInt 24)) rfl rfl cb_24 ?_
          refine h_ishr (pc' := 75) rfl rfl (fun z31 hz31 => ?_)
          refine h_goto (pc' := 99) rfl rfl ?_
          refine h_iast (pc' := 100) rfl rfl rfl rfl hz21 (by omega) (by omega) rfl (h_fgt (E := fun s => s 95 0 = σ 95 0 ∧ s 95 1 = σ 95 1 ∧ s 95 2 = σ 95 2 ∧ s 95 3 = σ 95 3 ∧ s 96 0 = σ 96 0 ∧ s 96 1 = σ 96 1 ∧ s 96 2 = σ 96 2 ∧ s 96 3 = σ 96 3 ∧ s 111 0 = σ 111 0 ∧ s 111 1 = σ 111 1 ∧ s 111 2 = σ 111 2 ∧ s 111 3 = σ 111 3 ∧ s 112 0 = σ 112 0 ∧ s 112 1 = σ 112 1 ∧ s 112 2 = σ 112 2 ∧ s 112 3 = σ 112 3) _ (in_113 hI (h_rgv rfl)) (F00.up rfl) ⟨rfl, rfl, rfl, rfl, rfl, rfl, rfl, rfl, rfl, rfl, rfl, rfl, rfl, rfl, rfl, rfl⟩ (fun s32 Is32 Fs32 (es32 : s32 95 0 = σ 95 0 ∧ s32 95 1 = σ 95 1 ∧ s32 95 2 = σ 95 2 ∧ s32 95 3 = σ 95 3 ∧ s32 96 0 = σ 96 0 ∧ s32 96 1 = σ 96 1 ∧ s32 96 2 = σ 96 2 ∧ s32 96 3 = σ 96 3 ∧ s32 111 0 = σ 111 0 ∧ s32 111 1 = σ 111 1 ∧ s32 111 2 = σ 111 2 ∧ s32 111 3 = σ 111 3 ∧ s32 112 0 = σ 112 0 ∧ s32 112 1 = σ 112 1 ∧ s32 112 2 = σ 112 2 ∧ s32 112 3 = σ 112 3) => ?_))
          refine h_iconst (pc' := 101) (x := (Int32.ofInt 1)) rfl rfl rfl ?_
          exact h_iret rfl rfl (kk _ _ ci_1 _ Is32 Fs32 (by omega) (Or.inr (Or.inr ⟨by omega, by omega, by omega⟩)))
  · refine h_bipush (pc' := 27) (x := (Int32.ofInt (-11))) rfl rfl cb_m11 ?_
    exact h_iret rfl rfl (kk _ _ ci_m11 _ hI F00 (by omega) (Or.inl ⟨by omega, by omega⟩))
set_option maxHeartbeats 100000000 in
theorem u_layM3 {ns : Nat} (σ : h_S) (hI : h_I σ) (x1 : Int32) (a1 : Int) (hx1 : x1.toInt = a1) (x2 : Int32) (a2 : Int) (hx2 : x2.toInt = a2) {Q : Option Value → h_S → Prop} (kk : ∀ (r : Int32) (b : Int) (hb : r.toInt = b) (τ : h_S), h_I τ → h_F k_nt τ σ → ((-12) ≤ b ∧ b ≤ 1) → (((b = (-11)) ∧ (σ 111 3 = -4)) ∨ ((b = (-12)) ∧ (¬ σ 111 3 = -4) ∧ (a1 < 0 ∨ σ 112 3 ≤ a1)) ∨ ((b = 1) ∧ (¬ σ 111 3 = -4) ∧ (0 ≤ a1 ∧ a1 < σ 112 3))) → Q (some (.int r)) τ) : h_T g_P (g_Y ns) 221 0 [(0, .ref 98), (1, .int (Int32.ofInt 3)), (2, .int x1), (3, .int x2)] [] σ Q := by
  have F00 : h_F k_nt σ σ := h_F.rf
  refine h_iload_n (pc' := 1) rfl rfl rfl ?_
  refine h_i2l (pc' := 2) rfl rfl ci_3 (fun z1 hz1 => ?_)
  refine h_lconst (pc' := 3) (x := (Int64.ofInt 0)) rfl rfl rfl ?_
  refine h_ldc2 (pc' := 6) (x := (Int64.ofInt 3)) rfl rfl rfl ?_
  refine h_calls (pc' := 9) (M := [(0, .long z1), (2, .long (Int64.ofInt 0)), (4, .long (Int64.ofInt 3))]) rfl rfl rfl rfl rfl rfl ?_
  refine h_lload_n (pc' := 1) rfl rfl rfl ?_
  refine h_lload_n (pc' := 2) rfl rfl rfl ?_
  refine h_lcmp (pc' := 3) rfl rfl hz1 cl_0 (fun z2 hz2 => ?_)
  refine h_zlt (tg := 17) (pc' := 6) rfl rfl rfl rfl (fun c3 => absurd c3 (by omega)) (fun c3 => ?_)
  replace c3 := (h_lcr hz2).2.1 c3
  clear hz2
  refine h_lload_n (pc' := 7) rfl rfl rfl ?_
  refine h_lload (pc' := 9) rfl rfl rfl ?_
  refine h_lcmp (pc' := 10) rfl rfl hz1 cl_3 (fun z4 hz4 => ?_)
  refine h_zgt (tg := 17) (pc' := 13) rfl rfl rfl rfl (fun c5 => absurd c5 (by omega)) (fun c5 => ?_)
  replace c5 := (h_lcr hz4).2.2.1 c5
  clear hz4
  refine h_iconst (pc' := 14) (x := (Int32.ofInt 1)) rfl rfl rfl ?_
  refine h_goto (pc' := 18) rfl rfl ?_
  refine h_zret rfl rfl ci_1 (by omega) (h_Kv ?_)
  refine h_zne (tg := 14) (pc' := 12) rfl rfl rfl ci_1 (fun c6 => ?_) (fun c6 => absurd c6 (by omega))
  refine h_aload_n (pc' := 15) rfl rfl rfl ?_
  refine h_getR (pc' := 18) rfl rfl rfl rfl rfl ?_
  refine h_iload_n (pc' := 19) rfl rfl rfl ?_
  refine h_iald (pc' := 20) (v := σ 111 3) rfl rfl rfl ci_3 (by omega) (by omega) rfl (fun z7 hz7 => ?_)
  have tz7 := ty_111 hI 3
  refine h_bipush (pc' := 22) (x := (Int32.ofInt (-4))) rfl rfl cb_m4 ?_
  refine h_cne (tg := 28) (pc' := 25) rfl rfl rfl hz7 ci_m4 (fun c8 => ?_) (fun c8 => ?_)
  · refine h_iload_n (pc' := 29) rfl rfl rfl ?_
    refine h_i2l (pc' := 30) rfl rfl hx1 (fun z9 hz9 => ?_)
    refine h_lconst (pc' := 31) (x := (Int64.ofInt 0)) rfl rfl rfl ?_
    refine h_aload_n (pc' := 32) rfl rfl rfl ?_
    refine h_getR (pc' := 35) rfl rfl rfl rfl rfl ?_
    refine h_iload_n (pc' := 36) rfl rfl rfl ?_
    refine h_iald (pc' := 37) (v := σ 112 3) rfl rfl rfl ci_3 (by omega) (by omega) rfl (fun z10 hz10 => ?_)
    have tz10 := ty_112 hI 3
    refine h_iconst (pc' := 38) (x := (Int32.ofInt 1)) rfl rfl rfl ?_
    refine h_isub (pc' := 39) rfl rfl hz10 ci_1 rfl (by omega) (by omega) (fun z11 hz11 => ?_)
    refine h_i2l (pc' := 40) rfl rfl hz11 (fun z12 hz12 => ?_)
    refine h_calls (pc' := 43) (M := [(0, .long z9), (2, .long (Int64.ofInt 0)), (4, .long z12)]) rfl rfl rfl rfl rfl rfl ?_
    refine h_lload_n (pc' := 1) rfl rfl rfl ?_
    refine h_lload_n (pc' := 2) rfl rfl rfl ?_
    refine h_lcmp (pc' := 3) rfl rfl hz9 cl_0 (fun z13 hz13 => ?_)
    refine h_zlt (tg := 17) (pc' := 6) rfl rfl rfl rfl (fun c14 => ?_) (fun c14 => ?_)
    · replace c14 := (h_lcr hz13).1 c14
      clear hz13
      refine h_iconst (pc' := 18) (x := (Int32.ofInt 0)) rfl rfl rfl ?_
      refine h_zret rfl rfl ci_0 (by omega) (h_Kv ?_)
      refine h_zne (tg := 49) (pc' := 46) rfl rfl rfl ci_0 (fun c15 => absurd c15 (by omega)) (fun c15 => ?_)
      refine h_bipush (pc' := 48) (x := (Int32.ofInt (-12))) rfl rfl cb_m12 ?_
      exact h_iret rfl rfl (kk _ _ ci_m12 _ hI F00 (by omega) (Or.inr (Or.inl ⟨by omega, by omega, by omega⟩)))
    · replace c14 := (h_lcr hz13).2.1 c14
      clear hz13
      refine h_lload_n (pc' := 7) rfl rfl rfl ?_
      refine h_lload (pc' := 9) rfl rfl rfl ?_
      refine h_lcmp (pc' := 10) rfl rfl hz9 hz12 (fun z16 hz16 => ?_)
      refine h_zgt (tg := 17) (pc' := 13) rfl rfl rfl rfl (fun c17 => ?_) (fun c17 => ?_)
      · replace c17 := (h_lcr hz16).2.2.2.1 c17
        clear hz16
        refine h_iconst (pc' := 18) (x := (Int32.ofInt 0)) rfl rfl rfl ?_
        refine h_zret rfl rfl ci_0 (by omega) (h_Kv ?_)
        refine h_zne (tg := 49) (pc' := 46) rfl rfl rfl ci_0 (fun c18 => absurd c18 (by omega)) (fun c18 => ?_)
        refine h_bipush (pc' := 48) (x := (Int32.ofInt (-12))) rfl rfl cb_m12 ?_
        exact h_iret rfl rfl (kk _ _ ci_m12 _ hI F00 (by omega) (Or.inr (Or.inl ⟨by omega, by omega, by omega⟩)))
      · replace c17 := (h_lcr hz16).2.2.1 c17
        clear hz16
        refine h_iconst (pc' := 14) (x := (Int32.ofInt 1)) rfl rfl rfl ?_
        refine h_goto (pc' := 18) rfl rfl ?_
        refine h_zret rfl rfl ci_1 (by omega) (h_Kv ?_)
        refine h_zne (tg := 49) (pc' := 46) rfl rfl rfl ci_1 (fun c19 => ?_) (fun c19 => absurd c19 (by omega))
        refine h_aload_n (pc' := 50) rfl rfl rfl ?_
        refine h_getR (pc' := 53) rfl rfl rfl rfl rfl ?_
        refine h_bipush (pc' := 55) (x := (Int32.ofInt 40)) rfl rfl cb_40 ?_
        refine h_iload_n (pc' := 56) rfl rfl rfl ?_
        refine h_imul (pc' := 57) (c := 120) rfl rfl ci_40 ci_3 rfl (by omega) (by omega) (fun z20 hz20 => ?_)
        refine h_iload_n (pc' := 58) rfl rfl rfl ?_
        refine h_iadd (pc' := 59) rfl rfl hz20 hx1 rfl (by have g0 := h_rgv hx1; omega) (by have g0 := h_rgv hx1; omega) (fun z21 hz21 => ?_)
        refine h_aload_n (pc' := 60) rfl rfl rfl ?_
        refine h_getR (pc' := 63) rfl rfl rfl rfl rfl ?_
        refine h_iload_n (pc' := 64) rfl rfl rfl ?_
        refine h_iald (pc' := 65) (v := σ 111 3) rfl rfl rfl ci_3 (by omega) (by omega) rfl (fun z22 hz22 => ?_)
        have tz22 := ty_111 hI 3
        refine h_zne (tg := 78) (pc' := 68) rfl rfl rfl hz22 (fun c23 => ?_) (fun c23 => ?_)
        · refine h_aload_n (pc' := 79) rfl rfl rfl ?_
          refine h_getR (pc' := 82) rfl rfl rfl rfl rfl ?_
          refine h_iload_n (pc' := 83) rfl rfl rfl ?_
          refine h_iald (pc' := 84) (v := σ 111 3) rfl rfl rfl ci_3 (by omega) (by omega) rfl (fun z24 hz24 => ?_)
          have tz24 := ty_111 hI 3
          refine h_iconst (pc' := 85) (x := (Int32.ofInt 1)) rfl rfl rfl ?_
          refine h_cne (tg := 98) (pc' := 88) rfl rfl rfl hz24 ci_1 (fun c25 => ?_) (fun c25 => ?_)
          · refine h_iload_n (pc' := 99) rfl rfl rfl ?_
            refine h_iast (pc' := 100) rfl rfl rfl rfl hz21 (by omega) (by omega) hx2 (h_fgt (E := fun s => s 95 0 = σ 95 0 ∧ s 95 1 = σ 95 1 ∧ s 95 2 = σ 95 2 ∧ s 95 3 = σ 95 3 ∧ s 96 0 = σ 96 0 ∧ s 96 1 = σ 96 1 ∧ s 96 2 = σ 96 2 ∧ s 96 3 = σ 96 3 ∧ s 111 0 = σ 111 0 ∧ s 111 1 = σ 111 1 ∧ s 111 2 = σ 111 2 ∧ s 111 3 = σ 111 3 ∧ s 112 0 = σ 112 0 ∧ s 112 1 = σ 112 1 ∧ s 112 2 = σ 112 2 ∧ s 112 3 = σ 112 3) _ (in_113 hI (h_rgv hx2)) (F00.up rfl) ⟨rfl, rfl, rfl, rfl, rfl, rfl, rfl, rfl, rfl, rfl, rfl, rfl, rfl, rfl, rfl, rfl⟩ (fun s26 Is26 Fs26 (es26 : s26 95 0 = σ 95 0 ∧ s26 95 1 = σ 95 1 ∧ s26 95 2 = σ 95 2 ∧ s26 95 3 = σ 95 3 ∧ s26 96 0 = σ 96 0 ∧ s26 96 1 = σ 96 1 ∧ s26 96 2 = σ 96 2 ∧ s26 96 3 = σ 96 3 ∧ s26 111 0 = σ 111 0 ∧ s26 111 1 = σ 111 1 ∧ s26 111 2 = σ 111 2 ∧ s26 111 3 = σ 111 3 ∧ s26 112 0 = σ 112 0 ∧ s26 112 1 = σ 112 1 ∧ s26 112 2 = σ 112 2 ∧ s26 112 3 = σ 112 3) => ?_))
            refine h_iconst (pc' := 101) (x := (Int32.ofInt 1)) rfl rfl rfl ?_
            exact h_iret rfl rfl (kk _ _ ci_1 _ Is26 Fs26 (by omega) (Or.inr (Or.inr ⟨by omega, by omega, by omega⟩)))
          · refine h_iload_n (pc' := 89) rfl rfl rfl ?_
            refine h_bipush (pc' := 91) (x := (Int32.ofInt 16)) rfl rfl cb_16 ?_
            refine h_ishl (pc' := 92) rfl rfl (fun z27 hz27 => ?_)
            refine h_bipush (pc' := 94) (x := (Int32.ofInt 16)) rfl rfl cb_16 ?_
            refine h_ishr (pc' := 95) rfl rfl (fun z28 hz28 => ?_)
            refine h_goto (pc' := 99) rfl rfl ?_
            refine h_iast (pc' := 100) rfl rfl rfl rfl hz21 (by omega) (by omega) rfl (h_fgt (E := fun s => s 95 0 = σ 95 0 ∧ s 95 1 = σ 95 1 ∧ s 95 2 = σ 95 2 ∧ s 95 3 = σ 95 3 ∧ s 96 0 = σ 96 0 ∧ s 96 1 = σ 96 1 ∧ s 96 2 = σ 96 2 ∧ s 96 3 = σ 96 3 ∧ s 111 0 = σ 111 0 ∧ s 111 1 = σ 111 1 ∧ s 111 2 = σ 111 2 ∧ s 111 3 = σ 111 3 ∧ s 112 0 = σ 112 0 ∧ s 112 1 = σ 112 1 ∧ s 112 2 = σ 112 2 ∧ s 112 3 = σ 112 3) _ (in_113 hI (h_rgv rfl)) (F00.up rfl) ⟨rfl, rfl, rfl, rfl, rfl, rfl, rfl, rfl, rfl, rfl, rfl, rfl, rfl, rfl, rfl, rfl⟩ (fun s29 Is29 Fs29 (es29 : s29 95 0 = σ 95 0 ∧ s29 95 1 = σ 95 1 ∧ s29 95 2 = σ 95 2 ∧ s29 95 3 = σ 95 3 ∧ s29 96 0 = σ 96 0 ∧ s29 96 1 = σ 96 1 ∧ s29 96 2 = σ 96 2 ∧ s29 96 3 = σ 96 3 ∧ s29 111 0 = σ 111 0 ∧ s29 111 1 = σ 111 1 ∧ s29 111 2 = σ 111 2 ∧ s29 111 3 = σ 111 3 ∧ s29 112 0 = σ 112 0 ∧ s29 112 1 = σ 112 1 ∧ s29 112 2 = σ 112 2 ∧ s29 112 3 = σ 112 3) => ?_))
            refine h_iconst (pc' := 101) (x := (Int32.ofInt 1)) rfl rfl rfl ?_
            exact h_iret rfl rfl (kk _ _ ci_1 _ Is29 Fs29 (by omega) (Or.inr (Or.inr ⟨by omega, by omega, by omega⟩)))
        · refine h_iload_n (pc' := 69) rfl rfl rfl ?_
          refine h_bipush (pc' := 71) (x := (Int32.ofInt 24)) rfl rfl cb_24 ?_
          refine h_ishl (pc' := 72) rfl rfl (fun z30 hz30 => ?_)
          refine h_bipush (pc' := 74) (x := (Int32.ofInt 24)) rfl rfl cb_24 ?_
          refine h_ishr (pc' := 75) rfl rfl (fun z31 hz31 => ?_)
          refine h_goto (pc' := 99) rfl rfl ?_
          refine h_iast (pc' := 100) rfl rfl rfl rfl hz21 (by omega) (by omega) rfl (h_fgt (E := fun s => s 95 0 = σ 95 0 ∧ s 95 1 = σ 95 1 ∧ s 95 2 = σ 95 2 ∧ s 95 3 = σ 95 3 ∧ s 96 0 = σ 96 0 ∧ s 96 1 = σ 96 1 ∧ s 96 2 = σ 96 2 ∧ s 96 3 = σ 96 3 ∧ s 111 0 = σ 111 0 ∧ s 111 1 = σ 111 1 ∧ s 111 2 = σ 111 2 ∧ s 111 3 = σ 111 3 ∧ s 112 0 = σ 112 0 ∧ s 112 1 = σ 112 1 ∧ s 112 2 = σ 112 2 ∧ s 112 3 = σ 112 3) _ (in_113 hI (h_rgv rfl)) (F00.up rfl) ⟨rfl, rfl, rfl, rfl, rfl, rfl, rfl, rfl, rfl, rfl, rfl, rfl, rfl, rfl, rfl, rfl⟩ (fun s32 Is32 Fs32 (es32 : s32 95 0 = σ 95 0 ∧ s32 95 1 = σ 95 1 ∧ s32 95 2 = σ 95 2 ∧ s32 95 3 = σ 95 3 ∧ s32 96 0 = σ 96 0 ∧ s32 96 1 = σ 96 1 ∧ s32 96 2 = σ 96 2 ∧ s32 96 3 = σ 96 3 ∧ s32 111 0 = σ 111 0 ∧ s32 111 1 = σ 111 1 ∧ s32 111 2 = σ 111 2 ∧ s32 111 3 = σ 111 3 ∧ s32 112 0 = σ 112 0 ∧ s32 112 1 = σ 112 1 ∧ s32 112 2 = σ 112 2 ∧ s32 112 3 = σ 112 3) => ?_))
          refine h_iconst (pc' := 101) (x := (Int32.ofInt 1)) rfl rfl rfl ?_
          exact h_iret rfl rfl (kk _ _ ci_1 _ Is32 Fs32 (by omega) (Or.inr (Or.inr ⟨by omega, by omega, by omega⟩)))
  · refine h_bipush (pc' := 27) (x := (Int32.ofInt (-11))) rfl rfl cb_m11 ?_
    exact h_iret rfl rfl (kk _ _ ci_m11 _ hI F00 (by omega) (Or.inl ⟨by omega, by omega⟩))
set_option maxHeartbeats 100000000 in
theorem u_layMn {ns : Nat} (σ : h_S) (hI : h_I σ) (x0 : Int32) (a0 : Int) (hx0 : x0.toInt = a0) (ra0 : -2147483648 ≤ a0 ∧ a0 ≤ -1) (x1 : Int32) (a1 : Int) (hx1 : x1.toInt = a1) (x2 : Int32) (a2 : Int) (hx2 : x2.toInt = a2) {Q : Option Value → h_S → Prop} (kk : ∀ (r : Int32) (b : Int) (hb : r.toInt = b) (τ : h_S), h_I τ → h_F k_sc τ σ → ((-1) ≤ b ∧ b ≤ (-1)) → (((b = (-1)))) → Q (some (.int r)) τ) : h_T g_P (g_Y ns) 221 0 [(0, .ref 98), (1, .int x0), (2, .int x1), (3, .int x2)] [] σ Q := by
  have F00 : h_F k_sc σ σ := h_F.rf
  refine h_iload_n (pc' := 1) rfl rfl rfl ?_
  refine h_i2l (pc' := 2) rfl rfl hx0 (fun z1 hz1 => ?_)
  refine h_lconst (pc' := 3) (x := (Int64.ofInt 0)) rfl rfl rfl ?_
  refine h_ldc2 (pc' := 6) (x := (Int64.ofInt 3)) rfl rfl rfl ?_
  refine h_calls (pc' := 9) (M := [(0, .long z1), (2, .long (Int64.ofInt 0)), (4, .long (Int64.ofInt 3))]) rfl rfl rfl rfl rfl rfl ?_
  refine h_lload_n (pc' := 1) rfl rfl rfl ?_
  refine h_lload_n (pc' := 2) rfl rfl rfl ?_
  refine h_lcmp (pc' := 3) rfl rfl hz1 cl_0 (fun z2 hz2 => ?_)
  refine h_zlt (tg := 17) (pc' := 6) rfl rfl rfl rfl (fun c3 => ?_) (fun c3 => absurd c3 (by omega))
  replace c3 := (h_lcr hz2).1 c3
  clear hz2
  refine h_iconst (pc' := 18) (x := (Int32.ofInt 0)) rfl rfl rfl ?_
  refine h_zret rfl rfl ci_0 (by omega) (h_Kv ?_)
  refine h_zne (tg := 14) (pc' := 12) rfl rfl rfl ci_0 (fun c4 => absurd c4 (by omega)) (fun c4 => ?_)
  refine h_iconst (pc' := 13) (x := (Int32.ofInt (-1))) rfl rfl rfl ?_
  exact h_iret rfl rfl (kk _ _ ci_m1 _ hI F00 (by omega) (by omega))
set_option maxHeartbeats 100000000 in
theorem u_layMp {ns : Nat} (σ : h_S) (hI : h_I σ) (x0 : Int32) (a0 : Int) (hx0 : x0.toInt = a0) (ra0 : 4 ≤ a0 ∧ a0 ≤ 2147483647) (x1 : Int32) (a1 : Int) (hx1 : x1.toInt = a1) (x2 : Int32) (a2 : Int) (hx2 : x2.toInt = a2) {Q : Option Value → h_S → Prop} (kk : ∀ (r : Int32) (b : Int) (hb : r.toInt = b) (τ : h_S), h_I τ → h_F k_sc τ σ → ((-1) ≤ b ∧ b ≤ (-1)) → (((b = (-1)))) → Q (some (.int r)) τ) : h_T g_P (g_Y ns) 221 0 [(0, .ref 98), (1, .int x0), (2, .int x1), (3, .int x2)] [] σ Q := by
  have F00 : h_F k_sc σ σ := h_F.rf
  refine h_iload_n (pc' := 1) rfl rfl rfl ?_
  refine h_i2l (pc' := 2) rfl rfl hx0 (fun z1 hz1 => ?_)
  refine h_lconst (pc' := 3) (x := (Int64.ofInt 0)) rfl rfl rfl ?_
  refine h_ldc2 (pc' := 6) (x := (Int64.ofInt 3)) rfl rfl rfl ?_
  refine h_calls (pc' := 9) (M := [(0, .long z1), (2, .long (Int64.ofInt 0)), (4, .long (Int64.ofInt 3))]) rfl rfl rfl rfl rfl rfl ?_
  refine h_lload_n (pc' := 1) rfl rfl rfl ?_
  refine h_lload_n (pc' := 2) rfl rfl rfl ?_
  refine h_lcmp (pc' := 3) rfl rfl hz1 cl_0 (fun z2 hz2 => ?_)
  refine h_zlt (tg := 17) (pc' := 6) rfl rfl rfl rfl (fun c3 => absurd c3 (by omega)) (fun c3 => ?_)
  replace c3 := (h_lcr hz2).2.1 c3
  clear hz2
  refine h_lload_n (pc' := 7) rfl rfl rfl ?_
  refine h_lload (pc' := 9) rfl rfl rfl ?_
  refine h_lcmp (pc' := 10) rfl rfl hz1 cl_3 (fun z4 hz4 => ?_)
  refine h_zgt (tg := 17) (pc' := 13) rfl rfl rfl rfl (fun c5 => ?_) (fun c5 => absurd c5 (by omega))
  replace c5 := (h_lcr hz4).2.2.2.1 c5
  clear hz4
  refine h_iconst (pc' := 18) (x := (Int32.ofInt 0)) rfl rfl rfl ?_
  refine h_zret rfl rfl ci_0 (by omega) (h_Kv ?_)
  refine h_zne (tg := 14) (pc' := 12) rfl rfl rfl ci_0 (fun c6 => absurd c6 (by omega)) (fun c6 => ?_)
  refine h_iconst (pc' := 13) (x := (Int32.ofInt (-1))) rfl rfl rfl ?_
  exact h_iret rfl rfl (kk _ _ ci_m1 _ hI F00 (by omega) (by omega))
