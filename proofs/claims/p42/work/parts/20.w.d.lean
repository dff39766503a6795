def kf_w_159_98 : List Nat := []
theorem w_159_98_l (ns : Nat) (σ : h_S) (hI : h_I σ) {Q : Option Value → h_S → Prop} (kk : ∀ (r : Int32) (b : Int) (hb : r.toInt = b) (τ : h_S), h_I τ → h_F (k_in kf_w_159_98) τ σ → Q (some (.int r)) τ) : ∀ n : Nat, (∀ (s0 : h_S), h_I s0 → h_F (k_in kf_w_159_98) s0 σ → ∀ (y1 : Int32) (b1 : Int), y1.toInt = b1 → ∀ (y2 : Int32) (b2 : Int), y2.toInt = b2 → (0 ≤ b2 ∧ b2 ≤ 3) → (3 + 1 - b2) * 1000000 + 1000000000 ≤ (n : Int) → h_T g_P (g_Y ns) 159 4 [(0, .ref 98), (1, .int y1), (2, .int y2)] [] s0 Q) := by
  intro n
  induction n with
  | zero => exact by intro s0 I0 F0_ y1 b1 hy1 y2 b2 hy2 ry2 hm; exfalso; omega
  | succ n ih =>
    intro s0 I0 F0_ y1 b1 hy1 y2 b2 hy2 ry2 hm
    refine h_iload_n (pc' := 5) rfl rfl rfl ?_
    refine h_aload_n (pc' := 6) rfl rfl rfl ?_
    refine h_getI (pc' := 9) (v := σ 98 2) rfl rfl rfl rfl rfl (F0_ 98 2 rfl) (fun z1 hz1 => ?_)
    have tz1 := tf_98_2 hI
    refine h_cge (tg := 30) (pc' := 12) rfl rfl rfl hy2 hz1 (fun c2 => ?_) (fun c2 => ?_)
    · refine h_iload_n (pc' := 31) rfl rfl rfl ?_
      exact h_iret rfl rfl (kk _ _ hy1 _ I0 F0_)
    · refine h_iload_n (pc' := 13) rfl rfl rfl ?_
      refine h_aload_n (pc' := 14) rfl rfl rfl ?_
      refine h_getR (pc' := 17) rfl rfl rfl rfl rfl ?_
      refine h_bipush (pc' := 19) (x := (Int32.ofInt 32)) rfl rfl cb_32 ?_
      refine h_iload_n (pc' := 20) rfl rfl rfl ?_
      refine h_iadd (pc' := 21) rfl rfl ci_32 hy2 rfl (by omega) (by omega) (fun z3 hz3 => ?_)
      refine h_iald (pc' := 22) (v := σ 99 (32 + b2)) rfl rfl rfl hz3 (by omega) (by omega) (F0_ 99 _ rfl) (fun z4 hz4 => ?_)
      have tz4 := ty_99_8 hI (32 + b2) (by omega)
      refine h_iaddA (pc' := 23) rfl rfl (fun z5 hz5 => ?_)
      refine h_istore_n (pc' := 24) (M := [(1, .int z5), (0, .ref 98), (2, .int y2)]) rfl rfl rfl rfl ?_
      refine h_iinc (pc' := 27) (M := fun z6 => [(2, .int z6), (1, .int z5), (0, .ref 98)]) rfl rfl rfl rfl hy2 ci_1 rfl (by omega) (by omega) (fun _ => rfl) (fun z6 hz6 => ?_)
      refine h_goto (pc' := 4) rfl rfl ?_
      exact h_wk [(0, .ref 98), (1, .int z5), (2, .int z6)] ⟨rfl, rfl, rfl, trivial⟩ (ih _ I0 F0_ z5 _ rfl z6 _ hz6 (by omega) (by omega))
theorem w_159_98 {ns : Nat} (σ : h_S) (hI : h_I σ) {Q : Option Value → h_S → Prop} (kk : ∀ (r : Int32) (b : Int) (hb : r.toInt = b) (τ : h_S), h_I τ → h_F (k_in kf_w_159_98) τ σ → Q (some (.int r)) τ) : h_T g_P (g_Y ns) 159 0 [(0, .ref 98)] [] σ Q := by
  have F00 : h_F (k_in kf_w_159_98) σ σ := h_F.rf
  refine h_iconst (pc' := 1) (x := (Int32.ofInt 0)) rfl rfl rfl ?_
  refine h_istore_n (pc' := 2) (M := [(1, .int (Int32.ofInt 0)), (0, .ref 98)]) rfl rfl rfl rfl ?_
  refine h_iconst (pc' := 3) (x := (Int32.ofInt 0)) rfl rfl rfl ?_
  refine h_istore_n (pc' := 4) (M := [(2, .int (Int32.ofInt 0)), (1, .int (Int32.ofInt 0)), (0, .ref 98)]) rfl rfl rfl rfl ?_
  exact h_wk [(0, .ref 98), (1, .int (Int32.ofInt 0)), (2, .int (Int32.ofInt 0))] ⟨rfl, rfl, rfl, trivial⟩ ((w_159_98_l ns σ hI  kk 1000000000000) _ hI F00 (Int32.ofInt 0) _ ci_0 (Int32.ofInt 0) _ ci_0 (by omega) (by omega))
def kf_w_161_98 : List Nat := [108543]
theorem w_161_98 {ns : Nat} (σ : h_S) (hI : h_I σ) (x0 : Int32) (a0 : Int) (hx0 : x0.toInt = a0) (ra0 : 0 ≤ a0 ∧ a0 ≤ 5) (x1 : Int32) (a1 : Int) (hx1 : x1.toInt = a1) (ra1 : 0 ≤ a1 ∧ a1 ≤ 5) (x2 : Int32) (a2 : Int) (hx2 : x2.toInt = a2) (ra2 : 0 ≤ a2 ∧ a2 ≤ 4) {Q : Option Value → h_S → Prop} (kk : ∀ (τ : h_S), h_I τ → h_F (k_in kf_w_161_98) τ σ → Q none τ) : h_T g_P (g_Y ns) 161 0 [(0, .ref 98), (1, .int x0), (2, .int x1), (3, .int x2)] [] σ Q := by
  have F00 : h_F (k_in kf_w_161_98) σ σ := h_F.rf
  refine h_aload_n (pc' := 1) rfl rfl rfl ?_
  refine h_getR (pc' := 4) rfl rfl rfl rfl rfl ?_
  refine h_bipush (pc' := 6) (x := (Int32.ofInt 6)) rfl rfl cb_6 ?_
  refine h_iload_n (pc' := 7) rfl rfl rfl ?_
  refine h_imul (pc' := 8) rfl rfl ci_6 hx0 rfl (by omega) (by omega) (fun z1 hz1 => ?_)
  refine h_iload_n (pc' := 9) rfl rfl rfl ?_
  refine h_iadd (pc' := 10) rfl rfl hz1 hx1 rfl (by omega) (by omega) (fun z2 hz2 => ?_)
  refine h_iload_n (pc' := 11) rfl rfl rfl ?_
  refine h_aload_n (pc' := 12) rfl rfl rfl ?_
  refine h_getR (pc' := 15) rfl rfl rfl rfl rfl ?_
  refine h_bipush (pc' := 17) (x := (Int32.ofInt 6)) rfl rfl cb_6 ?_
  refine h_iload_n (pc' := 18) rfl rfl rfl ?_
  refine h_imul (pc' := 19) rfl rfl ci_6 hx0 rfl (by omega) (by omega) (fun z3 hz3 => ?_)
  refine h_iload_n (pc' := 20) rfl rfl rfl ?_
  refine h_iadd (pc' := 21) rfl rfl hz3 hx1 rfl (by omega) (by omega) (fun z4 hz4 => ?_)
  refine h_iald (pc' := 22) (v := σ 105 ((6 * a0) + a1)) rfl rfl rfl hz4 (by omega) (by omega) rfl (fun z5 hz5 => ?_)
  have tz5 := ty_105 hI ((6 * a0) + a1)
  refine h_cge (tg := 29) (pc' := 25) rfl rfl rfl hx2 hz5 (fun c6 => ?_) (fun c6 => ?_)
  · refine h_aload_n (pc' := 30) rfl rfl rfl ?_
    refine h_getR (pc' := 33) rfl rfl rfl rfl rfl ?_
    refine h_bipush (pc' := 35) (x := (Int32.ofInt 6)) rfl rfl cb_6 ?_
    refine h_iload_n (pc' := 36) rfl rfl rfl ?_
    refine h_imul (pc' := 37) rfl rfl ci_6 hx0 rfl (by omega) (by omega) (fun z7 hz7 => ?_)
    refine h_iload_n (pc' := 38) rfl rfl rfl ?_
    refine h_iadd (pc' := 39) rfl rfl hz7 hx1 rfl (by omega) (by omega) (fun z8 hz8 => ?_)
    refine h_iald (pc' := 40) (v := σ 105 ((6 * a0) + a1)) rfl rfl rfl hz8 (by omega) (by omega) rfl (fun z9 hz9 => ?_)
    have tz9 := ty_105 hI ((6 * a0) + a1)
    refine h_iast (pc' := 41) rfl rfl rfl rfl hz2 (by omega) (by omega) hz9 (h_fg _ (in_105 hI (by omega)) (F00.up rfl) (fun s10 Is10 Fs10 => ?_))
    refine h_aload_n (pc' := 42) rfl rfl rfl ?_
    refine h_getR (pc' := 45) rfl rfl rfl rfl rfl ?_
    refine h_bipush (pc' := 47) (x := (Int32.ofInt 6)) rfl rfl cb_6 ?_
    refine h_iload_n (pc' := 48) rfl rfl rfl ?_
    refine h_imul (pc' := 49) rfl rfl ci_6 hx1 rfl (by omega) (by omega) (fun z11 hz11 => ?_)
    refine h_iload_n (pc' := 50) rfl rfl rfl ?_
    refine h_iadd (pc' := 51) rfl rfl hz11 hx0 rfl (by omega) (by omega) (fun z12 hz12 => ?_)
    refine h_iload_n (pc' := 52) rfl rfl rfl ?_
    refine h_aload_n (pc' := 53) rfl rfl rfl ?_
    refine h_getR (pc' := 56) rfl rfl rfl rfl rfl ?_
    refine h_bipush (pc' := 58) (x := (Int32.ofInt 6)) rfl rfl cb_6 ?_
    refine h_iload_n (pc' := 59) rfl rfl rfl ?_
    refine h_imul (pc' := 60) rfl rfl ci_6 hx1 rfl (by omega) (by omega) (fun z13 hz13 => ?_)
    refine h_iload_n (pc' := 61) rfl rfl rfl ?_
    refine h_iadd (pc' := 62) rfl rfl hz13 hx0 rfl (by omega) (by omega) (fun z14 hz14 => ?_)
    refine h_iald (pc' := 63) (v := s10 105 ((6 * a1) + a0)) rfl rfl rfl hz14 (by omega) (by omega) rfl (fun z15 hz15 => ?_)
    have tz15 := ty_105 Is10 ((6 * a1) + a0)
    refine h_cge (tg := 70) (pc' := 66) rfl rfl rfl hx2 hz15 (fun c16 => ?_) (fun c16 => ?_)
    · refine h_aload_n (pc' := 71) rfl rfl rfl ?_
      refine h_getR (pc' := 74) rfl rfl rfl rfl rfl ?_
      refine h_bipush (pc' := 76) (x := (Int32.ofInt 6)) rfl rfl cb_6 ?_
      refine h_iload_n (pc' := 77) rfl rfl rfl ?_
      refine h_imul (pc' := 78) rfl rfl ci_6 hx1 rfl (by omega) (by omega) (fun z17 hz17 => ?_)
      refine h_iload_n (pc' := 79) rfl rfl rfl ?_
      refine h_iadd (pc' := 80) rfl rfl hz17 hx0 rfl (by omega) (by omega) (fun z18 hz18 => ?_)
      refine h_iald (pc' := 81) (v := s10 105 ((6 * a1) + a0)) rfl rfl rfl hz18 (by omega) (by omega) rfl (fun z19 hz19 => ?_)
      have tz19 := ty_105 Is10 ((6 * a1) + a0)
      refine h_iast (pc' := 82) rfl rfl rfl rfl hz12 (by omega) (by omega) hz19 (h_fg _ (in_105 Is10 (by omega)) (Fs10.up rfl) (fun s20 Is20 Fs20 => ?_))
      exact h_vret rfl rfl (kk _ Is20 Fs20)
    · refine h_iload_n (pc' := 67) rfl rfl rfl ?_
      refine h_goto (pc' := 81) rfl rfl ?_
      refine h_iast (pc' := 82) rfl rfl rfl rfl hz12 (by omega) (by omega) hx2 (h_fg _ (in_105 Is10 (by omega)) (Fs10.up rfl) (fun s21 Is21 Fs21 => ?_))
      exact h_vret rfl rfl (kk _ Is21 Fs21)
  · refine h_iload_n (pc' := 26) rfl rfl rfl ?_
    refine h_goto (pc' := 40) rfl rfl ?_
    refine h_iast (pc' := 41) rfl rfl rfl rfl hz2 (by omega) (by omega) hx2 (h_fg _ (in_105 hI (by omega)) (F00.up rfl) (fun s22 Is22 Fs22 => ?_))
    refine h_aload_n (pc' := 42) rfl rfl rfl ?_
    refine h_getR (pc' := 45) rfl rfl rfl rfl rfl ?_
    refine h_bipush (pc' := 47) (x := (Int32.ofInt 6)) rfl rfl cb_6 ?_
    refine h_iload_n (pc' := 48) rfl rfl rfl ?_
    refine h_imul (pc' := 49) rfl rfl ci_6 hx1 rfl (by omega) (by omega) (fun z23 hz23 => ?_)
    refine h_iload_n (pc' := 50) rfl rfl rfl ?_
    refine h_iadd (pc' := 51) rfl rfl hz23 hx0 rfl (by omega) (by omega) (fun z24 hz24 => ?_)
    refine h_iload_n (pc' := 52) rfl rfl rfl ?_
    refine h_aload_n (pc' := 53) rfl rfl rfl ?_
    refine h_getR (pc' := 56) rfl rfl rfl rfl rfl ?_
    refine h_bipush (pc' := 58) (x := (Int32.ofInt 6)) rfl rfl cb_6 ?_
    refine h_iload_n (pc' := 59) rfl rfl rfl ?_
    refine h_imul (pc' := 60) rfl rfl ci_6 hx1 rfl (by omega) (by omega) (fun z25 hz25 => ?_)
    refine h_iload_n (pc' := 61) rfl rfl rfl ?_
    refine h_iadd (pc' := 62) rfl rfl hz25 hx0 rfl (by omega) (by omega) (fun z26 hz26 => ?_)
    refine h_iald (pc' := 63) (v := s22 105 ((6 * a1) + a0)) rfl rfl rfl hz26 (by omega) (by omega) rfl (fun z27 hz27 => ?_)
    have tz27 := ty_105 Is22 ((6 * a1) + a0)
    refine h_cge (tg := 70) (pc' := 66) rfl rfl rfl hx2 hz27 (fun c28 => ?_) (fun c28 => ?_)
    · refine h_aload_n (pc' := 71) rfl rfl rfl ?_
      refine h_getR (pc' := 74) rfl rfl rfl rfl rfl ?_
      refine h_bipush (pc' := 76) (x := (Int32.ofInt 6)) rfl rfl cb_6 ?_
      refine h_iload_n (pc' := 77) rfl rfl rfl ?_
      refine h_imul (pc' := 78) rfl rfl ci_6 hx1 rfl (by omega) (by omega) (fun z29 hz29 => ?_)
      refine h_iload_n (pc' := 79) rfl rfl rfl ?_
      refine h_iadd (pc' := 80) rfl rfl hz29 hx0 rfl (by omega) (by omega) (fun z30 hz30 => ?_)
      refine h_iald (pc' := 81) (v := s22 105 ((6 * a1) + a0)) rfl rfl rfl hz30 (by omega) (by omega) rfl (fun z31 hz31 => ?_)
      have tz31 := ty_105 Is22 ((6 * a1) + a0)
      refine h_iast (pc' := 82) rfl rfl rfl rfl hz24 (by omega) (by omega) hz31 (h_fg _ (in_105 Is22 (by omega)) (Fs22.up rfl) (fun s32 Is32 Fs32 => ?_))
      exact h_vret rfl rfl (kk _ Is32 Fs32)
    · refine h_iload_n (pc' := 67) rfl rfl rfl ?_
      refine h_goto (pc' := 81) rfl rfl ?_
      refine h_iast (pc' := 82) rfl rfl rfl rfl hz24 (by omega) (by omega) hx2 (h_fg _ (in_105 Is22 (by omega)) (Fs22.up rfl) (fun s33 Is33 Fs33 => ?_))
      exact h_vret rfl rfl (kk _ Is33 Fs33)
def kf_w_162_98 : List Nat := [108543]
theorem w_162_98_l (ns : Nat) (σ : h_S) (hI : h_I σ) (x0 : Int32) (a0 : Int) (hx0 : x0.toInt = a0) (ra0 : 0 ≤ a0 ∧ a0 ≤ 176 ∧ a0 % 44 = 0) {Q : Option Value → h_S → Prop} (kk : ∀ (τ : h_S), h_I τ → h_F (k_in kf_w_162_98) τ σ → Q none τ) : ∀ n : Nat, (∀ (s0 : h_S), h_I s0 → h_F (k_in kf_w_162_98) s0 σ → ∀ (y2 : Int32) (b2 : Int), y2.toInt = b2 → (0 ≤ b2 ∧ b2 ≤ 36) → (36 + 1 - b2) * 1000000 + 4000000000 ≤ (n : Int) → h_T g_P (g_Y ns) 162 2 [(0, .ref 98), (1, .int x0), (2, .int y2)] [] s0 Q) ∧ (∀ (s0 : h_S), h_I s0 → h_F (k_in kf_w_162_98) s0 σ → ∀ (y2 : Int32) (b2 : Int), y2.toInt = b2 → (0 ≤ b2 ∧ b2 ≤ 6) → (6 + 1 - b2) * 1000000 + 3000000000 ≤ (n : Int) → h_T g_P (g_Y ns) 162 39 [(0, .ref 98), (1, .int x0), (2, .int y2)] [] s0 Q) ∧ (∀ (s0 : h_S), h_I s0 → h_F (k_in kf_w_162_98) s0 σ → ∀ (y2 : Int32) (b2 : Int), y2.toInt = b2 → (0 ≤ b2 ∧ b2 ≤ 3) → (3 + 1 - b2) * 1000000 + 2000000000 ≤ (n : Int) → h_T g_P (g_Y ns) 162 100 [(0, .ref 98), (1, .int x0), (2, .int y2)] [] s0 Q) ∧ (∀ (s0 : h_S), h_I s0 → h_F (k_in kf_w_162_98) s0 σ → ∀ (y2 : Int32) (b2 : Int), y2.toInt = b2 → (0 ≤ b2 ∧ b2 ≤ 6) → (6 + 1 - b2) * 1000000 + 1000000000 ≤ (n : Int) → h_T g_P (g_Y ns) 162 157 [(0, .ref 98), (1, .int x0), (2, .int y2)] [] s0 Q) ∧ (∀ (s0 : h_S), h_I s0 → h_F (k_in kf_w_162_98) s0 σ → ∀ (y2 : Int32) (b2 : Int), y2.toInt = b2 → (0 ≤ b2 ∧ b2 ≤ 5) → ∀ (y3 : Int32) (b3 : Int), y3.toInt = b3 → (0 ≤ b3 ∧ b3 ≤ 36) → ((6 + 1 - b2) - 1) * 1000000 + 1000000000 + (36 + 1 - b3) * 1000 + 100000 ≤ (n : Int) → h_T g_P (g_Y ns) 162 167 [(0, .ref 98), (1, .int x0), (2, .int y2), (3, .int y3)] [] s0 Q) := by
  intro n
  induction n with
  | zero => exact ⟨by intro s0 I0 F0_ y2 b2 hy2 ry2 hm; exfalso; omega, by intro s0 I0 F0_ y2 b2 hy2 ry2 hm; exfalso; omega, by intro s0 I0 F0_ y2 b2 hy2 ry2 hm; exfalso; omega, by intro s0 I0 F0_ y2 b2 hy2 ry2 hm; exfalso; omega, by intro s0 I0 F0_ y2 b2 hy2 ry2 y3 b3 hy3 ry3 hm; exfalso; omega⟩
  | succ n ih =>
    refine ⟨?_, ?_, ?_, ?_, ?_⟩
    · intro s0 I0 F0_ y2 b2 hy2 ry2 hm
      refine h_iload_n (pc' := 3) rfl rfl rfl ?_
      refine h_bipush (pc' := 5) (x := (Int32.ofInt 36)) rfl rfl cb_36 ?_
      refine h_cge (tg := 37) (pc' := 8) rfl rfl rfl hy2 ci_36 (fun c1 => ?_) (fun c1 => ?_)
      · refine h_iconst (pc' := 38) (x := (Int32.ofInt 0)) rfl rfl rfl ?_
        refine h_istore_n (pc' := 39) (M := [(2, .int (Int32.ofInt 0)), (0, .ref 98), (1, .int x0)]) rfl rfl rfl rfl ?_
        exact h_wk [(0, .ref 98), (1, .int x0), (2, .int (Int32.ofInt 0))] ⟨rfl, rfl, rfl, trivial⟩ (ih.2.1 _ I0 F0_ (Int32.ofInt 0) _ ci_0 (by omega) (by omega))
      · refine h_aload_n (pc' := 9) rfl rfl rfl ?_
        refine h_getR (pc' := 12) rfl rfl rfl rfl rfl ?_
        refine h_iload_n (pc' := 13) rfl rfl rfl ?_
        refine h_iload_n (pc' := 14) rfl rfl rfl ?_
        refine h_bipush (pc' := 16) (x := (Int32.ofInt 6)) rfl rfl cb_6 ?_
        refine h_idiv (pc' := 17) rfl rfl hy2 ci_6 (by omega) (by omega) (fun z2 hz2 => ?_)
        refine h_iload_n (pc' := 18) rfl rfl rfl ?_
        refine h_bipush (pc' := 20) (x := (Int32.ofInt 6)) rfl rfl cb_6 ?_
        refine h_irem (pc' := 21) rfl rfl hy2 ci_6 (by omega) (by omega) (fun z3 hz3 => ?_)
        refine h_cne (tg := 28) (pc' := 24) rfl rfl rfl hz2 hz3 (fun c4 => ?_) (fun c4 => ?_)
        · refine h_ldc (pc' := 30) (x := (Int32.ofInt 1000000)) rfl rfl rfl ?_
          refine h_iast (pc' := 31) rfl rfl rfl rfl hy2 (by omega) (by omega) ci_1000000 (h_fg _ (in_105 I0 (by omega)) (F0_.up rfl) (fun s5 Is5 Fs5 => ?_))
          refine h_iinc (pc' := 34) (M := fun z6 => [(2, .int z6), (0, .ref 98), (1, .int x0)]) rfl rfl rfl rfl hy2 ci_1 rfl (by omega) (by omega) (fun _ => rfl) (fun z6 hz6 => ?_)
          refine h_goto (pc' := 2) rfl rfl ?_
          exact h_wk [(0, .ref 98), (1, .int x0), (2, .int z6)] ⟨rfl, rfl, rfl, trivial⟩ (ih.1 _ Is5 Fs5 z6 _ hz6 (by omega) (by omega))
        · refine h_iconst (pc' := 25) (x := (Int32.ofInt 0)) rfl rfl rfl ?_
          refine h_goto (pc' := 30) rfl rfl ?_
          refine h_iast (pc' := 31) rfl rfl rfl rfl hy2 (by omega) (by omega) ci_0 (h_fg _ (in_105 I0 (by omega)) (F0_.up rfl) (fun s7 Is7 Fs7 => ?_))
          refine h_iinc (pc' := 34) (M := fun z8 => [(2, .int z8), (0, .ref 98), (1, .int x0)]) rfl rfl rfl rfl hy2 ci_1 rfl (by omega) (by omega) (fun _ => rfl) (fun z8 hz8 => ?_)
          refine h_goto (pc' := 2) rfl rfl ?_
          exact h_wk [(0, .ref 98), (1, .int x0), (2, .int z8)] ⟨rfl, rfl, rfl, trivial⟩ (ih.1 _ Is7 Fs7 z8 _ hz8 (by omega) (by omega))
    · intro s0 I0 F0_ y2 b2 hy2 ry2 hm
      refine h_iload_n (pc' := 40) rfl rfl rfl ?_
      refine h_aload_n (pc' := 41) rfl rfl rfl ?_
      refine h_getI (pc' := 44) (v := σ 98 1) rfl rfl rfl rfl rfl (F0_ 98 1 rfl) (fun z1 hz1 => ?_)
      have tz1 := tf_98_1 hI
      refine h_cge (tg := 98) (pc' := 47) rfl rfl rfl hy2 hz1 (fun c2 => ?_) (fun c2 => ?_)
      · refine h_iconst (pc' := 99) (x := (Int32.ofInt 0)) rfl rfl rfl ?_
        refine h_istore_n (pc' := 100) (M := [(2, .int (Int32.ofInt 0)), (0, .ref 98), (1, .int x0)]) rfl rfl rfl rfl ?_
        exact h_wk [(0, .ref 98), (1, .int x0), (2, .int (Int32.ofInt 0))] ⟨rfl, rfl, rfl, trivial⟩ (ih.2.2.1 _ I0 F0_ (Int32.ofInt 0) _ ci_0 (by omega) (by omega))
      · refine h_aload_n (pc' := 48) rfl rfl rfl ?_
        refine h_getR (pc' := 51) rfl rfl rfl rfl rfl ?_
        refine h_iload_n (pc' := 52) rfl rfl rfl ?_
        refine h_bipush (pc' := 54) (x := (Int32.ofInt 6)) rfl rfl cb_6 ?_
        refine h_iadd (pc' := 55) rfl rfl hx0 ci_6 rfl (by omega) (by omega) (fun z3 hz3 => ?_)
        refine h_iload_n (pc' := 56) rfl rfl rfl ?_
        refine h_iadd (pc' := 57) rfl rfl hz3 hy2 rfl (by omega) (by omega) (fun z4 hz4 => ?_)
        refine h_iald (pc' := 58) (v := σ 99 ((a0 + 6) + b2)) rfl rfl rfl hz4 (by omega) (by omega) (F0_ 99 _ rfl) (fun z5 hz5 => ?_)
        have tz5 := ty_99_1 hI ((a0 + 6) + b2) (by omega)
        refine h_zle (tg := 92) (pc' := 61) rfl rfl rfl hz5 (fun c6 => ?_) (fun c6 => ?_)
        · refine h_iinc (pc' := 95) (M := fun z7 => [(2, .int z7), (0, .ref 98), (1, .int x0)]) rfl rfl rfl rfl hy2 ci_1 rfl (by omega) (by omega) (fun _ => rfl) (fun z7 hz7 => ?_)
          refine h_goto (pc' := 39) rfl rfl ?_
          exact h_wk [(0, .ref 98), (1, .int x0), (2, .int z7)] ⟨rfl, rfl, rfl, trivial⟩ (ih.2.1 _ I0 F0_ z7 _ hz7 (by omega) (by omega))
        · refine h_aload_n (pc' := 62) rfl rfl rfl ?_
          refine h_iload_n (pc' := 63) rfl rfl rfl ?_
          refine h_aload_n (pc' := 64) rfl rfl rfl ?_
          refine h_getR (pc' := 67) rfl rfl rfl rfl rfl ?_
          refine h_iload_n (pc' := 68) rfl rfl rfl ?_
          refine h_bipush (pc' := 70) (x := (Int32.ofInt 6)) rfl rfl cb_6 ?_
          refine h_iadd (pc' := 71) rfl rfl hx0 ci_6 rfl (by omega) (by omega) (fun z8 hz8 => ?_)
          refine h_iload_n (pc' := 72) rfl rfl rfl ?_
          refine h_iadd (pc' := 73) rfl rfl hz8 hy2 rfl (by omega) (by omega) (fun z9 hz9 => ?_)
          refine h_iald (pc' := 74) (v := σ 99 ((a0 + 6) + b2)) rfl rfl rfl hz9 (by omega) (by omega) (F0_ 99 _ rfl) (fun z10 hz10 => ?_)
          have tz10 := ty_99_1 hI ((a0 + 6) + b2) (by omega)
          refine h_iconst (pc' := 75) (x := (Int32.ofInt 1)) rfl rfl rfl ?_
          refine h_isub (pc' := 76) rfl rfl hz10 ci_1 rfl (by omega) (by omega) (fun z11 hz11 => ?_)
          refine h_aload_n (pc' := 77) rfl rfl rfl ?_
          refine h_getR (pc' := 80) rfl rfl rfl rfl rfl ?_
          refine h_aload_n (pc' := 81) rfl rfl rfl ?_
          refine h_getR (pc' := 84) rfl rfl rfl rfl rfl ?_
          refine h_iload_n (pc' := 85) rfl rfl rfl ?_
          refine h_iload_n (pc' := 86) rfl rfl rfl ?_
          refine h_iadd (pc' := 87) rfl rfl hx0 hy2 rfl (by omega) (by omega) (fun z12 hz12 => ?_)
          refine h_iald (pc' := 88) (v := σ 99 (a0 + b2)) rfl rfl rfl hz12 (by omega) (by omega) (F0_ 99 _ rfl) (fun z13 hz13 => ?_)
          have tz13 := ty_99_0 hI (a0 + b2) (by omega)
          refine h_iald (pc' := 89) (v := σ 100 (σ 99 (a0 + b2))) rfl rfl rfl hz13 (by omega) (by omega) (F0_ 100 _ rfl) (fun z14 hz14 => ?_)
          have tz14 := ty_100 hI (σ 99 (a0 + b2))
          refine h_call (sp := false) (pc' := 92) (M := [(0, .ref 98), (1, .int y2), (2, .int z11), (3, .int z14)]) rfl rfl rfl rfl rfl rfl rfl rfl ?_
          refine w_161_98 _ I0 y2 _ hy2 (by omega) z11 _ hz11 (by omega) z14 _ hz14 (by omega) (fun s16 Is16 Gs16 => h_Kn ?_)
          have Fs16 := (Gs16.mono (B := kf_w_162_98) rfl).tr F0_
          refine h_iinc (pc' := 95) (M := fun z17 => [(2, .int z17), (0, .ref 98), (1, .int x0)]) rfl rfl rfl rfl hy2 ci_1 rfl (by omega) (by omega) (fun _ => rfl) (fun z17 hz17 => ?_)
          refine h_goto (pc' := 39) rfl rfl ?_
          exact h_wk [(0, .ref 98), (1, .int x0), (2, .int z17)] ⟨rfl, rfl, rfl, trivial⟩ (ih.2.1 _ Is16 Fs16 z17 _ hz17 (by omega) (by omega))
    · intro s0 I0 F0_ y2 b2 hy2 ry2 hm
      refine h_iload_n (pc' := 101) rfl rfl rfl ?_
      refine h_aload_n (pc' := 102) rfl rfl rfl ?_
      refine h_getR (pc' := 105) rfl rfl rfl rfl rfl ?_
      refine h_iload_n (pc' := 106) rfl rfl rfl ?_
      refine h_bipush (pc' := 108) (x := (Int32.ofInt 12)) rfl rfl cb_12 ?_
      refine h_iadd (pc' := 109) rfl rfl hx0 ci_12 rfl (by omega) (by omega) (fun z1 hz1 => ?_)
      refine h_bipush (pc' := 111) (x := (Int32.ofInt 6)) rfl rfl cb_6 ?_
      refine h_iadd (pc' := 112) rfl rfl hz1 ci_6 rfl (by omega) (by omega) (fun z2 hz2 => ?_)
      refine h_iald (pc' := 113) (v := σ 99 ((a0 + 12) + 6)) rfl rfl rfl hz2 (by omega) (by omega) (F0_ 99 _ rfl) (fun z3 hz3 => ?_)
      have tz3 := ty_99_3 hI ((a0 + 12) + 6) (by omega)
      refine h_cge (tg := 155) (pc' := 116) rfl rfl rfl hy2 hz3 (fun c4 => ?_) (fun c4 => ?_)
      · refine h_iconst (pc' := 156) (x := (Int32.ofInt 0)) rfl rfl rfl ?_
        refine h_istore_n (pc' := 157) (M := [(2, .int (Int32.ofInt 0)), (0, .ref 98), (1, .int x0)]) rfl rfl rfl rfl ?_
        exact h_wk [(0, .ref 98), (1, .int x0), (2, .int (Int32.ofInt 0))] ⟨rfl, rfl, rfl, trivial⟩ (ih.2.2.2.1 _ I0 F0_ (Int32.ofInt 0) _ ci_0 (by omega) (by omega))
      · refine h_aload_n (pc' := 117) rfl rfl rfl ?_
        refine h_aload_n (pc' := 118) rfl rfl rfl ?_
        refine h_getR (pc' := 121) rfl rfl rfl rfl rfl ?_
        refine h_iload_n (pc' := 122) rfl rfl rfl ?_
        refine h_bipush (pc' := 124) (x := (Int32.ofInt 12)) rfl rfl cb_12 ?_
        refine h_iadd (pc' := 125) rfl rfl hx0 ci_12 rfl (by omega) (by omega) (fun z5 hz5 => ?_)
        refine h_iconst (pc' := 126) (x := (Int32.ofInt 2)) rfl rfl rfl ?_
        refine h_iload_n (pc' := 127) rfl rfl rfl ?_
        refine h_imul (pc' := 128) rfl rfl ci_2 hy2 rfl (by omega) (by omega) (fun z6 hz6 => ?_)
        refine h_iadd (pc' := 129) rfl rfl hz5 hz6 rfl (by omega) (by omega) (fun z7 hz7 => ?_)
        refine h_iald (pc' := 130) (v := σ 99 ((a0 + 12) + (2 * b2))) rfl rfl rfl hz7 (by omega) (by omega) (F0_ 99 _ rfl) (fun z8 hz8 => ?_)
        have tz8 := ty_99_2 hI ((a0 + 12) + (2 * b2)) (by omega)
        refine h_aload_n (pc' := 131) rfl rfl rfl ?_
        refine h_getR (pc' := 134) rfl rfl rfl rfl rfl ?_
        refine h_iload_n (pc' := 135) rfl rfl rfl ?_
        refine h_bipush (pc' := 137) (x := (Int32.ofInt 12)) rfl rfl cb_12 ?_
        refine h_iadd (pc' := 138) rfl rfl hx0 ci_12 rfl (by omega) (by omega) (fun z9 hz9 => ?_)
        refine h_iconst (pc' := 139) (x := (Int32.ofInt 2)) rfl rfl rfl ?_
        refine h_iload_n (pc' := 140) rfl rfl rfl ?_
        refine h_imul (pc' := 141) rfl rfl ci_2 hy2 rfl (by omega) (by omega) (fun z10 hz10 => ?_)
        refine h_iadd (pc' := 142) rfl rfl hz9 hz10 rfl (by omega) (by omega) (fun z11 hz11 => ?_)
        refine h_iconst (pc' := 143) (x := (Int32.ofInt 1)) rfl rfl rfl ?_
        refine h_iadd (pc' := 144) rfl rfl hz11 ci_1 rfl (by omega) (by omega) (fun z12 hz12 => ?_)
        refine h_iald (pc' := 145) (v := σ 99 (((a0 + 12) + (2 * b2)) + 1)) rfl rfl rfl hz12 (by omega) (by omega) (F0_ 99 _ rfl) (fun z13 hz13 => ?_)
        have tz13 := ty_99_2 hI (((a0 + 12) + (2 * b2)) + 1) (by omega)
        refine h_iconst (pc' := 146) (x := (Int32.ofInt 1)) rfl rfl rfl ?_
        refine h_call (sp := false) (pc' := 149) (M := [(0, .ref 98), (1, .int z8), (2, .int z13), (3, .int (Int32.ofInt 1))]) rfl rfl rfl rfl rfl rfl rfl rfl ?_
        refine w_161_98 _ I0 z8 _ hz8 (by omega) z13 _ hz13 (by omega) (Int32.ofInt 1) _ ci_1 (by omega) (fun s15 Is15 Gs15 => h_Kn ?_)
        have Fs15 := (Gs15.mono (B := kf_w_162_98) rfl).tr F0_
        refine h_iinc (pc' := 152) (M := fun z16 => [(2, .int z16), (0, .ref 98), (1, .int x0)]) rfl rfl rfl rfl hy2 ci_1 rfl (by omega) (by omega) (fun _ => rfl) (fun z16 hz16 => ?_)
        refine h_goto (pc' := 100) rfl rfl ?_
        exact h_wk [(0, .ref 98), (1, .int x0), (2, .int z16)] ⟨rfl, rfl, rfl, trivial⟩ (ih.2.2.1 _ Is15 Fs15 z16 _ hz16 (by omega) (by omega))
    · intro s0 I0 F0_ y2 b2 hy2 ry2 hm
      refine h_iload_n (pc' := 158) rfl rfl rfl ?_
      refine h_aload_n (pc' := 159) rfl rfl rfl ?_
      refine h_getI (pc' := 162) (v := σ 98 1) rfl rfl rfl rfl rfl (F0_ 98 1 rfl) (fun z1 hz1 => ?_)
      have tz1 := tf_98_1 hI
      refine h_cge (tg := 244) (pc' := 165) rfl rfl rfl hy2 hz1 (fun c2 => ?_) (fun c2 => ?_)
      · exact h_vret rfl rfl (kk _ I0 F0_)
      · refine h_iconst (pc' := 166) (x := (Int32.ofInt 0)) rfl rfl rfl ?_
        refine h_istore_n (pc' := 167) (M := [(3, .int (Int32.ofInt 0)), (0, .ref 98), (1, .int x0), (2, .int y2)]) rfl rfl rfl rfl ?_
        exact h_wk [(0, .ref 98), (1, .int x0), (2, .int y2), (3, .int (Int32.ofInt 0))] ⟨rfl, rfl, rfl, rfl, trivial⟩ (ih.2.2.2.2 _ I0 F0_ y2 _ hy2 (by omega) (Int32.ofInt 0) _ ci_0 (by omega) (by omega))
    · intro s0 I0 F0_ y2 b2 hy2 ry2 y3 b3 hy3 ry3 hm
      refine h_iload_n (pc' := 168) rfl rfl rfl ?_
      refine h_bipush (pc' := 170) (x := (Int32.ofInt 36)) rfl rfl cb_36 ?_
      refine h_cge (tg := 238) (pc' := 173) rfl rfl rfl hy3 ci_36 (fun c1 => ?_) (fun c1 => ?_)
      · refine h_iinc (pc' := 241) (M := fun z2 => [(2, .int z2), (0, .ref 98), (1, .int x0), (3, .int y3)]) rfl rfl rfl rfl hy2 ci_1 rfl (by omega) (by omega) (fun _ => rfl) (fun z2 hz2 => ?_)
        refine h_goto (pc' := 157) rfl rfl ?_
        exact h_wk [(0, .ref 98), (1, .int x0), (2, .int z2)] ⟨rfl, rfl, rfl, trivial⟩ (ih.2.2.2.1 _ I0 F0_ z2 _ hz2 (by omega) (by omega))
      · refine h_aload_n (pc' := 174) rfl rfl rfl ?_
        refine h_getR (pc' := 177) rfl rfl rfl rfl rfl ?_
        refine h_bipush (pc' := 179) (x := (Int32.ofInt 6)) rfl rfl cb_6 ?_
        refine h_iload_n (pc' := 180) rfl rfl rfl ?_
        refine h_bipush (pc' := 182) (x := (Int32.ofInt 6)) rfl rfl cb_6 ?_
        refine h_idiv (pc' := 183) rfl rfl hy3 ci_6 (by omega) (by omega) (fun z3 hz3 => ?_)
        refine h_imul (pc' := 184) rfl rfl ci_6 hz3 rfl (by omega) (by omega) (fun z4 hz4 => ?_)
        refine h_iload_n (pc' := 185) rfl rfl rfl ?_
        refine h_iadd (pc' := 186) rfl rfl hz4 hy2 rfl (by omega) (by omega) (fun z5 hz5 => ?_)
        refine h_iald (pc' := 187) (v := s0 105 ((6 * (b3 / 6)) + b2)) rfl rfl rfl hz5 (by omega) (by omega) rfl (fun z6 hz6 => ?_)
        have tz6 := ty_105 I0 ((6 * (b3 / 6)) + b2)
        refine h_aload_n (pc' := 188) rfl rfl rfl ?_
        refine h_getR (pc' := 191) rfl rfl rfl rfl rfl ?_
        refine h_bipush (pc' := 193) (x := (Int32.ofInt 6)) rfl rfl cb_6 ?_
        refine h_iload_n (pc' := 194) rfl rfl rfl ?_
        refine h_imul (pc' := 195) rfl rfl ci_6 hy2 rfl (by omega) (by omega) (fun z7 hz7 => ?_)
        refine h_iload_n (pc' := 196) rfl rfl rfl ?_
        refine h_bipush (pc' := 198) (x := (Int32.ofInt 6)) rfl rfl cb_6 ?_
        refine h_irem (pc' := 199) rfl rfl hy3 ci_6 (by omega) (by omega) (fun z8 hz8 => ?_)
        refine h_iadd (pc' := 200) rfl rfl hz7 hz8 rfl (by omega) (by omega) (fun z9 hz9 => ?_)
        refine h_iald (pc' := 201) (v := s0 105 ((6 * b2) + (b3 % 6))) rfl rfl rfl hz9 (by omega) (by omega) rfl (fun z10 hz10 => ?_)
        have tz10 := ty_105 I0 ((6 * b2) + (b3 % 6))
        refine h_iadd (pc' := 202) rfl rfl hz6 hz10 rfl (by omega) (by omega) (fun z11 hz11 => ?_)
        refine h_istore (pc' := 204) (M := [(4, .int z11), (0, .ref 98), (1, .int x0), (2, .int y2), (3, .int y3)]) rfl rfl rfl rfl ?_
        refine h_aload_n (pc' := 205) rfl rfl rfl ?_
        refine h_getR (pc' := 208) rfl rfl rfl rfl rfl ?_
        refine h_iload_n (pc' := 209) rfl rfl rfl ?_
        refine h_iload (pc' := 211) rfl rfl rfl ?_
        refine h_aload_n (pc' := 212) rfl rfl rfl ?_
        refine h_getR (pc' := 215) rfl rfl rfl rfl rfl ?_
        refine h_iload_n (pc' := 216) rfl rfl rfl ?_
        refine h_iald (pc' := 217) (v := s0 105 b3) rfl rfl rfl hy3 (by omega) (by omega) rfl (fun z12 hz12 => ?_)
        have tz12 := ty_105 I0 b3
        refine h_cge (tg := 225) (pc' := 220) rfl rfl rfl hz11 hz12 (fun c13 => ?_) (fun c13 => ?_)
        · refine h_aload_n (pc' := 226) rfl rfl rfl ?_
          refine h_getR (pc' := 229) rfl rfl rfl rfl rfl ?_
          refine h_iload_n (pc' := 230) rfl rfl rfl ?_
          refine h_iald (pc' := 231) (v := s0 105 b3) rfl rfl rfl hy3 (by omega) (by omega) rfl (fun z14 hz14 => ?_)
          have tz14 := ty_105 I0 b3
          refine h_iast (pc' := 232) rfl rfl rfl rfl hy3 (by omega) (by omega) hz14 (h_fg _ (in_105 I0 (by omega)) (F0_.up rfl) (fun s15 Is15 Fs15 => ?_))
          refine h_iinc (pc' := 235) (M := fun z16 => [(3, .int z16), (4, .int z11), (0, .ref 98), (1, .int x0), (2, .int y2)]) rfl rfl rfl rfl hy3 ci_1 rfl (by omega) (by omega) (fun _ => rfl) (fun z16 hz16 => ?_)
          refine h_goto (pc' := 167) rfl rfl ?_
          exact h_wk [(0, .ref 98), (1, .int x0), (2, .int y2), (3, .int z16)] ⟨rfl, rfl, rfl, rfl, trivial⟩ (ih.2.2.2.2 _ Is15 Fs15 y2 _ hy2 (by omega) z16 _ hz16 (by omega) (by omega))
        · refine h_iload (pc' := 222) rfl rfl rfl ?_
          refine h_goto (pc' := 231) rfl rfl ?_
          refine h_iast (pc' := 232) rfl rfl rfl rfl hy3 (by omega) (by omega) hz11 (h_fg _ (in_105 I0 (by omega)) (F0_.up rfl) (fun s17 Is17 Fs17 => ?_))
          refine h_iinc (pc' := 235) (M := fun z18 => [(3, .int z18), (4, .int z11), (0, .ref 98), (1, .int x0), (2, .int y2)]) rfl rfl rfl rfl hy3 ci_1 rfl (by omega) (by omega) (fun _ => rfl) (fun z18 hz18 => ?_)
          refine h_goto (pc' := 167) rfl rfl ?_
          exact h_wk [(0, .ref 98), (1, .int x0), (2, .int y2), (3, .int z18)] ⟨rfl, rfl, rfl, rfl, trivial⟩ (ih.2.2.2.2 _ Is17 Fs17 y2 _ hy2 (by omega) z18 _ hz18 (by omega) (by omega))
theorem w_162_98 {ns : Nat} (σ : h_S) (hI : h_I σ) (x0 : Int32) (a0 : Int) (hx0 : x0.toInt = a0) (ra0 : 0 ≤ a0 ∧ a0 ≤ 176 ∧ a0 % 44 = 0) {Q : Option Value → h_S → Prop} (kk : ∀ (τ : h_S), h_I τ → h_F (k_in kf_w_162_98) τ σ → Q none τ) : h_T g_P (g_Y ns) 162 0 [(0, .ref 98), (1, .int x0)] [] σ Q := by
  have F00 : h_F (k_in kf_w_162_98) σ σ := h_F.rf
  refine h_iconst (pc' := 1) (x := (Int32.ofInt 0)) rfl rfl rfl ?_
  refine h_istore_n (pc' := 2) (M := [(2, .int (Int32.ofInt 0)), (0, .ref 98), (1, .int x0)]) rfl rfl rfl rfl ?_
  exact h_wk [(0, .ref 98), (1, .int x0), (2, .int (Int32.ofInt 0))] ⟨rfl, rfl, rfl, trivial⟩ ((w_162_98_l ns σ hI x0 a0 hx0 ra0 kk 1000000000000).1 _ hI F00 (Int32.ofInt 0) _ ci_0 (by omega) (by omega))
def kf_w_163_98 : List Nat := []
theorem w_163_98_l (ns : Nat) (σ : h_S) (hI : h_I σ) (x0 : Int32) (a0 : Int) (hx0 : x0.toInt = a0) (x1 : Int32) (a1 : Int) (hx1 : x1.toInt = a1) {Q : Option Value → h_S → Prop} (kk : ∀ (r : Int32) (b : Int) (hb : r.toInt = b) (τ : h_S), h_I τ → h_F (k_in kf_w_163_98) τ σ → (0 ≤ b ∧ b ≤ 1) → Q (some (.int r)) τ) : ∀ n : Nat, (∀ (s0 : h_S), h_I s0 → h_F (k_in kf_w_163_98) s0 σ → ∀ (y3 : Int32) (b3 : Int), y3.toInt = b3 → (0 ≤ b3 ∧ b3 ≤ 1) → ∀ (y4 : Int32) (b4 : Int), y4.toInt = b4 → (0 ≤ b4 ∧ b4 ≤ 3) → (3 + 1 - b4) * 1000000 + 1000000000 ≤ (n : Int) → h_T g_P (g_Y ns) 163 5 [(0, .ref 98), (1, .int x0), (2, .int x1), (3, .int y3), (4, .int y4)] [] s0 Q) := by
  intro n
  induction n with
  | zero => exact by intro s0 I0 F0_ y3 b3 hy3 ry3 y4 b4 hy4 ry4 hm; exfalso; omega
  | succ n ih =>
    intro s0 I0 F0_ y3 b3 hy3 ry3 y4 b4 hy4 ry4 hm
    refine h_iload (pc' := 7) rfl rfl rfl ?_
    refine h_aload_n (pc' := 8) rfl rfl rfl ?_
    refine h_getR (pc' := 11) rfl rfl rfl rfl rfl ?_
    refine h_bipush (pc' := 13) (x := (Int32.ofInt 25)) rfl rfl cb_25 ?_
    refine h_iald (pc' := 14) (v := σ 99 25) rfl rfl rfl ci_25 (by omega) (by omega) (F0_ 99 _ rfl) (fun z1 hz1 => ?_)
    have tz1 := ty_99_5 hI 25 (by omega)
    refine h_cge (tg := 87) (pc' := 17) rfl rfl rfl hy4 hz1 (fun c2 => ?_) (fun c2 => ?_)
    · refine h_iload_n (pc' := 88) rfl rfl rfl ?_
      exact h_zret rfl rfl hy3 (by omega) (kk _ _ hy3 _ I0 F0_ (by omega))
    · refine h_aload_n (pc' := 18) rfl rfl rfl ?_
      refine h_getR (pc' := 21) rfl rfl rfl rfl rfl ?_
      refine h_bipush (pc' := 23) (x := (Int32.ofInt 19)) rfl rfl cb_19 ?_
      refine h_iconst (pc' := 24) (x := (Int32.ofInt 2)) rfl rfl rfl ?_
      refine h_iload (pc' := 26) rfl rfl rfl ?_
      refine h_imul (pc' := 27) rfl rfl ci_2 hy4 rfl (by omega) (by omega) (fun z3 hz3 => ?_)
      refine h_iadd (pc' := 28) rfl rfl ci_19 hz3 rfl (by omega) (by omega) (fun z4 hz4 => ?_)
      refine h_iald (pc' := 29) (v := σ 99 (19 + (2 * b4))) rfl rfl rfl hz4 (by omega) (by omega) (F0_ 99 _ rfl) (fun z5 hz5 => ?_)
      have tz5 := ty_99_4 hI (19 + (2 * b4)) (by omega)
      refine h_istore (pc' := 31) (M := [(5, .int z5), (0, .ref 98), (1, .int x0), (2, .int x1), (3, .int y3), (4, .int y4)]) rfl rfl rfl rfl ?_
      refine h_aload_n (pc' := 32) rfl rfl rfl ?_
      refine h_getR (pc' := 35) rfl rfl rfl rfl rfl ?_
      refine h_bipush (pc' := 37) (x := (Int32.ofInt 19)) rfl rfl cb_19 ?_
      refine h_iconst (pc' := 38) (x := (Int32.ofInt 2)) rfl rfl rfl ?_
      refine h_iload (pc' := 40) rfl rfl rfl ?_
      refine h_imul (pc' := 41) rfl rfl ci_2 hy4 rfl (by omega) (by omega) (fun z6 hz6 => ?_)
      refine h_iadd (pc' := 42) rfl rfl ci_19 hz6 rfl (by omega) (by omega) (fun z7 hz7 => ?_)
      refine h_iconst (pc' := 43) (x := (Int32.ofInt 1)) rfl rfl rfl ?_
      refine h_iadd (pc' := 44) rfl rfl hz7 ci_1 rfl (by omega) (by omega) (fun z8 hz8 => ?_)
      refine h_iald (pc' := 45) (v := σ 99 ((19 + (2 * b4)) + 1)) rfl rfl rfl hz8 (by omega) (by omega) (F0_ 99 _ rfl) (fun z9 hz9 => ?_)
      have tz9 := ty_99_4 hI ((19 + (2 * b4)) + 1) (by omega)
      refine h_istore (pc' := 47) (M := [(6, .int z9), (5, .int z5), (0, .ref 98), (1, .int x0), (2, .int x1), (3, .int y3), (4, .int y4)]) rfl rfl rfl rfl ?_
      refine h_iload_n (pc' := 48) rfl rfl rfl ?_
      refine h_zne (tg := 75) (pc' := 51) rfl rfl rfl hy3 (fun c10 => ?_) (fun c10 => ?_)
      · refine h_iconst (pc' := 76) (x := (Int32.ofInt 1)) rfl rfl rfl ?_
        refine h_goto (pc' := 80) rfl rfl ?_
        refine h_istore_n (pc' := 81) (M := [(3, .int (Int32.ofInt 1)), (6, .int z9), (5, .int z5), (0, .ref 98), (1, .int x0), (2, .int x1), (4, .int y4)]) rfl rfl rfl rfl ?_
        refine h_iinc (pc' := 84) (M := fun z11 => [(4, .int z11), (3, .int (Int32.ofInt 1)), (6, .int z9), (5, .int z5), (0, .ref 98), (1, .int x0), (2, .int x1)]) rfl rfl rfl rfl hy4 ci_1 rfl (by omega) (by omega) (fun _ => rfl) (fun z11 hz11 => ?_)
        refine h_goto (pc' := 5) rfl rfl ?_
        exact h_wk [(0, .ref 98), (1, .int x0), (2, .int x1), (3, .int (Int32.ofInt 1)), (4, .int z11)] ⟨rfl, rfl, rfl, rfl, rfl, trivial⟩ (ih _ I0 F0_ (Int32.ofInt 1) _ ci_1 (by omega) z11 _ hz11 (by omega) (by omega))
      · refine h_iload (pc' := 53) rfl rfl rfl ?_
        refine h_iload_n (pc' := 54) rfl rfl rfl ?_
        refine h_cne (tg := 63) (pc' := 57) rfl rfl rfl hz5 hx0 (fun c12 => ?_) (fun c12 => ?_)
        · refine h_iload (pc' := 65) rfl rfl rfl ?_
          refine h_iload_n (pc' := 66) rfl rfl rfl ?_
          refine h_cne (tg := 79) (pc' := 69) rfl rfl rfl hz5 hx1 (fun c13 => ?_) (fun c13 => ?_)
          · refine h_iconst (pc' := 80) (x := (Int32.ofInt 0)) rfl rfl rfl ?_
            refine h_istore_n (pc' := 81) (M := [(3, .int (Int32.ofInt 0)), (6, .int z9), (5, .int z5), (0, .ref 98), (1, .int x0), (2, .int x1), (4, .int y4)]) rfl rfl rfl rfl ?_
            refine h_iinc (pc' := 84) (M := fun z14 => [(4, .int z14), (3, .int (Int32.ofInt 0)), (6, .int z9), (5, .int z5), (0, .ref 98), (1, .int x0), (2, .int x1)]) rfl rfl rfl rfl hy4 ci_1 rfl (by omega) (by omega) (fun _ => rfl) (fun z14 hz14 => ?_)
            refine h_goto (pc' := 5) rfl rfl ?_
            exact h_wk [(0, .ref 98), (1, .int x0), (2, .int x1), (3, .int (Int32.ofInt 0)), (4, .int z14)] ⟨rfl, rfl, rfl, rfl, rfl, trivial⟩ (ih _ I0 F0_ (Int32.ofInt 0) _ ci_0 (by omega) z14 _ hz14 (by omega) (by omega))
          · refine h_iload (pc' := 71) rfl rfl rfl ?_
            refine h_iload_n (pc' := 72) rfl rfl rfl ?_
            refine h_cne (tg := 79) (pc' := 75) rfl rfl rfl hz9 hx0 (fun c15 => ?_) (fun c15 => ?_)
            · refine h_iconst (pc' := 80) (x := (Int32.ofInt 0)) rfl rfl rfl ?_
              refine h_istore_n (pc' := 81) (M := [(3, .int (Int32.ofInt 0)), (6, .int z9), (5, .int z5), (0, .ref 98), (1, .int x0), (2, .int x1), (4, .int y4)]) rfl rfl rfl rfl ?_
              refine h_iinc (pc' := 84) (M := fun z16 => [(4, .int z16), (3, .int (Int32.ofInt 0)), (6, .int z9), (5, .int z5), (0, .ref 98), (1, .int x0), (2, .int x1)]) rfl rfl rfl rfl hy4 ci_1 rfl (by omega) (by omega) (fun _ => rfl) (fun z16 hz16 => ?_)
              refine h_goto (pc' := 5) rfl rfl ?_
              exact h_wk [(0, .ref 98), (1, .int x0), (2, .int x1), (3, .int (Int32.ofInt 0)), (4, .int z16)] ⟨rfl, rfl, rfl, rfl, rfl, trivial⟩ (ih _ I0 F0_ (Int32.ofInt 0) _ ci_0 (by omega) z16 _ hz16 (by omega) (by omega))
            · refine h_iconst (pc' := 76) (x := (Int32.ofInt 1)) rfl rfl rfl ?_
              refine h_goto (pc' := 80) rfl rfl ?_
              refine h_istore_n (pc' := 81) (M := [(3, .int (Int32.ofInt 1)), (6, .int z9), (5, .int z5), (0, .ref 98), (1, .int x0), (2, .int x1), (4, .int y4)]) rfl rfl rfl rfl ?_
              refine h_iinc (pc' := 84) (M := fun z17 => [(4, .int z17), (3, .int (Int32.ofInt 1)), (6, .int z9), (5, .int z5), (0, .ref 98), (1, .int x0), (2, .int x1)]) rfl rfl rfl rfl hy4 ci_1 rfl (by omega) (by omega) (fun _ => rfl) (fun z17 hz17 => ?_)
              refine h_goto (pc' := 5) rfl rfl ?_
              exact h_wk [(0, .ref 98), (1, .int x0), (2, .int x1), (3, .int (Int32.ofInt 1)), (4, .int z17)] ⟨rfl, rfl, rfl, rfl, rfl, trivial⟩ (ih _ I0 F0_ (Int32.ofInt 1) _ ci_1 (by omega) z17 _ hz17 (by omega) (by omega))
        · refine h_iload (pc' := 59) rfl rfl rfl ?_
          refine h_iload_n (pc' := 60) rfl rfl rfl ?_
          refine h_ceq (tg := 75) (pc' := 63) rfl rfl rfl hz9 hx1 (fun c18 => ?_) (fun c18 => ?_)
          · refine h_iconst (pc' := 76) (x := (Int32.ofInt 1)) rfl rfl rfl ?_
            refine h_goto (pc' := 80) rfl rfl ?_
            refine h_istore_n (pc' := 81) (M := [(3, .int (Int32.ofInt 1)), (6, .int z9), (5, .int z5), (0, .ref 98), (1, .int x0), (2, .int x1), (4, .int y4)]) rfl rfl rfl rfl ?_
            refine h_iinc (pc' := 84) (M := fun z19 => [(4, .int z19), (3, .int (Int32.ofInt 1)), (6, .int z9), (5, .int z5), (0, .ref 98), (1, .int x0), (2, .int x1)]) rfl rfl rfl rfl hy4 ci_1 rfl (by omega) (by omega) (fun _ => rfl) (fun z19 hz19 => ?_)
            refine h_goto (pc' := 5) rfl rfl ?_
            exact h_wk [(0, .ref 98), (1, .int x0), (2, .int x1), (3, .int (Int32.ofInt 1)), (4, .int z19)] ⟨rfl, rfl, rfl, rfl, rfl, trivial⟩ (ih _ I0 F0_ (Int32.ofInt 1) _ ci_1 (by omega) z19 _ hz19 (by omega) (by omega))
          · refine h_iload (pc' := 65) rfl rfl rfl ?_
            refine h_iload_n (pc' := 66) rfl rfl rfl ?_
            refine h_cne (tg := 79) (pc' := 69) rfl rfl rfl hz5 hx1 (fun c20 => ?_) (fun c20 => ?_)
            · refine h_iconst (pc' := 80) (x := (Int32.ofInt 0)) rfl rfl rfl ?_
              refine h_istore_n (pc' := 81) (M := [(3, .int (Int32.ofInt 0)), (6, .int z9), (5, .int z5), (0, .ref 98), (1, .int x0), (2, .int x1), (4, .int y4)]) rfl rfl rfl rfl ?_
              refine h_iinc (pc' := 84) (M := fun z21 => [(4, .int z21), (3, .int (Int32.ofInt 0)), (6, .int z9), (5, .int z5), (0, .ref 98), (1, .int x0), (2, .int x1)]) rfl rfl rfl rfl hy4 ci_1 rfl (by omega) (by omega) (fun _ => rfl) (fun z21 hz21 => ?_)
              refine h_goto (pc' := 5) rfl rfl ?_
              exact h_wk [(0, .ref 98), (1, .int x0), (2, .int x1), (3, .int (Int32.ofInt 0)), (4, .int z21)] ⟨rfl, rfl, rfl, rfl, rfl, trivial⟩ (ih _ I0 F0_ (Int32.ofInt 0) _ ci_0 (by omega) z21 _ hz21 (by omega) (by omega))
            · refine h_iload (pc' := 71) rfl rfl rfl ?_
              refine h_iload_n (pc' := 72) rfl rfl rfl ?_
              refine h_cne (tg := 79) (pc' := 75) rfl rfl rfl hz9 hx0 (fun c22 => ?_) (fun c22 => ?_)
              · refine h_iconst (pc' := 80) (x := (Int32.ofInt 0)) rfl rfl rfl ?_
                refine h_istore_n (pc' := 81) (M := [(3, .int (Int32.ofInt 0)), (6, .int z9), (5, .int z5), (0, .ref 98), (1, .int x0), (2, .int x1), (4, .int y4)]) rfl rfl rfl rfl ?_
                refine h_iinc (pc' := 84) (M := fun z23 => [(4, .int z23), (3, .int (Int32.ofInt 0)), (6, .int z9), (5, .int z5), (0, .ref 98), (1, .int x0), (2, .int x1)]) rfl rfl rfl rfl hy4 ci_1 rfl (by omega) (by omega) (fun _ => rfl) (fun z23 hz23 => ?_)
                refine h_goto (pc' := 5) rfl rfl ?_
                exact h_wk [(0, .ref 98), (1, .int x0), (2, .int x1), (3, .int (Int32.ofInt 0)), (4, .int z23)] ⟨rfl, rfl, rfl, rfl, rfl, trivial⟩ (ih _ I0 F0_ (Int32.ofInt 0) _ ci_0 (by omega) z23 _ hz23 (by omega) (by omega))
              · refine h_iconst (pc' := 76) (x := (Int32.ofInt 1)) rfl rfl rfl ?_
                refine h_goto (pc' := 80) rfl rfl ?_
                refine h_istore_n (pc' := 81) (M := [(3, .int (Int32.ofInt 1)), (6, .int z9), (5, .int z5), (0, .ref 98), (1, .int x0), (2, .int x1), (4, .int y4)]) rfl rfl rfl rfl ?_
                refine h_iinc (pc' := 84) (M := fun z24 => [(4, .int z24), (3, .int (Int32.ofInt 1)), (6, .int z9), (5, .int z5), (0, .ref 98), (1, .int x0), (2, .int x1)]) rfl rfl rfl rfl hy4 ci_1 rfl (by omega) (by omega) (fun _ => rfl) (fun z24 hz24 => ?_)
                refine h_goto (pc' := 5) rfl rfl ?_
                exact h_wk [(0, .ref 98), (1, .int x0), (2, .int x1), (3, .int (Int32.ofInt 1)), (4, .int z24)] ⟨rfl, rfl, rfl, rfl, rfl, trivial⟩ (ih _ I0 F0_ (Int32.ofInt 1) _ ci_1 (by omega) z24 _ hz24 (by omega) (by omega))
theorem w_163_98 {ns : Nat} (σ : h_S) (hI : h_I σ) (x0 : Int32) (a0 : Int) (hx0 : x0.toInt = a0) (x1 : Int32) (a1 : Int) (hx1 : x1.toInt = a1) {Q : Option Value → h_S → Prop} (kk : ∀ (r : Int32) (b : Int) (hb : r.toInt = b) (τ : h_S), h_I τ → h_F (k_in kf_w_163_98) τ σ → (0 ≤ b ∧ b ≤ 1) → Q (some (.int r)) τ) : h_T g_P (g_Y ns) 163 0 [(0, .ref 98), (1, .int x0), (2, .int x1)] [] σ Q := by
  have F00 : h_F (k_in kf_w_163_98) σ σ := h_F.rf
  refine h_iconst (pc' := 1) (x := (Int32.ofInt 0)) rfl rfl rfl ?_
  refine h_istore_n (pc' := 2) (M := [(3, .int (Int32.ofInt 0)), (0, .ref 98), (1, .int x0), (2, .int x1)]) rfl rfl rfl rfl ?_
  refine h_iconst (pc' := 3) (x := (Int32.ofInt 0)) rfl rfl rfl ?_
  refine h_istore (pc' := 5) (M := [(4, .int (Int32.ofInt 0)), (3, .int (Int32.ofInt 0)), (0, .ref 98), (1, .int x0), (2, .int x1)]) rfl rfl rfl rfl ?_
  exact h_wk [(0, .ref 98), (1, .int x0), (2, .int x1), (3, .int (Int32.ofInt 0)), (4, .int (Int32.ofInt 0))] ⟨rfl, rfl, rfl, rfl, rfl, trivial⟩ ((w_163_98_l ns σ hI x0 a0 hx0 x1 a1 hx1 kk 1000000000000) _ hI F00 (Int32.ofInt 0) _ ci_0 (by omega) (Int32.ofInt 0) _ ci_0 (by omega) (by omega))
def kf_w_164_98 : List Nat := []
theorem w_164_98 {ns : Nat} (σ : h_S) (hI : h_I σ) (x0 : Int32) (a0 : Int) (hx0 : x0.toInt = a0) (ra0 : 0 ≤ a0 ∧ a0 ≤ 5) (x1 : Int32) (a1 : Int) (hx1 : x1.toInt = a1) (ra1 : -4 ≤ a1 ∧ a1 ≤ 5 ∧ (a1 = -4 ∨ 0 ≤ a1)) (x2 : Int32) (a2 : Int) (hx2 : x2.toInt = a2) {Q : Option Value → h_S → Prop} (kk : ∀ (r : Int32) (b : Int) (hb : r.toInt = b) (τ : h_S), h_I τ → h_F (k_in kf_w_164_98) τ σ → (0 ≤ b ∧ b ≤ 1) → Q (some (.int r)) τ) : h_T g_P (g_Y ns) 164 0 [(0, .ref 98), (1, .int x0), (2, .int x1), (3, .int x2)] [] σ Q := by
  have F00 : h_F (k_in kf_w_164_98) σ σ := h_F.rf
  refine h_iload_n (pc' := 1) rfl rfl rfl ?_
  refine h_bipush (pc' := 3) (x := (Int32.ofInt (-4))) rfl rfl cb_m4 ?_
  refine h_ceq (tg := 30) (pc' := 6) rfl rfl rfl hx1 ci_m4 (fun c1 => ?_) (fun c1 => ?_)
  · refine h_iconst (pc' := 31) (x := (Int32.ofInt 1)) rfl rfl rfl ?_
    refine h_goto (pc' := 35) rfl rfl ?_
    exact h_zret rfl rfl ci_1 (by omega) (kk _ _ ci_1 _ hI F00 (by omega))
  · refine h_aload_n (pc' := 7) rfl rfl rfl ?_
    refine h_getR (pc' := 10) rfl rfl rfl rfl rfl ?_
    refine h_bipush (pc' := 12) (x := (Int32.ofInt 6)) rfl rfl cb_6 ?_
    refine h_iload_n (pc' := 13) rfl rfl rfl ?_
    refine h_imul (pc' := 14) rfl rfl ci_6 hx1 rfl (by omega) (by omega) (fun z2 hz2 => ?_)
    refine h_iload_n (pc' := 15) rfl rfl rfl ?_
    refine h_iadd (pc' := 16) rfl rfl hz2 hx0 rfl (by omega) (by omega) (fun z3 hz3 => ?_)
    refine h_iald (pc' := 17) (v := σ 105 ((6 * a1) + a0)) rfl rfl rfl hz3 (by omega) (by omega) rfl (fun z4 hz4 => ?_)
    have tz4 := ty_105 hI ((6 * a1) + a0)
    refine h_iload_n (pc' := 18) rfl rfl rfl ?_
    refine h_cgt (tg := 34) (pc' := 21) rfl rfl rfl hz4 hx2 (fun c5 => ?_) (fun c5 => ?_)
    · refine h_iconst (pc' := 35) (x := (Int32.ofInt 0)) rfl rfl rfl ?_
      exact h_zret rfl rfl ci_0 (by omega) (kk _ _ ci_0 _ hI F00 (by omega))
    · refine h_aload_n (pc' := 22) rfl rfl rfl ?_
      refine h_iload_n (pc' := 23) rfl rfl rfl ?_
      refine h_iload_n (pc' := 24) rfl rfl rfl ?_
      refine h_call (sp := false) (pc' := 27) (M := [(0, .ref 98), (1, .int x0), (2, .int x1)]) rfl rfl rfl rfl rfl rfl rfl rfl ?_
      refine w_163_98 _ hI x0 _ hx0 x1 _ hx1 (fun r6 br6 hr6 s7 Is7 Gs7 tr6 => h_Kv ?_)
      have Fs7 := (Gs7.mono (B := kf_w_164_98) rfl).tr F00
      refine h_zne (tg := 34) (pc' := 30) rfl rfl rfl hr6 (fun c8 => ?_) (fun c8 => ?_)
      · refine h_iconst (pc' := 35) (x := (Int32.ofInt 0)) rfl rfl rfl ?_
        exact h_zret rfl rfl ci_0 (by omega) (kk _ _ ci_0 _ Is7 Fs7 (by omega))
      · refine h_iconst (pc' := 31) (x := (Int32.ofInt 1)) rfl rfl rfl ?_
        refine h_goto (pc' := 35) rfl rfl ?_
        exact h_zret rfl rfl ci_1 (by omega) (kk _ _ ci_1 _ Is7 Fs7 (by omega))
def kf_w_165_98 : List Nat := []
theorem w_165_98_l (ns : Nat) (σ : h_S) (hI : h_I σ) (x0 : Int32) (a0 : Int) (hx0 : x0.toInt = a0) (ra0 : 0 ≤ a0 ∧ a0 ≤ 5) {Q : Option Value → h_S → Prop} (kk : ∀ (r : Int32) (b : Int) (hb : r.toInt = b) (τ : h_S), h_I τ → h_F (k_in kf_w_165_98) τ σ → Q (some (.int r)) τ) : ∀ n : Nat, (∀ (s0 : h_S), h_I s0 → h_F (k_in kf_w_165_98) s0 σ → ∀ (y2 : Int32) (b2 : Int), y2.toInt = b2 → ∀ (y3 : Int32) (b3 : Int), y3.toInt = b3 → (0 ≤ b3 ∧ b3 ≤ 6) → (6 + 1 - b3) * 1000000 + 1000000000 ≤ (n : Int) → h_T g_P (g_Y ns) 165 4 [(0, .ref 98), (1, .int x0), (2, .int y2), (3, .int y3)] [] s0 Q) := by
  intro n
  induction n with
  | zero => exact by intro s0 I0 F0_ y2 b2 hy2 y3 b3 hy3 ry3 hm; exfalso; omega
  | succ n ih =>
    intro s0 I0 F0_ y2 b2 hy2 y3 b3 hy3 ry3 hm
    refine h_iload_n (pc' := 5) rfl rfl rfl ?_
    refine h_aload_n (pc' := 6) rfl rfl rfl ?_
    refine h_getI (pc' := 9) (v := σ 98 1) rfl rfl rfl rfl rfl (F0_ 98 1 rfl) (fun z1 hz1 => ?_)
    have tz1 := tf_98_1 hI
    refine h_cge (tg := 44) (pc' := 12) rfl rfl rfl hy3 hz1 (fun c2 => ?_) (fun c2 => ?_)
    · refine h_iload_n (pc' := 45) rfl rfl rfl ?_
      exact h_iret rfl rfl (kk _ _ hy2 _ I0 F0_)
    · refine h_iload_n (pc' := 13) rfl rfl rfl ?_
      refine h_aload_n (pc' := 14) rfl rfl rfl ?_
      refine h_getR (pc' := 17) rfl rfl rfl rfl rfl ?_
      refine h_bipush (pc' := 19) (x := (Int32.ofInt 6)) rfl rfl cb_6 ?_
      refine h_iload_n (pc' := 20) rfl rfl rfl ?_
      refine h_imul (pc' := 21) rfl rfl ci_6 hx0 rfl (by omega) (by omega) (fun z3 hz3 => ?_)
      refine h_iload_n (pc' := 22) rfl rfl rfl ?_
      refine h_iadd (pc' := 23) rfl rfl hz3 hy3 rfl (by omega) (by omega) (fun z4 hz4 => ?_)
      refine h_iald (pc' := 24) (v := σ 105 ((6 * a0) + b3)) rfl rfl rfl hz4 (by omega) (by omega) (F0_ 105 _ rfl) (fun z5 hz5 => ?_)
      have tz5 := ty_105 hI ((6 * a0) + b3)
      refine h_ldc (pc' := 26) (x := (Int32.ofInt 1000000)) rfl rfl rfl ?_
      refine h_cge (tg := 35) (pc' := 29) rfl rfl rfl hz5 ci_1000000 (fun c6 => ?_) (fun c6 => ?_)
      · refine h_iconst (pc' := 36) (x := (Int32.ofInt 0)) rfl rfl rfl ?_
        refine h_ior (pc' := 37) rfl rfl (fun z7 hz7 => ?_)
        refine h_istore_n (pc' := 38) (M := [(2, .int z7), (0, .ref 98), (1, .int x0), (3, .int y3)]) rfl rfl rfl rfl ?_
        refine h_iinc (pc' := 41) (M := fun z8 => [(3, .int z8), (2, .int z7), (0, .ref 98), (1, .int x0)]) rfl rfl rfl rfl hy3 ci_1 rfl (by omega) (by omega) (fun _ => rfl) (fun z8 hz8 => ?_)
        refine h_goto (pc' := 4) rfl rfl ?_
        exact h_wk [(0, .ref 98), (1, .int x0), (2, .int z7), (3, .int z8)] ⟨rfl, rfl, rfl, rfl, trivial⟩ (ih _ I0 F0_ z7 _ rfl z8 _ hz8 (by omega) (by omega))
      · refine h_iconst (pc' := 30) (x := (Int32.ofInt 1)) rfl rfl rfl ?_
        refine h_iload_n (pc' := 31) rfl rfl rfl ?_
        refine h_shl1 (pc' := 32) rfl rfl ci_1 hy3 (by omega) (by omega) (fun z9 hz9 vz9 => ?_)
        refine h_goto (pc' := 36) rfl rfl ?_
        refine h_ior (pc' := 37) rfl rfl (fun z10 hz10 => ?_)
        refine h_istore_n (pc' := 38) (M := [(2, .int z10), (0, .ref 98), (1, .int x0), (3, .int y3)]) rfl rfl rfl rfl ?_
        refine h_iinc (pc' := 41) (M := fun z11 => [(3, .int z11), (2, .int z10), (0, .ref 98), (1, .int x0)]) rfl rfl rfl rfl hy3 ci_1 rfl (by omega) (by omega) (fun _ => rfl) (fun z11 hz11 => ?_)
        refine h_goto (pc' := 4) rfl rfl ?_
        exact h_wk [(0, .ref 98), (1, .int x0), (2, .int z10), (3, .int z11)] ⟨rfl, rfl, rfl, rfl, trivial⟩ (ih _ I0 F0_ z10 _ rfl z11 _ hz11 (by omega) (by omega))
theorem w_165_98 {ns : Nat} (σ : h_S) (hI : h_I σ) (x0 : Int32) (a0 : Int) (hx0 : x0.toInt = a0) (ra0 : 0 ≤ a0 ∧ a0 ≤ 5) {Q : Option Value → h_S → Prop} (kk : ∀ (r : Int32) (b : Int) (hb : r.toInt = b) (τ : h_S), h_I τ → h_F (k_in kf_w_165_98) τ σ → Q (some (.int r)) τ) : h_T g_P (g_Y ns) 165 0 [(0, .ref 98), (1, .int x0)] [] σ Q := by
  have F00 : h_F (k_in kf_w_165_98) σ σ := h_F.rf
  refine h_iconst (pc' := 1) (x := (Int32.ofInt 0)) rfl rfl rfl ?_
  refine h_istore_n (pc' := 2) (M := [(2, .int (Int32.ofInt 0)), (0, .ref 98), (1, .int x0)]) rfl rfl rfl rfl ?_
  refine h_iconst (pc' := 3) (x := (Int32.ofInt 0)) rfl rfl rfl ?_
  refine h_istore_n (pc' := 4) (M := [(3, .int (Int32.ofInt 0)), (2, .int (Int32.ofInt 0)), (0, .ref 98), (1, .int x0)]) rfl rfl rfl rfl ?_
  exact h_wk [(0, .ref 98), (1, .int x0), (2, .int (Int32.ofInt 0)), (3, .int (Int32.ofInt 0))] ⟨rfl, rfl, rfl, rfl, trivial⟩ ((w_165_98_l ns σ hI x0 a0 hx0 ra0 kk 1000000000000) _ hI F00 (Int32.ofInt 0) _ ci_0 (Int32.ofInt 0) _ ci_0 (by omega) (by omega))
def kf_w_166_98 : List Nat := []
theorem w_166_98_l (ns : Nat) (σ : h_S) (hI : h_I σ) (x0 : Int32) (a0 : Int) (hx0 : x0.toInt = a0) {Q : Option Value → h_S → Prop} (kk : ∀ (r : Int32) (b : Int) (hb : r.toInt = b) (τ : h_S), h_I τ → h_F (k_in kf_w_166_98) τ σ → Q (some (.int r)) τ) : ∀ n : Nat, (∀ (s0 : h_S), h_I s0 → h_F (k_in kf_w_166_98) s0 σ → ∀ (y2 : Int32) (b2 : Int), y2.toInt = b2 → ∀ (y3 : Int32) (b3 : Int), y3.toInt = b3 → (0 ≤ b3 ∧ b3 ≤ 6) → (6 + 1 - b3) * 1000000 + 1000000000 ≤ (n : Int) → h_T g_P (g_Y ns) 166 4 [(0, .ref 98), (1, .int x0), (2, .int y2), (3, .int y3)] [] s0 Q) := by
  intro n
  induction n with
  | zero => exact by intro s0 I0 F0_ y2 b2 hy2 y3 b3 hy3 ry3 hm; exfalso; omega
  | succ n ih =>
    intro s0 I0 F0_ y2 b2 hy2 y3 b3 hy3 ry3 hm
    refine h_iload_n (pc' := 5) rfl rfl rfl ?_
    refine h_aload_n (pc' := 6) rfl rfl rfl ?_
    refine h_getI (pc' := 9) (v := σ 98 1) rfl rfl rfl rfl rfl (F0_ 98 1 rfl) (fun z1 hz1 => ?_)
    have tz1 := tf_98_1 hI
    refine h_cge (tg := 43) (pc' := 12) rfl rfl rfl hy3 hz1 (fun c2 => ?_) (fun c2 => ?_)
    · refine h_iload_n (pc' := 44) rfl rfl rfl ?_
      exact h_iret rfl rfl (kk _ _ hy2 _ I0 F0_)
    · refine h_iload_n (pc' := 13) rfl rfl rfl ?_
      refine h_aload_n (pc' := 14) rfl rfl rfl ?_
      refine h_getR (pc' := 17) rfl rfl rfl rfl rfl ?_
      refine h_bipush (pc' := 19) (x := (Int32.ofInt 6)) rfl rfl cb_6 ?_
      refine h_iload_n (pc' := 20) rfl rfl rfl ?_
      refine h_iadd (pc' := 21) rfl rfl ci_6 hy3 rfl (by omega) (by omega) (fun z3 hz3 => ?_)
      refine h_iald (pc' := 22) (v := σ 99 (6 + b3)) rfl rfl rfl hz3 (by omega) (by omega) (F0_ 99 _ rfl) (fun z4 hz4 => ?_)
      have tz4 := ty_99_1 hI (6 + b3) (by omega)
      refine h_iload_n (pc' := 23) rfl rfl rfl ?_
      refine h_iconst (pc' := 24) (x := (Int32.ofInt 1)) rfl rfl rfl ?_
      refine h_iaddA (pc' := 25) rfl rfl (fun z5 hz5 => ?_)
      refine h_cne (tg := 34) (pc' := 28) rfl rfl rfl hz4 rfl (fun c6 => ?_) (fun c6 => ?_)
      · refine h_iconst (pc' := 35) (x := (Int32.ofInt 0)) rfl rfl rfl ?_
        refine h_ior (pc' := 36) rfl rfl (fun z7 hz7 => ?_)
        refine h_istore_n (pc' := 37) (M := [(2, .int z7), (0, .ref 98), (1, .int x0), (3, .int y3)]) rfl rfl rfl rfl ?_
        refine h_iinc (pc' := 40) (M := fun z8 => [(3, .int z8), (2, .int z7), (0, .ref 98), (1, .int x0)]) rfl rfl rfl rfl hy3 ci_1 rfl (by omega) (by omega) (fun _ => rfl) (fun z8 hz8 => ?_)
        refine h_goto (pc' := 4) rfl rfl ?_
        exact h_wk [(0, .ref 98), (1, .int x0), (2, .int z7), (3, .int z8)] ⟨rfl, rfl, rfl, rfl, trivial⟩ (ih _ I0 F0_ z7 _ rfl z8 _ hz8 (by omega) (by omega))
      · refine h_iconst (pc' := 29) (x := (Int32.ofInt 1)) rfl rfl rfl ?_
        refine h_iload_n (pc' := 30) rfl rfl rfl ?_
        refine h_shl1 (pc' := 31) rfl rfl ci_1 hy3 (by omega) (by omega) (fun z9 hz9 vz9 => ?_)
        refine h_goto (pc' := 35) rfl rfl ?_
        refine h_ior (pc' := 36) rfl rfl (fun z10 hz10 => ?_)
        refine h_istore_n (pc' := 37) (M := [(2, .int z10), (0, .ref 98), (1, .int x0), (3, .int y3)]) rfl rfl rfl rfl ?_
        refine h_iinc (pc' := 40) (M := fun z11 => [(3, .int z11), (2, .int z10), (0, .ref 98), (1, .int x0)]) rfl rfl rfl rfl hy3 ci_1 rfl (by omega) (by omega) (fun _ => rfl) (fun z11 hz11 => ?_)
        refine h_goto (pc' := 4) rfl rfl ?_
        exact h_wk [(0, .ref 98), (1, .int x0), (2, .int z10), (3, .int z11)] ⟨rfl, rfl, rfl, rfl, trivial⟩ (ih _ I0 F0_ z10 _ rfl z11 _ hz11 (by omega) (by omega))
theorem w_166_98 {ns : Nat} (σ : h_S) (hI : h_I σ) (x0 : Int32) (a0 : Int) (hx0 : x0.toInt = a0) {Q : Option Value → h_S → Prop} (kk : ∀ (r : Int32) (b : Int) (hb : r.toInt = b) (τ : h_S), h_I τ → h_F (k_in kf_w_166_98) τ σ → Q (some (.int r)) τ) : h_T g_P (g_Y ns) 166 0 [(0, .ref 98), (1, .int x0)] [] σ Q := by
  have F00 : h_F (k_in kf_w_166_98) σ σ := h_F.rf
  refine h_iconst (pc' := 1) (x := (Int32.ofInt 0)) rfl rfl rfl ?_
  refine h_istore_n (pc' := 2) (M := [(2, .int (Int32.ofInt 0)), (0, .ref 98), (1, .int x0)]) rfl rfl rfl rfl ?_
  refine h_iconst (pc' := 3) (x := (Int32.ofInt 0)) rfl rfl rfl ?_
  refine h_istore_n (pc' := 4) (M := [(3, .int (Int32.ofInt 0)), (2, .int (Int32.ofInt 0)), (0, .ref 98), (1, .int x0)]) rfl rfl rfl rfl ?_
  exact h_wk [(0, .ref 98), (1, .int x0), (2, .int (Int32.ofInt 0)), (3, .int (Int32.ofInt 0))] ⟨rfl, rfl, rfl, rfl, trivial⟩ ((w_166_98_l ns σ hI x0 a0 hx0 kk 1000000000000) _ hI F00 (Int32.ofInt 0) _ ci_0 (Int32.ofInt 0) _ ci_0 (by omega) (by omega))
def kf_w_169_98 : List Nat := []
theorem w_169_98_l (ns : Nat) (σ : h_S) (hI : h_I σ) (x0 : Int32) (a0 : Int) (hx0 : x0.toInt = a0) (ra0 : 0 ≤ a0 ∧ a0 ≤ 2) (x1 : Int32) (a1 : Int) (hx1 : x1.toInt = a1) {Q : Option Value → h_S → Prop} (kk : ∀ (r : Int32) (b : Int) (hb : r.toInt = b) (τ : h_S), h_I τ → h_F (k_in kf_w_169_98) τ σ → Q (some (.int r)) τ) : ∀ n : Nat, (∀ (s0 : h_S), h_I s0 → h_F (k_in kf_w_169_98) s0 σ → ∀ (y3 : Int32) (b3 : Int), y3.toInt = b3 → ∀ (y4 : Int32) (b4 : Int), y4.toInt = b4 → (0 ≤ b4 ∧ b4 ≤ 6) → (6 + 1 - b4) * 1000000 + 1000000000 ≤ (n : Int) → h_T g_P (g_Y ns) 169 5 [(0, .ref 98), (1, .int x0), (2, .int x1), (3, .int y3), (4, .int y4)] [] s0 Q) := by
  intro n
  induction n with
  | zero => exact by intro s0 I0 F0_ y3 b3 hy3 y4 b4 hy4 ry4 hm; exfalso; omega
  | succ n ih =>
    intro s0 I0 F0_ y3 b3 hy3 y4 b4 hy4 ry4 hm
    refine h_iload (pc' := 7) rfl rfl rfl ?_
    refine h_aload_n (pc' := 8) rfl rfl rfl ?_
    refine h_getI (pc' := 11) (v := σ 98 1) rfl rfl rfl rfl rfl (F0_ 98 1 rfl) (fun z1 hz1 => ?_)
    have tz1 := tf_98_1 hI
    refine h_cge (tg := 53) (pc' := 14) rfl rfl rfl hy4 hz1 (fun c2 => ?_) (fun c2 => ?_)
    · refine h_iload_n (pc' := 54) rfl rfl rfl ?_
      exact h_iret rfl rfl (kk _ _ hy3 _ I0 F0_)
    · refine h_iload_n (pc' := 15) rfl rfl rfl ?_
      refine h_aload_n (pc' := 16) rfl rfl rfl ?_
      refine h_iload (pc' := 18) rfl rfl rfl ?_
      refine h_aload_n (pc' := 19) rfl rfl rfl ?_
      refine h_getR (pc' := 22) rfl rfl rfl rfl rfl ?_
      refine h_bipush (pc' := 24) (x := (Int32.ofInt 29)) rfl rfl cb_29 ?_
      refine h_iload_n (pc' := 25) rfl rfl rfl ?_
      refine h_iadd (pc' := 26) rfl rfl ci_29 hx0 rfl (by omega) (by omega) (fun z3 hz3 => ?_)
      refine h_iald (pc' := 27) (v := σ 99 (29 + a0)) rfl rfl rfl hz3 (by omega) (by omega) (F0_ 99 _ rfl) (fun z4 hz4 => ?_)
      have tz4 := ty_99_7 hI (29 + a0) (by omega)
      refine h_calls (pc' := 30) (M := [(0, .int z4)]) rfl rfl rfl rfl rfl rfl ?_
      refine h_iload_n (pc' := 1) rfl rfl rfl ?_
      refine h_zne (tg := 9) (pc' := 4) rfl rfl rfl hz4 (fun c5 => ?_) (fun c5 => ?_)
      · refine h_iload_n (pc' := 10) rfl rfl rfl ?_
        refine h_iconst (pc' := 11) (x := (Int32.ofInt 1)) rfl rfl rfl ?_
        refine h_isub (pc' := 12) rfl rfl hz4 ci_1 rfl (by omega) (by omega) (fun z6 hz6 => ?_)
        refine h_iret rfl rfl (h_Kv ?_)
        refine h_iload_n (pc' := 31) rfl rfl rfl ?_
        refine h_call (sp := false) (pc' := 34) (M := [(0, .ref 98), (1, .int y4), (2, .int z6), (3, .int x1)]) rfl rfl rfl rfl rfl rfl rfl rfl ?_
        refine w_164_98 _ I0 y4 _ hy4 (by omega) z6 _ hz6 (by omega) x1 _ hx1 (fun r7 br7 hr7 s8 Is8 Gs8 tr7 => h_Kv ?_)
        have Fs8 := (Gs8.mono (B := kf_w_169_98) rfl).tr F0_
        refine h_zeq (tg := 44) (pc' := 37) rfl rfl rfl hr7 (fun c9 => ?_) (fun c9 => ?_)
        · refine h_iconst (pc' := 45) (x := (Int32.ofInt 0)) rfl rfl rfl ?_
          refine h_ior (pc' := 46) rfl rfl (fun z10 hz10 => ?_)
          refine h_istore_n (pc' := 47) (M := [(3, .int z10), (0, .ref 98), (1, .int x0), (2, .int x1), (4, .int y4)]) rfl rfl rfl rfl ?_
          refine h_iinc (pc' := 50) (M := fun z11 => [(4, .int z11), (3, .int z10), (0, .ref 98), (1, .int x0), (2, .int x1)]) rfl rfl rfl rfl hy4 ci_1 rfl (by omega) (by omega) (fun _ => rfl) (fun z11 hz11 => ?_)
          refine h_goto (pc' := 5) rfl rfl ?_
          exact h_wk [(0, .ref 98), (1, .int x0), (2, .int x1), (3, .int z10), (4, .int z11)] ⟨rfl, rfl, rfl, rfl, rfl, trivial⟩ (ih _ Is8 Fs8 z10 _ rfl z11 _ hz11 (by omega) (by omega))
        · refine h_iconst (pc' := 38) (x := (Int32.ofInt 1)) rfl rfl rfl ?_
          refine h_iload (pc' := 40) rfl rfl rfl ?_
          refine h_shl1 (pc' := 41) rfl rfl ci_1 hy4 (by omega) (by omega) (fun z12 hz12 vz12 => ?_)
          refine h_goto (pc' := 45) rfl rfl ?_
          refine h_ior (pc' := 46) rfl rfl (fun z13 hz13 => ?_)
          refine h_istore_n (pc' := 47) (M := [(3, .int z13), (0, .ref 98), (1, .int x0), (2, .int x1), (4, .int y4)]) rfl rfl rfl rfl ?_
          refine h_iinc (pc' := 50) (M := fun z14 => [(4, .int z14), (3, .int z13), (0, .ref 98), (1, .int x0), (2, .int x1)]) rfl rfl rfl rfl hy4 ci_1 rfl (by omega) (by omega) (fun _ => rfl) (fun z14 hz14 => ?_)
          refine h_goto (pc' := 5) rfl rfl ?_
          exact h_wk [(0, .ref 98), (1, .int x0), (2, .int x1), (3, .int z13), (4, .int z14)] ⟨rfl, rfl, rfl, rfl, rfl, trivial⟩ (ih _ Is8 Fs8 z13 _ rfl z14 _ hz14 (by omega) (by omega))
      · refine h_bipush (pc' := 6) (x := (Int32.ofInt (-4))) rfl rfl cb_m4 ?_
        refine h_goto (pc' := 12) rfl rfl ?_
        refine h_iret rfl rfl (h_Kv ?_)
        refine h_iload_n (pc' := 31) rfl rfl rfl ?_
        refine h_call (sp := false) (pc' := 34) (M := [(0, .ref 98), (1, .int y4), (2, .int (Int32.ofInt (-4))), (3, .int x1)]) rfl rfl rfl rfl rfl rfl rfl rfl ?_
        refine w_164_98 _ I0 y4 _ hy4 (by omega) (Int32.ofInt (-4)) _ ci_m4 (by omega) x1 _ hx1 (fun r15 br15 hr15 s16 Is16 Gs16 tr15 => h_Kv ?_)
        have Fs16 := (Gs16.mono (B := kf_w_169_98) rfl).tr F0_
        refine h_zeq (tg := 44) (pc' := 37) rfl rfl rfl hr15 (fun c17 => ?_) (fun c17 => ?_)
        · refine h_iconst (pc' := 45) (x := (Int32.ofInt 0)) rfl rfl rfl ?_
          refine h_ior (pc' := 46) rfl rfl (fun z18 hz18 => ?_)
          refine h_istore_n (pc' := 47) (M := [(3, .int z18), (0, .ref 98), (1, .int x0), (2, .int x1), (4, .int y4)]) rfl rfl rfl rfl ?_
          refine h_iinc (pc' := 50) (M := fun z19 => [(4, .int z19), (3, .int z18), (0, .ref 98), (1, .int x0), (2, .int x1)]) rfl rfl rfl rfl hy4 ci_1 rfl (by omega) (by omega) (fun _ => rfl) (fun z19 hz19 => ?_)
          refine h_goto (pc' := 5) rfl rfl ?_
          exact h_wk [(0, .ref 98), (1, .int x0), (2, .int x1), (3, .int z18), (4, .int z19)] ⟨rfl, rfl, rfl, rfl, rfl, trivial⟩ (ih _ Is16 Fs16 z18 _ rfl z19 _ hz19 (by omega) (by omega))
        · refine h_iconst (pc' := 38) (x := (Int32.ofInt 1)) rfl rfl rfl ?_
          refine h_iload (pc' := 40) rfl rfl rfl ?_
          refine h_shl1 (pc' := 41) rfl rfl ci_1 hy4 (by omega) (by omega) (fun z20 hz20 vz20 => ?_)
          refine h_goto (pc' := 45) rfl rfl ?_
          refine h_ior (pc' := 46) rfl rfl (fun z21 hz21 => ?_)
          refine h_istore_n (pc' := 47) (M := [(3, .int z21), (0, .ref 98), (1, .int x0), (2, .int x1), (4, .int y4)]) rfl rfl rfl rfl ?_
          refine h_iinc (pc' := 50) (M := fun z22 => [(4, .int z22), (3, .int z21), (0, .ref 98), (1, .int x0), (2, .int x1)]) rfl rfl rfl rfl hy4 ci_1 rfl (by omega) (by omega) (fun _ => rfl) (fun z22 hz22 => ?_)
          refine h_goto (pc' := 5) rfl rfl ?_
          exact h_wk [(0, .ref 98), (1, .int x0), (2, .int x1), (3, .int z21), (4, .int z22)] ⟨rfl, rfl, rfl, rfl, rfl, trivial⟩ (ih _ Is16 Fs16 z21 _ rfl z22 _ hz22 (by omega) (by omega))
theorem w_169_98 {ns : Nat} (σ : h_S) (hI : h_I σ) (x0 : Int32) (a0 : Int) (hx0 : x0.toInt = a0) (ra0 : 0 ≤ a0 ∧ a0 ≤ 2) (x1 : Int32) (a1 : Int) (hx1 : x1.toInt = a1) {Q : Option Value → h_S → Prop} (kk : ∀ (r : Int32) (b : Int) (hb : r.toInt = b) (τ : h_S), h_I τ → h_F (k_in kf_w_169_98) τ σ → Q (some (.int r)) τ) : h_T g_P (g_Y ns) 169 0 [(0, .ref 98), (1, .int x0), (2, .int x1)] [] σ Q := by
  have F00 : h_F (k_in kf_w_169_98) σ σ := h_F.rf
  refine h_iconst (pc' := 1) (x := (Int32.ofInt 0)) rfl rfl rfl ?_
  refine h_istore_n (pc' := 2) (M := [(3, .int (Int32.ofInt 0)), (0, .ref 98), (1, .int x0), (2, .int x1)]) rfl rfl rfl rfl ?_
  refine h_iconst (pc' := 3) (x := (Int32.ofInt 0)) rfl rfl rfl ?_
  refine h_istore (pc' := 5) (M := [(4, .int (Int32.ofInt 0)), (3, .int (Int32.ofInt 0)), (0, .ref 98), (1, .int x0), (2, .int x1)]) rfl rfl rfl rfl ?_
  exact h_wk [(0, .ref 98), (1, .int x0), (2, .int x1), (3, .int (Int32.ofInt 0)), (4, .int (Int32.ofInt 0))] ⟨rfl, rfl, rfl, rfl, rfl, trivial⟩ ((w_169_98_l ns σ hI x0 a0 hx0 ra0 x1 a1 hx1 kk 1000000000000) _ hI F00 (Int32.ofInt 0) _ ci_0 (Int32.ofInt 0) _ ci_0 (by omega) (by omega))
def kf_w_176_98 : List Nat := []
theorem w_176_98_l (ns : Nat) (σ : h_S) (hI : h_I σ) (x0 : Int32) (a0 : Int) (hx0 : x0.toInt = a0) (ra0 : 0 ≤ a0 ∧ a0 ≤ 5) {Q : Option Value → h_S → Prop} (kk : ∀ (r : Int32) (b : Int) (hb : r.toInt = b) (τ : h_S), h_I τ → h_F (k_in kf_w_176_98) τ σ → Q (some (.int r)) τ) : ∀ n : Nat, (∀ (s0 : h_S), h_I s0 → h_F (k_in kf_w_176_98) s0 σ → ∀ (y2 : Int32) (b2 : Int), y2.toInt = b2 → ∀ (y3 : Int32) (b3 : Int), y3.toInt = b3 → ((-4) ≤ b3 ∧ b3 ≤ 5) → ∀ (y4 : Int32) (b4 : Int), y4.toInt = b4 → (0 ≤ b4 ∧ b4 ≤ 6) → (b3 = -4 ∨ 0 ≤ b3) → (6 + 1 - b4) * 1000000 + 1000000000 ≤ (n : Int) → h_T g_P (g_Y ns) 176 7 [(0, .ref 98), (1, .int x0), (2, .int y2), (3, .int y3), (4, .int y4)] [] s0 Q) := by
  intro n
  induction n with
  | zero => exact by intro s0 I0 F0_ y2 b2 hy2 y3 b3 hy3 ry3 y4 b4 hy4 ry4 ex0 hm; exfalso; omega
  | succ n ih =>
    intro s0 I0 F0_ y2 b2 hy2 y3 b3 hy3 ry3 y4 b4 hy4 ry4 ex0 hm
    refine h_iload (pc' := 9) rfl rfl rfl ?_
    refine h_bipush (pc' := 11) (x := (Int32.ofInt 6)) rfl rfl cb_6 ?_
    refine h_cge (tg := 45) (pc' := 14) rfl rfl rfl hy4 ci_6 (fun c1 => ?_) (fun c1 => ?_)
    · refine h_iload_n (pc' := 46) rfl rfl rfl ?_
      exact h_iret rfl rfl (kk _ _ hy2 _ I0 F0_)
    · refine h_iload_n (pc' := 15) rfl rfl rfl ?_
      refine h_bipush (pc' := 17) (x := (Int32.ofInt (-4))) rfl rfl cb_m4 ?_
      refine h_ceq (tg := 45) (pc' := 20) rfl rfl rfl hy3 ci_m4 (fun c2 => ?_) (fun c2 => ?_)
      · refine h_iload_n (pc' := 46) rfl rfl rfl ?_
        exact h_iret rfl rfl (kk _ _ hy2 _ I0 F0_)
      · refine h_iload_n (pc' := 21) rfl rfl rfl ?_
        refine h_iconst (pc' := 22) (x := (Int32.ofInt 1)) rfl rfl rfl ?_
        refine h_iload_n (pc' := 23) rfl rfl rfl ?_
        refine h_shl1 (pc' := 24) rfl rfl ci_1 hy3 (by omega) (by omega) (fun z3 hz3 vz3 => ?_)
        refine h_ior (pc' := 25) rfl rfl (fun z4 hz4 => ?_)
        refine h_istore_n (pc' := 26) (M := [(2, .int z4), (0, .ref 98), (1, .int x0), (3, .int y3), (4, .int y4)]) rfl rfl rfl rfl ?_
        refine h_aload_n (pc' := 27) rfl rfl rfl ?_
        refine h_getR (pc' := 30) rfl rfl rfl rfl rfl ?_
        refine h_bipush (pc' := 32) (x := (Int32.ofInt 6)) rfl rfl cb_6 ?_
        refine h_iload_n (pc' := 33) rfl rfl rfl ?_
        refine h_iadd (pc' := 34) rfl rfl ci_6 hy3 rfl (by omega) (by omega) (fun z5 hz5 => ?_)
        refine h_iald (pc' := 35) (v := σ 99 (6 + b3)) rfl rfl rfl hz5 (by omega) (by omega) (F0_ 99 _ rfl) (fun z6 hz6 => ?_)
        have tz6 := ty_99_1 hI (6 + b3) (by omega)
        refine h_calls (pc' := 38) (M := [(0, .int z6)]) rfl rfl rfl rfl rfl rfl ?_
        refine h_iload_n (pc' := 1) rfl rfl rfl ?_
        refine h_zne (tg := 9) (pc' := 4) rfl rfl rfl hz6 (fun c7 => ?_) (fun c7 => ?_)
        · refine h_iload_n (pc' := 10) rfl rfl rfl ?_
          refine h_iconst (pc' := 11) (x := (Int32.ofInt 1)) rfl rfl rfl ?_
          refine h_isub (pc' := 12) rfl rfl hz6 ci_1 rfl (by omega) (by omega) (fun z8 hz8 => ?_)
          refine h_iret rfl rfl (h_Kv ?_)
          refine h_istore_n (pc' := 39) (M := [(3, .int z8), (2, .int z4), (0, .ref 98), (1, .int x0), (4, .int y4)]) rfl rfl rfl rfl ?_
          refine h_iinc (pc' := 42) (M := fun z9 => [(4, .int z9), (3, .int z8), (2, .int z4), (0, .ref 98), (1, .int x0)]) rfl rfl rfl rfl hy4 ci_1 rfl (by omega) (by omega) (fun _ => rfl) (fun z9 hz9 => ?_)
          refine h_goto (pc' := 7) rfl rfl ?_
          exact h_wk [(0, .ref 98), (1, .int x0), (2, .int z4), (3, .int z8), (4, .int z9)] ⟨rfl, rfl, rfl, rfl, rfl, trivial⟩ (ih _ I0 F0_ z4 _ rfl z8 _ hz8 (by omega) z9 _ hz9 (by omega) (by omega) (by omega))
        · refine h_bipush (pc' := 6) (x := (Int32.ofInt (-4))) rfl rfl cb_m4 ?_
          refine h_goto (pc' := 12) rfl rfl ?_
          refine h_iret rfl rfl (h_Kv ?_)
          refine h_istore_n (pc' := 39) (M := [(3, .int (Int32.ofInt (-4))), (2, .int z4), (0, .ref 98), (1, .int x0), (4, .int y4)]) rfl rfl rfl rfl ?_
          refine h_iinc (pc' := 42) (M := fun z10 => [(4, .int z10), (3, .int (Int32.ofInt (-4))), (2, .int z4), (0, .ref 98), (1, .int x0)]) rfl rfl rfl rfl hy4 ci_1 rfl (by omega) (by omega) (fun _ => rfl) (fun z10 hz10 => ?_)
          refine h_goto (pc' := 7) rfl rfl ?_
          exact h_wk [(0, .ref 98), (1, .int x0), (2, .int z4), (3, .int (Int32.ofInt (-4))), (4, .int z10)] ⟨rfl, rfl, rfl, rfl, rfl, trivial⟩ (ih _ I0 F0_ z4 _ rfl (Int32.ofInt (-4)) _ ci_m4 (by omega) z10 _ hz10 (by omega) (by omega) (by omega))
theorem w_176_98 {ns : Nat} (σ : h_S) (hI : h_I σ) (x0 : Int32) (a0 : Int) (hx0 : x0.toInt = a0) (ra0 : 0 ≤ a0 ∧ a0 ≤ 5) {Q : Option Value → h_S → Prop} (kk : ∀ (r : Int32) (b : Int) (hb : r.toInt = b) (τ : h_S), h_I τ → h_F (k_in kf_w_176_98) τ σ → Q (some (.int r)) τ) : h_T g_P (g_Y ns) 176 0 [(0, .ref 98), (1, .int x0)] [] σ Q := by
  have F00 : h_F (k_in kf_w_176_98) σ σ := h_F.rf
  refine h_iconst (pc' := 1) (x := (Int32.ofInt 0)) rfl rfl rfl ?_
  refine h_istore_n (pc' := 2) (M := [(2, .int (Int32.ofInt 0)), (0, .ref 98), (1, .int x0)]) rfl rfl rfl rfl ?_
  refine h_iload_n (pc' := 3) rfl rfl rfl ?_
  refine h_istore_n (pc' := 4) (M := [(3, .int x0), (2, .int (Int32.ofInt 0)), (0, .ref 98), (1, .int x0)]) rfl rfl rfl rfl ?_
  refine h_iconst (pc' := 5) (x := (Int32.ofInt 0)) rfl rfl rfl ?_
  refine h_istore (pc' := 7) (M := [(4, .int (Int32.ofInt 0)), (3, .int x0), (2, .int (Int32.ofInt 0)), (0, .ref 98), (1, .int x0)]) rfl rfl rfl rfl ?_
  exact h_wk [(0, .ref 98), (1, .int x0), (2, .int (Int32.ofInt 0)), (3, .int x0), (4, .int (Int32.ofInt 0))] ⟨rfl, rfl, rfl, rfl, rfl, trivial⟩ ((w_176_98_l ns σ hI x0 a0 hx0 ra0 kk 1000000000000) _ hI F00 (Int32.ofInt 0) _ ci_0 x0 _ hx0 (by omega) (Int32.ofInt 0) _ ci_0 (by omega) (by omega) (by omega))
def kf_w_190_98_e132 : List Nat := [101891]
theorem w_190_98_e132_l (ns : Nat) (σ : h_S) (hI : h_I σ) (x0 : Int32) (a0 : Int) (hx0 : x0.toInt = a0) (ra0 : 0 ≤ a0 ∧ a0 ≤ 176 ∧ a0 % 44 = 0) {Q : Option Value → h_S → Prop} (kk : ∀ (τ : h_S), h_I τ → h_F (k_in kf_w_190_98_e132) τ σ → Q none τ) : ∀ n : Nat, (∀ (s0 : h_S), h_I s0 → h_F (k_in kf_w_190_98_e132) s0 σ → ∀ (y3 : Int32) (b3 : Int), y3.toInt = b3 → (0 ≤ b3 ∧ b3 ≤ 44) → (44 + 1 - b3) * 1000000 + 1000000000 ≤ (n : Int) → h_T g_P (g_Y ns) 190 2 [(0, .ref 98), (1, .int x0), (2, .int (Int32.ofInt 132)), (3, .int y3)] [] s0 Q) := by
  intro n
  induction n with
  | zero => exact by intro s0 I0 F0_ y3 b3 hy3 ry3 hm; exfalso; omega
  | succ n ih =>
    intro s0 I0 F0_ y3 b3 hy3 ry3 hm
    refine h_iload_n (pc' := 3) rfl rfl rfl ?_
    refine h_bipush (pc' := 5) (x := (Int32.ofInt 44)) rfl rfl cb_44 ?_
    refine h_cge (tg := 30) (pc' := 8) rfl rfl rfl hy3 ci_44 (fun c1 => ?_) (fun c1 => ?_)
    · exact h_vret rfl rfl (kk _ I0 F0_)
    · refine h_aload_n (pc' := 9) rfl rfl rfl ?_
      refine h_getR (pc' := 12) rfl rfl rfl rfl rfl ?_
      refine h_iload_n (pc' := 13) rfl rfl rfl ?_
      refine h_iload_n (pc' := 14) rfl rfl rfl ?_
      refine h_iadd (pc' := 15) rfl rfl ci_132 hy3 rfl (by omega) (by omega) (fun z2 hz2 => ?_)
      refine h_aload_n (pc' := 16) rfl rfl rfl ?_
      refine h_getR (pc' := 19) rfl rfl rfl rfl rfl ?_
      refine h_iload_n (pc' := 20) rfl rfl rfl ?_
      refine h_iload_n (pc' := 21) rfl rfl rfl ?_
      refine h_iadd (pc' := 22) rfl rfl hx0 hy3 rfl (by omega) (by omega) (fun z3 hz3 => ?_)
      refine h_iald (pc' := 23) (v := s0 99 (a0 + b3)) rfl rfl rfl hz3 (by omega) (by omega) rfl (fun z4 hz4 => ?_)
      have tz4 := h_rng z4
      rw [hz4] at tz4
      refine h_iast (pc' := 24) rfl rfl rfl rfl hz2 (by omega) (by omega) hz4 (h_fg _ (im_99 (i := (a0 + b3)) I0 (by omega) (I0 99 (a0 + b3))) (F0_.up (k_ipg (p := 3) rfl rfl (by omega))) (fun s5 Is5 Fs5 => ?_))
      refine h_iinc (pc' := 27) (M := fun z6 => [(3, .int z6), (0, .ref 98), (1, .int x0), (2, .int (Int32.ofInt 132))]) rfl rfl rfl rfl hy3 ci_1 rfl (by omega) (by omega) (fun _ => rfl) (fun z6 hz6 => ?_)
      refine h_goto (pc' := 2) rfl rfl ?_
      exact h_wk [(0, .ref 98), (1, .int x0), (2, .int (Int32.ofInt 132)), (3, .int z6)] ⟨rfl, rfl, rfl, rfl, trivial⟩ (ih _ Is5 Fs5 z6 _ hz6 (by omega) (by omega))
theorem w_190_98_e132 {ns : Nat} (σ : h_S) (hI : h_I σ) (x0 : Int32) (a0 : Int) (hx0 : x0.toInt = a0) (ra0 : 0 ≤ a0 ∧ a0 ≤ 176 ∧ a0 % 44 = 0) {Q : Option Value → h_S → Prop} (kk : ∀ (τ : h_S), h_I τ → h_F (k_in kf_w_190_98_e132) τ σ → Q none τ) : h_T g_P (g_Y ns) 190 0 [(0, .ref 98), (1, .int x0), (2, .int (Int32.ofInt 132))] [] σ Q := by
  have F00 : h_F (k_in kf_w_190_98_e132) σ σ := h_F.rf
  refine h_iconst (pc' := 1) (x := (Int32.ofInt 0)) rfl rfl rfl ?_
  refine h_istore_n (pc' := 2) (M := [(3, .int (Int32.ofInt 0)), (0, .ref 98), (1, .int x0), (2, .int (Int32.ofInt 132))]) rfl rfl rfl rfl ?_
  exact h_wk [(0, .ref 98), (1, .int x0), (2, .int (Int32.ofInt 132)), (3, .int (Int32.ofInt 0))] ⟨rfl, rfl, rfl, rfl, trivial⟩ ((w_190_98_e132_l ns σ hI x0 a0 hx0 ra0 kk 1000000000000) _ hI F00 (Int32.ofInt 0) _ ci_0 (by omega) (by omega))
def kf_w_190_98_e176 : List Nat := [101892]
theorem w_190_98_e176_l (ns : Nat) (σ : h_S) (hI : h_I σ) (x0 : Int32) (a0 : Int) (hx0 : x0.toInt = a0) (ra0 : 0 ≤ a0 ∧ a0 ≤ 176 ∧ a0 % 44 = 0) {Q : Option Value → h_S → Prop} (kk : ∀ (τ : h_S), h_I τ → h_F (k_in kf_w_190_98_e176) τ σ → Q none τ) : ∀ n : Nat, (∀ (s0 : h_S), h_I s0 → h_F (k_in kf_w_190_98_e176) s0 σ → ∀ (y3 : Int32) (b3 : Int), y3.toInt = b3 → (0 ≤ b3 ∧ b3 ≤ 44) → (44 + 1 - b3) * 1000000 + 1000000000 ≤ (n : Int) → h_T g_P (g_Y ns) 190 2 [(0, .ref 98), (1, .int x0), (2, .int (Int32.ofInt 176)), (3, .int y3)] [] s0 Q) := by
  intro n
  induction n with
  | zero => exact by intro s0 I0 F0_ y3 b3 hy3 ry3 hm; exfalso; omega
  | succ n ih =>
    intro s0 I0 F0_ y3 b3 hy3 ry3 hm
    refine h_iload_n (pc' := 3) rfl rfl rfl ?_
    refine h_bipush (pc' := 5) (x := (Int32.ofInt 44)) rfl rfl cb_44 ?_
    refine h_cge (tg := 30) (pc' := 8) rfl rfl rfl hy3 ci_44 (fun c1 => ?_) (fun c1 => ?_)
    · exact h_vret rfl rfl (kk _ I0 F0_)
    · refine h_aload_n (pc' := 9) rfl rfl rfl ?_
      refine h_getR (pc' := 12) rfl rfl rfl rfl rfl ?_
      refine h_iload_n (pc' := 13) rfl rfl rfl ?_
      refine h_iload_n (pc' := 14) rfl rfl rfl ?_
      refine h_iadd (pc' := 15) rfl rfl ci_176 hy3 rfl (by omega) (by omega) (fun z2 hz2 => ?_)
      refine h_aload_n (pc' := 16) rfl rfl rfl ?_
      refine h_getR (pc' := 19) rfl rfl rfl rfl rfl ?_
      refine h_iload_n (pc' := 20) rfl rfl rfl ?_
      refine h_iload_n (pc' := 21) rfl rfl rfl ?_
      refine h_iadd (pc' := 22) rfl rfl hx0 hy3 rfl (by omega) (by omega) (fun z3 hz3 => ?_)
      refine h_iald (pc' := 23) (v := s0 99 (a0 + b3)) rfl rfl rfl hz3 (by omega) (by omega) rfl (fun z4 hz4 => ?_)
      have tz4 := h_rng z4
      rw [hz4] at tz4
      refine h_iast (pc' := 24) rfl rfl rfl rfl hz2 (by omega) (by omega) hz4 (h_fg _ (im_99 (i := (a0 + b3)) I0 (by omega) (I0 99 (a0 + b3))) (F0_.up (k_ipg (p := 4) rfl rfl (by omega))) (fun s5 Is5 Fs5 => ?_))
      refine h_iinc (pc' := 27) (M := fun z6 => [(3, .int z6), (0, .ref 98), (1, .int x0), (2, .int (Int32.ofInt 176))]) rfl rfl rfl rfl hy3 ci_1 rfl (by omega) (by omega) (fun _ => rfl) (fun z6 hz6 => ?_)
      refine h_goto (pc' := 2) rfl rfl ?_
      exact h_wk [(0, .ref 98), (1, .int x0), (2, .int (Int32.ofInt 176)), (3, .int z6)] ⟨rfl, rfl, rfl, rfl, trivial⟩ (ih _ Is5 Fs5 z6 _ hz6 (by omega) (by omega))
theorem w_190_98_e176 {ns : Nat} (σ : h_S) (hI : h_I σ) (x0 : Int32) (a0 : Int) (hx0 : x0.toInt = a0) (ra0 : 0 ≤ a0 ∧ a0 ≤ 176 ∧ a0 % 44 = 0) {Q : Option Value → h_S → Prop} (kk : ∀ (τ : h_S), h_I τ → h_F (k_in kf_w_190_98_e176) τ σ → Q none τ) : h_T g_P (g_Y ns) 190 0 [(0, .ref 98), (1, .int x0), (2, .int (Int32.ofInt 176))] [] σ Q := by
  have F00 : h_F (k_in kf_w_190_98_e176) σ σ := h_F.rf
  refine h_iconst (pc' := 1) (x := (Int32.ofInt 0)) rfl rfl rfl ?_
  refine h_istore_n (pc' := 2) (M := [(3, .int (Int32.ofInt 0)), (0, .ref 98), (1, .int x0), (2, .int (Int32.ofInt 176))]) rfl rfl rfl rfl ?_
  exact h_wk [(0, .ref 98), (1, .int x0), (2, .int (Int32.ofInt 176)), (3, .int (Int32.ofInt 0))] ⟨rfl, rfl, rfl, rfl, trivial⟩ ((w_190_98_e176_l ns σ hI x0 a0 hx0 ra0 kk 1000000000000) _ hI F00 (Int32.ofInt 0) _ ci_0 (by omega) (by omega))
def kf_w_187_98_e132 : List Nat := [101891]
theorem w_187_98_e132 {ns : Nat} (σ : h_S) (hI : h_I σ) (x1 : Int32) (a1 : Int) (hx1 : x1.toInt = a1) (ra1 : 0 ≤ a1 ∧ a1 ≤ 5) (x2 : Int32) (a2 : Int) (hx2 : x2.toInt = a2) (ra2 : 0 ≤ a2 ∧ a2 ≤ 2) {Q : Option Value → h_S → Prop} (kk : ∀ (r : Int32) (b : Int) (hb : r.toInt = b) (τ : h_S), h_I τ → h_F (k_in kf_w_187_98_e132) τ σ → (0 ≤ b ∧ b ≤ 1) → Q (some (.int r)) τ) : h_T g_P (g_Y ns) 187 0 [(0, .ref 98), (1, .int (Int32.ofInt 132)), (2, .int x1), (3, .int x2)] [] σ Q := by
  have F00 : h_F (k_in kf_w_187_98_e132) σ σ := h_F.rf
  refine h_aload_n (pc' := 1) rfl rfl rfl ?_
  refine h_iload_n (pc' := 2) rfl rfl rfl ?_
  refine h_aload_n (pc' := 3) rfl rfl rfl ?_
  refine h_getR (pc' := 6) rfl rfl rfl rfl rfl ?_
  refine h_iload_n (pc' := 7) rfl rfl rfl ?_
  refine h_bipush (pc' := 9) (x := (Int32.ofInt 29)) rfl rfl cb_29 ?_
  refine h_iadd (pc' := 10) (c := 161) rfl rfl ci_132 ci_29 rfl (by omega) (by omega) (fun z1 hz1 => ?_)
  refine h_iload_n (pc' := 11) rfl rfl rfl ?_
  refine h_iadd (pc' := 12) rfl rfl hz1 hx2 rfl (by omega) (by omega) (fun z2 hz2 => ?_)
  refine h_iald (pc' := 13) (v := σ 99 (161 + a2)) rfl rfl rfl hz2 (by omega) (by omega) rfl (fun z3 hz3 => ?_)
  have tz3 := ty_99_7 hI (161 + a2) (by omega)
  refine h_calls (pc' := 16) (M := [(0, .int z3)]) rfl rfl rfl rfl rfl rfl ?_
  refine h_iload_n (pc' := 1) rfl rfl rfl ?_
  refine h_zne (tg := 9) (pc' := 4) rfl rfl rfl hz3 (fun c4 => ?_) (fun c4 => ?_)
  · refine h_iload_n (pc' := 10) rfl rfl rfl ?_
    refine h_iconst (pc' := 11) (x := (Int32.ofInt 1)) rfl rfl rfl ?_
    refine h_isub (pc' := 12) rfl rfl hz3 ci_1 rfl (by omega) (by omega) (fun z5 hz5 => ?_)
    refine h_iret rfl rfl (h_Kv ?_)
    refine h_aload_n (pc' := 17) rfl rfl rfl ?_
    refine h_getR (pc' := 20) rfl rfl rfl rfl rfl ?_
    refine h_iload_n (pc' := 21) rfl rfl rfl ?_
    refine h_bipush (pc' := 23) (x := (Int32.ofInt 26)) rfl rfl cb_26 ?_
    refine h_iadd (pc' := 24) (c := 158) rfl rfl ci_132 ci_26 rfl (by omega) (by omega) (fun z6 hz6 => ?_)
    refine h_iload_n (pc' := 25) rfl rfl rfl ?_
    refine h_iadd (pc' := 26) rfl rfl hz6 hx2 rfl (by omega) (by omega) (fun z7 hz7 => ?_)
    refine h_iald (pc' := 27) (v := σ 99 (158 + a2)) rfl rfl rfl hz7 (by omega) (by omega) rfl (fun z8 hz8 => ?_)
    have tz8 := ty_99_6 hI (158 + a2) (by omega)
    refine h_call (sp := false) (pc' := 30) (M := [(0, .ref 98), (1, .int x1), (2, .int z5), (3, .int z8)]) rfl rfl rfl rfl rfl rfl rfl rfl ?_
    refine w_164_98 _ hI x1 _ hx1 (by omega) z5 _ hz5 (by omega) z8 _ hz8 (fun r9 br9 hr9 s10 Is10 Gs10 tr9 => h_Kv ?_)
    have Fs10 := (Gs10.mono (B := kf_w_187_98_e132) rfl).tr F00
    refine h_zne (tg := 35) (pc' := 33) rfl rfl rfl hr9 (fun c11 => ?_) (fun c11 => ?_)
    · refine h_aload_n (pc' := 36) rfl rfl rfl ?_
      refine h_getR (pc' := 39) rfl rfl rfl rfl rfl ?_
      refine h_iload_n (pc' := 40) rfl rfl rfl ?_
      refine h_bipush (pc' := 42) (x := (Int32.ofInt 29)) rfl rfl cb_29 ?_
      refine h_iadd (pc' := 43) (c := 161) rfl rfl ci_132 ci_29 rfl (by omega) (by omega) (fun z12 hz12 => ?_)
      refine h_iload_n (pc' := 44) rfl rfl rfl ?_
      refine h_iadd (pc' := 45) rfl rfl hz12 hx2 rfl (by omega) (by omega) (fun z13 hz13 => ?_)
      refine h_iload_n (pc' := 46) rfl rfl rfl ?_
      refine h_iconst (pc' := 47) (x := (Int32.ofInt 1)) rfl rfl rfl ?_
      refine h_iadd (pc' := 48) rfl rfl hx1 ci_1 rfl (by omega) (by omega) (fun z14 hz14 => ?_)
      refine h_iast (pc' := 49) rfl rfl rfl rfl hz13 (by omega) (by omega) hz14 (h_fg _ (ip_99_7 Is10 (by omega) (by omega)) (Fs10.up (k_ipg (p := 3) rfl rfl (by omega))) (fun s15 Is15 Fs15 => ?_))
      refine h_aload_n (pc' := 50) rfl rfl rfl ?_
      refine h_getR (pc' := 53) rfl rfl rfl rfl rfl ?_
      refine h_iload_n (pc' := 54) rfl rfl rfl ?_
      refine h_bipush (pc' := 56) (x := (Int32.ofInt 32)) rfl rfl cb_32 ?_
      refine h_iadd (pc' := 57) (c := 164) rfl rfl ci_132 ci_32 rfl (by omega) (by omega) (fun z16 hz16 => ?_)
      refine h_iload_n (pc' := 58) rfl rfl rfl ?_
      refine h_iadd (pc' := 59) rfl rfl hz16 hx2 rfl (by omega) (by omega) (fun z17 hz17 => ?_)
      refine h_dup2 (pc' := 60) rfl rfl rfl ?_
      refine h_iald (pc' := 61) (v := s15 99 (164 + a2)) rfl rfl rfl hz17 (by omega) (by omega) rfl (fun z18 hz18 => ?_)
      have tz18 := ty_99_8 Is15 (164 + a2) (by omega)
      refine h_aload_n (pc' := 62) rfl rfl rfl ?_
      refine h_getR (pc' := 65) rfl rfl rfl rfl rfl ?_
      refine h_iload_n (pc' := 66) rfl rfl rfl ?_
      refine h_bipush (pc' := 68) (x := (Int32.ofInt 32)) rfl rfl cb_32 ?_
      refine h_iadd (pc' := 69) (c := 164) rfl rfl ci_132 ci_32 rfl (by omega) (by omega) (fun z19 hz19 => ?_)
      refine h_iload_n (pc' := 70) rfl rfl rfl ?_
      refine h_iadd (pc' := 71) rfl rfl hz19 hx2 rfl (by omega) (by omega) (fun z20 hz20 => ?_)
      refine h_iald (pc' := 72) (v := s15 99 (164 + a2)) rfl rfl rfl hz20 (by omega) (by omega) rfl (fun z21 hz21 => ?_)
      have tz21 := ty_99_8 Is15 (164 + a2) (by omega)
      refine h_sipush (pc' := 75) (x := (Int32.ofInt 999)) rfl rfl cs_999 ?_
      refine h_cge (tg := 82) (pc' := 78) rfl rfl rfl hz21 ci_999 (fun c22 => ?_) (fun c22 => ?_)
      · refine h_iconst (pc' := 83) (x := (Int32.ofInt 0)) rfl rfl rfl ?_
        refine h_iadd (pc' := 84) rfl rfl hz18 ci_0 rfl (by omega) (by omega) (fun z23 hz23 => ?_)
        refine h_iast (pc' := 85) rfl rfl rfl rfl hz17 (by omega) (by omega) hz23 (h_fg _ (ip_99_8 Is15 (by omega) (by omega)) (Fs15.up (k_ipg (p := 3) rfl rfl (by omega))) (fun s24 Is24 Fs24 => ?_))
        refine h_iconst (pc' := 86) (x := (Int32.ofInt 1)) rfl rfl rfl ?_
        exact h_zret rfl rfl ci_1 (by omega) (kk _ _ ci_1 _ Is24 Fs24 (by omega))
      · refine h_iconst (pc' := 79) (x := (Int32.ofInt 1)) rfl rfl rfl ?_
        refine h_goto (pc' := 83) rfl rfl ?_
        refine h_iadd (pc' := 84) rfl rfl hz18 ci_1 rfl (by omega) (by omega) (fun z25 hz25 => ?_)
        refine h_iast (pc' := 85) rfl rfl rfl rfl hz17 (by omega) (by omega) hz25 (h_fg _ (ip_99_8 Is15 (by omega) (by omega)) (Fs15.up (k_ipg (p := 3) rfl rfl (by omega))) (fun s26 Is26 Fs26 => ?_))
        refine h_iconst (pc' := 86) (x := (Int32.ofInt 1)) rfl rfl rfl ?_
        exact h_zret rfl rfl ci_1 (by omega) (kk _ _ ci_1 _ Is26 Fs26 (by omega))
    · refine h_iconst (pc' := 34) (x := (Int32.ofInt 0)) rfl rfl rfl ?_
      exact h_zret rfl rfl ci_0 (by omega) (kk _ _ ci_0 _ Is10 Fs10 (by omega))
  · refine h_bipush (pc' := 6) (x := (Int32.ofInt (-4))) rfl rfl cb_m4 ?_
    refine h_goto (pc' := 12) rfl rfl ?_
    refine h_iret rfl rfl (h_Kv ?_)
    refine h_aload_n (pc' := 17) rfl rfl rfl ?_
    refine h_getR (pc' := 20) rfl rfl rfl rfl rfl ?_
    refine h_iload_n (pc' := 21) rfl rfl rfl ?_
    refine h_bipush (pc' := 23) (x := (Int32.ofInt 26)) rfl rfl cb_26 ?_
    refine h_iadd (pc' := 24) (c := 158) rfl rfl ci_132 ci_26 rfl (by omega) (by omega) (fun z27 hz27 => ?_)
    refine h_iload_n (pc' := 25) rfl rfl rfl ?_
    refine h_iadd (pc' := 26) rfl rfl hz27 hx2 rfl (by omega) (by omega) (fun z28 hz28 => ?_)
    refine h_iald (pc' := 27) (v := σ 99 (158 + a2)) rfl rfl rfl hz28 (by omega) (by omega) rfl (fun z29 hz29 => ?_)
    have tz29 := ty_99_6 hI (158 + a2) (by omega)
    refine h_call (sp := false) (pc' := 30) (M := [(0, .ref 98), (1, .int x1), (2, .int (Int32.ofInt (-4))), (3, .int z29)]) rfl rfl rfl rfl rfl rfl rfl rfl ?_
    refine w_164_98 _ hI x1 _ hx1 (by omega) (Int32.ofInt (-4)) _ ci_m4 (by omega) z29 _ hz29 (fun r30 br30 hr30 s31 Is31 Gs31 tr30 => h_Kv ?_)
    have Fs31 := (Gs31.mono (B := kf_w_187_98_e132) rfl).tr F00
    refine h_zne (tg := 35) (pc' := 33) rfl rfl rfl hr30 (fun c32 => ?_) (fun c32 => ?_)
    · refine h_aload_n (pc' := 36) rfl rfl rfl ?_
      refine h_getR (pc' := 39) rfl rfl rfl rfl rfl ?_
      refine h_iload_n (pc' := 40) rfl rfl rfl ?_
      refine h_bipush (pc' := 42) (x := (Int32.ofInt 29)) rfl rfl cb_29 ?_
      refine h_iadd (pc' := 43) (c := 161) rfl rfl ci_132 ci_29 rfl (by omega) (by omega) (fun z33 hz33 => ?_)
      refine h_iload_n (pc' := 44) rfl rfl rfl ?_
      refine h_iadd (pc' := 45) rfl rfl hz33 hx2 rfl (by omega) (by omega) (fun z34 hz34 => ?_)
      refine h_iload_n (pc' := 46) rfl rfl rfl ?_
      refine h_iconst (pc' := 47) (x := (Int32.ofInt 1)) rfl rfl rfl ?_
      refine h_iadd (pc' := 48) rfl rfl hx1 ci_1 rfl (by omega) (by omega) (fun z35 hz35 => ?_)
      refine h_iast (pc' := 49) rfl rfl rfl rfl hz34 (by omega) (by omega) hz35 (h_fg _ (ip_99_7 Is31 (by omega) (by omega)) (Fs31.up (k_ipg (p := 3) rfl rfl (by omega))) (fun s36 Is36 Fs36 => ?_))
      refine h_aload_n (pc' := 50) rfl rfl rfl ?_
      refine h_getR (pc' := 53) rfl rfl rfl rfl rfl ?_
      refine h_iload_n (pc' := 54) rfl rfl rfl ?_
      refine h_bipush (pc' := 56) (x := (Int32.ofInt 32)) rfl rfl cb_32 ?_
      refine h_iadd (pc' := 57) (c := 164) rfl rfl ci_132 ci_32 rfl (by omega) (by omega) (fun z37 hz37 => ?_)
      refine h_iload_n (pc' := 58) rfl rfl rfl ?_
      refine h_iadd (pc' := 59) rfl rfl hz37 hx2 rfl (by omega) (by omega) (fun z38 hz38 => ?_)
      refine h_dup2 (pc' := 60) rfl rfl rfl ?_
      refine h_iald (pc' := 61) (v := s36 99 (164 + a2)) rfl rfl rfl hz38 (by omega) (by omega) rfl (fun z39 hz39 => ?_)
      have tz39 := ty_99_8 Is36 (164 + a2) (by omega)
      refine h_aload_n (pc' := 62) rfl rfl rfl ?_
      refine h_getR (pc' := 65) rfl rfl rfl rfl rfl ?_
      refine h_iload_n (pc' := 66) rfl rfl rfl ?_
      refine h_bipush (pc' := 68) (x := (Int32.ofInt 32)) rfl rfl cb_32 ?_
      refine h_iadd (pc' := 69) (c := 164) rfl rfl ci_132 ci_32 rfl (by omega) (by omega) (fun z40 hz40 => ?_)
      refine h_iload_n (pc' := 70) rfl rfl rfl ?_
      refine h_iadd (pc' := 71) rfl rfl hz40 hx2 rfl (by omega) (by omega) (fun z41 hz41 => ?_)
      refine h_iald (pc' := 72) (v := s36 99 (164 + a2)) rfl rfl rfl hz41 (by omega) (by omega) rfl (fun z42 hz42 => ?_)
      have tz42 := ty_99_8 Is36 (164 + a2) (by omega)
      refine h_sipush (pc' := 75) (x := (Int32.ofInt 999)) rfl rfl cs_999 ?_
      refine h_cge (tg := 82) (pc' := 78) rfl rfl rfl hz42 ci_999 (fun c43 => ?_) (fun c43 => ?_)
      · refine h_iconst (pc' := 83) (x := (Int32.ofInt 0)) rfl rfl rfl ?_
        refine h_iadd (pc' := 84) rfl rfl hz39 ci_0 rfl (by omega) (by omega) (fun z44 hz44 => ?_)
        refine h_iast (pc' := 85) rfl rfl rfl rfl hz38 (by omega) (by omega) hz44 (h_fg _ (ip_99_8 Is36 (by omega) (by omega)) (Fs36.up (k_ipg (p := 3) rfl rfl (by omega))) (fun s45 Is45 Fs45 => ?_))
        refine h_iconst (pc' := 86) (x := (Int32.ofInt 1)) rfl rfl rfl ?_
        exact h_zret rfl rfl ci_1 (by omega) (kk _ _ ci_1 _ Is45 Fs45 (by omega))
      · refine h_iconst (pc' := 79) (x := (Int32.ofInt 1)) rfl rfl rfl ?_
        refine h_goto (pc' := 83) rfl rfl ?_
        refine h_iadd (pc' := 84) rfl rfl hz39 ci_1 rfl (by omega) (by omega) (fun z46 hz46 => ?_)
        refine h_iast (pc' := 85) rfl rfl rfl rfl hz38 (by omega) (by omega) hz46 (h_fg _ (ip_99_8 Is36 (by omega) (by omega)) (Fs36.up (k_ipg (p := 3) rfl rfl (by omega))) (fun s47 Is47 Fs47 => ?_))
        refine h_iconst (pc' := 86) (x := (Int32.ofInt 1)) rfl rfl rfl ?_
        exact h_zret rfl rfl ci_1 (by omega) (kk _ _ ci_1 _ Is47 Fs47 (by omega))
    · refine h_iconst (pc' := 34) (x := (Int32.ofInt 0)) rfl rfl rfl ?_
      exact h_zret rfl rfl ci_0 (by omega) (kk _ _ ci_0 _ Is31 Fs31 (by omega))
def kf_w_191_98 : List Nat := [100374, 100375, 101891, 108543]
theorem w_191_98_l (ns : Nat) (σ : h_S) (hI : h_I σ) (x0 : Int32) (a0 : Int) (hx0 : x0.toInt = a0) (ra0 : 0 ≤ a0 ∧ a0 ≤ 176 ∧ a0 % 44 = 0) (x1 : Int32) (a1 : Int) (hx1 : x1.toInt = a1) {Q : Option Value → h_S → Prop} (kk : ∀ (τ : h_S), h_I τ → h_F (k_in kf_w_191_98) τ σ → Q none τ) : ∀ n : Nat, (∀ (s0 : h_S), h_I s0 → h_F (k_in kf_w_191_98) s0 σ → ∀ (y3 : Int32) (b3 : Int), y3.toInt = b3 → (0 ≤ b3 ∧ b3 ≤ 8) → (8 + 1 - b3) * 1000000 + 1000000000 ≤ (n : Int) → h_T g_P (g_Y ns) 191 25 [(0, .ref 98), (1, .int x0), (2, .int x1), (3, .int y3)] [] s0 Q) := by
  intro n
  induction n with
  | zero => exact by intro s0 I0 F0_ y3 b3 hy3 ry3 hm; exfalso; omega
  | succ n ih =>
    intro s0 I0 F0_ y3 b3 hy3 ry3 hm
    refine h_iload_n (pc' := 26) rfl rfl rfl ?_
    refine h_aload_n (pc' := 27) rfl rfl rfl ?_
    refine h_getR (pc' := 30) rfl rfl rfl rfl rfl ?_
    refine h_bipush (pc' := 32) (x := (Int32.ofInt 43)) rfl rfl cb_43 ?_
    refine h_iald (pc' := 33) (v := σ 99 43) rfl rfl rfl ci_43 (by omega) (by omega) (F0_ 99 _ (k_no (l := 43) (h := 43) rfl (by omega) (by omega))) (fun z1 hz1 => ?_)
    have tz1 := ty_99_10 hI 43 (by omega)
    refine h_cge (tg := 114) (pc' := 36) rfl rfl rfl hy3 hz1 (fun c2 => ?_) (fun c2 => ?_)
    · exact h_vret rfl rfl (kk _ I0 F0_)
    · refine h_aload_n (pc' := 37) rfl rfl rfl ?_
      refine h_getR (pc' := 40) rfl rfl rfl rfl rfl ?_
      refine h_bipush (pc' := 42) (x := (Int32.ofInt 35)) rfl rfl cb_35 ?_
      refine h_iload_n (pc' := 43) rfl rfl rfl ?_
      refine h_iadd (pc' := 44) rfl rfl ci_35 hy3 rfl (by omega) (by omega) (fun z3 hz3 => ?_)
      refine h_iald (pc' := 45) (v := σ 99 (35 + b3)) rfl rfl rfl hz3 (by omega) (by omega) (F0_ 99 _ (k_no (l := 35) (h := 42) rfl (by omega) (by omega))) (fun z4 hz4 => ?_)
      have tz4 := ty_99_9 hI (35 + b3) (by omega)
      refine h_bipush (pc' := 47) (x := (Int32.ofInt 10)) rfl rfl cb_10 ?_
      refine h_idiv (pc' := 48) rfl rfl hz4 ci_10 (by omega) (by omega) (fun z5 hz5 => ?_)
      refine h_istore (pc' := 50) (M := [(4, .int z5), (0, .ref 98), (1, .int x0), (2, .int x1), (3, .int y3)]) rfl rfl rfl rfl ?_
      refine h_iload_n (pc' := 51) rfl rfl rfl ?_
      refine h_iload (pc' := 53) rfl rfl rfl ?_
      refine h_ishr (pc' := 54) rfl rfl (fun z6 hz6 => ?_)
      refine h_iconst (pc' := 55) (x := (Int32.ofInt 1)) rfl rfl rfl ?_
      refine h_iand (pc' := 56) rfl rfl (fun z7 hz7 uz7 vz7 => ?_)
      clear uz7
      rw [ci_1] at vz7
      have yz7 := vz7 (by omega)
      refine h_zne (tg := 108) (pc' := 59) rfl rfl rfl rfl (fun c8 => ?_) (fun c8 => ?_)
      · refine h_iinc (pc' := 111) (M := fun z9 => [(3, .int z9), (4, .int z5), (0, .ref 98), (1, .int x0), (2, .int x1)]) rfl rfl rfl rfl hy3 ci_1 rfl (by omega) (by omega) (fun _ => rfl) (fun z9 hz9 => ?_)
        refine h_goto (pc' := 25) rfl rfl ?_
        exact h_wk [(0, .ref 98), (1, .int x0), (2, .int x1), (3, .int z9)] ⟨rfl, rfl, rfl, rfl, trivial⟩ (ih _ I0 F0_ z9 _ hz9 (by omega) (by omega))
      · refine h_aload_n (pc' := 60) rfl rfl rfl ?_
        refine h_sipush (pc' := 63) (x := (Int32.ofInt 132)) rfl rfl cs_132 ?_
        refine h_iload (pc' := 65) rfl rfl rfl ?_
        refine h_aload_n (pc' := 66) rfl rfl rfl ?_
        refine h_getR (pc' := 69) rfl rfl rfl rfl rfl ?_
        refine h_bipush (pc' := 71) (x := (Int32.ofInt 35)) rfl rfl cb_35 ?_
        refine h_iload_n (pc' := 72) rfl rfl rfl ?_
        refine h_iadd (pc' := 73) rfl rfl ci_35 hy3 rfl (by omega) (by omega) (fun z10 hz10 => ?_)
        refine h_iald (pc' := 74) (v := σ 99 (35 + b3)) rfl rfl rfl hz10 (by omega) (by omega) (F0_ 99 _ (k_no (l := 35) (h := 42) rfl (by omega) (by omega))) (fun z11 hz11 => ?_)
        have tz11 := ty_99_9 hI (35 + b3) (by omega)
        refine h_bipush (pc' := 76) (x := (Int32.ofInt 10)) rfl rfl cb_10 ?_
        refine h_irem (pc' := 77) rfl rfl hz11 ci_10 (by omega) (by omega) (fun z12 hz12 => ?_)
        refine h_call (sp := false) (pc' := 80) (M := [(0, .ref 98), (1, .int (Int32.ofInt 132)), (2, .int z5), (3, .int z12)]) rfl rfl rfl rfl rfl rfl rfl rfl ?_
        refine w_187_98_e132 _ I0  z5 _ hz5 (by omega) z12 _ hz12 (by omega) (fun r13 br13 hr13 s14 Is14 Gs14 tr13 => h_Kv ?_)
        have Fs14 := (Gs14.mono (B := kf_w_191_98) rfl).tr F0_
        refine h_zeq (tg := 108) (pc' := 83) rfl rfl rfl hr13 (fun c15 => ?_) (fun c15 => ?_)
        · refine h_iinc (pc' := 111) (M := fun z16 => [(3, .int z16), (4, .int z5), (0, .ref 98), (1, .int x0), (2, .int x1)]) rfl rfl rfl rfl hy3 ci_1 rfl (by omega) (by omega) (fun _ => rfl) (fun z16 hz16 => ?_)
          refine h_goto (pc' := 25) rfl rfl ?_
          exact h_wk [(0, .ref 98), (1, .int x0), (2, .int x1), (3, .int z16)] ⟨rfl, rfl, rfl, rfl, trivial⟩ (ih _ Is14 Fs14 z16 _ hz16 (by omega) (by omega))
        · refine h_aload_n (pc' := 84) rfl rfl rfl ?_
          refine h_dup (pc' := 85) rfl rfl rfl ?_
          refine h_getI (pc' := 88) (v := s14 98 23) rfl rfl rfl rfl rfl rfl (fun z17 hz17 => ?_)
          have tz17 := tf_98_23 Is14
          refine h_iconst (pc' := 89) (x := (Int32.ofInt 1)) rfl rfl rfl ?_
          refine h_iload_n (pc' := 90) rfl rfl rfl ?_
          refine h_ishl (pc' := 91) rfl rfl (fun z18 hz18 => ?_)
          refine h_ior (pc' := 92) rfl rfl (fun z19 hz19 => ?_)
          refine h_put (pc' := 95) rfl rfl rfl rfl rfl rfl rfl rfl (h_fg _ (if_98_23 Is14 (h_rgv rfl)) (Fs14.up rfl) (fun s20 Is20 Fs20 => ?_))
          refine h_aload_n (pc' := 96) rfl rfl rfl ?_
          refine h_dup (pc' := 97) rfl rfl rfl ?_
          refine h_getI (pc' := 100) (v := s20 98 22) rfl rfl rfl rfl rfl rfl (fun z21 hz21 => ?_)
          have tz21 := tf_98_22 Is20
          refine h_iconst (pc' := 101) (x := (Int32.ofInt 1)) rfl rfl rfl ?_
          refine h_iload (pc' := 103) rfl rfl rfl ?_
          refine h_shl1 (pc' := 104) rfl rfl ci_1 hz5 (by omega) (by omega) (fun z22 hz22 vz22 => ?_)
          refine h_ior (pc' := 105) rfl rfl (fun z23 hz23 => ?_)
          refine h_put (pc' := 108) rfl rfl rfl rfl rfl rfl rfl rfl (h_fg _ (if_98_22 Is20 (h_rgv rfl)) (Fs20.up rfl) (fun s24 Is24 Fs24 => ?_))
          refine h_iinc (pc' := 111) (M := fun z25 => [(3, .int z25), (4, .int z5), (0, .ref 98), (1, .int x0), (2, .int x1)]) rfl rfl rfl rfl hy3 ci_1 rfl (by omega) (by omega) (fun _ => rfl) (fun z25 hz25 => ?_)
          refine h_goto (pc' := 25) rfl rfl ?_
          exact h_wk [(0, .ref 98), (1, .int x0), (2, .int x1), (3, .int z25)] ⟨rfl, rfl, rfl, rfl, trivial⟩ (ih _ Is24 Fs24 z25 _ hz25 (by omega) (by omega))
theorem w_191_98 {ns : Nat} (σ : h_S) (hI : h_I σ) (x0 : Int32) (a0 : Int) (hx0 : x0.toInt = a0) (ra0 : 0 ≤ a0 ∧ a0 ≤ 176 ∧ a0 % 44 = 0) (x1 : Int32) (a1 : Int) (hx1 : x1.toInt = a1) {Q : Option Value → h_S → Prop} (kk : ∀ (τ : h_S), h_I τ → h_F (k_in kf_w_191_98) τ σ → Q none τ) : h_T g_P (g_Y ns) 191 0 [(0, .ref 98), (1, .int x0), (2, .int x1)] [] σ Q := by
  have F00 : h_F (k_in kf_w_191_98) σ σ := h_F.rf
  refine h_aload_n (pc' := 1) rfl rfl rfl ?_
  refine h_iload_n (pc' := 2) rfl rfl rfl ?_
  refine h_call (sp := false) (pc' := 5) (M := [(0, .ref 98), (1, .int x0)]) rfl rfl rfl rfl rfl rfl rfl rfl ?_
  refine w_162_98 _ hI x0 _ hx0 (by omega) (fun s2 Is2 Gs2 => h_Kn ?_)
  have Fs2 := (Gs2.mono (B := kf_w_191_98) rfl).tr F00
  refine h_aload_n (pc' := 6) rfl rfl rfl ?_
  refine h_iload_n (pc' := 7) rfl rfl rfl ?_
  refine h_sipush (pc' := 10) (x := (Int32.ofInt 132)) rfl rfl cs_132 ?_
  refine h_call (sp := false) (pc' := 13) (M := [(0, .ref 98), (1, .int x0), (2, .int (Int32.ofInt 132))]) rfl rfl rfl rfl rfl rfl rfl rfl ?_
  refine w_190_98_e132 _ Is2 x0 _ hx0 (by omega)  (fun s4 Is4 Gs4 => h_Kn ?_)
  have Fs4 := (Gs4.mono (B := kf_w_191_98) rfl).tr Fs2
  refine h_aload_n (pc' := 14) rfl rfl rfl ?_
  refine h_iconst (pc' := 15) (x := (Int32.ofInt 0)) rfl rfl rfl ?_
  refine h_put (pc' := 18) rfl rfl rfl rfl rfl rfl ci_0 rfl (h_fg _ (if_98_22 Is4 (h_rgv ci_0)) (Fs4.up rfl) (fun s5 Is5 Fs5 => ?_))
  refine h_aload_n (pc' := 19) rfl rfl rfl ?_
  refine h_iconst (pc' := 20) (x := (Int32.ofInt 0)) rfl rfl rfl ?_
  refine h_put (pc' := 23) rfl rfl rfl rfl rfl rfl ci_0 rfl (h_fg _ (if_98_23 Is5 (h_rgv ci_0)) (Fs5.up rfl) (fun s6 Is6 Fs6 => ?_))
  refine h_iconst (pc' := 24) (x := (Int32.ofInt 0)) rfl rfl rfl ?_
  refine h_istore_n (pc' := 25) (M := [(3, .int (Int32.ofInt 0)), (0, .ref 98), (1, .int x0), (2, .int x1)]) rfl rfl rfl rfl ?_
  exact h_wk [(0, .ref 98), (1, .int x0), (2, .int x1), (3, .int (Int32.ofInt 0))] ⟨rfl, rfl, rfl, rfl, trivial⟩ ((w_191_98_l ns σ hI x0 a0 hx0 ra0 x1 a1 hx1 kk 1000000000000) _ Is6 Fs6 (Int32.ofInt 0) _ ci_0 (by omega) (by omega))
def kf_w_192 : List Nat := []
theorem w_192_l (ns : Nat) (σ : h_S) (hI : h_I σ) (x0 : Int32) (a0 : Int) (hx0 : x0.toInt = a0) {Q : Option Value → h_S → Prop} (kk : ∀ (r : Int32) (b : Int) (hb : r.toInt = b) (τ : h_S), h_I τ → h_F (k_in kf_w_192) τ σ → Q (some (.int r)) τ) : ∀ n : Nat, (∀ (s0 : h_S), h_I s0 → h_F (k_in kf_w_192) s0 σ → ∀ (y1 : Int32) (b1 : Int), y1.toInt = b1 → ∀ (y2 : Int32) (b2 : Int), y2.toInt = b2 → (0 ≤ b2 ∧ b2 ≤ 8) → (8 + 1 - b2) * 1000000 + 1000000000 ≤ (n : Int) → h_T g_P (g_Y ns) 192 4 [(0, .int x0), (1, .int y1), (2, .int y2)] [] s0 Q) := by
  intro n
  induction n with
  | zero => exact by intro s0 I0 F0_ y1 b1 hy1 y2 b2 hy2 ry2 hm; exfalso; omega
  | succ n ih =>
    intro s0 I0 F0_ y1 b1 hy1 y2 b2 hy2 ry2 hm
    refine h_iload_n (pc' := 5) rfl rfl rfl ?_
    refine h_bipush (pc' := 7) (x := (Int32.ofInt 8)) rfl rfl cb_8 ?_
    refine h_cge (tg := 24) (pc' := 10) rfl rfl rfl hy2 ci_8 (fun c1 => ?_) (fun c1 => ?_)
    · refine h_iload_n (pc' := 25) rfl rfl rfl ?_
      exact h_iret rfl rfl (kk _ _ hy1 _ I0 F0_)
    · refine h_iload_n (pc' := 11) rfl rfl rfl ?_
      refine h_iload_n (pc' := 12) rfl rfl rfl ?_
      refine h_iload_n (pc' := 13) rfl rfl rfl ?_
      refine h_ishr (pc' := 14) rfl rfl (fun z2 hz2 => ?_)
      refine h_iconst (pc' := 15) (x := (Int32.ofInt 1)) rfl rfl rfl ?_
      refine h_iand (pc' := 16) rfl rfl (fun z3 hz3 uz3 vz3 => ?_)
      clear uz3
      rw [ci_1] at vz3
      have yz3 := vz3 (by omega)
      refine h_iaddA (pc' := 17) rfl rfl (fun z4 hz4 => ?_)
      refine h_istore_n (pc' := 18) (M := [(1, .int z4), (0, .int x0), (2, .int y2)]) rfl rfl rfl rfl ?_
      refine h_iinc (pc' := 21) (M := fun z5 => [(2, .int z5), (1, .int z4), (0, .int x0)]) rfl rfl rfl rfl hy2 ci_1 rfl (by omega) (by omega) (fun _ => rfl) (fun z5 hz5 => ?_)
      refine h_goto (pc' := 4) rfl rfl ?_
      exact h_wk [(0, .int x0), (1, .int z4), (2, .int z5)] ⟨rfl, rfl, rfl, trivial⟩ (ih _ I0 F0_ z4 _ rfl z5 _ hz5 (by omega) (by omega))
theorem w_192 {ns : Nat} (σ : h_S) (hI : h_I σ) (x0 : Int32) (a0 : Int) (hx0 : x0.toInt = a0) {Q : Option Value → h_S → Prop} (kk : ∀ (r : Int32) (b : Int) (hb : r.toInt = b) (τ : h_S), h_I τ → h_F (k_in kf_w_192) τ σ → Q (some (.int r)) τ) : h_T g_P (g_Y ns) 192 0 [(0, .int x0)] [] σ Q := by
  have F00 : h_F (k_in kf_w_192) σ σ := h_F.rf
  refine h_iconst (pc' := 1) (x := (Int32.ofInt 0)) rfl rfl rfl ?_
  refine h_istore_n (pc' := 2) (M := [(1, .int (Int32.ofInt 0)), (0, .int x0)]) rfl rfl rfl rfl ?_
  refine h_iconst (pc' := 3) (x := (Int32.ofInt 0)) rfl rfl rfl ?_
  refine h_istore_n (pc' := 4) (M := [(2, .int (Int32.ofInt 0)), (1, .int (Int32.ofInt 0)), (0, .int x0)]) rfl rfl rfl rfl ?_
  exact h_wk [(0, .int x0), (1, .int (Int32.ofInt 0)), (2, .int (Int32.ofInt 0))] ⟨rfl, rfl, rfl, trivial⟩ ((w_192_l ns σ hI x0 a0 hx0 kk 1000000000000) _ hI F00 (Int32.ofInt 0) _ ci_0 (Int32.ofInt 0) _ ci_0 (by omega) (by omega))
def kf_w_193_98 : List Nat := []
theorem w_193_98_l (ns : Nat) (σ : h_S) (hI : h_I σ) {Q : Option Value → h_S → Prop} (kk : ∀ (r : Int32) (b : Int) (hb : r.toInt = b) (τ : h_S), h_I τ → h_F (k_in kf_w_193_98) τ σ → ((-4) ≤ b ∧ b ≤ 7) → Q (some (.int r)) τ) : ∀ n : Nat, (∀ (s0 : h_S), h_I s0 → h_F (k_in kf_w_193_98) s0 σ → ∀ (y1 : Int32) (b1 : Int), y1.toInt = b1 → (0 ≤ b1 ∧ b1 ≤ 8) → (8 + 1 - b1) * 1000000 + 1000000000 ≤ (n : Int) → h_T g_P (g_Y ns) 193 2 [(0, .ref 98), (1, .int y1)] [] s0 Q) := by
  intro n
  induction n with
  | zero => exact by intro s0 I0 F0_ y1 b1 hy1 ry1 hm; exfalso; omega
  | succ n ih =>
    intro s0 I0 F0_ y1 b1 hy1 ry1 hm
    refine h_iload_n (pc' := 3) rfl rfl rfl ?_
    refine h_aload_n (pc' := 4) rfl rfl rfl ?_
    refine h_getR (pc' := 7) rfl rfl rfl rfl rfl ?_
    refine h_bipush (pc' := 9) (x := (Int32.ofInt 43)) rfl rfl cb_43 ?_
    refine h_iald (pc' := 10) (v := σ 99 43) rfl rfl rfl ci_43 (by omega) (by omega) (F0_ 99 _ rfl) (fun z1 hz1 => ?_)
    have tz1 := ty_99_10 hI 43 (by omega)
    refine h_cge (tg := 32) (pc' := 13) rfl rfl rfl hy1 hz1 (fun c2 => ?_) (fun c2 => ?_)
    · refine h_bipush (pc' := 34) (x := (Int32.ofInt (-4))) rfl rfl cb_m4 ?_
      exact h_iret rfl rfl (kk _ _ ci_m4 _ I0 F0_ (by omega))
    · refine h_aload_n (pc' := 14) rfl rfl rfl ?_
      refine h_getI (pc' := 17) (v := σ 98 23) rfl rfl rfl rfl rfl (F0_ 98 23 rfl) (fun z3 hz3 => ?_)
      have tz3 := tf_98_23 hI
      refine h_iload_n (pc' := 18) rfl rfl rfl ?_
      refine h_ishr (pc' := 19) rfl rfl (fun z4 hz4 => ?_)
      refine h_iconst (pc' := 20) (x := (Int32.ofInt 1)) rfl rfl rfl ?_
      refine h_iand (pc' := 21) rfl rfl (fun z5 hz5 uz5 vz5 => ?_)
      clear uz5
      rw [ci_1] at vz5
      have yz5 := vz5 (by omega)
      refine h_zne (tg := 26) (pc' := 24) rfl rfl rfl rfl (fun c6 => ?_) (fun c6 => ?_)
      · refine h_iinc (pc' := 29) (M := fun z7 => [(1, .int z7), (0, .ref 98)]) rfl rfl rfl rfl hy1 ci_1 rfl (by omega) (by omega) (fun _ => rfl) (fun z7 hz7 => ?_)
        refine h_goto (pc' := 2) rfl rfl ?_
        exact h_wk [(0, .ref 98), (1, .int z7)] ⟨rfl, rfl, trivial⟩ (ih _ I0 F0_ z7 _ hz7 (by omega) (by omega))
      · refine h_iload_n (pc' := 25) rfl rfl rfl ?_
        exact h_iret rfl rfl (kk _ _ hy1 _ I0 F0_ (by omega))
theorem w_193_98 {ns : Nat} (σ : h_S) (hI : h_I σ) {Q : Option Value → h_S → Prop} (kk : ∀ (r : Int32) (b : Int) (hb : r.toInt = b) (τ : h_S), h_I τ → h_F (k_in kf_w_193_98) τ σ → ((-4) ≤ b ∧ b ≤ 7) → Q (some (.int r)) τ) : h_T g_P (g_Y ns) 193 0 [(0, .ref 98)] [] σ Q := by
  have F00 : h_F (k_in kf_w_193_98) σ σ := h_F.rf
  refine h_iconst (pc' := 1) (x := (Int32.ofInt 0)) rfl rfl rfl ?_
  refine h_istore_n (pc' := 2) (M := [(1, .int (Int32.ofInt 0)), (0, .ref 98)]) rfl rfl rfl rfl ?_
  exact h_wk [(0, .ref 98), (1, .int (Int32.ofInt 0))] ⟨rfl, rfl, trivial⟩ ((w_193_98_l ns σ hI  kk 1000000000000) _ hI F00 (Int32.ofInt 0) _ ci_0 (by omega) (by omega))
