theorem w_13_10_l (ns : Nat) (σ : h_S) (hI : h_I σ) (x0 : Int32) (a0 : Int) (hx0 : x0.toInt = a0) (ra0 : 0 ≤ a0 ∧ a0 ≤ 5) {Q : Option Value → h_S → Prop} (kk : ∀ (r : Int32) (b : Int) (hb : r.toInt = b) (τ : h_S), h_I τ → h_F k_sc τ σ → Q (some (.int r)) τ) : ∀ n : Nat, (∀ (s0 : h_S), h_I s0 → h_F k_sc s0 σ → ∀ (y2 : Int32) (b2 : Int), y2.toInt = b2 → ∀ (y3 : Int32) (b3 : Int), y3.toInt = b3 → (0 ≤ b3 ∧ b3 ≤ 6) → (6 + 1 - b3) * 1000000 + 1000000000 ≤ (n : Int) → h_T g_P (g_Y ns) 13 4 [(0, .ref 10), (1, .int x0), (2, .int y2), (3, .int y3)] [] s0 Q) := by
  intro n
  induction n with
  | zero => exact by intro s0 I0 F0_ y2 b2 hy2 y3 b3 hy3 ry3 hm; exfalso; omega
  | succ n ih =>
    intro s0 I0 F0_ y2 b2 hy2 y3 b3 hy3 ry3 hm
    refine h_iload_n (pc' := 5) rfl rfl rfl ?_
    refine h_aload_n (pc' := 6) rfl rfl rfl ?_
    refine h_getI (pc' := 9) (v := s0 10 8) rfl rfl rfl rfl rfl rfl (fun z1 hz1 => ?_)
    have tz1 := tf_10_8 I0
    refine h_cge (tg := 34) (pc' := 12) rfl rfl rfl hy3 hz1 (fun c2 => ?_) (fun c2 => ?_)
    · refine h_iload_n (pc' := 35) rfl rfl rfl ?_
      exact h_iret rfl rfl (kk _ _ hy2 _ I0 F0_)
    · refine h_aload_n (pc' := 13) rfl rfl rfl ?_
      refine h_getR (pc' := 16) rfl rfl rfl rfl rfl ?_
      refine h_iload_n (pc' := 17) rfl rfl rfl ?_
      refine h_iald (pc' := 18) (v := s0 12 b3) rfl rfl rfl hy3 (by omega) (by omega) rfl (fun z3 hz3 => ?_)
      have tz3 := ty_12 I0 b3
      refine h_iload_n (pc' := 19) rfl rfl rfl ?_
      refine h_cne (tg := 28) (pc' := 22) rfl rfl rfl hz3 hx0 (fun c4 => ?_) (fun c4 => ?_)
      · refine h_iinc (pc' := 31) (M := fun z5 => [(3, .int z5), (0, .ref 10), (1, .int x0), (2, .int y2)]) rfl rfl rfl rfl hy3 ci_1 rfl (by omega) (by omega) (fun _ => rfl) (fun z5 hz5 => ?_)
        refine h_goto (pc' := 4) rfl rfl ?_
        exact h_wk [(0, .ref 10), (1, .int x0), (2, .int y2), (3, .int z5)] ⟨rfl, rfl, rfl, rfl, trivial⟩ (ih _ I0 F0_ y2 _ hy2 z5 _ hz5 (by omega) (by omega))
      · refine h_iload_n (pc' := 23) rfl rfl rfl ?_
        refine h_iconst (pc' := 24) (x := (Int32.ofInt 1)) rfl rfl rfl ?_
        refine h_iload_n (pc' := 25) rfl rfl rfl ?_
        refine h_shl1 (pc' := 26) rfl rfl ci_1 hy3 (by omega) (by omega) (fun z6 hz6 vz6 => ?_)
        refine h_ior (pc' := 27) rfl rfl (fun z7 hz7 => ?_)
        refine h_istore_n (pc' := 28) (M := [(2, .int z7), (0, .ref 10), (1, .int x0), (3, .int y3)]) rfl rfl rfl rfl ?_
        refine h_iinc (pc' := 31) (M := fun z8 => [(3, .int z8), (2, .int z7), (0, .ref 10), (1, .int x0)]) rfl rfl rfl rfl hy3 ci_1 rfl (by omega) (by omega) (fun _ => rfl) (fun z8 hz8 => ?_)
        refine h_goto (pc' := 4) rfl rfl ?_
        exact h_wk [(0, .ref 10), (1, .int x0), (2, .int z7), (3, .int z8)] ⟨rfl, rfl, rfl, rfl, trivial⟩ (ih _ I0 F0_ z7 _ rfl z8 _ hz8 (by omega) (by omega))
theorem w_13_10 {ns : Nat} (σ : h_S) (hI : h_I σ) (x0 : Int32) (a0 : Int) (hx0 : x0.toInt = a0) (ra0 : 0 ≤ a0 ∧ a0 ≤ 5) {Q : Option Value → h_S → Prop} (kk : ∀ (r : Int32) (b : Int) (hb : r.toInt = b) (τ : h_S), h_I τ → h_F k_sc τ σ → Q (some (.int r)) τ) : h_T g_P (g_Y ns) 13 0 [(0, .ref 10), (1, .int x0)] [] σ Q := by
  have F00 : h_F k_sc σ σ := h_F.rf
  refine h_iconst (pc' := 1) (x := (Int32.ofInt 0)) rfl rfl rfl ?_
  refine h_istore_n (pc' := 2) (M := [(2, .int (Int32.ofInt 0)), (0, .ref 10), (1, .int x0)]) rfl rfl rfl rfl ?_
  refine h_iconst (pc' := 3) (x := (Int32.ofInt 0)) rfl rfl rfl ?_
  refine h_istore_n (pc' := 4) (M := [(3, .int (Int32.ofInt 0)), (2, .int (Int32.ofInt 0)), (0, .ref 10), (1, .int x0)]) rfl rfl rfl rfl ?_
  exact h_wk [(0, .ref 10), (1, .int x0), (2, .int (Int32.ofInt 0)), (3, .int (Int32.ofInt 0))] ⟨rfl, rfl, rfl, rfl, trivial⟩ ((w_13_10_l ns σ hI x0 a0 hx0 ra0 kk 1000000000000) _ hI F00 (Int32.ofInt 0) _ ci_0 (Int32.ofInt 0) _ ci_0 (by omega) (by omega))
theorem w_11_10_l (ns : Nat) (σ : h_S) (hI : h_I σ) {Q : Option Value → h_S → Prop} (kk : ∀ (r : Int32) (b : Int) (hb : r.toInt = b) (τ : h_S), h_I τ → h_F k_sc τ σ → Q (some (.int r)) τ) : ∀ n : Nat, (∀ (s0 : h_S), h_I s0 → h_F k_sc s0 σ → ∀ (y1 : Int32) (b1 : Int), y1.toInt = b1 → ∀ (y2 : Int32) (b2 : Int), y2.toInt = b2 → (0 ≤ b2 ∧ b2 ≤ 3) → (3 + 1 - b2) * 1000000 + 1000000000 ≤ (n : Int) → h_T g_P (g_Y ns) 11 4 [(0, .ref 10), (1, .int y1), (2, .int y2)] [] s0 Q) := by
  intro n
  induction n with
  | zero => exact by intro s0 I0 F0_ y1 b1 hy1 y2 b2 hy2 ry2 hm; exfalso; omega
  | succ n ih =>
    intro s0 I0 F0_ y1 b1 hy1 y2 b2 hy2 ry2 hm
    refine h_iload_n (pc' := 5) rfl rfl rfl ?_
    refine h_aload_n (pc' := 6) rfl rfl rfl ?_
    refine h_getI (pc' := 9) (v := s0 10 9) rfl rfl rfl rfl rfl rfl (fun z1 hz1 => ?_)
    have tz1 := tf_10_9 I0
    refine h_cge (tg := 27) (pc' := 12) rfl rfl rfl hy2 hz1 (fun c2 => ?_) (fun c2 => ?_)
    · refine h_iload_n (pc' := 28) rfl rfl rfl ?_
      exact h_iret rfl rfl (kk _ _ hy1 _ I0 F0_)
    · refine h_iload_n (pc' := 13) rfl rfl rfl ?_
      refine h_aload_n (pc' := 14) rfl rfl rfl ?_
      refine h_getR (pc' := 17) rfl rfl rfl rfl rfl ?_
      refine h_iload_n (pc' := 18) rfl rfl rfl ?_
      refine h_iald (pc' := 19) (v := s0 21 b2) rfl rfl rfl hy2 (by omega) (by omega) rfl (fun z3 hz3 => ?_)
      have tz3 := ty_21 I0 b2
      refine h_iaddA (pc' := 20) rfl rfl (fun z4 hz4 => ?_)
      refine h_istore_n (pc' := 21) (M := [(1, .int z4), (0, .ref 10), (2, .int y2)]) rfl rfl rfl rfl ?_
      refine h_iinc (pc' := 24) (M := fun z5 => [(2, .int z5), (1, .int z4), (0, .ref 10)]) rfl rfl rfl rfl hy2 ci_1 rfl (by omega) (by omega) (fun _ => rfl) (fun z5 hz5 => ?_)
      refine h_goto (pc' := 4) rfl rfl ?_
      exact h_wk [(0, .ref 10), (1, .int z4), (2, .int z5)] ⟨rfl, rfl, rfl, trivial⟩ (ih _ I0 F0_ z4 _ rfl z5 _ hz5 (by omega) (by omega))
theorem w_11_10 {ns : Nat} (σ : h_S) (hI : h_I σ) {Q : Option Value → h_S → Prop} (kk : ∀ (r : Int32) (b : Int) (hb : r.toInt = b) (τ : h_S), h_I τ → h_F k_sc τ σ → Q (some (.int r)) τ) : h_T g_P (g_Y ns) 11 0 [(0, .ref 10)] [] σ Q := by
  have F00 : h_F k_sc σ σ := h_F.rf
  refine h_iconst (pc' := 1) (x := (Int32.ofInt 0)) rfl rfl rfl ?_
  refine h_istore_n (pc' := 2) (M := [(1, .int (Int32.ofInt 0)), (0, .ref 10)]) rfl rfl rfl rfl ?_
  refine h_iconst (pc' := 3) (x := (Int32.ofInt 0)) rfl rfl rfl ?_
  refine h_istore_n (pc' := 4) (M := [(2, .int (Int32.ofInt 0)), (1, .int (Int32.ofInt 0)), (0, .ref 10)]) rfl rfl rfl rfl ?_
  exact h_wk [(0, .ref 10), (1, .int (Int32.ofInt 0)), (2, .int (Int32.ofInt 0))] ⟨rfl, rfl, rfl, trivial⟩ ((w_11_10_l ns σ hI  kk 1000000000000) _ hI F00 (Int32.ofInt 0) _ ci_0 (Int32.ofInt 0) _ ci_0 (by omega) (by omega))
theorem w_12_10_l (ns : Nat) (σ : h_S) (hI : h_I σ) {Q : Option Value → h_S → Prop} (kk : ∀ (r : Int32) (b : Int) (hb : r.toInt = b) (τ : h_S), h_I τ → h_F k_sc τ σ → Q (some (.int r)) τ) : ∀ n : Nat, (∀ (s0 : h_S), h_I s0 → h_F k_sc s0 σ → ∀ (y1 : Int32) (b1 : Int), y1.toInt = b1 → ∀ (y2 : Int32) (b2 : Int), y2.toInt = b2 → (0 ≤ b2 ∧ b2 ≤ 6) → (6 + 1 - b2) * 1000000 + 1000000000 ≤ (n : Int) → h_T g_P (g_Y ns) 12 4 [(0, .ref 10), (1, .int y1), (2, .int y2)] [] s0 Q) := by
  intro n
  induction n with
  | zero => exact by intro s0 I0 F0_ y1 b1 hy1 y2 b2 hy2 ry2 hm; exfalso; omega
  | succ n ih =>
    intro s0 I0 F0_ y1 b1 hy1 y2 b2 hy2 ry2 hm
    refine h_iload_n (pc' := 5) rfl rfl rfl ?_
    refine h_aload_n (pc' := 6) rfl rfl rfl ?_
    refine h_getI (pc' := 9) (v := s0 10 8) rfl rfl rfl rfl rfl rfl (fun z1 hz1 => ?_)
    have tz1 := tf_10_8 I0
    refine h_cge (tg := 32) (pc' := 12) rfl rfl rfl hy2 hz1 (fun c2 => ?_) (fun c2 => ?_)
    · refine h_iload_n (pc' := 33) rfl rfl rfl ?_
      exact h_iret rfl rfl (kk _ _ hy1 _ I0 F0_)
    · refine h_aload_n (pc' := 13) rfl rfl rfl ?_
      refine h_getR (pc' := 16) rfl rfl rfl rfl rfl ?_
      refine h_iload_n (pc' := 17) rfl rfl rfl ?_
      refine h_iald (pc' := 18) (v := s0 12 b2) rfl rfl rfl hy2 (by omega) (by omega) rfl (fun z3 hz3 => ?_)
      have tz3 := ty_12 I0 b2
      refine h_bipush (pc' := 20) (x := (Int32.ofInt (-4))) rfl rfl cb_m4 ?_
      refine h_cne (tg := 26) (pc' := 23) rfl rfl rfl hz3 ci_m4 (fun c4 => ?_) (fun c4 => ?_)
      · refine h_iinc (pc' := 29) (M := fun z5 => [(2, .int z5), (0, .ref 10), (1, .int y1)]) rfl rfl rfl rfl hy2 ci_1 rfl (by omega) (by omega) (fun _ => rfl) (fun z5 hz5 => ?_)
        refine h_goto (pc' := 4) rfl rfl ?_
        exact h_wk [(0, .ref 10), (1, .int y1), (2, .int z5)] ⟨rfl, rfl, rfl, trivial⟩ (ih _ I0 F0_ y1 _ hy1 z5 _ hz5 (by omega) (by omega))
      · refine h_iincA (pc' := 26) (M := fun z6 => [(1, .int z6), (0, .ref 10), (2, .int y2)]) rfl rfl rfl rfl (fun _ => rfl) (fun z6 hz6 => ?_)
        refine h_iinc (pc' := 29) (M := fun z7 => [(2, .int z7), (1, .int z6), (0, .ref 10)]) rfl rfl rfl rfl hy2 ci_1 rfl (by omega) (by omega) (fun _ => rfl) (fun z7 hz7 => ?_)
        refine h_goto (pc' := 4) rfl rfl ?_
        exact h_wk [(0, .ref 10), (1, .int z6), (2, .int z7)] ⟨rfl, rfl, rfl, trivial⟩ (ih _ I0 F0_ z6 _ rfl z7 _ hz7 (by omega) (by omega))
theorem w_12_10 {ns : Nat} (σ : h_S) (hI : h_I σ) {Q : Option Value → h_S → Prop} (kk : ∀ (r : Int32) (b : Int) (hb : r.toInt = b) (τ : h_S), h_I τ → h_F k_sc τ σ → Q (some (.int r)) τ) : h_T g_P (g_Y ns) 12 0 [(0, .ref 10)] [] σ Q := by
  have F00 : h_F k_sc σ σ := h_F.rf
  refine h_iconst (pc' := 1) (x := (Int32.ofInt 0)) rfl rfl rfl ?_
  refine h_istore_n (pc' := 2) (M := [(1, .int (Int32.ofInt 0)), (0, .ref 10)]) rfl rfl rfl rfl ?_
  refine h_iconst (pc' := 3) (x := (Int32.ofInt 0)) rfl rfl rfl ?_
  refine h_istore_n (pc' := 4) (M := [(2, .int (Int32.ofInt 0)), (1, .int (Int32.ofInt 0)), (0, .ref 10)]) rfl rfl rfl rfl ?_
  exact h_wk [(0, .ref 10), (1, .int (Int32.ofInt 0)), (2, .int (Int32.ofInt 0))] ⟨rfl, rfl, rfl, trivial⟩ ((w_12_10_l ns σ hI  kk 1000000000000) _ hI F00 (Int32.ofInt 0) _ ci_0 (Int32.ofInt 0) _ ci_0 (by omega) (by omega))
theorem w_15_10_l (ns : Nat) (σ : h_S) (hI : h_I σ) (x0 : Int32) (a0 : Int) (hx0 : x0.toInt = a0) (ra0 : 0 ≤ a0 ∧ a0 ≤ 5) {Q : Option Value → h_S → Prop} (kk : ∀ (r : Int32) (b : Int) (hb : r.toInt = b) (τ : h_S), h_I τ → h_F k_sc τ σ → Q (some (.int r)) τ) : ∀ n : Nat, (∀ (s0 : h_S), h_I s0 → h_F k_sc s0 σ → ∀ (y2 : Int32) (b2 : Int), y2.toInt = b2 → ∀ (y3 : Int32) (b3 : Int), y3.toInt = b3 → (-4 ≤ b3 ∧ b3 ≤ 5) → ∀ (y4 : Int32) (b4 : Int), y4.toInt = b4 → (0 ≤ b4 ∧ b4 ≤ 6) → (6 + 1 - b4) * 1000000 + 1000000000 ≤ (n : Int) → h_T g_P (g_Y ns) 15 7 [(0, .ref 10), (1, .int x0), (2, .int y2), (3, .int y3), (4, .int y4)] [] s0 Q) := by
  intro n
  induction n with
  | zero => exact by intro s0 I0 F0_ y2 b2 hy2 y3 b3 hy3 ry3 y4 b4 hy4 ry4 hm; exfalso; omega
  | succ n ih =>
    intro s0 I0 F0_ y2 b2 hy2 y3 b3 hy3 ry3 y4 b4 hy4 ry4 hm
    refine h_iload (pc' := 9) rfl rfl rfl ?_
    refine h_bipush (pc' := 11) (x := (Int32.ofInt 6)) rfl rfl cb_6 ?_
    refine h_cge (tg := 41) (pc' := 14) rfl rfl rfl hy4 ci_6 (fun c1 => ?_) (fun c1 => ?_)
    · refine h_iload_n (pc' := 42) rfl rfl rfl ?_
      exact h_iret rfl rfl (kk _ _ hy2 _ I0 F0_)
    · refine h_aload_n (pc' := 15) rfl rfl rfl ?_
      refine h_iload_n (pc' := 16) rfl rfl rfl ?_
      refine h_call (sp := false) (pc' := 19) (M := [(0, .ref 10), (1, .int y3)]) rfl rfl rfl rfl rfl rfl rfl rfl ?_
      refine h_iload_n (pc' := 1) rfl rfl rfl ?_
      refine h_zlt (tg := 16) (pc' := 4) rfl rfl rfl hy3 (fun c2 => ?_) (fun c2 => ?_)
      · refine h_iconst (pc' := 17) (x := (Int32.ofInt 0)) rfl rfl rfl ?_
        refine h_zret rfl rfl ci_0 (by omega) (h_Kv ?_)
        refine h_zeq (tg := 41) (pc' := 22) rfl rfl rfl ci_0 (fun c3 => ?_) (fun c3 => absurd c3 (by omega))
        refine h_iload_n (pc' := 42) rfl rfl rfl ?_
        exact h_iret rfl rfl (kk _ _ hy2 _ I0 F0_)
      · refine h_iload_n (pc' := 5) rfl rfl rfl ?_
        refine h_aload_n (pc' := 6) rfl rfl rfl ?_
        refine h_getI (pc' := 9) (v := s0 10 8) rfl rfl rfl rfl rfl rfl (fun z4 hz4 => ?_)
        have tz4 := tf_10_8 I0
        refine h_cge (tg := 16) (pc' := 12) rfl rfl rfl hy3 hz4 (fun c5 => ?_) (fun c5 => ?_)
        · refine h_iconst (pc' := 17) (x := (Int32.ofInt 0)) rfl rfl rfl ?_
          refine h_zret rfl rfl ci_0 (by omega) (h_Kv ?_)
          refine h_zeq (tg := 41) (pc' := 22) rfl rfl rfl ci_0 (fun c6 => ?_) (fun c6 => absurd c6 (by omega))
          refine h_iload_n (pc' := 42) rfl rfl rfl ?_
          exact h_iret rfl rfl (kk _ _ hy2 _ I0 F0_)
        · refine h_iconst (pc' := 13) (x := (Int32.ofInt 1)) rfl rfl rfl ?_
          refine h_goto (pc' := 17) rfl rfl ?_
          refine h_zret rfl rfl ci_1 (by omega) (h_Kv ?_)
          refine h_zeq (tg := 41) (pc' := 22) rfl rfl rfl ci_1 (fun c7 => absurd c7 (by omega)) (fun c7 => ?_)
          refine h_iload_n (pc' := 23) rfl rfl rfl ?_
          refine h_iconst (pc' := 24) (x := (Int32.ofInt 1)) rfl rfl rfl ?_
          refine h_iload_n (pc' := 25) rfl rfl rfl ?_
          refine h_shl1 (pc' := 26) rfl rfl ci_1 hy3 (by omega) (by omega) (fun z8 hz8 vz8 => ?_)
          refine h_ior (pc' := 27) rfl rfl (fun z9 hz9 => ?_)
          refine h_istore_n (pc' := 28) (M := [(2, .int z9), (0, .ref 10), (1, .int x0), (3, .int y3), (4, .int y4)]) rfl rfl rfl rfl ?_
          refine h_aload_n (pc' := 29) rfl rfl rfl ?_
          refine h_getR (pc' := 32) rfl rfl rfl rfl rfl ?_
          refine h_iload_n (pc' := 33) rfl rfl rfl ?_
          refine h_iald (pc' := 34) (v := s0 12 b3) rfl rfl rfl hy3 (by omega) (by omega) rfl (fun z10 hz10 => ?_)
          have tz10 := ty_12 I0 b3
          refine h_istore_n (pc' := 35) (M := [(3, .int z10), (2, .int z9), (0, .ref 10), (1, .int x0), (4, .int y4)]) rfl rfl rfl rfl ?_
          refine h_iinc (pc' := 38) (M := fun z11 => [(4, .int z11), (3, .int z10), (2, .int z9), (0, .ref 10), (1, .int x0)]) rfl rfl rfl rfl hy4 ci_1 rfl (by omega) (by omega) (fun _ => rfl) (fun z11 hz11 => ?_)
          refine h_goto (pc' := 7) rfl rfl ?_
          exact h_wk [(0, .ref 10), (1, .int x0), (2, .int z9), (3, .int z10), (4, .int z11)] ⟨rfl, rfl, rfl, rfl, rfl, trivial⟩ (ih _ I0 F0_ z9 _ rfl z10 _ hz10 (by omega) z11 _ hz11 (by omega) (by omega))
theorem w_15_10 {ns : Nat} (σ : h_S) (hI : h_I σ) (x0 : Int32) (a0 : Int) (hx0 : x0.toInt = a0) (ra0 : 0 ≤ a0 ∧ a0 ≤ 5) {Q : Option Value → h_S → Prop} (kk : ∀ (r : Int32) (b : Int) (hb : r.toInt = b) (τ : h_S), h_I τ → h_F k_sc τ σ → Q (some (.int r)) τ) : h_T g_P (g_Y ns) 15 0 [(0, .ref 10), (1, .int x0)] [] σ Q := by
  have F00 : h_F k_sc σ σ := h_F.rf
  refine h_iconst (pc' := 1) (x := (Int32.ofInt 0)) rfl rfl rfl ?_
  refine h_istore_n (pc' := 2) (M := [(2, .int (Int32.ofInt 0)), (0, .ref 10), (1, .int x0)]) rfl rfl rfl rfl ?_
  refine h_iload_n (pc' := 3) rfl rfl rfl ?_
  refine h_istore_n (pc' := 4) (M := [(3, .int x0), (2, .int (Int32.ofInt 0)), (0, .ref 10), (1, .int x0)]) rfl rfl rfl rfl ?_
  refine h_iconst (pc' := 5) (x := (Int32.ofInt 0)) rfl rfl rfl ?_
  refine h_istore (pc' := 7) (M := [(4, .int (Int32.ofInt 0)), (3, .int x0), (2, .int (Int32.ofInt 0)), (0, .ref 10), (1, .int x0)]) rfl rfl rfl rfl ?_
  exact h_wk [(0, .ref 10), (1, .int x0), (2, .int (Int32.ofInt 0)), (3, .int x0), (4, .int (Int32.ofInt 0))] ⟨rfl, rfl, rfl, rfl, rfl, trivial⟩ ((w_15_10_l ns σ hI x0 a0 hx0 ra0 kk 1000000000000) _ hI F00 (Int32.ofInt 0) _ ci_0 x0 _ hx0 (by omega) (Int32.ofInt 0) _ ci_0 (by omega) (by omega))
theorem w_14_10_l (ns : Nat) (σ : h_S) (hI : h_I σ) (x0 : Int32) (a0 : Int) (hx0 : x0.toInt = a0) (ra0 : 0 ≤ a0 ∧ a0 ≤ 5) (x1 : Int32) (a1 : Int) (hx1 : x1.toInt = a1) (ra1 : 0 ≤ a1 ∧ a1 ≤ 5) {Q : Option Value → h_S → Prop} (kk : ∀ (r : Int32) (b : Int) (hb : r.toInt = b) (τ : h_S), h_I τ → h_F k_sc τ σ → (-4 ≤ b ∧ b ≤ 5) → Q (some (.int r)) τ) : ∀ n : Nat, (∀ (s0 : h_S), h_I s0 → h_F k_sc s0 σ → ∀ (y3 : Int32) (b3 : Int), y3.toInt = b3 → ∀ (y4 : Int32) (b4 : Int), y4.toInt = b4 → (-1 ≤ b4 ∧ b4 ≤ 5) → (b4 + 1 - (-1)) * 1000000 + 1000000000 ≤ (n : Int) → h_T g_P (g_Y ns) 14 20 [(0, .ref 10), (1, .int x0), (2, .int x1), (3, .int y3), (4, .int y4)] [] s0 Q) := by
  intro n
  induction n with
  | zero => exact by intro s0 I0 F0_ y3 b3 hy3 y4 b4 hy4 ry4 hm; exfalso; omega
  | succ n ih =>
    intro s0 I0 F0_ y3 b3 hy3 y4 b4 hy4 ry4 hm
    refine h_iload (pc' := 22) rfl rfl rfl ?_
    refine h_zlt (tg := 43) (pc' := 25) rfl rfl rfl hy4 (fun c1 => ?_) (fun c1 => ?_)
    · refine h_bipush (pc' := 45) (x := (Int32.ofInt (-4))) rfl rfl cb_m4 ?_
      exact h_iret rfl rfl (kk _ _ ci_m4 _ I0 F0_ (by omega))
    · refine h_iload_n (pc' := 26) rfl rfl rfl ?_
      refine h_iload (pc' := 28) rfl rfl rfl ?_
      refine h_calls (pc' := 31) (M := [(0, .int y3), (1, .int y4)]) rfl rfl rfl rfl rfl rfl ?_
      refine h_iload_n (pc' := 1) rfl rfl rfl ?_
      refine h_iload_n (pc' := 2) rfl rfl rfl ?_
      refine h_ishr (pc' := 3) rfl rfl (fun z2 hz2 => ?_)
      refine h_iconst (pc' := 4) (x := (Int32.ofInt 1)) rfl rfl rfl ?_
      refine h_iand (pc' := 5) rfl rfl (fun z3 hz3 uz3 vz3 => ?_)
      clear uz3
      rw [ci_1] at vz3
      have yz3 := vz3 (by omega)
      refine h_zeq (tg := 12) (pc' := 8) rfl rfl rfl rfl (fun c4 => ?_) (fun c4 => ?_)
      · refine h_iconst (pc' := 13) (x := (Int32.ofInt 0)) rfl rfl rfl ?_
        refine h_zret rfl rfl ci_0 (by omega) (h_Kv ?_)
        refine h_zeq (tg := 37) (pc' := 34) rfl rfl rfl ci_0 (fun c5 => ?_) (fun c5 => absurd c5 (by omega))
        refine h_iinc (pc' := 40) (M := fun z6 => [(4, .int z6), (0, .ref 10), (1, .int x0), (2, .int x1), (3, .int y3)]) rfl rfl rfl rfl hy4 ci_m1 rfl (by omega) (by omega) (fun _ => rfl) (fun z6 hz6 => ?_)
        refine h_goto (pc' := 20) rfl rfl ?_
        exact h_wk [(0, .ref 10), (1, .int x0), (2, .int x1), (3, .int y3), (4, .int z6)] ⟨rfl, rfl, rfl, rfl, rfl, trivial⟩ (ih _ I0 F0_ y3 _ hy3 z6 _ hz6 (by omega) (by omega))
      · refine h_iconst (pc' := 9) (x := (Int32.ofInt 1)) rfl rfl rfl ?_
        refine h_goto (pc' := 13) rfl rfl ?_
        refine h_zret rfl rfl ci_1 (by omega) (h_Kv ?_)
        refine h_zeq (tg := 37) (pc' := 34) rfl rfl rfl ci_1 (fun c7 => absurd c7 (by omega)) (fun c7 => ?_)
        refine h_iload (pc' := 36) rfl rfl rfl ?_
        exact h_iret rfl rfl (kk _ _ hy4 _ I0 F0_ (by omega))
theorem w_14_10 {ns : Nat} (σ : h_S) (hI : h_I σ) (x0 : Int32) (a0 : Int) (hx0 : x0.toInt = a0) (ra0 : 0 ≤ a0 ∧ a0 ≤ 5) (x1 : Int32) (a1 : Int) (hx1 : x1.toInt = a1) (ra1 : 0 ≤ a1 ∧ a1 ≤ 5) {Q : Option Value → h_S → Prop} (kk : ∀ (r : Int32) (b : Int) (hb : r.toInt = b) (τ : h_S), h_I τ → h_F k_sc τ σ → (-4 ≤ b ∧ b ≤ 5) → Q (some (.int r)) τ) : h_T g_P (g_Y ns) 14 0 [(0, .ref 10), (1, .int x0), (2, .int x1)] [] σ Q := by
  have F00 : h_F k_sc σ σ := h_F.rf
  refine h_aload_n (pc' := 1) rfl rfl rfl ?_
  refine h_iload_n (pc' := 2) rfl rfl rfl ?_
  refine h_call (sp := false) (pc' := 5) (M := [(0, .ref 10), (1, .int x0)]) rfl rfl rfl rfl rfl rfl rfl rfl ?_
  refine w_15_10 _ hI x0 _ hx0 (by omega) (fun r1 br1 hr1 s2 Is2 Gs2 => h_Kv ?_)
  have Fs2 := (Gs2).tr F00
  refine h_aload_n (pc' := 6) rfl rfl rfl ?_
  refine h_iload_n (pc' := 7) rfl rfl rfl ?_
  refine h_call (sp := false) (pc' := 10) (M := [(0, .ref 10), (1, .int x1)]) rfl rfl rfl rfl rfl rfl rfl rfl ?_
  refine w_15_10 _ Is2 x1 _ hx1 (by omega) (fun r3 br3 hr3 s4 Is4 Gs4 => h_Kv ?_)
  have Fs4 := (Gs4).tr Fs2
  refine h_iand (pc' := 11) rfl rfl (fun z5 hz5 uz5 vz5 => ?_)
  clear uz5
  clear vz5
  refine h_istore_n (pc' := 12) (M := [(3, .int z5), (0, .ref 10), (1, .int x0), (2, .int x1)]) rfl rfl rfl rfl ?_
  refine h_aload_n (pc' := 13) rfl rfl rfl ?_
  refine h_getI (pc' := 16) (v := s4 10 8) rfl rfl rfl rfl rfl rfl (fun z6 hz6 => ?_)
  have tz6 := tf_10_8 Is4
  refine h_iconst (pc' := 17) (x := (Int32.ofInt 1)) rfl rfl rfl ?_
  refine h_isub (pc' := 18) rfl rfl hz6 ci_1 rfl (by omega) (by omega) (fun z7 hz7 => ?_)
  refine h_istore (pc' := 20) (M := [(4, .int z7), (3, .int z5), (0, .ref 10), (1, .int x0), (2, .int x1)]) rfl rfl rfl rfl ?_
  exact h_wk [(0, .ref 10), (1, .int x0), (2, .int x1), (3, .int z5), (4, .int z7)] ⟨rfl, rfl, rfl, rfl, rfl, trivial⟩ ((w_14_10_l ns σ hI x0 a0 hx0 ra0 x1 a1 hx1 ra1 kk 1000000000000) _ Is4 Fs4 z5 _ rfl z7 _ hz7 (by omega) (by omega))
theorem w_25_79 {ns : Nat} (σ : h_S) (hI : h_I σ) (x0 : Int32) (a0 : Int) (hx0 : x0.toInt = a0) (ra0 : 0 ≤ a0 ∧ a0 ≤ 5) (x1 : Int32) (a1 : Int) (hx1 : x1.toInt = a1) (ra1 : 0 ≤ a1 ∧ a1 ≤ 5) (x2 : Int32) (a2 : Int) (hx2 : x2.toInt = a2) (ra2 : 0 ≤ a2 ∧ a2 ≤ 4) {Q : Option Value → h_S → Prop} (kk : ∀ (τ : h_S), h_I τ → h_F k_sc τ σ → Q none τ) : h_T g_P (g_Y ns) 25 0 [(0, .ref 79), (1, .int x0), (2, .int x1), (3, .int x2)] [] σ Q := by
  have F00 : h_F k_sc σ σ := h_F.rf
  refine h_iload_n (pc' := 1) rfl rfl rfl ?_
  refine h_aload_n (pc' := 2) rfl rfl rfl ?_
  refine h_getR (pc' := 5) rfl rfl rfl rfl rfl ?_
  refine h_iload_n (pc' := 6) rfl rfl rfl ?_
  refine h_bipush (pc' := 8) (x := (Int32.ofInt 6)) rfl rfl cb_6 ?_
  refine h_imul (pc' := 9) rfl rfl hx0 ci_6 rfl (by omega) (by omega) (fun z1 hz1 => ?_)
  refine h_iload_n (pc' := 10) rfl rfl rfl ?_
  refine h_iadd (pc' := 11) rfl rfl hz1 hx1 rfl (by omega) (by omega) (fun z2 hz2 => ?_)
  refine h_iald (pc' := 12) (v := σ 80 ((a0 * 6) + a1)) rfl rfl rfl hz2 (by omega) (by omega) rfl (fun z3 hz3 => ?_)
  have tz3 := ty_80 hI ((a0 * 6) + a1)
  refine h_cge (tg := 39) (pc' := 15) rfl rfl rfl hx2 hz3 (fun c4 => ?_) (fun c4 => ?_)
  · exact h_vret rfl rfl (kk _ hI F00)
  · refine h_aload_n (pc' := 16) rfl rfl rfl ?_
    refine h_getR (pc' := 19) rfl rfl rfl rfl rfl ?_
    refine h_iload_n (pc' := 20) rfl rfl rfl ?_
    refine h_bipush (pc' := 22) (x := (Int32.ofInt 6)) rfl rfl cb_6 ?_
    refine h_imul (pc' := 23) rfl rfl hx0 ci_6 rfl (by omega) (by omega) (fun z5 hz5 => ?_)
    refine h_iload_n (pc' := 24) rfl rfl rfl ?_
    refine h_iadd (pc' := 25) rfl rfl hz5 hx1 rfl (by omega) (by omega) (fun z6 hz6 => ?_)
    refine h_iload_n (pc' := 26) rfl rfl rfl ?_
    refine h_iast (pc' := 27) rfl rfl rfl rfl hz6 (by omega) (by omega) hx2 (h_fg _ (in_80 hI (by omega)) (F00.up rfl) (fun s7 Is7 Fs7 => ?_))
    refine h_aload_n (pc' := 28) rfl rfl rfl ?_
    refine h_getR (pc' := 31) rfl rfl rfl rfl rfl ?_
    refine h_iload_n (pc' := 32) rfl rfl rfl ?_
    refine h_bipush (pc' := 34) (x := (Int32.ofInt 6)) rfl rfl cb_6 ?_
    refine h_imul (pc' := 35) rfl rfl hx1 ci_6 rfl (by omega) (by omega) (fun z8 hz8 => ?_)
    refine h_iload_n (pc' := 36) rfl rfl rfl ?_
    refine h_iadd (pc' := 37) rfl rfl hz8 hx0 rfl (by omega) (by omega) (fun z9 hz9 => ?_)
    refine h_iload_n (pc' := 38) rfl rfl rfl ?_
    refine h_iast (pc' := 39) rfl rfl rfl rfl hz9 (by omega) (by omega) hx2 (h_fg _ (in_80 Is7 (by omega)) (Fs7.up rfl) (fun s10 Is10 Fs10 => ?_))
    exact h_vret rfl rfl (kk _ Is10 Fs10)
theorem w_26_79_l (ns : Nat) (σ : h_S) (hI : h_I σ) {Q : Option Value → h_S → Prop} (kk : ∀ (τ : h_S), h_I τ → h_F k_sc τ σ → Q none τ) : ∀ n : Nat, (∀ (s0 : h_S), h_I s0 → h_F k_sc s0 σ → ∀ (y1 : Int32) (b1 : Int), y1.toInt = b1 → (0 ≤ b1 ∧ b1 ≤ 6) → (6 + 1 - b1) * 1000000 + 1000000000 ≤ (n : Int) → h_T g_P (g_Y ns) 26 2 [(0, .ref 79), (1, .int y1)] [] s0 Q) ∧ (∀ (s0 : h_S), h_I s0 → h_F k_sc s0 σ → ∀ (y1 : Int32) (b1 : Int), y1.toInt = b1 → (0 ≤ b1 ∧ b1 ≤ 5) → ∀ (y2 : Int32) (b2 : Int), y2.toInt = b2 → (0 ≤ b2 ∧ b2 ≤ 6) → ((6 + 1 - b1) - 1) * 1000000 + 1000000000 + ((6 + 1 - b2) + 1) * 1000 + 100000 ≤ (n : Int) → h_T g_P (g_Y ns) 26 12 [(0, .ref 79), (1, .int y1), (2, .int y2)] [] s0 Q) ∧ (∀ (s0 : h_S), h_I s0 → h_F k_sc s0 σ → ∀ (y1 : Int32) (b1 : Int), y1.toInt = b1 → (0 ≤ b1 ∧ b1 ≤ 5) → ∀ (y2 : Int32) (b2 : Int), y2.toInt = b2 → (0 ≤ b2 ∧ b2 ≤ 5) → ∀ (y3 : Int32) (b3 : Int), y3.toInt = b3 → (0 ≤ b3 ∧ b3 ≤ 1000) → ∀ (y4 : Int32) (b4 : Int), y4.toInt = b4 → (0 ≤ b4 ∧ b4 ≤ 6) → ((6 + 1 - b1) - 1) * 1000000 + 1000000000 + ((6 + 1 - b2) - 1) * 1000 + 100000 + ((6 + 1 - b4) + 1) * 1 + 200 ≤ (n : Int) → h_T g_P (g_Y ns) 26 35 [(0, .ref 79), (1, .int y1), (2, .int y2), (3, .int y3), (4, .int y4)] [] s0 Q) := by
  intro n
  induction n with
  | zero => exact ⟨by intro s0 I0 F0_ y1 b1 hy1 ry1 hm; exfalso; omega, by intro s0 I0 F0_ y1 b1 hy1 ry1 y2 b2 hy2 ry2 hm; exfalso; omega, by intro s0 I0 F0_ y1 b1 hy1 ry1 y2 b2 hy2 ry2 y3 b3 hy3 ry3 y4 b4 hy4 ry4 hm; exfalso; omega⟩
  | succ n ih =>
    refine ⟨?_, ?_, ?_⟩
    · intro s0 I0 F0_ y1 b1 hy1 ry1 hm
      refine h_iload_n (pc' := 3) rfl rfl rfl ?_
      refine h_aload_n (pc' := 4) rfl rfl rfl ?_
      refine h_getI (pc' := 7) (v := s0 79 2) rfl rfl rfl rfl rfl rfl (fun z1 hz1 => ?_)
      have tz1 := tf_79_2 I0
      refine h_cge (tg := 116) (pc' := 10) rfl rfl rfl hy1 hz1 (fun c2 => ?_) (fun c2 => ?_)
      · exact h_vret rfl rfl (kk _ I0 F0_)
      · refine h_iconst (pc' := 11) (x := (Int32.ofInt 0)) rfl rfl rfl ?_
        refine h_istore_n (pc' := 12) (M := [(2, .int (Int32.ofInt 0)), (0, .ref 79), (1, .int y1)]) rfl rfl rfl rfl ?_
        exact h_wk [(0, .ref 79), (1, .int y1), (2, .int (Int32.ofInt 0))] ⟨rfl, rfl, rfl, trivial⟩ (ih.2.1 _ I0 F0_ y1 _ hy1 (by omega) (Int32.ofInt 0) _ ci_0 (by omega) (by omega))
    · intro s0 I0 F0_ y1 b1 hy1 ry1 y2 b2 hy2 ry2 hm
      refine h_iload_n (pc' := 13) rfl rfl rfl ?_
      refine h_aload_n (pc' := 14) rfl rfl rfl ?_
      refine h_getI (pc' := 17) (v := s0 79 2) rfl rfl rfl rfl rfl rfl (fun z1 hz1 => ?_)
      have tz1 := tf_79_2 I0
      refine h_cge (tg := 110) (pc' := 20) rfl rfl rfl hy2 hz1 (fun c2 => ?_) (fun c2 => ?_)
      · refine h_iinc (pc' := 113) (M := fun z3 => [(1, .int z3), (0, .ref 79), (2, .int y2)]) rfl rfl rfl rfl hy1 ci_1 rfl (by omega) (by omega) (fun _ => rfl) (fun z3 hz3 => ?_)
        refine h_goto (pc' := 2) rfl rfl ?_
        exact h_wk [(0, .ref 79), (1, .int z3)] ⟨rfl, rfl, trivial⟩ (ih.1 _ I0 F0_ z3 _ hz3 (by omega) (by omega))
      · refine h_aload_n (pc' := 21) rfl rfl rfl ?_
        refine h_getR (pc' := 24) rfl rfl rfl rfl rfl ?_
        refine h_iload_n (pc' := 25) rfl rfl rfl ?_
        refine h_bipush (pc' := 27) (x := (Int32.ofInt 6)) rfl rfl cb_6 ?_
        refine h_imul (pc' := 28) rfl rfl hy2 ci_6 rfl (by omega) (by omega) (fun z4 hz4 => ?_)
        refine h_iload_n (pc' := 29) rfl rfl rfl ?_
        refine h_iadd (pc' := 30) rfl rfl hz4 hy1 rfl (by omega) (by omega) (fun z5 hz5 => ?_)
        refine h_iald (pc' := 31) (v := s0 80 ((b2 * 6) + b1)) rfl rfl rfl hz5 (by omega) (by omega) rfl (fun z6 hz6 => ?_)
        have tz6 := ty_80 I0 ((b2 * 6) + b1)
        refine h_istore_n (pc' := 32) (M := [(3, .int z6), (0, .ref 79), (1, .int y1), (2, .int y2)]) rfl rfl rfl rfl ?_
        refine h_iconst (pc' := 33) (x := (Int32.ofInt 0)) rfl rfl rfl ?_
        refine h_istore (pc' := 35) (M := [(4, .int (Int32.ofInt 0)), (3, .int z6), (0, .ref 79), (1, .int y1), (2, .int y2)]) rfl rfl rfl rfl ?_
        exact h_wk [(0, .ref 79), (1, .int y1), (2, .int y2), (3, .int z6), (4, .int (Int32.ofInt 0))] ⟨rfl, rfl, rfl, rfl, rfl, trivial⟩ (ih.2.2 _ I0 F0_ y1 _ hy1 (by omega) y2 _ hy2 (by omega) z6 _ hz6 (by omega) (Int32.ofInt 0) _ ci_0 (by omega) (by omega))
    · intro s0 I0 F0_ y1 b1 hy1 ry1 y2 b2 hy2 ry2 y3 b3 hy3 ry3 y4 b4 hy4 ry4 hm
      refine h_iload (pc' := 37) rfl rfl rfl ?_
      refine h_aload_n (pc' := 38) rfl rfl rfl ?_
      refine h_getI (pc' := 41) (v := s0 79 2) rfl rfl rfl rfl rfl rfl (fun z1 hz1 => ?_)
      have tz1 := tf_79_2 I0
      refine h_cge (tg := 104) (pc' := 44) rfl rfl rfl hy4 hz1 (fun c2 => ?_) (fun c2 => ?_)
      · refine h_iinc (pc' := 107) (M := fun z3 => [(2, .int z3), (0, .ref 79), (1, .int y1), (3, .int y3), (4, .int y4)]) rfl rfl rfl rfl hy2 ci_1 rfl (by omega) (by omega) (fun _ => rfl) (fun z3 hz3 => ?_)
        refine h_goto (pc' := 12) rfl rfl ?_
        exact h_wk [(0, .ref 79), (1, .int y1), (2, .int z3)] ⟨rfl, rfl, rfl, trivial⟩ (ih.2.1 _ I0 F0_ y1 _ hy1 (by omega) z3 _ hz3 (by omega) (by omega))
      · refine h_iload_n (pc' := 45) rfl rfl rfl ?_
        refine h_sipush (pc' := 48) (x := (Int32.ofInt 1000)) rfl rfl cs_1000 ?_
        refine h_cge (tg := 104) (pc' := 51) rfl rfl rfl hy3 ci_1000 (fun c4 => ?_) (fun c4 => ?_)
        · refine h_iinc (pc' := 107) (M := fun z5 => [(2, .int z5), (0, .ref 79), (1, .int y1), (3, .int y3), (4, .int y4)]) rfl rfl rfl rfl hy2 ci_1 rfl (by omega) (by omega) (fun _ => rfl) (fun z5 hz5 => ?_)
          refine h_goto (pc' := 12) rfl rfl ?_
          exact h_wk [(0, .ref 79), (1, .int y1), (2, .int z5)] ⟨rfl, rfl, rfl, trivial⟩ (ih.2.1 _ I0 F0_ y1 _ hy1 (by omega) z5 _ hz5 (by omega) (by omega))
        · refine h_iload_n (pc' := 52) rfl rfl rfl ?_
          refine h_aload_n (pc' := 53) rfl rfl rfl ?_
          refine h_getR (pc' := 56) rfl rfl rfl rfl rfl ?_
          refine h_iload_n (pc' := 57) rfl rfl rfl ?_
          refine h_bipush (pc' := 59) (x := (Int32.ofInt 6)) rfl rfl cb_6 ?_
          refine h_imul (pc' := 60) rfl rfl hy1 ci_6 rfl (by omega) (by omega) (fun z6 hz6 => ?_)
          refine h_iload (pc' := 62) rfl rfl rfl ?_
          refine h_iadd (pc' := 63) rfl rfl hz6 hy4 rfl (by omega) (by omega) (fun z7 hz7 => ?_)
          refine h_iald (pc' := 64) (v := s0 80 ((b1 * 6) + b4)) rfl rfl rfl hz7 (by omega) (by omega) rfl (fun z8 hz8 => ?_)
          have tz8 := ty_80 I0 ((b1 * 6) + b4)
          refine h_iadd (pc' := 65) rfl rfl hy3 hz8 rfl (by omega) (by omega) (fun z9 hz9 => ?_)
          refine h_istore (pc' := 67) (M := [(5, .int z9), (0, .ref 79), (1, .int y1), (2, .int y2), (3, .int y3), (4, .int y4)]) rfl rfl rfl rfl ?_
          refine h_iload (pc' := 69) rfl rfl rfl ?_
          refine h_aload_n (pc' := 70) rfl rfl rfl ?_
          refine h_getR (pc' := 73) rfl rfl rfl rfl rfl ?_
          refine h_iload_n (pc' := 74) rfl rfl rfl ?_
          refine h_bipush (pc' := 76) (x := (Int32.ofInt 6)) rfl rfl cb_6 ?_
          refine h_imul (pc' := 77) rfl rfl hy2 ci_6 rfl (by omega) (by omega) (fun z10 hz10 => ?_)
          refine h_iload (pc' := 79) rfl rfl rfl ?_
          refine h_iadd (pc' := 80) rfl rfl hz10 hy4 rfl (by omega) (by omega) (fun z11 hz11 => ?_)
          refine h_iald (pc' := 81) (v := s0 80 ((b2 * 6) + b4)) rfl rfl rfl hz11 (by omega) (by omega) rfl (fun z12 hz12 => ?_)
          have tz12 := ty_80 I0 ((b2 * 6) + b4)
          refine h_cge (tg := 98) (pc' := 84) rfl rfl rfl hz9 hz12 (fun c13 => ?_) (fun c13 => ?_)
          · refine h_iinc (pc' := 101) (M := fun z14 => [(4, .int z14), (5, .int z9), (0, .ref 79), (1, .int y1), (2, .int y2), (3, .int y3)]) rfl rfl rfl rfl hy4 ci_1 rfl (by omega) (by omega) (fun _ => rfl) (fun z14 hz14 => ?_)
            refine h_goto (pc' := 35) rfl rfl ?_
            exact h_wk [(0, .ref 79), (1, .int y1), (2, .int y2), (3, .int y3), (4, .int z14)] ⟨rfl, rfl, rfl, rfl, rfl, trivial⟩ (ih.2.2 _ I0 F0_ y1 _ hy1 (by omega) y2 _ hy2 (by omega) y3 _ hy3 (by omega) z14 _ hz14 (by omega) (by omega))
          · refine h_aload_n (pc' := 85) rfl rfl rfl ?_
            refine h_getR (pc' := 88) rfl rfl rfl rfl rfl ?_
            refine h_iload_n (pc' := 89) rfl rfl rfl ?_
            refine h_bipush (pc' := 91) (x := (Int32.ofInt 6)) rfl rfl cb_6 ?_
            refine h_imul (pc' := 92) rfl rfl hy2 ci_6 rfl (by omega) (by omega) (fun z15 hz15 => ?_)
            refine h_iload (pc' := 94) rfl rfl rfl ?_
            refine h_iadd (pc' := 95) rfl rfl hz15 hy4 rfl (by omega) (by omega) (fun z16 hz16 => ?_)
            refine h_iload (pc' := 97) rfl rfl rfl ?_
            refine h_iast (pc' := 98) rfl rfl rfl rfl hz16 (by omega) (by omega) hz9 (h_fg _ (in_80 I0 (by omega)) (F0_.up rfl) (fun s17 Is17 Fs17 => ?_))
            refine h_iinc (pc' := 101) (M := fun z18 => [(4, .int z18), (5, .int z9), (0, .ref 79), (1, .int y1), (2, .int y2), (3, .int y3)]) rfl rfl rfl rfl hy4 ci_1 rfl (by omega) (by omega) (fun _ => rfl) (fun z18 hz18 => ?_)
            refine h_goto (pc' := 35) rfl rfl ?_
            exact h_wk [(0, .ref 79), (1, .int y1), (2, .int y2), (3, .int y3), (4, .int z18)] ⟨rfl, rfl, rfl, rfl, rfl, trivial⟩ (ih.2.2 _ Is17 Fs17 y1 _ hy1 (by omega) y2 _ hy2 (by omega) y3 _ hy3 (by omega) z18 _ hz18 (by omega) (by omega))
theorem w_26_79 {ns : Nat} (σ : h_S) (hI : h_I σ) {Q : Option Value → h_S → Prop} (kk : ∀ (τ : h_S), h_I τ → h_F k_sc τ σ → Q none τ) : h_T g_P (g_Y ns) 26 0 [(0, .ref 79)] [] σ Q := by
  have F00 : h_F k_sc σ σ := h_F.rf
  refine h_iconst (pc' := 1) (x := (Int32.ofInt 0)) rfl rfl rfl ?_
  refine h_istore_n (pc' := 2) (M := [(1, .int (Int32.ofInt 0)), (0, .ref 79)]) rfl rfl rfl rfl ?_
  exact h_wk [(0, .ref 79), (1, .int (Int32.ofInt 0))] ⟨rfl, rfl, trivial⟩ ((w_26_79_l ns σ hI  kk 1000000000000).1 _ hI F00 (Int32.ofInt 0) _ ci_0 (by omega) (by omega))
theorem w_30_79_l (ns : Nat) (σ : h_S) (hI : h_I σ) (x0 : Int32) (a0 : Int) (hx0 : x0.toInt = a0) (ra0 : 0 ≤ a0 ∧ a0 ≤ 5) (x1 : Int32) (a1 : Int) (hx1 : x1.toInt = a1) {Q : Option Value → h_S → Prop} (kk : ∀ (r : Int32) (b : Int) (hb : r.toInt = b) (τ : h_S), h_I τ → h_F k_sc τ σ → Q (some (.int r)) τ) : ∀ n : Nat, (∀ (s0 : h_S), h_I s0 → h_F k_sc s0 σ → ∀ (y3 : Int32) (b3 : Int), y3.toInt = b3 → ∀ (y4 : Int32) (b4 : Int), y4.toInt = b4 → (0 ≤ b4 ∧ b4 ≤ 6) → (6 + 1 - b4) * 1000000 + 1000000000 ≤ (n : Int) → h_T g_P (g_Y ns) 30 5 [(0, .ref 79), (1, .int x0), (2, .int x1), (3, .int y3), (4, .int y4)] [] s0 Q) := by
  intro n
  induction n with
  | zero => exact by intro s0 I0 F0_ y3 b3 hy3 y4 b4 hy4 ry4 hm; exfalso; omega
  | succ n ih =>
    intro s0 I0 F0_ y3 b3 hy3 y4 b4 hy4 ry4 hm
    refine h_iload (pc' := 7) rfl rfl rfl ?_
    refine h_aload_n (pc' := 8) rfl rfl rfl ?_
    refine h_getI (pc' := 11) (v := s0 79 2) rfl rfl rfl rfl rfl rfl (fun z1 hz1 => ?_)
    have tz1 := tf_79_2 I0
    refine h_cge (tg := 43) (pc' := 14) rfl rfl rfl hy4 hz1 (fun c2 => ?_) (fun c2 => ?_)
    · refine h_iload_n (pc' := 44) rfl rfl rfl ?_
      exact h_iret rfl rfl (kk _ _ hy3 _ I0 F0_)
    · refine h_aload_n (pc' := 15) rfl rfl rfl ?_
      refine h_getR (pc' := 18) rfl rfl rfl rfl rfl ?_
      refine h_iload_n (pc' := 19) rfl rfl rfl ?_
      refine h_bipush (pc' := 21) (x := (Int32.ofInt 6)) rfl rfl cb_6 ?_
      refine h_imul (pc' := 22) rfl rfl hx0 ci_6 rfl (by omega) (by omega) (fun z3 hz3 => ?_)
      refine h_iload (pc' := 24) rfl rfl rfl ?_
      refine h_iadd (pc' := 25) rfl rfl hz3 hy4 rfl (by omega) (by omega) (fun z4 hz4 => ?_)
      refine h_iald (pc' := 26) (v := s0 80 ((a0 * 6) + b4)) rfl rfl rfl hz4 (by omega) (by omega) rfl (fun z5 hz5 => ?_)
      have tz5 := ty_80 I0 ((a0 * 6) + b4)
      refine h_iload_n (pc' := 27) rfl rfl rfl ?_
      refine h_cgt (tg := 37) (pc' := 30) rfl rfl rfl hz5 hx1 (fun c6 => ?_) (fun c6 => ?_)
      · refine h_iinc (pc' := 40) (M := fun z7 => [(4, .int z7), (0, .ref 79), (1, .int x0), (2, .int x1), (3, .int y3)]) rfl rfl rfl rfl hy4 ci_1 rfl (by omega) (by omega) (fun _ => rfl) (fun z7 hz7 => ?_)
        refine h_goto (pc' := 5) rfl rfl ?_
        exact h_wk [(0, .ref 79), (1, .int x0), (2, .int x1), (3, .int y3), (4, .int z7)] ⟨rfl, rfl, rfl, rfl, rfl, trivial⟩ (ih _ I0 F0_ y3 _ hy3 z7 _ hz7 (by omega) (by omega))
      · refine h_iload_n (pc' := 31) rfl rfl rfl ?_
        refine h_iconst (pc' := 32) (x := (Int32.ofInt 1)) rfl rfl rfl ?_
        refine h_iload (pc' := 34) rfl rfl rfl ?_
        refine h_shl1 (pc' := 35) rfl rfl ci_1 hy4 (by omega) (by omega) (fun z8 hz8 vz8 => ?_)
        refine h_ior (pc' := 36) rfl rfl (fun z9 hz9 => ?_)
        refine h_istore_n (pc' := 37) (M := [(3, .int z9), (0, .ref 79), (1, .int x0), (2, .int x1), (4, .int y4)]) rfl rfl rfl rfl ?_
        refine h_iinc (pc' := 40) (M := fun z10 => [(4, .int z10), (3, .int z9), (0, .ref 79), (1, .int x0), (2, .int x1)]) rfl rfl rfl rfl hy4 ci_1 rfl (by omega) (by omega) (fun _ => rfl) (fun z10 hz10 => ?_)
        refine h_goto (pc' := 5) rfl rfl ?_
        exact h_wk [(0, .ref 79), (1, .int x0), (2, .int x1), (3, .int z9), (4, .int z10)] ⟨rfl, rfl, rfl, rfl, rfl, trivial⟩ (ih _ I0 F0_ z9 _ rfl z10 _ hz10 (by omega) (by omega))
theorem w_30_79 {ns : Nat} (σ : h_S) (hI : h_I σ) (x0 : Int32) (a0 : Int) (hx0 : x0.toInt = a0) (ra0 : 0 ≤ a0 ∧ a0 ≤ 5) (x1 : Int32) (a1 : Int) (hx1 : x1.toInt = a1) {Q : Option Value → h_S → Prop} (kk : ∀ (r : Int32) (b : Int) (hb : r.toInt = b) (τ : h_S), h_I τ → h_F k_sc τ σ → Q (some (.int r)) τ) : h_T g_P (g_Y ns) 30 0 [(0, .ref 79), (1, .int x0), (2, .int x1)] [] σ Q := by
  have F00 : h_F k_sc σ σ := h_F.rf
  refine h_iconst (pc' := 1) (x := (Int32.ofInt 0)) rfl rfl rfl ?_
  refine h_istore_n (pc' := 2) (M := [(3, .int (Int32.ofInt 0)), (0, .ref 79), (1, .int x0), (2, .int x1)]) rfl rfl rfl rfl ?_
  refine h_iconst (pc' := 3) (x := (Int32.ofInt 0)) rfl rfl rfl ?_
  refine h_istore (pc' := 5) (M := [(4, .int (Int32.ofInt 0)), (3, .int (Int32.ofInt 0)), (0, .ref 79), (1, .int x0), (2, .int x1)]) rfl rfl rfl rfl ?_
  exact h_wk [(0, .ref 79), (1, .int x0), (2, .int x1), (3, .int (Int32.ofInt 0)), (4, .int (Int32.ofInt 0))] ⟨rfl, rfl, rfl, rfl, rfl, trivial⟩ ((w_30_79_l ns σ hI x0 a0 hx0 ra0 x1 a1 hx1 kk 1000000000000) _ hI F00 (Int32.ofInt 0) _ ci_0 (Int32.ofInt 0) _ ci_0 (by omega) (by omega))
