def kf_w_13_10 : List Nat := []
theorem w_13_10_l (ns : Nat) (σ : h_S) (hI : h_I σ) (x0 : Int32) (a0 : Int) (hx0 : x0.toInt = a0) (ra0 : 0 ≤ a0 ∧ a0 ≤ 5) {Q : Option Value → h_S → Prop} (kk : ∀ (r : Int32) (b : Int) (hb : r.toInt = b) (τ : h_S), h_I τ → h_F (k_in kf_w_13_10) τ σ → Q (some (.int r)) τ) : ∀ n : Nat, (∀ (s0 : h_S), h_I s0 → h_F (k_in kf_w_13_10) s0 σ → ∀ (y2 : Int32) (b2 : Int), y2.toInt = b2 → ∀ (y3 : Int32) (b3 : Int), y3.toInt = b3 → (0 ≤ b3 ∧ b3 ≤ 6) → (6 + 1 - b3) * 1000000 + 1000000000 ≤ (n : Int) → h_T g_P (g_Y ns) 13 4 [(0, .ref 10), (1, .int x0), (2, .int y2), (3, .int y3)] [] s0 Q) := by
  intro n
  induction n with
  | zero => exact by intro s0 I0 F0_ y2 b2 hy2 y3 b3 hy3 ry3 hm; exfalso; omega
  | succ n ih =>
    intro s0 I0 F0_ y2 b2 hy2 y3 b3 hy3 ry3 hm
    refine h_iload_n (pc' := 5) rfl rfl rfl ?_
    refine h_aload_n (pc' := 6) rfl rfl rfl ?_
    refine h_getI (pc' := 9) (v := σ 10 8) rfl rfl rfl rfl rfl (F0_ 10 8 rfl) (fun z1 hz1 => ?_)
    have tz1 := tf_10_8 hI
    refine h_cge (tg := 34) (pc' := 12) rfl rfl rfl hy3 hz1 (fun c2 => ?_) (fun c2 => ?_)
    · refine h_iload_n (pc' := 35) rfl rfl rfl ?_
      exact h_iret rfl rfl (kk _ _ hy2 _ I0 F0_)
    · refine h_aload_n (pc' := 13) rfl rfl rfl ?_
      refine h_getR (pc' := 16) rfl rfl rfl rfl rfl ?_
      refine h_iload_n (pc' := 17) rfl rfl rfl ?_
      refine h_iald (pc' := 18) (v := σ 12 b3) rfl rfl rfl hy3 (by omega) (by omega) (F0_ 12 _ rfl) (fun z3 hz3 => ?_)
      have tz3 := ty_12 hI b3
      refine h_iload_n (pc' := 19) rfl rfl rfl ?_
      refine h_cne (tg := 28) (pc' := 22) rfl rfl rfl hz3 hx0 (fun c4 => ?_) (fun c4 => ?_)
      · refine h_iinc (pc' := 31) (M := fun z5 => [(3, .int z5), (0, .ref 10), (1, .int x0), (2, .int y2)]) rfl rfl rfl rfl hy3 ci_1 rfl (by omega) (by omega) (fun _ => rfl) (fun z5 hz5 => ?_)
        refine h_goto (pc' := 4) rfl rfl ?_
        exact h_wk [(0, .ref 10), (1, .int x0), (2, .int y2), (3, .int z5)] ⟨rfl, rfl, rfl, rfl, trivial⟩ (ih _ I0 F0_ y2 _ hy2 z5 _ hz5 (by omega) (by omega))
      · refine h_iload_n (pc' := 23) rfl rfl rfl ?_
        refine h_iconst (pc' := 24) (x := (Int32.ofInt 1)) rfl rfl rfl ?_
        refine h_iload_n (pc' := 25) rfl rfl rfl ?_
        refine h_shl1 (pc' := 26) rfl rfl ci_1 hy3 (by omega) (by omega) (fun z6 hz6 vz6 => ?_)
        refine h_ior (pc' := 27) rfl rfl (fun z7 hz7 => ?_)
        refine h_istore_n (pc' := 28) (M := [(2, .int z7), (0, .ref 10), (1, .int x0), (3, .int y3)]) rfl rfl rfl rfl ?_
        refine h_iinc (pc' := 31) (M := fun z8 => [(3, .int z8), (2, .int z7), (0, .ref 10), (1, .int x0)]) rfl rfl rfl rfl hy3 ci_1 rfl (by omega) (by omega) (fun _ => rfl) (fun z8 hz8 => ?_)
        refine h_goto (pc' := 4) rfl rfl ?_
        exact h_wk [(0, .ref 10), (1, .int x0), (2, .int z7), (3, .int z8)] ⟨rfl, rfl, rfl, rfl, trivial⟩ (ih _ I0 F0_ z7 _ rfl z8 _ hz8 (by omega) (by omega))
theorem w_13_10 {ns : Nat} (σ : h_S) (hI : h_I σ) (x0 : Int32) (a0 : Int) (hx0 : x0.toInt = a0) (ra0 : 0 ≤ a0 ∧ a0 ≤ 5) {Q : Option Value → h_S → Prop} (kk : ∀ (r : Int32) (b : Int) (hb : r.toInt = b) (τ : h_S), h_I τ → h_F (k_in kf_w_13_10) τ σ → Q (some (.int r)) τ) : h_T g_P (g_Y ns) 13 0 [(0, .ref 10), (1, .int x0)] [] σ Q := by
  have F00 : h_F (k_in kf_w_13_10) σ σ := h_F.rf
  refine h_iconst (pc' := 1) (x := (Int32.ofInt 0)) rfl rfl rfl ?_
  refine h_istore_n (pc' := 2) (M := [(2, .int (Int32.ofInt 0)), (0, .ref 10), (1, .int x0)]) rfl rfl rfl rfl ?_
  refine h_iconst (pc' := 3) (x := (Int32.ofInt 0)) rfl rfl rfl ?_
  refine h_istore_n (pc' := 4) (M := [(3, .int (Int32.ofInt 0)), (2, .int (Int32.ofInt 0)), (0, .ref 10), (1, .int x0)]) rfl rfl rfl rfl ?_
  exact h_wk [(0, .ref 10), (1, .int x0), (2, .int (Int32.ofInt 0)), (3, .int (Int32.ofInt 0))] ⟨rfl, rfl, rfl, rfl, trivial⟩ ((w_13_10_l ns σ hI x0 a0 hx0 ra0 kk 1000000000000) _ hI F00 (Int32.ofInt 0) _ ci_0 (Int32.ofInt 0) _ ci_0 (by omega) (by omega))
def kf_w_11_10 : List Nat := []
theorem w_11_10_l (ns : Nat) (σ : h_S) (hI : h_I σ) {Q : Option Value → h_S → Prop} (kk : ∀ (r : Int32) (b : Int) (hb : r.toInt = b) (τ : h_S), h_I τ → h_F (k_in kf_w_11_10) τ σ → Q (some (.int r)) τ) : ∀ n : Nat, (∀ (s0 : h_S), h_I s0 → h_F (k_in kf_w_11_10) s0 σ → ∀ (y1 : Int32) (b1 : Int), y1.toInt = b1 → ∀ (y2 : Int32) (b2 : Int), y2.toInt = b2 → (0 ≤ b2 ∧ b2 ≤ 3) → (3 + 1 - b2) * 1000000 + 1000000000 ≤ (n : Int) → h_T g_P (g_Y ns) 11 4 [(0, .ref 10), (1, .int y1), (2, .int y2)] [] s0 Q) := by
  intro n
  induction n with
  | zero => exact by intro s0 I0 F0_ y1 b1 hy1 y2 b2 hy2 ry2 hm; exfalso; omega
  | succ n ih =>
    intro s0 I0 F0_ y1 b1 hy1 y2 b2 hy2 ry2 hm
    refine h_iload_n (pc' := 5) rfl rfl rfl ?_
    refine h_aload_n (pc' := 6) rfl rfl rfl ?_
    refine h_getI (pc' := 9) (v := σ 10 9) rfl rfl rfl rfl rfl (F0_ 10 9 rfl) (fun z1 hz1 => ?_)
    have tz1 := tf_10_9 hI
    refine h_cge (tg := 27) (pc' := 12) rfl rfl rfl hy2 hz1 (fun c2 => ?_) (fun c2 => ?_)
    · refine h_iload_n (pc' := 28) rfl rfl rfl ?_
      exact h_iret rfl rfl (kk _ _ hy1 _ I0 F0_)
    · refine h_iload_n (pc' := 13) rfl rfl rfl ?_
      refine h_aload_n (pc' := 14) rfl rfl rfl ?_
      refine h_getR (pc' := 17) rfl rfl rfl rfl rfl ?_
      refine h_iload_n (pc' := 18) rfl rfl rfl ?_
      refine h_iald (pc' := 19) (v := σ 21 b2) rfl rfl rfl hy2 (by omega) (by omega) (F0_ 21 _ rfl) (fun z3 hz3 => ?_)
      have tz3 := ty_21 hI b2
      refine h_iaddA (pc' := 20) rfl rfl (fun z4 hz4 => ?_)
      refine h_istore_n (pc' := 21) (M := [(1, .int z4), (0, .ref 10), (2, .int y2)]) rfl rfl rfl rfl ?_
      refine h_iinc (pc' := 24) (M := fun z5 => [(2, .int z5), (1, .int z4), (0, .ref 10)]) rfl rfl rfl rfl hy2 ci_1 rfl (by omega) (by omega) (fun _ => rfl) (fun z5 hz5 => ?_)
      refine h_goto (pc' := 4) rfl rfl ?_
      exact h_wk [(0, .ref 10), (1, .int z4), (2, .int z5)] ⟨rfl, rfl, rfl, trivial⟩ (ih _ I0 F0_ z4 _ rfl z5 _ hz5 (by omega) (by omega))
theorem w_11_10 {ns : Nat} (σ : h_S) (hI : h_I σ) {Q : Option Value → h_S → Prop} (kk : ∀ (r : Int32) (b : Int) (hb : r.toInt = b) (τ : h_S), h_I τ → h_F (k_in kf_w_11_10) τ σ → Q (some (.int r)) τ) : h_T g_P (g_Y ns) 11 0 [(0, .ref 10)] [] σ Q := by
  have F00 : h_F (k_in kf_w_11_10) σ σ := h_F.rf
  refine h_iconst (pc' := 1) (x := (Int32.ofInt 0)) rfl rfl rfl ?_
  refine h_istore_n (pc' := 2) (M := [(1, .int (Int32.ofInt 0)), (0, .ref 10)]) rfl rfl rfl rfl ?_
  refine h_iconst (pc' := 3) (x := (Int32.ofInt 0)) rfl rfl rfl ?_
  refine h_istore_n (pc' := 4) (M := [(2, .int (Int32.ofInt 0)), (1, .int (Int32.ofInt 0)), (0, .ref 10)]) rfl rfl rfl rfl ?_
  exact h_wk [(0, .ref 10), (1, .int (Int32.ofInt 0)), (2, .int (Int32.ofInt 0))] ⟨rfl, rfl, rfl, trivial⟩ ((w_11_10_l ns σ hI  kk 1000000000000) _ hI F00 (Int32.ofInt 0) _ ci_0 (Int32.ofInt 0) _ ci_0 (by omega) (by omega))
def kf_w_15_10 : List Nat := []
theorem w_15_10_l (ns : Nat) (σ : h_S) (hI : h_I σ) (x0 : Int32) (a0 : Int) (hx0 : x0.toInt = a0) (ra0 : 0 ≤ a0 ∧ a0 ≤ 5) {Q : Option Value → h_S → Prop} (kk : ∀ (r : Int32) (b : Int) (hb : r.toInt = b) (τ : h_S), h_I τ → h_F (k_in kf_w_15_10) τ σ → Q (some (.int r)) τ) : ∀ n : Nat, (∀ (s0 : h_S), h_I s0 → h_F (k_in kf_w_15_10) s0 σ → ∀ (y2 : Int32) (b2 : Int), y2.toInt = b2 → ∀ (y3 : Int32) (b3 : Int), y3.toInt = b3 → ((-4) ≤ b3 ∧ b3 ≤ 5) → ∀ (y4 : Int32) (b4 : Int), y4.toInt = b4 → (0 ≤ b4 ∧ b4 ≤ 6) → (6 + 1 - b4) * 1000000 + 1000000000 ≤ (n : Int) → h_T g_P (g_Y ns) 15 7 [(0, .ref 10), (1, .int x0), (2, .int y2), (3, .int y3), (4, .int y4)] [] s0 Q) := by
  intro n
  induction n with
  | zero => exact by intro s0 I0 F0_ y2 b2 hy2 y3 b3 hy3 ry3 y4 b4 hy4 ry4 hm; exfalso; omega
  | succ n ih =>
    intro s0 I0 F0_ y2 b2 hy2 y3 b3 hy3 ry3 y4 b4 hy4 ry4 hm
    refine h_iload (pc' := 9) rfl rfl rfl ?_
    refine h_bipush (pc' := 11) (x := (Int32.ofInt 6)) rfl rfl cb_6 ?_
    refine h_cge (tg := 41) (pc' := 14) rfl rfl rfl hy4 ci_6 (fun c1 => ?_) (fun c1 => ?_)
    · refine h_iload_n (pc' := 42) rfl rfl rfl ?_
      exact h_iret rfl rfl (kk _ _ hy2 _ I0 F0_)
    · refine h_aload_n (pc' := 15) rfl rfl rfl ?_
      refine h_iload_n (pc' := 16) rfl rfl rfl ?_
      refine h_call (sp := false) (pc' := 19) (M := [(0, .ref 10), (1, .int y3)]) rfl rfl rfl rfl rfl rfl rfl rfl ?_
      refine h_iload_n (pc' := 1) rfl rfl rfl ?_
      refine h_zlt (tg := 16) (pc' := 4) rfl rfl rfl hy3 (fun c2 => ?_) (fun c2 => ?_)
      · refine h_iconst (pc' := 17) (x := (Int32.ofInt 0)) rfl rfl rfl ?_
        refine h_zret rfl rfl ci_0 (by omega) (h_Kv ?_)
        refine h_zeq (tg := 41) (pc' := 22) rfl rfl rfl ci_0 (fun c3 => ?_) (fun c3 => absurd c3 (by omega))
        refine h_iload_n (pc' := 42) rfl rfl rfl ?_
        exact h_iret rfl rfl (kk _ _ hy2 _ I0 F0_)
      · refine h_iload_n (pc' := 5) rfl rfl rfl ?_
        refine h_aload_n (pc' := 6) rfl rfl rfl ?_
        refine h_getI (pc' := 9) (v := σ 10 8) rfl rfl rfl rfl rfl (F0_ 10 8 rfl) (fun z4 hz4 => ?_)
        have tz4 := tf_10_8 hI
        refine h_cge (tg := 16) (pc' := 12) rfl rfl rfl hy3 hz4 (fun c5 => ?_) (fun c5 => ?_)
        · refine h_iconst (pc' := 17) (x := (Int32.ofInt 0)) rfl rfl rfl ?_
          refine h_zret rfl rfl ci_0 (by omega) (h_Kv ?_)
          refine h_zeq (tg := 41) (pc' := 22) rfl rfl rfl ci_0 (fun c6 => ?_) (fun c6 => absurd c6 (by omega))
          refine h_iload_n (pc' := 42) rfl rfl rfl ?_
          exact h_iret rfl rfl (kk _ _ hy2 _ I0 F0_)
        · refine h_iconst (pc' := 13) (x := (Int32.ofInt 1)) rfl rfl rfl ?_
          refine h_goto (pc' := 17) rfl rfl ?_
          refine h_zret rfl rfl ci_1 (by omega) (h_Kv ?_)
          refine h_zeq (tg := 41) (pc' := 22) rfl rfl rfl ci_1 (fun c7 => absurd c7 (by omega)) (fun c7 => ?_)
          refine h_iload_n (pc' := 23) rfl rfl rfl ?_
          refine h_iconst (pc' := 24) (x := (Int32.ofInt 1)) rfl rfl rfl ?_
          refine h_iload_n (pc' := 25) rfl rfl rfl ?_
          refine h_shl1 (pc' := 26) rfl rfl ci_1 hy3 (by omega) (by omega) (fun z8 hz8 vz8 => ?_)
          refine h_ior (pc' := 27) rfl rfl (fun z9 hz9 => ?_)
          refine h_istore_n (pc' := 28) (M := [(2, .int z9), (0, .ref 10), (1, .int x0), (3, .int y3), (4, .int y4)]) rfl rfl rfl rfl ?_
          refine h_aload_n (pc' := 29) rfl rfl rfl ?_
          refine h_getR (pc' := 32) rfl rfl rfl rfl rfl ?_
          refine h_iload_n (pc' := 33) rfl rfl rfl ?_
          refine h_iald (pc' := 34) (v := σ 12 b3) rfl rfl rfl hy3 (by omega) (by omega) (F0_ 12 _ rfl) (fun z10 hz10 => ?_)
          have tz10 := ty_12 hI b3
          refine h_istore_n (pc' := 35) (M := [(3, .int z10), (2, .int z9), (0, .ref 10), (1, .int x0), (4, .int y4)]) rfl rfl rfl rfl ?_
          refine h_iinc (pc' := 38) (M := fun z11 => [(4, .int z11), (3, .int z10), (2, .int z9), (0, .ref 10), (1, .int x0)]) rfl rfl rfl rfl hy4 ci_1 rfl (by omega) (by omega) (fun _ => rfl) (fun z11 hz11 => ?_)
          refine h_goto (pc' := 7) rfl rfl ?_
          exact h_wk [(0, .ref 10), (1, .int x0), (2, .int z9), (3, .int z10), (4, .int z11)] ⟨rfl, rfl, rfl, rfl, rfl, trivial⟩ (ih _ I0 F0_ z9 _ rfl z10 _ hz10 (by omega) z11 _ hz11 (by omega) (by omega))
theorem w_15_10 {ns : Nat} (σ : h_S) (hI : h_I σ) (x0 : Int32) (a0 : Int) (hx0 : x0.toInt = a0) (ra0 : 0 ≤ a0 ∧ a0 ≤ 5) {Q : Option Value → h_S → Prop} (kk : ∀ (r : Int32) (b : Int) (hb : r.toInt = b) (τ : h_S), h_I τ → h_F (k_in kf_w_15_10) τ σ → Q (some (.int r)) τ) : h_T g_P (g_Y ns) 15 0 [(0, .ref 10), (1, .int x0)] [] σ Q := by
  have F00 : h_F (k_in kf_w_15_10) σ σ := h_F.rf
  refine h_iconst (pc' := 1) (x := (Int32.ofInt 0)) rfl rfl rfl ?_
  refine h_istore_n (pc' := 2) (M := [(2, .int (Int32.ofInt 0)), (0, .ref 10), (1, .int x0)]) rfl rfl rfl rfl ?_
  refine h_iload_n (pc' := 3) rfl rfl rfl ?_
  refine h_istore_n (pc' := 4) (M := [(3, .int x0), (2, .int (Int32.ofInt 0)), (0, .ref 10), (1, .int x0)]) rfl rfl rfl rfl ?_
  refine h_iconst (pc' := 5) (x := (Int32.ofInt 0)) rfl rfl rfl ?_
  refine h_istore (pc' := 7) (M := [(4, .int (Int32.ofInt 0)), (3, .int x0), (2, .int (Int32.ofInt 0)), (0, .ref 10), (1, .int x0)]) rfl rfl rfl rfl ?_
  exact h_wk [(0, .ref 10), (1, .int x0), (2, .int (Int32.ofInt 0)), (3, .int x0), (4, .int (Int32.ofInt 0))] ⟨rfl, rfl, rfl, rfl, rfl, trivial⟩ ((w_15_10_l ns σ hI x0 a0 hx0 ra0 kk 1000000000000) _ hI F00 (Int32.ofInt 0) _ ci_0 x0 _ hx0 (by omega) (Int32.ofInt 0) _ ci_0 (by omega) (by omega))
def kf_w_14_10 : List Nat := []
theorem w_14_10_l (ns : Nat) (σ : h_S) (hI : h_I σ) (x0 : Int32) (a0 : Int) (hx0 : x0.toInt = a0) (ra0 : 0 ≤ a0 ∧ a0 ≤ 5) (x1 : Int32) (a1 : Int) (hx1 : x1.toInt = a1) (ra1 : 0 ≤ a1 ∧ a1 ≤ 5) {Q : Option Value → h_S → Prop} (kk : ∀ (r : Int32) (b : Int) (hb : r.toInt = b) (τ : h_S), h_I τ → h_F (k_in kf_w_14_10) τ σ → ((-4) ≤ b ∧ b ≤ 5) → Q (some (.int r)) τ) : ∀ n : Nat, (∀ (s0 : h_S), h_I s0 → h_F (k_in kf_w_14_10) s0 σ → ∀ (y3 : Int32) (b3 : Int), y3.toInt = b3 → ∀ (y4 : Int32) (b4 : Int), y4.toInt = b4 → ((-1) ≤ b4 ∧ b4 ≤ 5) → (b4 + 1 - (-1)) * 1000000 + 1000000000 ≤ (n : Int) → h_T g_P (g_Y ns) 14 20 [(0, .ref 10), (1, .int x0), (2, .int x1), (3, .int y3), (4, .int y4)] [] s0 Q) := by
  intro n
  induction n with
  | zero => exact by intro s0 I0 F0_ y3 b3 hy3 y4 b4 hy4 ry4 hm; exfalso; omega
  | succ n ih =>
    intro s0 I0 F0_ y3 b3 hy3 y4 b4 hy4 ry4 hm
    refine h_iload (pc' := 22) rfl rfl rfl ?_
    refine h_zlt (tg := 43) (pc' := 25) rfl rfl rfl hy4 (fun c1 => ?_) (fun c1 => ?_)
    · refine h_bipush (pc' := 45) (x := (Int32.ofInt (-4))) rfl rfl cb_m4 ?_
      exact h_iret rfl rfl (kk _ _ ci_m4 _ I0 F0_ (by omega))
    · refine h_iload_n (pc' := 26) rfl rfl rfl ?_
      refine h_iload (pc' := 28) rfl rfl rfl ?_
      refine h_calls (pc' := 31) (M := [(0, .int y3), (1, .int y4)]) rfl rfl rfl rfl rfl rfl ?_
      refine h_iload_n (pc' := 1) rfl rfl rfl ?_
      refine h_iload_n (pc' := 2) rfl rfl rfl ?_
      refine h_ishr (pc' := 3) rfl rfl (fun z2 hz2 => ?_)
      refine h_iconst (pc' := 4) (x := (Int32.ofInt 1)) rfl rfl rfl ?_
      refine h_iand (pc' := 5) rfl rfl (fun z3 hz3 uz3 vz3 => ?_)
      clear uz3
      rw [ci_1] at vz3
      have yz3 := vz3 (by omega)
      refine h_zeq (tg := 12) (pc' := 8) rfl rfl rfl rfl (fun c4 => ?_) (fun c4 => ?_)
      · refine h_iconst (pc' := 13) (x := (Int32.ofInt 0)) rfl rfl rfl ?_
        refine h_zret rfl rfl ci_0 (by omega) (h_Kv ?_)
        refine h_zeq (tg := 37) (pc' := 34) rfl rfl rfl ci_0 (fun c5 => ?_) (fun c5 => absurd c5 (by omega))
        refine h_iinc (pc' := 40) (M := fun z6 => [(4, .int z6), (0, .ref 10), (1, .int x0), (2, .int x1), (3, .int y3)]) rfl rfl rfl rfl hy4 ci_m1 rfl (by omega) (by omega) (fun _ => rfl) (fun z6 hz6 => ?_)
        refine h_goto (pc' := 20) rfl rfl ?_
        exact h_wk [(0, .ref 10), (1, .int x0), (2, .int x1), (3, .int y3), (4, .int z6)] ⟨rfl, rfl, rfl, rfl, rfl, trivial⟩ (ih _ I0 F0_ y3 _ hy3 z6 _ hz6 (by omega) (by omega))
      · refine h_iconst (pc' := 9) (x := (Int32.ofInt 1)) rfl rfl rfl ?_
        refine h_goto (pc' := 13) rfl rfl ?_
        refine h_zret rfl rfl ci_1 (by omega) (h_Kv ?_)
        refine h_zeq (tg := 37) (pc' := 34) rfl rfl rfl ci_1 (fun c7 => absurd c7 (by omega)) (fun c7 => ?_)
        refine h_iload (pc' := 36) rfl rfl rfl ?_
        exact h_iret rfl rfl (kk _ _ hy4 _ I0 F0_ (by omega))
theorem w_14_10 {ns : Nat} (σ : h_S) (hI : h_I σ) (x0 : Int32) (a0 : Int) (hx0 : x0.toInt = a0) (ra0 : 0 ≤ a0 ∧ a0 ≤ 5) (x1 : Int32) (a1 : Int) (hx1 : x1.toInt = a1) (ra1 : 0 ≤ a1 ∧ a1 ≤ 5) {Q : Option Value → h_S → Prop} (kk : ∀ (r : Int32) (b : Int) (hb : r.toInt = b) (τ : h_S), h_I τ → h_F (k_in kf_w_14_10) τ σ → ((-4) ≤ b ∧ b ≤ 5) → Q (some (.int r)) τ) : h_T g_P (g_Y ns) 14 0 [(0, .ref 10), (1, .int x0), (2, .int x1)] [] σ Q := by
  have F00 : h_F (k_in kf_w_14_10) σ σ := h_F.rf
  refine h_aload_n (pc' := 1) rfl rfl rfl ?_
  refine h_iload_n (pc' := 2) rfl rfl rfl ?_
  refine h_call (sp := false) (pc' := 5) (M := [(0, .ref 10), (1, .int x0)]) rfl rfl rfl rfl rfl rfl rfl rfl ?_
  refine w_15_10 _ hI x0 _ hx0 (by omega) (fun r1 br1 hr1 s2 Is2 Gs2 => h_Kv ?_)
  have Fs2 := (Gs2.mono (B := kf_w_14_10) rfl).tr F00
  refine h_aload_n (pc' := 6) rfl rfl rfl ?_
  refine h_iload_n (pc' := 7) rfl rfl rfl ?_
  refine h_call (sp := false) (pc' := 10) (M := [(0, .ref 10), (1, .int x1)]) rfl rfl rfl rfl rfl rfl rfl rfl ?_
  refine w_15_10 _ Is2 x1 _ hx1 (by omega) (fun r3 br3 hr3 s4 Is4 Gs4 => h_Kv ?_)
  have Fs4 := (Gs4.mono (B := kf_w_14_10) rfl).tr Fs2
  refine h_iand (pc' := 11) rfl rfl (fun z5 hz5 uz5 vz5 => ?_)
  clear uz5
  clear vz5
  refine h_istore_n (pc' := 12) (M := [(3, .int z5), (0, .ref 10), (1, .int x0), (2, .int x1)]) rfl rfl rfl rfl ?_
  refine h_aload_n (pc' := 13) rfl rfl rfl ?_
  refine h_getI (pc' := 16) (v := σ 10 8) rfl rfl rfl rfl rfl (Fs4 10 8 rfl) (fun z6 hz6 => ?_)
  have tz6 := tf_10_8 hI
  refine h_iconst (pc' := 17) (x := (Int32.ofInt 1)) rfl rfl rfl ?_
  refine h_isub (pc' := 18) rfl rfl hz6 ci_1 rfl (by omega) (by omega) (fun z7 hz7 => ?_)
  refine h_istore (pc' := 20) (M := [(4, .int z7), (3, .int z5), (0, .ref 10), (1, .int x0), (2, .int x1)]) rfl rfl rfl rfl ?_
  exact h_wk [(0, .ref 10), (1, .int x0), (2, .int x1), (3, .int z5), (4, .int z7)] ⟨rfl, rfl, rfl, rfl, rfl, trivial⟩ ((w_14_10_l ns σ hI x0 a0 hx0 ra0 x1 a1 hx1 ra1 kk 1000000000000) _ Is4 Fs4 z5 _ rfl z7 _ hz7 (by omega) (by omega))
def kf_w_3_23_10 : List Nat := [23560, 23561, 23562, 25599, 26623, 26626, 28671, 29695, 29698, 31743, 32767, 33791, 34815, 35839, 36863]
theorem w_3_23_10 {ns : Nat} (σ : h_S) (hI : h_I σ) {Q : Option Value → h_S → Prop} (kk : ∀ (τ : h_S), h_I τ → h_F (k_in kf_w_3_23_10) τ σ → Q none τ) : h_T g_P (g_Y ns) 3 0 [(0, .ref 23), (1, .ref 10)] [] σ Q := by
  have F00 : h_F (k_in kf_w_3_23_10) σ σ := h_F.rf
  refine h_aload_n (pc' := 1) rfl rfl rfl ?_
  refine h_getR (pc' := 4) rfl rfl rfl rfl rfl ?_
  refine h_iconst (pc' := 5) (x := (Int32.ofInt 0)) rfl rfl rfl ?_
  refine h_aload_n (pc' := 6) rfl rfl rfl ?_
  refine h_getR (pc' := 9) rfl rfl rfl rfl rfl ?_
  refine h_iconst (pc' := 10) (x := (Int32.ofInt 0)) rfl rfl rfl ?_
  refine h_bipush (pc' := 12) (x := (Int32.ofInt 6)) rfl rfl cb_6 ?_
  refine h_acp (pc' := 15) rfl rfl rfl rfl rfl rfl rfl rfl rfl rfl ci_6 (h_fg _ (h_I_cp hI (fun _ _ h => h)) (F00.cp (fun _ => rfl)) (fun s1 Is1 Fs1 => ?_))
  refine h_aload_n (pc' := 16) rfl rfl rfl ?_
  refine h_getR (pc' := 19) rfl rfl rfl rfl rfl ?_
  refine h_iconst (pc' := 20) (x := (Int32.ofInt 0)) rfl rfl rfl ?_
  refine h_aload_n (pc' := 21) rfl rfl rfl ?_
  refine h_getR (pc' := 24) rfl rfl rfl rfl rfl ?_
  refine h_iconst (pc' := 25) (x := (Int32.ofInt 0)) rfl rfl rfl ?_
  refine h_bipush (pc' := 27) (x := (Int32.ofInt 6)) rfl rfl cb_6 ?_
  refine h_acp (pc' := 30) rfl rfl rfl rfl rfl rfl rfl rfl rfl rfl ci_6 (h_fg _ (h_I_cp Is1 (fun _ _ h => h)) (Fs1.cp (fun _ => rfl)) (fun s2 Is2 Fs2 => ?_))
  refine h_aload_n (pc' := 31) rfl rfl rfl ?_
  refine h_getR (pc' := 34) rfl rfl rfl rfl rfl ?_
  refine h_aload_n (pc' := 35) rfl rfl rfl ?_
  refine h_getR (pc' := 38) rfl rfl rfl rfl rfl ?_
  refine h_call (sp := false) (pc' := 41) (M := [(0, .ref 26), (1, .ref 13)]) rfl rfl rfl rfl rfl rfl rfl rfl ?_
  refine h_aload_n (pc' := 1) rfl rfl rfl ?_
  refine h_getR (pc' := 4) rfl rfl rfl rfl rfl ?_
  refine h_iconst (pc' := 5) (x := (Int32.ofInt 0)) rfl rfl rfl ?_
  refine h_aload_n (pc' := 6) rfl rfl rfl ?_
  refine h_getR (pc' := 9) rfl rfl rfl rfl rfl ?_
  refine h_iconst (pc' := 10) (x := (Int32.ofInt 0)) rfl rfl rfl ?_
  refine h_iconst (pc' := 11) (x := (Int32.ofInt 3)) rfl rfl rfl ?_
  refine h_acp (pc' := 14) rfl rfl rfl rfl rfl rfl rfl rfl rfl rfl ci_3 (h_fg _ (h_I_cp Is2 (fun _ _ h => h)) (Fs2.cp (fun _ => rfl)) (fun s3 Is3 Fs3 => ?_))
  refine h_aload_n (pc' := 15) rfl rfl rfl ?_
  refine h_getR (pc' := 18) rfl rfl rfl rfl rfl ?_
  refine h_iconst (pc' := 19) (x := (Int32.ofInt 0)) rfl rfl rfl ?_
  refine h_aload_n (pc' := 20) rfl rfl rfl ?_
  refine h_getR (pc' := 23) rfl rfl rfl rfl rfl ?_
  refine h_iconst (pc' := 24) (x := (Int32.ofInt 0)) rfl rfl rfl ?_
  refine h_iconst (pc' := 25) (x := (Int32.ofInt 3)) rfl rfl rfl ?_
  refine h_acp (pc' := 28) rfl rfl rfl rfl rfl rfl rfl rfl rfl rfl ci_3 (h_fg _ (h_I_cp Is3 (fun _ _ h => h)) (Fs3.cp (fun _ => rfl)) (fun s4 Is4 Fs4 => ?_))
  refine h_aload_n (pc' := 29) rfl rfl rfl ?_
  refine h_aload_n (pc' := 30) rfl rfl rfl ?_
  refine h_getI (pc' := 33) (v := σ 13 2) rfl rfl rfl rfl rfl (Fs4 13 2 rfl) (fun z5 hz5 => ?_)
  have tz5 := tf_13_2 hI
  refine h_put (pc' := 36) rfl rfl rfl rfl rfl rfl hz5 rfl (h_fg _ (if_26_2 Is4 (by omega)) (Fs4.up rfl) (fun s6 Is6 Fs6 => ?_))
  refine h_vret rfl rfl (h_Kn ?_)
  refine h_aload_n (pc' := 42) rfl rfl rfl ?_
  refine h_getR (pc' := 45) rfl rfl rfl rfl rfl ?_
  refine h_aload_n (pc' := 46) rfl rfl rfl ?_
  refine h_getR (pc' := 49) rfl rfl rfl rfl rfl ?_
  refine h_call (sp := false) (pc' := 52) (M := [(0, .ref 29), (1, .ref 16)]) rfl rfl rfl rfl rfl rfl rfl rfl ?_
  refine h_aload_n (pc' := 1) rfl rfl rfl ?_
  refine h_getR (pc' := 4) rfl rfl rfl rfl rfl ?_
  refine h_iconst (pc' := 5) (x := (Int32.ofInt 0)) rfl rfl rfl ?_
  refine h_aload_n (pc' := 6) rfl rfl rfl ?_
  refine h_getR (pc' := 9) rfl rfl rfl rfl rfl ?_
  refine h_iconst (pc' := 10) (x := (Int32.ofInt 0)) rfl rfl rfl ?_
  refine h_iconst (pc' := 11) (x := (Int32.ofInt 3)) rfl rfl rfl ?_
  refine h_acp (pc' := 14) rfl rfl rfl rfl rfl rfl rfl rfl rfl rfl ci_3 (h_fg _ (h_I_cp Is6 (fun _ _ h => h)) (Fs6.cp (fun _ => rfl)) (fun s7 Is7 Fs7 => ?_))
  refine h_aload_n (pc' := 15) rfl rfl rfl ?_
  refine h_getR (pc' := 18) rfl rfl rfl rfl rfl ?_
  refine h_iconst (pc' := 19) (x := (Int32.ofInt 0)) rfl rfl rfl ?_
  refine h_aload_n (pc' := 20) rfl rfl rfl ?_
  refine h_getR (pc' := 23) rfl rfl rfl rfl rfl ?_
  refine h_iconst (pc' := 24) (x := (Int32.ofInt 0)) rfl rfl rfl ?_
  refine h_iconst (pc' := 25) (x := (Int32.ofInt 3)) rfl rfl rfl ?_
  refine h_acp (pc' := 28) rfl rfl rfl rfl rfl rfl rfl rfl rfl rfl ci_3 (h_fg _ (h_I_cp Is7 (fun _ _ h => h)) (Fs7.cp (fun _ => rfl)) (fun s8 Is8 Fs8 => ?_))
  refine h_aload_n (pc' := 29) rfl rfl rfl ?_
  refine h_aload_n (pc' := 30) rfl rfl rfl ?_
  refine h_getI (pc' := 33) (v := σ 16 2) rfl rfl rfl rfl rfl (Fs8 16 2 rfl) (fun z9 hz9 => ?_)
  have tz9 := tf_16_2 hI
  refine h_put (pc' := 36) rfl rfl rfl rfl rfl rfl hz9 rfl (h_fg _ (if_29_2 Is8 (by omega)) (Fs8.up rfl) (fun s10 Is10 Fs10 => ?_))
  refine h_vret rfl rfl (h_Kn ?_)
  refine h_aload_n (pc' := 53) rfl rfl rfl ?_
  refine h_getR (pc' := 56) rfl rfl rfl rfl rfl ?_
  refine h_iconst (pc' := 57) (x := (Int32.ofInt 0)) rfl rfl rfl ?_
  refine h_aload_n (pc' := 58) rfl rfl rfl ?_
  refine h_getR (pc' := 61) rfl rfl rfl rfl rfl ?_
  refine h_iconst (pc' := 62) (x := (Int32.ofInt 0)) rfl rfl rfl ?_
  refine h_iconst (pc' := 63) (x := (Int32.ofInt 3)) rfl rfl rfl ?_
  refine h_acp (pc' := 66) rfl rfl rfl rfl rfl rfl rfl rfl rfl rfl ci_3 (h_fg _ (h_I_cp Is10 (fun _ _ h => h)) (Fs10.cp (fun _ => rfl)) (fun s11 Is11 Fs11 => ?_))
  refine h_aload_n (pc' := 67) rfl rfl rfl ?_
  refine h_getR (pc' := 70) rfl rfl rfl rfl rfl ?_
  refine h_iconst (pc' := 71) (x := (Int32.ofInt 0)) rfl rfl rfl ?_
  refine h_aload_n (pc' := 72) rfl rfl rfl ?_
  refine h_getR (pc' := 75) rfl rfl rfl rfl rfl ?_
  refine h_iconst (pc' := 76) (x := (Int32.ofInt 0)) rfl rfl rfl ?_
  refine h_iconst (pc' := 77) (x := (Int32.ofInt 3)) rfl rfl rfl ?_
  refine h_acp (pc' := 80) rfl rfl rfl rfl rfl rfl rfl rfl rfl rfl ci_3 (h_fg _ (h_I_cp Is11 (fun _ _ h => h)) (Fs11.cp (fun _ => rfl)) (fun s12 Is12 Fs12 => ?_))
  refine h_aload_n (pc' := 81) rfl rfl rfl ?_
  refine h_getR (pc' := 84) rfl rfl rfl rfl rfl ?_
  refine h_iconst (pc' := 85) (x := (Int32.ofInt 0)) rfl rfl rfl ?_
  refine h_aload_n (pc' := 86) rfl rfl rfl ?_
  refine h_getR (pc' := 89) rfl rfl rfl rfl rfl ?_
  refine h_iconst (pc' := 90) (x := (Int32.ofInt 0)) rfl rfl rfl ?_
  refine h_iconst (pc' := 91) (x := (Int32.ofInt 3)) rfl rfl rfl ?_
  refine h_acp (pc' := 94) rfl rfl rfl rfl rfl rfl rfl rfl rfl rfl ci_3 (h_fg _ (h_I_cp Is12 (fun _ _ h => h)) (Fs12.cp (fun _ => rfl)) (fun s13 Is13 Fs13 => ?_))
  refine h_aload_n (pc' := 95) rfl rfl rfl ?_
  refine h_getR (pc' := 98) rfl rfl rfl rfl rfl ?_
  refine h_iconst (pc' := 99) (x := (Int32.ofInt 0)) rfl rfl rfl ?_
  refine h_aload_n (pc' := 100) rfl rfl rfl ?_
  refine h_getR (pc' := 103) rfl rfl rfl rfl rfl ?_
  refine h_iconst (pc' := 104) (x := (Int32.ofInt 0)) rfl rfl rfl ?_
  refine h_bipush (pc' := 106) (x := (Int32.ofInt 8)) rfl rfl cb_8 ?_
  refine h_acp (pc' := 109) rfl rfl rfl rfl rfl rfl rfl rfl rfl rfl ci_8 (h_fg _ (h_I_cp Is13 (fun _ _ h => h)) (Fs13.cp (fun _ => rfl)) (fun s14 Is14 Fs14 => ?_))
  refine h_aload_n (pc' := 110) rfl rfl rfl ?_
  refine h_aload_n (pc' := 111) rfl rfl rfl ?_
  refine h_getI (pc' := 114) (v := σ 10 8) rfl rfl rfl rfl rfl (Fs14 10 8 rfl) (fun z15 hz15 => ?_)
  have tz15 := tf_10_8 hI
  refine h_put (pc' := 117) rfl rfl rfl rfl rfl rfl hz15 rfl (h_fg _ (if_23_8 Is14 (by omega)) (Fs14.up rfl) (fun s16 Is16 Fs16 => ?_))
  refine h_aload_n (pc' := 118) rfl rfl rfl ?_
  refine h_aload_n (pc' := 119) rfl rfl rfl ?_
  refine h_getI (pc' := 122) (v := σ 10 9) rfl rfl rfl rfl rfl (Fs16 10 9 rfl) (fun z17 hz17 => ?_)
  have tz17 := tf_10_9 hI
  refine h_put (pc' := 125) rfl rfl rfl rfl rfl rfl hz17 rfl (h_fg _ (if_23_9 Is16 (by omega)) (Fs16.up rfl) (fun s18 Is18 Fs18 => ?_))
  refine h_aload_n (pc' := 126) rfl rfl rfl ?_
  refine h_aload_n (pc' := 127) rfl rfl rfl ?_
  refine h_getI (pc' := 130) (v := σ 10 10) rfl rfl rfl rfl rfl (Fs18 10 10 rfl) (fun z19 hz19 => ?_)
  have tz19 := tf_10_10 hI
  refine h_put (pc' := 133) rfl rfl rfl rfl rfl rfl hz19 rfl (h_fg _ (if_23_10 Is18 (by omega)) (Fs18.up rfl) (fun s20 Is20 Fs20 => ?_))
  exact h_vret rfl rfl (kk _ Is20 Fs20)
def kf_w_3_10_66 : List Nat := [10248, 10249, 10250, 12287, 13311, 13314, 15359, 16383, 16386, 18431, 19455, 20479, 21503, 22527, 23551]
theorem w_3_10_66 {ns : Nat} (σ : h_S) (hI : h_I σ) {Q : Option Value → h_S → Prop} (kk : ∀ (τ : h_S), h_I τ → h_F (k_in kf_w_3_10_66) τ σ → Q none τ) : h_T g_P (g_Y ns) 3 0 [(0, .ref 10), (1, .ref 66)] [] σ Q := by
  have F00 : h_F (k_in kf_w_3_10_66) σ σ := h_F.rf
  refine h_aload_n (pc' := 1) rfl rfl rfl ?_
  refine h_getR (pc' := 4) rfl rfl rfl rfl rfl ?_
  refine h_iconst (pc' := 5) (x := (Int32.ofInt 0)) rfl rfl rfl ?_
  refine h_aload_n (pc' := 6) rfl rfl rfl ?_
  refine h_getR (pc' := 9) rfl rfl rfl rfl rfl ?_
  refine h_iconst (pc' := 10) (x := (Int32.ofInt 0)) rfl rfl rfl ?_
  refine h_bipush (pc' := 12) (x := (Int32.ofInt 6)) rfl rfl cb_6 ?_
  refine h_acp (pc' := 15) rfl rfl rfl rfl rfl rfl rfl rfl rfl rfl ci_6 (h_fg _ (h_I_cp hI (fun _ _ h => h)) (F00.cp (fun _ => rfl)) (fun s1 Is1 Fs1 => ?_))
  refine h_aload_n (pc' := 16) rfl rfl rfl ?_
  refine h_getR (pc' := 19) rfl rfl rfl rfl rfl ?_
  refine h_iconst (pc' := 20) (x := (Int32.ofInt 0)) rfl rfl rfl ?_
  refine h_aload_n (pc' := 21) rfl rfl rfl ?_
  refine h_getR (pc' := 24) rfl rfl rfl rfl rfl ?_
  refine h_iconst (pc' := 25) (x := (Int32.ofInt 0)) rfl rfl rfl ?_
  refine h_bipush (pc' := 27) (x := (Int32.ofInt 6)) rfl rfl cb_6 ?_
  refine h_acp (pc' := 30) rfl rfl rfl rfl rfl rfl rfl rfl rfl rfl ci_6 (h_fg _ (h_I_cp Is1 (fun _ _ h => h)) (Fs1.cp (fun _ => rfl)) (fun s2 Is2 Fs2 => ?_))
  refine h_aload_n (pc' := 31) rfl rfl rfl ?_
  refine h_getR (pc' := 34) rfl rfl rfl rfl rfl ?_
  refine h_aload_n (pc' := 35) rfl rfl rfl ?_
  refine h_getR (pc' := 38) rfl rfl rfl rfl rfl ?_
  refine h_call (sp := false) (pc' := 41) (M := [(0, .ref 13), (1, .ref 69)]) rfl rfl rfl rfl rfl rfl rfl rfl ?_
  refine h_aload_n (pc' := 1) rfl rfl rfl ?_
  refine h_getR (pc' := 4) rfl rfl rfl rfl rfl ?_
  refine h_iconst (pc' := 5) (x := (Int32.ofInt 0)) rfl rfl rfl ?_
  refine h_aload_n (pc' := 6) rfl rfl rfl ?_
  refine h_getR (pc' := 9) rfl rfl rfl rfl rfl ?_
  refine h_iconst (pc' := 10) (x := (Int32.ofInt 0)) rfl rfl rfl ?_
  refine h_iconst (pc' := 11) (x := (Int32.ofInt 3)) rfl rfl rfl ?_
  refine h_acp (pc' := 14) rfl rfl rfl rfl rfl rfl rfl rfl rfl rfl ci_3 (h_fg _ (h_I_cp Is2 (fun _ _ h => h)) (Fs2.cp (fun _ => rfl)) (fun s3 Is3 Fs3 => ?_))
  refine h_aload_n (pc' := 15) rfl rfl rfl ?_
  refine h_getR (pc' := 18) rfl rfl rfl rfl rfl ?_
  refine h_iconst (pc' := 19) (x := (Int32.ofInt 0)) rfl rfl rfl ?_
  refine h_aload_n (pc' := 20) rfl rfl rfl ?_
  refine h_getR (pc' := 23) rfl rfl rfl rfl rfl ?_
  refine h_iconst (pc' := 24) (x := (Int32.ofInt 0)) rfl rfl rfl ?_
  refine h_iconst (pc' := 25) (x := (Int32.ofInt 3)) rfl rfl rfl ?_
  refine h_acp (pc' := 28) rfl rfl rfl rfl rfl rfl rfl rfl rfl rfl ci_3 (h_fg _ (h_I_cp Is3 (fun _ _ h => h)) (Fs3.cp (fun _ => rfl)) (fun s4 Is4 Fs4 => ?_))
  refine h_aload_n (pc' := 29) rfl rfl rfl ?_
  refine h_aload_n (pc' := 30) rfl rfl rfl ?_
  refine h_getI (pc' := 33) (v := σ 69 2) rfl rfl rfl rfl rfl (Fs4 69 2 rfl) (fun z5 hz5 => ?_)
  have tz5 := tf_69_2 hI
  refine h_put (pc' := 36) rfl rfl rfl rfl rfl rfl hz5 rfl (h_fg _ (if_13_2 Is4 (by omega)) (Fs4.up rfl) (fun s6 Is6 Fs6 => ?_))
  refine h_vret rfl rfl (h_Kn ?_)
  refine h_aload_n (pc' := 42) rfl rfl rfl ?_
  refine h_getR (pc' := 45) rfl rfl rfl rfl rfl ?_
  refine h_aload_n (pc' := 46) rfl rfl rfl ?_
  refine h_getR (pc' := 49) rfl rfl rfl rfl rfl ?_
  refine h_call (sp := false) (pc' := 52) (M := [(0, .ref 16), (1, .ref 72)]) rfl rfl rfl rfl rfl rfl rfl rfl ?_
  refine h_aload_n (pc' := 1) rfl rfl rfl ?_
  refine h_getR (pc' := 4) rfl rfl rfl rfl rfl ?_
  refine h_iconst (pc' := 5) (x := (Int32.ofInt 0)) rfl rfl rfl ?_
  refine h_aload_n (pc' := 6) rfl rfl rfl ?_
  refine h_getR (pc' := 9) rfl rfl rfl rfl rfl ?_
  refine h_iconst (pc' := 10) (x := (Int32.ofInt 0)) rfl rfl rfl ?_
  refine h_iconst (pc' := 11) (x := (Int32.ofInt 3)) rfl rfl rfl ?_
  refine h_acp (pc' := 14) rfl rfl rfl rfl rfl rfl rfl rfl rfl rfl ci_3 (h_fg _ (h_I_cp Is6 (fun _ _ h => h)) (Fs6.cp (fun _ => rfl)) (fun s7 Is7 Fs7 => ?_))
  refine h_aload_n (pc' := 15) rfl rfl rfl ?_
  refine h_getR (pc' := 18) rfl rfl rfl rfl rfl ?_
  refine h_iconst (pc' := 19) (x := (Int32.ofInt 0)) rfl rfl rfl ?_
  refine h_aload_n (pc' := 20) rfl rfl rfl ?_
  refine h_getR (pc' := 23) rfl rfl rfl rfl rfl ?_
  refine h_iconst (pc' := 24) (x := (Int32.ofInt 0)) rfl rfl rfl ?_
  refine h_iconst (pc' := 25) (x := (Int32.ofInt 3)) rfl rfl rfl ?_
  refine h_acp (pc' := 28) rfl rfl rfl rfl rfl rfl rfl rfl rfl rfl ci_3 (h_fg _ (h_I_cp Is7 (fun _ _ h => h)) (Fs7.cp (fun _ => rfl)) (fun s8 Is8 Fs8 => ?_))
  refine h_aload_n (pc' := 29) rfl rfl rfl ?_
  refine h_aload_n (pc' := 30) rfl rfl rfl ?_
  refine h_getI (pc' := 33) (v := σ 72 2) rfl rfl rfl rfl rfl (Fs8 72 2 rfl) (fun z9 hz9 => ?_)
  have tz9 := tf_72_2 hI
  refine h_put (pc' := 36) rfl rfl rfl rfl rfl rfl hz9 rfl (h_fg _ (if_16_2 Is8 (by omega)) (Fs8.up rfl) (fun s10 Is10 Fs10 => ?_))
  refine h_vret rfl rfl (h_Kn ?_)
  refine h_aload_n (pc' := 53) rfl rfl rfl ?_
  refine h_getR (pc' := 56) rfl rfl rfl rfl rfl ?_
  refine h_iconst (pc' := 57) (x := (Int32.ofInt 0)) rfl rfl rfl ?_
  refine h_aload_n (pc' := 58) rfl rfl rfl ?_
  refine h_getR (pc' := 61) rfl rfl rfl rfl rfl ?_
  refine h_iconst (pc' := 62) (x := (Int32.ofInt 0)) rfl rfl rfl ?_
  refine h_iconst (pc' := 63) (x := (Int32.ofInt 3)) rfl rfl rfl ?_
  refine h_acp (pc' := 66) rfl rfl rfl rfl rfl rfl rfl rfl rfl rfl ci_3 (h_fg _ (h_I_cp Is10 (fun _ _ h => h)) (Fs10.cp (fun _ => rfl)) (fun s11 Is11 Fs11 => ?_))
  refine h_aload_n (pc' := 67) rfl rfl rfl ?_
  refine h_getR (pc' := 70) rfl rfl rfl rfl rfl ?_
  refine h_iconst (pc' := 71) (x := (Int32.ofInt 0)) rfl rfl rfl ?_
  refine h_aload_n (pc' := 72) rfl rfl rfl ?_
  refine h_getR (pc' := 75) rfl rfl rfl rfl rfl ?_
  refine h_iconst (pc' := 76) (x := (Int32.ofInt 0)) rfl rfl rfl ?_
  refine h_iconst (pc' := 77) (x := (Int32.ofInt 3)) rfl rfl rfl ?_
  refine h_acp (pc' := 80) rfl rfl rfl rfl rfl rfl rfl rfl rfl rfl ci_3 (h_fg _ (h_I_cp Is11 (fun _ _ h => h)) (Fs11.cp (fun _ => rfl)) (fun s12 Is12 Fs12 => ?_))
  refine h_aload_n (pc' := 81) rfl rfl rfl ?_
  refine h_getR (pc' := 84) rfl rfl rfl rfl rfl ?_
  refine h_iconst (pc' := 85) (x := (Int32.ofInt 0)) rfl rfl rfl ?_
  refine h_aload_n (pc' := 86) rfl rfl rfl ?_
  refine h_getR (pc' := 89) rfl rfl rfl rfl rfl ?_
  refine h_iconst (pc' := 90) (x := (Int32.ofInt 0)) rfl rfl rfl ?_
  refine h_iconst (pc' := 91) (x := (Int32.ofInt 3)) rfl rfl rfl ?_
  refine h_acp (pc' := 94) rfl rfl rfl rfl rfl rfl rfl rfl rfl rfl ci_3 (h_fg _ (h_I_cp Is12 (fun _ _ h => h)) (Fs12.cp (fun _ => rfl)) (fun s13 Is13 Fs13 => ?_))
  refine h_aload_n (pc' := 95) rfl rfl rfl ?_
  refine h_getR (pc' := 98) rfl rfl rfl rfl rfl ?_
  refine h_iconst (pc' := 99) (x := (Int32.ofInt 0)) rfl rfl rfl ?_
  refine h_aload_n (pc' := 100) rfl rfl rfl ?_
  refine h_getR (pc' := 103) rfl rfl rfl rfl rfl ?_
  refine h_iconst (pc' := 104) (x := (Int32.ofInt 0)) rfl rfl rfl ?_
  refine h_bipush (pc' := 106) (x := (Int32.ofInt 8)) rfl rfl cb_8 ?_
  refine h_acp (pc' := 109) rfl rfl rfl rfl rfl rfl rfl rfl rfl rfl ci_8 (h_fg _ (h_I_cp Is13 (fun _ _ h => h)) (Fs13.cp (fun _ => rfl)) (fun s14 Is14 Fs14 => ?_))
  refine h_aload_n (pc' := 110) rfl rfl rfl ?_
  refine h_aload_n (pc' := 111) rfl rfl rfl ?_
  refine h_getI (pc' := 114) (v := σ 66 8) rfl rfl rfl rfl rfl (Fs14 66 8 rfl) (fun z15 hz15 => ?_)
  have tz15 := tf_66_8 hI
  refine h_put (pc' := 117) rfl rfl rfl rfl rfl rfl hz15 rfl (h_fg _ (if_10_8 Is14 (by omega)) (Fs14.up rfl) (fun s16 Is16 Fs16 => ?_))
  refine h_aload_n (pc' := 118) rfl rfl rfl ?_
  refine h_aload_n (pc' := 119) rfl rfl rfl ?_
  refine h_getI (pc' := 122) (v := σ 66 9) rfl rfl rfl rfl rfl (Fs16 66 9 rfl) (fun z17 hz17 => ?_)
  have tz17 := tf_66_9 hI
  refine h_put (pc' := 125) rfl rfl rfl rfl rfl rfl hz17 rfl (h_fg _ (if_10_9 Is16 (by omega)) (Fs16.up rfl) (fun s18 Is18 Fs18 => ?_))
  refine h_aload_n (pc' := 126) rfl rfl rfl ?_
  refine h_aload_n (pc' := 127) rfl rfl rfl ?_
  refine h_getI (pc' := 130) (v := σ 66 10) rfl rfl rfl rfl rfl (Fs18 66 10 rfl) (fun z19 hz19 => ?_)
  have tz19 := tf_66_10 hI
  refine h_put (pc' := 133) rfl rfl rfl rfl rfl rfl hz19 rfl (h_fg _ (if_10_10 Is18 (by omega)) (Fs18.up rfl) (fun s20 Is20 Fs20 => ?_))
  exact h_vret rfl rfl (kk _ Is20 Fs20)
def kf_w_25_79 : List Nat := [82943]
theorem w_25_79 {ns : Nat} (σ : h_S) (hI : h_I σ) (x0 : Int32) (a0 : Int) (hx0 : x0.toInt = a0) (ra0 : 0 ≤ a0 ∧ a0 ≤ 5) (x1 : Int32) (a1 : Int) (hx1 : x1.toInt = a1) (ra1 : 0 ≤ a1 ∧ a1 ≤ 5) (x2 : Int32) (a2 : Int) (hx2 : x2.toInt = a2) (ra2 : 0 ≤ a2 ∧ a2 ≤ 4) {Q : Option Value → h_S → Prop} (kk : ∀ (τ : h_S), h_I τ → h_F (k_in kf_w_25_79) τ σ → Q none τ) : h_T g_P (g_Y ns) 25 0 [(0, .ref 79), (1, .int x0), (2, .int x1), (3, .int x2)] [] σ Q := by
  have F00 : h_F (k_in kf_w_25_79) σ σ := h_F.rf
  refine h_iload_n (pc' := 1) rfl rfl rfl ?_
  refine h_aload_n (pc' := 2) rfl rfl rfl ?_
  refine h_getR (pc' := 5) rfl rfl rfl rfl rfl ?_
  refine h_iload_n (pc' := 6) rfl rfl rfl ?_
  refine h_bipush (pc' := 8) (x := (Int32.ofInt 6)) rfl rfl cb_6 ?_
  refine h_imul (pc' := 9) rfl rfl hx0 ci_6 rfl (by omega) (by omega) (fun z1 hz1 => ?_)
  refine h_iload_n (pc' := 10) rfl rfl rfl ?_
  refine h_iadd (pc' := 11) rfl rfl hz1 hx1 rfl (by omega) (by omega) (fun z2 hz2 => ?_)
  refine h_iald (pc' := 12) (v := σ 80 ((a0 * 6) + a1)) rfl rfl rfl hz2 (by omega) (by omega) rfl (fun z3 hz3 => ?_)
  have tz3 := ty_80 hI ((a0 * 6) + a1)
  refine h_cge (tg := 39) (pc' := 15) rfl rfl rfl hx2 hz3 (fun c4 => ?_) (fun c4 => ?_)
  · exact h_vret rfl rfl (kk _ hI F00)
  · refine h_aload_n (pc' := 16) rfl rfl rfl ?_
    refine h_getR (pc' := 19) rfl rfl rfl rfl rfl ?_
    refine h_iload_n (pc' := 20) rfl rfl rfl ?_
    refine h_bipush (pc' := 22) (x := (Int32.ofInt 6)) rfl rfl cb_6 ?_
    refine h_imul (pc' := 23) rfl rfl hx0 ci_6 rfl (by omega) (by omega) (fun z5 hz5 => ?_)
    refine h_iload_n (pc' := 24) rfl rfl rfl ?_
    refine h_iadd (pc' := 25) rfl rfl hz5 hx1 rfl (by omega) (by omega) (fun z6 hz6 => ?_)
    refine h_iload_n (pc' := 26) rfl rfl rfl ?_
    refine h_iast (pc' := 27) rfl rfl rfl rfl hz6 (by omega) (by omega) hx2 (h_fg _ (in_80 hI (by omega)) (F00.up rfl) (fun s7 Is7 Fs7 => ?_))
    refine h_aload_n (pc' := 28) rfl rfl rfl ?_
    refine h_getR (pc' := 31) rfl rfl rfl rfl rfl ?_
    refine h_iload_n (pc' := 32) rfl rfl rfl ?_
    refine h_bipush (pc' := 34) (x := (Int32.ofInt 6)) rfl rfl cb_6 ?_
    refine h_imul (pc' := 35) rfl rfl hx1 ci_6 rfl (by omega) (by omega) (fun z8 hz8 => ?_)
    refine h_iload_n (pc' := 36) rfl rfl rfl ?_
    refine h_iadd (pc' := 37) rfl rfl hz8 hx0 rfl (by omega) (by omega) (fun z9 hz9 => ?_)
    refine h_iload_n (pc' := 38) rfl rfl rfl ?_
    refine h_iast (pc' := 39) rfl rfl rfl rfl hz9 (by omega) (by omega) hx2 (h_fg _ (in_80 Is7 (by omega)) (Fs7.up rfl) (fun s10 Is10 Fs10 => ?_))
    exact h_vret rfl rfl (kk _ Is10 Fs10)
def kf_w_24_79_10 : List Nat := [82943, 83967]
theorem w_24_79_10_l (ns : Nat) (σ : h_S) (hI : h_I σ) {Q : Option Value → h_S → Prop} (kk : ∀ (τ : h_S), h_I τ → h_F (k_in kf_w_24_79_10) τ σ → Q none τ) : ∀ n : Nat, (∀ (s0 : h_S), h_I s0 → h_F (k_in kf_w_24_79_10) s0 σ → ∀ (y2 : Int32) (b2 : Int), y2.toInt = b2 → (0 ≤ b2 ∧ b2 ≤ 6) → (6 + 1 - b2) * 1000000 + 3000000000 ≤ (n : Int) → h_T g_P (g_Y ns) 24 2 [(0, .ref 79), (1, .ref 10), (2, .int y2)] [] s0 Q) ∧ (∀ (s0 : h_S), h_I s0 → h_F (k_in kf_w_24_79_10) s0 σ → ∀ (y2 : Int32) (b2 : Int), y2.toInt = b2 → (0 ≤ b2 ∧ b2 ≤ 3) → (3 + 1 - b2) * 1000000 + 2000000000 ≤ (n : Int) → h_T g_P (g_Y ns) 24 51 [(0, .ref 79), (1, .ref 10), (2, .int y2)] [] s0 Q) ∧ (∀ (s0 : h_S), h_I s0 → h_F (k_in kf_w_24_79_10) s0 σ → ∀ (y2 : Int32) (b2 : Int), y2.toInt = b2 → (0 ≤ b2 ∧ b2 ≤ 3) → (3 + 1 - b2) * 1000000 + 1000000000 ≤ (n : Int) → h_T g_P (g_Y ns) 24 93 [(0, .ref 79), (1, .ref 10), (2, .int y2)] [] s0 Q) := by
  intro n
  induction n with
  | zero => exact ⟨by intro s0 I0 F0_ y2 b2 hy2 ry2 hm; exfalso; omega, by intro s0 I0 F0_ y2 b2 hy2 ry2 hm; exfalso; omega, by intro s0 I0 F0_ y2 b2 hy2 ry2 hm; exfalso; omega⟩
  | succ n ih =>
    refine ⟨?_, ?_, ?_⟩
    · intro s0 I0 F0_ y2 b2 hy2 ry2 hm
      refine h_iload_n (pc' := 3) rfl rfl rfl ?_
      refine h_aload_n (pc' := 4) rfl rfl rfl ?_
      refine h_getI (pc' := 7) (v := σ 79 2) rfl rfl rfl rfl rfl (F0_ 79 2 rfl) (fun z1 hz1 => ?_)
      have tz1 := tf_79_2 hI
      refine h_cge (tg := 49) (pc' := 10) rfl rfl rfl hy2 hz1 (fun c2 => ?_) (fun c2 => ?_)
      · refine h_iconst (pc' := 50) (x := (Int32.ofInt 0)) rfl rfl rfl ?_
        refine h_istore_n (pc' := 51) (M := [(2, .int (Int32.ofInt 0)), (0, .ref 79), (1, .ref 10)]) rfl rfl rfl rfl ?_
        exact h_wk [(0, .ref 79), (1, .ref 10), (2, .int (Int32.ofInt 0))] ⟨rfl, rfl, rfl, trivial⟩ (ih.2.1 _ I0 F0_ (Int32.ofInt 0) _ ci_0 (by omega) (by omega))
      · refine h_aload_n (pc' := 11) rfl rfl rfl ?_
        refine h_aload_n (pc' := 12) rfl rfl rfl ?_
        refine h_getR (pc' := 15) rfl rfl rfl rfl rfl ?_
        refine h_iload_n (pc' := 16) rfl rfl rfl ?_
        refine h_iald (pc' := 17) (v := σ 12 b2) rfl rfl rfl hy2 (by omega) (by omega) (F0_ 12 _ rfl) (fun z3 hz3 => ?_)
        have tz3 := ty_12 hI b2
        refine h_call (sp := false) (pc' := 20) (M := [(0, .ref 10), (1, .int z3)]) rfl rfl rfl rfl rfl rfl rfl rfl ?_
        refine h_iload_n (pc' := 1) rfl rfl rfl ?_
        refine h_zlt (tg := 16) (pc' := 4) rfl rfl rfl hz3 (fun c4 => ?_) (fun c4 => ?_)
        · refine h_iconst (pc' := 17) (x := (Int32.ofInt 0)) rfl rfl rfl ?_
          refine h_zret rfl rfl ci_0 (by omega) (h_Kv ?_)
          refine h_zeq (tg := 43) (pc' := 23) rfl rfl rfl ci_0 (fun c5 => ?_) (fun c5 => absurd c5 (by omega))
          refine h_iinc (pc' := 46) (M := fun z6 => [(2, .int z6), (0, .ref 79), (1, .ref 10)]) rfl rfl rfl rfl hy2 ci_1 rfl (by omega) (by omega) (fun _ => rfl) (fun z6 hz6 => ?_)
          refine h_goto (pc' := 2) rfl rfl ?_
          exact h_wk [(0, .ref 79), (1, .ref 10), (2, .int z6)] ⟨rfl, rfl, rfl, trivial⟩ (ih.1 _ I0 F0_ z6 _ hz6 (by omega) (by omega))
        · refine h_iload_n (pc' := 5) rfl rfl rfl ?_
          refine h_aload_n (pc' := 6) rfl rfl rfl ?_
          refine h_getI (pc' := 9) (v := σ 10 8) rfl rfl rfl rfl rfl (F0_ 10 8 rfl) (fun z7 hz7 => ?_)
          have tz7 := tf_10_8 hI
          refine h_cge (tg := 16) (pc' := 12) rfl rfl rfl hz3 hz7 (fun c8 => ?_) (fun c8 => ?_)
          · refine h_iconst (pc' := 17) (x := (Int32.ofInt 0)) rfl rfl rfl ?_
            refine h_zret rfl rfl ci_0 (by omega) (h_Kv ?_)
            refine h_zeq (tg := 43) (pc' := 23) rfl rfl rfl ci_0 (fun c9 => ?_) (fun c9 => absurd c9 (by omega))
            refine h_iinc (pc' := 46) (M := fun z10 => [(2, .int z10), (0, .ref 79), (1, .ref 10)]) rfl rfl rfl rfl hy2 ci_1 rfl (by omega) (by omega) (fun _ => rfl) (fun z10 hz10 => ?_)
            refine h_goto (pc' := 2) rfl rfl ?_
            exact h_wk [(0, .ref 79), (1, .ref 10), (2, .int z10)] ⟨rfl, rfl, rfl, trivial⟩ (ih.1 _ I0 F0_ z10 _ hz10 (by omega) (by omega))
          · refine h_iconst (pc' := 13) (x := (Int32.ofInt 1)) rfl rfl rfl ?_
            refine h_goto (pc' := 17) rfl rfl ?_
            refine h_zret rfl rfl ci_1 (by omega) (h_Kv ?_)
            refine h_zeq (tg := 43) (pc' := 23) rfl rfl rfl ci_1 (fun c11 => absurd c11 (by omega)) (fun c11 => ?_)
            refine h_aload_n (pc' := 24) rfl rfl rfl ?_
            refine h_iload_n (pc' := 25) rfl rfl rfl ?_
            refine h_aload_n (pc' := 26) rfl rfl rfl ?_
            refine h_getR (pc' := 29) rfl rfl rfl rfl rfl ?_
            refine h_iload_n (pc' := 30) rfl rfl rfl ?_
            refine h_iald (pc' := 31) (v := σ 12 b2) rfl rfl rfl hy2 (by omega) (by omega) (F0_ 12 _ rfl) (fun z12 hz12 => ?_)
            have tz12 := ty_12 hI b2
            refine h_aload_n (pc' := 32) rfl rfl rfl ?_
            refine h_getR (pc' := 35) rfl rfl rfl rfl rfl ?_
            refine h_iload_n (pc' := 36) rfl rfl rfl ?_
            refine h_iald (pc' := 37) (v := σ 11 b2) rfl rfl rfl hy2 (by omega) (by omega) (F0_ 11 _ rfl) (fun z13 hz13 => ?_)
            have tz13 := ty_11 hI b2
            refine h_calls (pc' := 40) (M := [(0, .int z13)]) rfl rfl rfl rfl rfl rfl ?_
            refine h_iload_n (pc' := 1) rfl rfl rfl ?_
            refine h_tsw (dt := 34) (ts := [28, 30, 32]) rfl rfl rfl rfl hz13 (fun c14 => ?_) ⟨fun c14 => ?_, fun c14 => ?_, fun c14 => ?_, trivial⟩
            · refine h_iconst (pc' := 35) (x := (Int32.ofInt 4)) rfl rfl rfl ?_
              refine h_iret rfl rfl (h_Kv ?_)
              refine h_call (sp := false) (pc' := 43) (M := [(0, .ref 79), (1, .int y2), (2, .int z12), (3, .int (Int32.ofInt 4))]) rfl rfl rfl rfl rfl rfl rfl rfl ?_
              refine w_25_79 _ I0 y2 _ hy2 (by omega) z12 _ hz12 (by omega) (Int32.ofInt 4) _ ci_4 (by omega) (fun s16 Is16 Gs16 => h_Kn ?_)
              have Fs16 := (Gs16.mono (B := kf_w_24_79_10) rfl).tr F0_
              refine h_iinc (pc' := 46) (M := fun z17 => [(2, .int z17), (0, .ref 79), (1, .ref 10)]) rfl rfl rfl rfl hy2 ci_1 rfl (by omega) (by omega) (fun _ => rfl) (fun z17 hz17 => ?_)
              refine h_goto (pc' := 2) rfl rfl ?_
              exact h_wk [(0, .ref 79), (1, .ref 10), (2, .int z17)] ⟨rfl, rfl, rfl, trivial⟩ (ih.1 _ Is16 Fs16 z17 _ hz17 (by omega) (by omega))
            · refine h_iconst (pc' := 29) (x := (Int32.ofInt 1)) rfl rfl rfl ?_
              refine h_iret rfl rfl (h_Kv ?_)
              refine h_call (sp := false) (pc' := 43) (M := [(0, .ref 79), (1, .int y2), (2, .int z12), (3, .int (Int32.ofInt 1))]) rfl rfl rfl rfl rfl rfl rfl rfl ?_
              refine w_25_79 _ I0 y2 _ hy2 (by omega) z12 _ hz12 (by omega) (Int32.ofInt 1) _ ci_1 (by omega) (fun s19 Is19 Gs19 => h_Kn ?_)
              have Fs19 := (Gs19.mono (B := kf_w_24_79_10) rfl).tr F0_
              refine h_iinc (pc' := 46) (M := fun z20 => [(2, .int z20), (0, .ref 79), (1, .ref 10)]) rfl rfl rfl rfl hy2 ci_1 rfl (by omega) (by omega) (fun _ => rfl) (fun z20 hz20 => ?_)
              refine h_goto (pc' := 2) rfl rfl ?_
              exact h_wk [(0, .ref 79), (1, .ref 10), (2, .int z20)] ⟨rfl, rfl, rfl, trivial⟩ (ih.1 _ Is19 Fs19 z20 _ hz20 (by omega) (by omega))
            · refine h_iconst (pc' := 31) (x := (Int32.ofInt 2)) rfl rfl rfl ?_
              refine h_iret rfl rfl (h_Kv ?_)
              refine h_call (sp := false) (pc' := 43) (M := [(0, .ref 79), (1, .int y2), (2, .int z12), (3, .int (Int32.ofInt 2))]) rfl rfl rfl rfl rfl rfl rfl rfl ?_
              refine w_25_79 _ I0 y2 _ hy2 (by omega) z12 _ hz12 (by omega) (Int32.ofInt 2) _ ci_2 (by omega) (fun s22 Is22 Gs22 => h_Kn ?_)
              have Fs22 := (Gs22.mono (B := kf_w_24_79_10) rfl).tr F0_
              refine h_iinc (pc' := 46) (M := fun z23 => [(2, .int z23), (0, .ref 79), (1, .ref 10)]) rfl rfl rfl rfl hy2 ci_1 rfl (by omega) (by omega) (fun _ => rfl) (fun z23 hz23 => ?_)
              refine h_goto (pc' := 2) rfl rfl ?_
              exact h_wk [(0, .ref 79), (1, .ref 10), (2, .int z23)] ⟨rfl, rfl, rfl, trivial⟩ (ih.1 _ Is22 Fs22 z23 _ hz23 (by omega) (by omega))
            · refine h_iconst (pc' := 33) (x := (Int32.ofInt 0)) rfl rfl rfl ?_
              refine h_iret rfl rfl (h_Kv ?_)
              refine h_call (sp := false) (pc' := 43) (M := [(0, .ref 79), (1, .int y2), (2, .int z12), (3, .int (Int32.ofInt 0))]) rfl rfl rfl rfl rfl rfl rfl rfl ?_
              refine w_25_79 _ I0 y2 _ hy2 (by omega) z12 _ hz12 (by omega) (Int32.ofInt 0) _ ci_0 (by omega) (fun s25 Is25 Gs25 => h_Kn ?_)
              have Fs25 := (Gs25.mono (B := kf_w_24_79_10) rfl).tr F0_
              refine h_iinc (pc' := 46) (M := fun z26 => [(2, .int z26), (0, .ref 79), (1, .ref 10)]) rfl rfl rfl rfl hy2 ci_1 rfl (by omega) (by omega) (fun _ => rfl) (fun z26 hz26 => ?_)
              refine h_goto (pc' := 2) rfl rfl ?_
              exact h_wk [(0, .ref 79), (1, .ref 10), (2, .int z26)] ⟨rfl, rfl, rfl, trivial⟩ (ih.1 _ Is25 Fs25 z26 _ hz26 (by omega) (by omega))
    · intro s0 I0 F0_ y2 b2 hy2 ry2 hm
      refine h_iload_n (pc' := 52) rfl rfl rfl ?_
      refine h_aload_n (pc' := 53) rfl rfl rfl ?_
      refine h_getR (pc' := 56) rfl rfl rfl rfl rfl ?_
      refine h_getI (pc' := 59) (v := σ 13 2) rfl rfl rfl rfl rfl (F0_ 13 2 rfl) (fun z1 hz1 => ?_)
      have tz1 := tf_13_2 hI
      refine h_cge (tg := 91) (pc' := 62) rfl rfl rfl hy2 hz1 (fun c2 => ?_) (fun c2 => ?_)
      · refine h_iconst (pc' := 92) (x := (Int32.ofInt 0)) rfl rfl rfl ?_
        refine h_istore_n (pc' := 93) (M := [(2, .int (Int32.ofInt 0)), (0, .ref 79), (1, .ref 10)]) rfl rfl rfl rfl ?_
        exact h_wk [(0, .ref 79), (1, .ref 10), (2, .int (Int32.ofInt 0))] ⟨rfl, rfl, rfl, trivial⟩ (ih.2.2 _ I0 F0_ (Int32.ofInt 0) _ ci_0 (by omega) (by omega))
      · refine h_aload_n (pc' := 63) rfl rfl rfl ?_
        refine h_aload_n (pc' := 64) rfl rfl rfl ?_
        refine h_getR (pc' := 67) rfl rfl rfl rfl rfl ?_
        refine h_getR (pc' := 70) rfl rfl rfl rfl rfl ?_
        refine h_iload_n (pc' := 71) rfl rfl rfl ?_
        refine h_iald (pc' := 72) (v := σ 14 b2) rfl rfl rfl hy2 (by omega) (by omega) (F0_ 14 _ rfl) (fun z3 hz3 => ?_)
        have tz3 := ty_14 hI b2
        refine h_aload_n (pc' := 73) rfl rfl rfl ?_
        refine h_getR (pc' := 76) rfl rfl rfl rfl rfl ?_
        refine h_getR (pc' := 79) rfl rfl rfl rfl rfl ?_
        refine h_iload_n (pc' := 80) rfl rfl rfl ?_
        refine h_iald (pc' := 81) (v := σ 15 b2) rfl rfl rfl hy2 (by omega) (by omega) (F0_ 15 _ rfl) (fun z4 hz4 => ?_)
        have tz4 := ty_15 hI b2
        refine h_iconst (pc' := 82) (x := (Int32.ofInt 1)) rfl rfl rfl ?_
        refine h_call (sp := false) (pc' := 85) (M := [(0, .ref 79), (1, .int z3), (2, .int z4), (3, .int (Int32.ofInt 1))]) rfl rfl rfl rfl rfl rfl rfl rfl ?_
        refine w_25_79 _ I0 z3 _ hz3 (by omega) z4 _ hz4 (by omega) (Int32.ofInt 1) _ ci_1 (by omega) (fun s6 Is6 Gs6 => h_Kn ?_)
        have Fs6 := (Gs6.mono (B := kf_w_24_79_10) rfl).tr F0_
        refine h_iinc (pc' := 88) (M := fun z7 => [(2, .int z7), (0, .ref 79), (1, .ref 10)]) rfl rfl rfl rfl hy2 ci_1 rfl (by omega) (by omega) (fun _ => rfl) (fun z7 hz7 => ?_)
        refine h_goto (pc' := 51) rfl rfl ?_
        exact h_wk [(0, .ref 79), (1, .ref 10), (2, .int z7)] ⟨rfl, rfl, rfl, trivial⟩ (ih.2.1 _ Is6 Fs6 z7 _ hz7 (by omega) (by omega))
    · intro s0 I0 F0_ y2 b2 hy2 ry2 hm
      refine h_iload_n (pc' := 94) rfl rfl rfl ?_
      refine h_aload_n (pc' := 95) rfl rfl rfl ?_
      refine h_getR (pc' := 98) rfl rfl rfl rfl rfl ?_
      refine h_getI (pc' := 101) (v := σ 16 2) rfl rfl rfl rfl rfl (F0_ 16 2 rfl) (fun z1 hz1 => ?_)
      have tz1 := tf_16_2 hI
      refine h_cge (tg := 157) (pc' := 104) rfl rfl rfl hy2 hz1 (fun c2 => ?_) (fun c2 => ?_)
      · exact h_vret rfl rfl (kk _ I0 F0_)
      · refine h_aload_n (pc' := 105) rfl rfl rfl ?_
        refine h_getR (pc' := 108) rfl rfl rfl rfl rfl ?_
        refine h_getR (pc' := 111) rfl rfl rfl rfl rfl ?_
        refine h_iload_n (pc' := 112) rfl rfl rfl ?_
        refine h_iald (pc' := 113) (v := σ 17 b2) rfl rfl rfl hy2 (by omega) (by omega) (F0_ 17 _ rfl) (fun z3 hz3 => ?_)
        have tz3 := ty_17 hI b2
        refine h_istore_n (pc' := 114) (M := [(3, .int z3), (0, .ref 79), (1, .ref 10), (2, .int y2)]) rfl rfl rfl rfl ?_
        refine h_aload_n (pc' := 115) rfl rfl rfl ?_
        refine h_getR (pc' := 118) rfl rfl rfl rfl rfl ?_
        refine h_getR (pc' := 121) rfl rfl rfl rfl rfl ?_
        refine h_iload_n (pc' := 122) rfl rfl rfl ?_
        refine h_iald (pc' := 123) (v := σ 18 b2) rfl rfl rfl hy2 (by omega) (by omega) (F0_ 18 _ rfl) (fun z4 hz4 => ?_)
        have tz4 := ty_18 hI b2
        refine h_istore (pc' := 125) (M := [(4, .int z4), (3, .int z3), (0, .ref 79), (1, .ref 10), (2, .int y2)]) rfl rfl rfl rfl ?_
        refine h_aload_n (pc' := 126) rfl rfl rfl ?_
        refine h_getR (pc' := 129) rfl rfl rfl rfl rfl ?_
        refine h_iload_n (pc' := 130) rfl rfl rfl ?_
        refine h_dup2 (pc' := 131) rfl rfl rfl ?_
        refine h_iald (pc' := 132) (v := s0 81 (σ 17 b2)) rfl rfl rfl hz3 (by omega) (by omega) rfl (fun z5 hz5 => ?_)
        have tz5 := ty_81 I0 (σ 17 b2)
        refine h_iconst (pc' := 133) (x := (Int32.ofInt 1)) rfl rfl rfl ?_
        refine h_iload (pc' := 135) rfl rfl rfl ?_
        refine h_shl1 (pc' := 136) rfl rfl ci_1 hz4 (by omega) (by omega) (fun z6 hz6 vz6 => ?_)
        refine h_ior (pc' := 137) rfl rfl (fun z7 hz7 => ?_)
        refine h_iast (pc' := 138) rfl rfl rfl rfl hz3 (by omega) (by omega) rfl (h_fg _ (in_81 I0 (h_rgv rfl)) (F0_.up rfl) (fun s8 Is8 Fs8 => ?_))
        refine h_aload_n (pc' := 139) rfl rfl rfl ?_
        refine h_getR (pc' := 142) rfl rfl rfl rfl rfl ?_
        refine h_iload (pc' := 144) rfl rfl rfl ?_
        refine h_dup2 (pc' := 145) rfl rfl rfl ?_
        refine h_iald (pc' := 146) (v := s8 81 (σ 18 b2)) rfl rfl rfl hz4 (by omega) (by omega) rfl (fun z9 hz9 => ?_)
        have tz9 := ty_81 Is8 (σ 18 b2)
        refine h_iconst (pc' := 147) (x := (Int32.ofInt 1)) rfl rfl rfl ?_
        refine h_iload_n (pc' := 148) rfl rfl rfl ?_
        refine h_shl1 (pc' := 149) rfl rfl ci_1 hz3 (by omega) (by omega) (fun z10 hz10 vz10 => ?_)
        refine h_ior (pc' := 150) rfl rfl (fun z11 hz11 => ?_)
        refine h_iast (pc' := 151) rfl rfl rfl rfl hz4 (by omega) (by omega) rfl (h_fg _ (in_81 Is8 (h_rgv rfl)) (Fs8.up rfl) (fun s12 Is12 Fs12 => ?_))
        refine h_iinc (pc' := 154) (M := fun z13 => [(2, .int z13), (4, .int z4), (3, .int z3), (0, .ref 79), (1, .ref 10)]) rfl rfl rfl rfl hy2 ci_1 rfl (by omega) (by omega) (fun _ => rfl) (fun z13 hz13 => ?_)
        refine h_goto (pc' := 93) rfl rfl ?_
        exact h_wk [(0, .ref 79), (1, .ref 10), (2, .int z13)] ⟨rfl, rfl, rfl, trivial⟩ (ih.2.2 _ Is12 Fs12 z13 _ hz13 (by omega) (by omega))
theorem w_24_79_10 {ns : Nat} (σ : h_S) (hI : h_I σ) {Q : Option Value → h_S → Prop} (kk : ∀ (τ : h_S), h_I τ → h_F (k_in kf_w_24_79_10) τ σ → Q none τ) : h_T g_P (g_Y ns) 24 0 [(0, .ref 79), (1, .ref 10)] [] σ Q := by
  have F00 : h_F (k_in kf_w_24_79_10) σ σ := h_F.rf
  refine h_iconst (pc' := 1) (x := (Int32.ofInt 0)) rfl rfl rfl ?_
  refine h_istore_n (pc' := 2) (M := [(2, .int (Int32.ofInt 0)), (0, .ref 79), (1, .ref 10)]) rfl rfl rfl rfl ?_
  exact h_wk [(0, .ref 79), (1, .ref 10), (2, .int (Int32.ofInt 0))] ⟨rfl, rfl, rfl, trivial⟩ ((w_24_79_10_l ns σ hI  kk 1000000000000).1 _ hI F00 (Int32.ofInt 0) _ ci_0 (by omega) (by omega))
def kf_w_24_79_23 : List Nat := [82943, 83967]
theorem w_24_79_23_l (ns : Nat) (σ : h_S) (hI : h_I σ) {Q : Option Value → h_S → Prop} (kk : ∀ (τ : h_S), h_I τ → h_F (k_in kf_w_24_79_23) τ σ → Q none τ) : ∀ n : Nat, (∀ (s0 : h_S), h_I s0 → h_F (k_in kf_w_24_79_23) s0 σ → ∀ (y2 : Int32) (b2 : Int), y2.toInt = b2 → (0 ≤ b2 ∧ b2 ≤ 6) → (6 + 1 - b2) * 1000000 + 3000000000 ≤ (n : Int) → h_T g_P (g_Y ns) 24 2 [(0, .ref 79), (1, .ref 23), (2, .int y2)] [] s0 Q) ∧ (∀ (s0 : h_S), h_I s0 → h_F (k_in kf_w_24_79_23) s0 σ → ∀ (y2 : Int32) (b2 : Int), y2.toInt = b2 → (0 ≤ b2 ∧ b2 ≤ 3) → (3 + 1 - b2) * 1000000 + 2000000000 ≤ (n : Int) → h_T g_P (g_Y ns) 24 51 [(0, .ref 79), (1, .ref 23), (2, .int y2)] [] s0 Q) ∧ (∀ (s0 : h_S), h_I s0 → h_F (k_in kf_w_24_79_23) s0 σ → ∀ (y2 : Int32) (b2 : Int), y2.toInt = b2 → (0 ≤ b2 ∧ b2 ≤ 3) → (3 + 1 - b2) * 1000000 + 1000000000 ≤ (n : Int) → h_T g_P (g_Y ns) 24 93 [(0, .ref 79), (1, .ref 23), (2, .int y2)] [] s0 Q) := by
  intro n
  induction n with
  | zero => exact ⟨by intro s0 I0 F0_ y2 b2 hy2 ry2 hm; exfalso; omega, by intro s0 I0 F0_ y2 b2 hy2 ry2 hm; exfalso; omega, by intro s0 I0 F0_ y2 b2 hy2 ry2 hm; exfalso; omega⟩
  | succ n ih =>
    refine ⟨?_, ?_, ?_⟩
    · intro s0 I0 F0_ y2 b2 hy2 ry2 hm
      refine h_iload_n (pc' := 3) rfl rfl rfl ?_
      refine h_aload_n (pc' := 4) rfl rfl rfl ?_
      refine h_getI (pc' := 7) (v := σ 79 2) rfl rfl rfl rfl rfl (F0_ 79 2 rfl) (fun z1 hz1 => ?_)
      have tz1 := tf_79_2 hI
      refine h_cge (tg := 49) (pc' := 10) rfl rfl rfl hy2 hz1 (fun c2 => ?_) (fun c2 => ?_)
      · refine h_iconst (pc' := 50) (x := (Int32.ofInt 0)) rfl rfl rfl ?_
        refine h_istore_n (pc' := 51) (M := [(2, .int (Int32.ofInt 0)), (0, .ref 79), (1, .ref 23)]) rfl rfl rfl rfl ?_
        exact h_wk [(0, .ref 79), (1, .ref 23), (2, .int (Int32.ofInt 0))] ⟨rfl, rfl, rfl, trivial⟩ (ih.2.1 _ I0 F0_ (Int32.ofInt 0) _ ci_0 (by omega) (by omega))
      · refine h_aload_n (pc' := 11) rfl rfl rfl ?_
        refine h_aload_n (pc' := 12) rfl rfl rfl ?_
        refine h_getR (pc' := 15) rfl rfl rfl rfl rfl ?_
        refine h_iload_n (pc' := 16) rfl rfl rfl ?_
        refine h_iald (pc' := 17) (v := σ 25 b2) rfl rfl rfl hy2 (by omega) (by omega) (F0_ 25 _ rfl) (fun z3 hz3 => ?_)
        have tz3 := ty_25 hI b2
        refine h_call (sp := false) (pc' := 20) (M := [(0, .ref 23), (1, .int z3)]) rfl rfl rfl rfl rfl rfl rfl rfl ?_
        refine h_iload_n (pc' := 1) rfl rfl rfl ?_
        refine h_zlt (tg := 16) (pc' := 4) rfl rfl rfl hz3 (fun c4 => ?_) (fun c4 => ?_)
        · refine h_iconst (pc' := 17) (x := (Int32.ofInt 0)) rfl rfl rfl ?_
          refine h_zret rfl rfl ci_0 (by omega) (h_Kv ?_)
          refine h_zeq (tg := 43) (pc' := 23) rfl rfl rfl ci_0 (fun c5 => ?_) (fun c5 => absurd c5 (by omega))
          refine h_iinc (pc' := 46) (M := fun z6 => [(2, .int z6), (0, .ref 79), (1, .ref 23)]) rfl rfl rfl rfl hy2 ci_1 rfl (by omega) (by omega) (fun _ => rfl) (fun z6 hz6 => ?_)
          refine h_goto (pc' := 2) rfl rfl ?_
          exact h_wk [(0, .ref 79), (1, .ref 23), (2, .int z6)] ⟨rfl, rfl, rfl, trivial⟩ (ih.1 _ I0 F0_ z6 _ hz6 (by omega) (by omega))
        · refine h_iload_n (pc' := 5) rfl rfl rfl ?_
          refine h_aload_n (pc' := 6) rfl rfl rfl ?_
          refine h_getI (pc' := 9) (v := σ 23 8) rfl rfl rfl rfl rfl (F0_ 23 8 rfl) (fun z7 hz7 => ?_)
          have tz7 := tf_23_8 hI
          refine h_cge (tg := 16) (pc' := 12) rfl rfl rfl hz3 hz7 (fun c8 => ?_) (fun c8 => ?_)
          · refine h_iconst (pc' := 17) (x := (Int32.ofInt 0)) rfl rfl rfl ?_
            refine h_zret rfl rfl ci_0 (by omega) (h_Kv ?_)
            refine h_zeq (tg := 43) (pc' := 23) rfl rfl rfl ci_0 (fun c9 => ?_) (fun c9 => absurd c9 (by omega))
            refine h_iinc (pc' := 46) (M := fun z10 => [(2, .int z10), (0, .ref 79), (1, .ref 23)]) rfl rfl rfl rfl hy2 ci_1 rfl (by omega) (by omega) (fun _ => rfl) (fun z10 hz10 => ?_)
            refine h_goto (pc' := 2) rfl rfl ?_
            exact h_wk [(0, .ref 79), (1, .ref 23), (2, .int z10)] ⟨rfl, rfl, rfl, trivial⟩ (ih.1 _ I0 F0_ z10 _ hz10 (by omega) (by omega))
          · refine h_iconst (pc' := 13) (x := (Int32.ofInt 1)) rfl rfl rfl ?_
            refine h_goto (pc' := 17) rfl rfl ?_
            refine h_zret rfl rfl ci_1 (by omega) (h_Kv ?_)
            refine h_zeq (tg := 43) (pc' := 23) rfl rfl rfl ci_1 (fun c11 => absurd c11 (by omega)) (fun c11 => ?_)
            refine h_aload_n (pc' := 24) rfl rfl rfl ?_
            refine h_iload_n (pc' := 25) rfl rfl rfl ?_
            refine h_aload_n (pc' := 26) rfl rfl rfl ?_
            refine h_getR (pc' := 29) rfl rfl rfl rfl rfl ?_
            refine h_iload_n (pc' := 30) rfl rfl rfl ?_
            refine h_iald (pc' := 31) (v := σ 25 b2) rfl rfl rfl hy2 (by omega) (by omega) (F0_ 25 _ rfl) (fun z12 hz12 => ?_)
            have tz12 := ty_25 hI b2
            refine h_aload_n (pc' := 32) rfl rfl rfl ?_
            refine h_getR (pc' := 35) rfl rfl rfl rfl rfl ?_
            refine h_iload_n (pc' := 36) rfl rfl rfl ?_
            refine h_iald (pc' := 37) (v := σ 24 b2) rfl rfl rfl hy2 (by omega) (by omega) (F0_ 24 _ rfl) (fun z13 hz13 => ?_)
            have tz13 := ty_24 hI b2
            refine h_calls (pc' := 40) (M := [(0, .int z13)]) rfl rfl rfl rfl rfl rfl ?_
            refine h_iload_n (pc' := 1) rfl rfl rfl ?_
            refine h_tsw (dt := 34) (ts := [28, 30, 32]) rfl rfl rfl rfl hz13 (fun c14 => ?_) ⟨fun c14 => ?_, fun c14 => ?_, fun c14 => ?_, trivial⟩
            · refine h_iconst (pc' := 35) (x := (Int32.ofInt 4)) rfl rfl rfl ?_
              refine h_iret rfl rfl (h_Kv ?_)
              refine h_call (sp := false) (pc' := 43) (M := [(0, .ref 79), (1, .int y2), (2, .int z12), (3, .int (Int32.ofInt 4))]) rfl rfl rfl rfl rfl rfl rfl rfl ?_
              refine w_25_79 _ I0 y2 _ hy2 (by omega) z12 _ hz12 (by omega) (Int32.ofInt 4) _ ci_4 (by omega) (fun s16 Is16 Gs16 => h_Kn ?_)
              have Fs16 := (Gs16.mono (B := kf_w_24_79_23) rfl).tr F0_
              refine h_iinc (pc' := 46) (M := fun z17 => [(2, .int z17), (0, .ref 79), (1, .ref 23)]) rfl rfl rfl rfl hy2 ci_1 rfl (by omega) (by omega) (fun _ => rfl) (fun z17 hz17 => ?_)
              refine h_goto (pc' := 2) rfl rfl ?_
              exact h_wk [(0, .ref 79), (1, .ref 23), (2, .int z17)] ⟨rfl, rfl, rfl, trivial⟩ (ih.1 _ Is16 Fs16 z17 _ hz17 (by omega) (by omega))
            · refine h_iconst (pc' := 29) (x := (Int32.ofInt 1)) rfl rfl rfl ?_
              refine h_iret rfl rfl (h_Kv ?_)
              refine h_call (sp := false) (pc' := 43) (M := [(0, .ref 79), (1, .int y2), (2, .int z12), (3, .int (Int32.ofInt 1))]) rfl rfl rfl rfl rfl rfl rfl rfl ?_
              refine w_25_79 _ I0 y2 _ hy2 (by omega) z12 _ hz12 (by omega) (Int32.ofInt 1) _ ci_1 (by omega) (fun s19 Is19 Gs19 => h_Kn ?_)
              have Fs19 := (Gs19.mono (B := kf_w_24_79_23) rfl).tr F0_
              refine h_iinc (pc' := 46) (M := fun z20 => [(2, .int z20), (0, .ref 79), (1, .ref 23)]) rfl rfl rfl rfl hy2 ci_1 rfl (by omega) (by omega) (fun _ => rfl) (fun z20 hz20 => ?_)
              refine h_goto (pc' := 2) rfl rfl ?_
              exact h_wk [(0, .ref 79), (1, .ref 23), (2, .int z20)] ⟨rfl, rfl, rfl, trivial⟩ (ih.1 _ Is19 Fs19 z20 _ hz20 (by omega) (by omega))
            · refine h_iconst (pc' := 31) (x := (Int32.ofInt 2)) rfl rfl rfl ?_
              refine h_iret rfl rfl (h_Kv ?_)
              refine h_call (sp := false) (pc' := 43) (M := [(0, .ref 79), (1, .int y2), (2, .int z12), (3, .int (Int32.ofInt 2))]) rfl rfl rfl rfl rfl rfl rfl rfl ?_
              refine w_25_79 _ I0 y2 _ hy2 (by omega) z12 _ hz12 (by omega) (Int32.ofInt 2) _ ci_2 (by omega) (fun s22 Is22 Gs22 => h_Kn ?_)
              have Fs22 := (Gs22.mono (B := kf_w_24_79_23) rfl).tr F0_
              refine h_iinc (pc' := 46) (M := fun z23 => [(2, .int z23), (0, .ref 79), (1, .ref 23)]) rfl rfl rfl rfl hy2 ci_1 rfl (by omega) (by omega) (fun _ => rfl) (fun z23 hz23 => ?_)
              refine h_goto (pc' := 2) rfl rfl ?_
              exact h_wk [(0, .ref 79), (1, .ref 23), (2, .int z23)] ⟨rfl, rfl, rfl, trivial⟩ (ih.1 _ Is22 Fs22 z23 _ hz23 (by omega) (by omega))
            · refine h_iconst (pc' := 33) (x := (Int32.ofInt 0)) rfl rfl rfl ?_
              refine h_iret rfl rfl (h_Kv ?_)
              refine h_call (sp := false) (pc' := 43) (M := [(0, .ref 79), (1, .int y2), (2, .int z12), (3, .int (Int32.ofInt 0))]) rfl rfl rfl rfl rfl rfl rfl rfl ?_
              refine w_25_79 _ I0 y2 _ hy2 (by omega) z12 _ hz12 (by omega) (Int32.ofInt 0) _ ci_0 (by omega) (fun s25 Is25 Gs25 => h_Kn ?_)
              have Fs25 := (Gs25.mono (B := kf_w_24_79_23) rfl).tr F0_
              refine h_iinc (pc' := 46) (M := fun z26 => [(2, .int z26), (0, .ref 79), (1, .ref 23)]) rfl rfl rfl rfl hy2 ci_1 rfl (by omega) (by omega) (fun _ => rfl) (fun z26 hz26 => ?_)
              refine h_goto (pc' := 2) rfl rfl ?_
              exact h_wk [(0, .ref 79), (1, .ref 23), (2, .int z26)] ⟨rfl, rfl, rfl, trivial⟩ (ih.1 _ Is25 Fs25 z26 _ hz26 (by omega) (by omega))
    · intro s0 I0 F0_ y2 b2 hy2 ry2 hm
      refine h_iload_n (pc' := 52) rfl rfl rfl ?_
      refine h_aload_n (pc' := 53) rfl rfl rfl ?_
      refine h_getR (pc' := 56) rfl rfl rfl rfl rfl ?_
      refine h_getI (pc' := 59) (v := σ 26 2) rfl rfl rfl rfl rfl (F0_ 26 2 rfl) (fun z1 hz1 => ?_)
      have tz1 := tf_26_2 hI
      refine h_cge (tg := 91) (pc' := 62) rfl rfl rfl hy2 hz1 (fun c2 => ?_) (fun c2 => ?_)
      · refine h_iconst (pc' := 92) (x := (Int32.ofInt 0)) rfl rfl rfl ?_
        refine h_istore_n (pc' := 93) (M := [(2, .int (Int32.ofInt 0)), (0, .ref 79), (1, .ref 23)]) rfl rfl rfl rfl ?_
        exact h_wk [(0, .ref 79), (1, .ref 23), (2, .int (Int32.ofInt 0))] ⟨rfl, rfl, rfl, trivial⟩ (ih.2.2 _ I0 F0_ (Int32.ofInt 0) _ ci_0 (by omega) (by omega))
      · refine h_aload_n (pc' := 63) rfl rfl rfl ?_
        refine h_aload_n (pc' := 64) rfl rfl rfl ?_
        refine h_getR (pc' := 67) rfl rfl rfl rfl rfl ?_
        refine h_getR (pc' := 70) rfl rfl rfl rfl rfl ?_
        refine h_iload_n (pc' := 71) rfl rfl rfl ?_
        refine h_iald (pc' := 72) (v := σ 27 b2) rfl rfl rfl hy2 (by omega) (by omega) (F0_ 27 _ rfl) (fun z3 hz3 => ?_)
        have tz3 := ty_27 hI b2
        refine h_aload_n (pc' := 73) rfl rfl rfl ?_
        refine h_getR (pc' := 76) rfl rfl rfl rfl rfl ?_
        refine h_getR (pc' := 79) rfl rfl rfl rfl rfl ?_
        refine h_iload_n (pc' := 80) rfl rfl rfl ?_
        refine h_iald (pc' := 81) (v := σ 28 b2) rfl rfl rfl hy2 (by omega) (by omega) (F0_ 28 _ rfl) (fun z4 hz4 => ?_)
        have tz4 := ty_28 hI b2
        refine h_iconst (pc' := 82) (x := (Int32.ofInt 1)) rfl rfl rfl ?_
        refine h_call (sp := false) (pc' := 85) (M := [(0, .ref 79), (1, .int z3), (2, .int z4), (3, .int (Int32.ofInt 1))]) rfl rfl rfl rfl rfl rfl rfl rfl ?_
        refine w_25_79 _ I0 z3 _ hz3 (by omega) z4 _ hz4 (by omega) (Int32.ofInt 1) _ ci_1 (by omega) (fun s6 Is6 Gs6 => h_Kn ?_)
        have Fs6 := (Gs6.mono (B := kf_w_24_79_23) rfl).tr F0_
        refine h_iinc (pc' := 88) (M := fun z7 => [(2, .int z7), (0, .ref 79), (1, .ref 23)]) rfl rfl rfl rfl hy2 ci_1 rfl (by omega) (by omega) (fun _ => rfl) (fun z7 hz7 => ?_)
        refine h_goto (pc' := 51) rfl rfl ?_
        exact h_wk [(0, .ref 79), (1, .ref 23), (2, .int z7)] ⟨rfl, rfl, rfl, trivial⟩ (ih.2.1 _ Is6 Fs6 z7 _ hz7 (by omega) (by omega))
    · intro s0 I0 F0_ y2 b2 hy2 ry2 hm
      refine h_iload_n (pc' := 94) rfl rfl rfl ?_
      refine h_aload_n (pc' := 95) rfl rfl rfl ?_
      refine h_getR (pc' := 98) rfl rfl rfl rfl rfl ?_
      refine h_getI (pc' := 101) (v := σ 29 2) rfl rfl rfl rfl rfl (F0_ 29 2 rfl) (fun z1 hz1 => ?_)
      have tz1 := tf_29_2 hI
      refine h_cge (tg := 157) (pc' := 104) rfl rfl rfl hy2 hz1 (fun c2 => ?_) (fun c2 => ?_)
      · exact h_vret rfl rfl (kk _ I0 F0_)
      · refine h_aload_n (pc' := 105) rfl rfl rfl ?_
        refine h_getR (pc' := 108) rfl rfl rfl rfl rfl ?_
        refine h_getR (pc' := 111) rfl rfl rfl rfl rfl ?_
        refine h_iload_n (pc' := 112) rfl rfl rfl ?_
        refine h_iald (pc' := 113) (v := σ 30 b2) rfl rfl rfl hy2 (by omega) (by omega) (F0_ 30 _ rfl) (fun z3 hz3 => ?_)
        have tz3 := ty_30 hI b2
        refine h_istore_n (pc' := 114) (M := [(3, .int z3), (0, .ref 79), (1, .ref 23), (2, .int y2)]) rfl rfl rfl rfl ?_
        refine h_aload_n (pc' := 115) rfl rfl rfl ?_
        refine h_getR (pc' := 118) rfl rfl rfl rfl rfl ?_
        refine h_getR (pc' := 121) rfl rfl rfl rfl rfl ?_
        refine h_iload_n (pc' := 122) rfl rfl rfl ?_
        refine h_iald (pc' := 123) (v := σ 31 b2) rfl rfl rfl hy2 (by omega) (by omega) (F0_ 31 _ rfl) (fun z4 hz4 => ?_)
        have tz4 := ty_31 hI b2
        refine h_istore (pc' := 125) (M := [(4, .int z4), (3, .int z3), (0, .ref 79), (1, .ref 23), (2, .int y2)]) rfl rfl rfl rfl ?_
        refine h_aload_n (pc' := 126) rfl rfl rfl ?_
        refine h_getR (pc' := 129) rfl rfl rfl rfl rfl ?_
        refine h_iload_n (pc' := 130) rfl rfl rfl ?_
        refine h_dup2 (pc' := 131) rfl rfl rfl ?_
        refine h_iald (pc' := 132) (v := s0 81 (σ 30 b2)) rfl rfl rfl hz3 (by omega) (by omega) rfl (fun z5 hz5 => ?_)
        have tz5 := ty_81 I0 (σ 30 b2)
        refine h_iconst (pc' := 133) (x := (Int32.ofInt 1)) rfl rfl rfl ?_
        refine h_iload (pc' := 135) rfl rfl rfl ?_
        refine h_shl1 (pc' := 136) rfl rfl ci_1 hz4 (by omega) (by omega) (fun z6 hz6 vz6 => ?_)
        refine h_ior (pc' := 137) rfl rfl (fun z7 hz7 => ?_)
        refine h_iast (pc' := 138) rfl rfl rfl rfl hz3 (by omega) (by omega) rfl (h_fg _ (in_81 I0 (h_rgv rfl)) (F0_.up rfl) (fun s8 Is8 Fs8 => ?_))
        refine h_aload_n (pc' := 139) rfl rfl rfl ?_
        refine h_getR (pc' := 142) rfl rfl rfl rfl rfl ?_
        refine h_iload (pc' := 144) rfl rfl rfl ?_
        refine h_dup2 (pc' := 145) rfl rfl rfl ?_
        refine h_iald (pc' := 146) (v := s8 81 (σ 31 b2)) rfl rfl rfl hz4 (by omega) (by omega) rfl (fun z9 hz9 => ?_)
        have tz9 := ty_81 Is8 (σ 31 b2)
        refine h_iconst (pc' := 147) (x := (Int32.ofInt 1)) rfl rfl rfl ?_
        refine h_iload_n (pc' := 148) rfl rfl rfl ?_
        refine h_shl1 (pc' := 149) rfl rfl ci_1 hz3 (by omega) (by omega) (fun z10 hz10 vz10 => ?_)
        refine h_ior (pc' := 150) rfl rfl (fun z11 hz11 => ?_)
        refine h_iast (pc' := 151) rfl rfl rfl rfl hz4 (by omega) (by omega) rfl (h_fg _ (in_81 Is8 (h_rgv rfl)) (Fs8.up rfl) (fun s12 Is12 Fs12 => ?_))
        refine h_iinc (pc' := 154) (M := fun z13 => [(2, .int z13), (4, .int z4), (3, .int z3), (0, .ref 79), (1, .ref 23)]) rfl rfl rfl rfl hy2 ci_1 rfl (by omega) (by omega) (fun _ => rfl) (fun z13 hz13 => ?_)
        refine h_goto (pc' := 93) rfl rfl ?_
        exact h_wk [(0, .ref 79), (1, .ref 23), (2, .int z13)] ⟨rfl, rfl, rfl, trivial⟩ (ih.2.2 _ Is12 Fs12 z13 _ hz13 (by omega) (by omega))
theorem w_24_79_23 {ns : Nat} (σ : h_S) (hI : h_I σ) {Q : Option Value → h_S → Prop} (kk : ∀ (τ : h_S), h_I τ → h_F (k_in kf_w_24_79_23) τ σ → Q none τ) : h_T g_P (g_Y ns) 24 0 [(0, .ref 79), (1, .ref 23)] [] σ Q := by
  have F00 : h_F (k_in kf_w_24_79_23) σ σ := h_F.rf
  refine h_iconst (pc' := 1) (x := (Int32.ofInt 0)) rfl rfl rfl ?_
  refine h_istore_n (pc' := 2) (M := [(2, .int (Int32.ofInt 0)), (0, .ref 79), (1, .ref 23)]) rfl rfl rfl rfl ?_
  exact h_wk [(0, .ref 79), (1, .ref 23), (2, .int (Int32.ofInt 0))] ⟨rfl, rfl, rfl, trivial⟩ ((w_24_79_23_l ns σ hI  kk 1000000000000).1 _ hI F00 (Int32.ofInt 0) _ ci_0 (by omega) (by omega))
def kf_w_26_79 : List Nat := [82943]
theorem w_26_79_l (ns : Nat) (σ : h_S) (hI : h_I σ) {Q : Option Value → h_S → Prop} (kk : ∀ (τ : h_S), h_I τ → h_F (k_in kf_w_26_79) τ σ → Q none τ) : ∀ n : Nat, (∀ (s0 : h_S), h_I s0 → h_F (k_in kf_w_26_79) s0 σ → ∀ (y1 : Int32) (b1 : Int), y1.toInt = b1 → (0 ≤ b1 ∧ b1 ≤ 6) → (6 + 1 - b1) * 1000000 + 1000000000 ≤ (n : Int) → h_T g_P (g_Y ns) 26 2 [(0, .ref 79), (1, .int y1)] [] s0 Q) ∧ (∀ (s0 : h_S), h_I s0 → h_F (k_in kf_w_26_79) s0 σ → ∀ (y1 : Int32) (b1 : Int), y1.toInt = b1 → (0 ≤ b1 ∧ b1 ≤ 5) → ∀ (y2 : Int32) (b2 : Int), y2.toInt = b2 → (0 ≤ b2 ∧ b2 ≤ 6) → ((6 + 1 - b1) - 1) * 1000000 + 1000000000 + (6 + 1 - b2) * 1000 + 100000 ≤ (n : Int) → h_T g_P (g_Y ns) 26 12 [(0, .ref 79), (1, .int y1), (2, .int y2)] [] s0 Q) ∧ (∀ (s0 : h_S), h_I s0 → h_F (k_in kf_w_26_79) s0 σ → ∀ (y1 : Int32) (b1 : Int), y1.toInt = b1 → (0 ≤ b1 ∧ b1 ≤ 5) → ∀ (y2 : Int32) (b2 : Int), y2.toInt = b2 → (0 ≤ b2 ∧ b2 ≤ 5) → ∀ (y3 : Int32) (b3 : Int), y3.toInt = b3 → (0 ≤ b3 ∧ b3 ≤ 1000) → ∀ (y4 : Int32) (b4 : Int), y4.toInt = b4 → (0 ≤ b4 ∧ b4 ≤ 6) → ((6 + 1 - b1) - 1) * 1000000 + 1000000000 + ((6 + 1 - b2) - 1) * 1000 + 100000 + (6 + 1 - b4) * 1 + 200 ≤ (n : Int) → h_T g_P (g_Y ns) 26 35 [(0, .ref 79), (1, .int y1), (2, .int y2), (3, .int y3), (4, .int y4)] [] s0 Q) := by
  intro n
  induction n with
  | zero => exact ⟨by intro s0 I0 F0_ y1 b1 hy1 ry1 hm; exfalso; omega, by intro s0 I0 F0_ y1 b1 hy1 ry1 y2 b2 hy2 ry2 hm; exfalso; omega, by intro s0 I0 F0_ y1 b1 hy1 ry1 y2 b2 hy2 ry2 y3 b3 hy3 ry3 y4 b4 hy4 ry4 hm; exfalso; omega⟩
  | succ n ih =>
    refine ⟨?_, ?_, ?_⟩
    · intro s0 I0 F0_ y1 b1 hy1 ry1 hm
      refine h_iload_n (pc' := 3) rfl rfl rfl ?_
      refine h_aload_n (pc' := 4) rfl rfl rfl ?_
      refine h_getI (pc' := 7) (v := σ 79 2) rfl rfl rfl rfl rfl (F0_ 79 2 rfl) (fun z1 hz1 => ?_)
      have tz1 := tf_79_2 hI
      refine h_cge (tg := 116) (pc' := 10) rfl rfl rfl hy1 hz1 (fun c2 => ?_) (fun c2 => ?_)
      · exact h_vret rfl rfl (kk _ I0 F0_)
      · refine h_iconst (pc' := 11) (x := (Int32.ofInt 0)) rfl rfl rfl ?_
        refine h_istore_n (pc' := 12) (M := [(2, .int (Int32.ofInt 0)), (0, .ref 79), (1, .int y1)]) rfl rfl rfl rfl ?_
        exact h_wk [(0, .ref 79), (1, .int y1), (2, .int (Int32.ofInt 0))] ⟨rfl, rfl, rfl, trivial⟩ (ih.2.1 _ I0 F0_ y1 _ hy1 (by omega) (Int32.ofInt 0) _ ci_0 (by omega) (by omega))
    · intro s0 I0 F0_ y1 b1 hy1 ry1 y2 b2 hy2 ry2 hm
      refine h_iload_n (pc' := 13) rfl rfl rfl ?_
      refine h_aload_n (pc' := 14) rfl rfl rfl ?_
      refine h_getI (pc' := 17) (v := σ 79 2) rfl rfl rfl rfl rfl (F0_ 79 2 rfl) (fun z1 hz1 => ?_)
      have tz1 := tf_79_2 hI
      refine h_cge (tg := 110) (pc' := 20) rfl rfl rfl hy2 hz1 (fun c2 => ?_) (fun c2 => ?_)
      · refine h_iinc (pc' := 113) (M := fun z3 => [(1, .int z3), (0, .ref 79), (2, .int y2)]) rfl rfl rfl rfl hy1 ci_1 rfl (by omega) (by omega) (fun _ => rfl) (fun z3 hz3 => ?_)
        refine h_goto (pc' := 2) rfl rfl ?_
        exact h_wk [(0, .ref 79), (1, .int z3)] ⟨rfl, rfl, trivial⟩ (ih.1 _ I0 F0_ z3 _ hz3 (by omega) (by omega))
      · refine h_aload_n (pc' := 21) rfl rfl rfl ?_
        refine h_getR (pc' := 24) rfl rfl rfl rfl rfl ?_
        refine h_iload_n (pc' := 25) rfl rfl rfl ?_
        refine h_bipush (pc' := 27) (x := (Int32.ofInt 6)) rfl rfl cb_6 ?_
        refine h_imul (pc' := 28) rfl rfl hy2 ci_6 rfl (by omega) (by omega) (fun z4 hz4 => ?_)
        refine h_iload_n (pc' := 29) rfl rfl rfl ?_
        refine h_iadd (pc' := 30) rfl rfl hz4 hy1 rfl (by omega) (by omega) (fun z5 hz5 => ?_)
        refine h_iald (pc' := 31) (v := s0 80 ((b2 * 6) + b1)) rfl rfl rfl hz5 (by omega) (by omega) rfl (fun z6 hz6 => ?_)
        have tz6 := ty_80 I0 ((b2 * 6) + b1)
        refine h_istore_n (pc' := 32) (M := [(3, .int z6), (0, .ref 79), (1, .int y1), (2, .int y2)]) rfl rfl rfl rfl ?_
        refine h_iconst (pc' := 33) (x := (Int32.ofInt 0)) rfl rfl rfl ?_
        refine h_istore (pc' := 35) (M := [(4, .int (Int32.ofInt 0)), (3, .int z6), (0, .ref 79), (1, .int y1), (2, .int y2)]) rfl rfl rfl rfl ?_
        exact h_wk [(0, .ref 79), (1, .int y1), (2, .int y2), (3, .int z6), (4, .int (Int32.ofInt 0))] ⟨rfl, rfl, rfl, rfl, rfl, trivial⟩ (ih.2.2 _ I0 F0_ y1 _ hy1 (by omega) y2 _ hy2 (by omega) z6 _ hz6 (by omega) (Int32.ofInt 0) _ ci_0 (by omega) (by omega))
    · intro s0 I0 F0_ y1 b1 hy1 ry1 y2 b2 hy2 ry2 y3 b3 hy3 ry3 y4 b4 hy4 ry4 hm
      refine h_iload (pc' := 37) rfl rfl rfl ?_
      refine h_aload_n (pc' := 38) rfl rfl rfl ?_
      refine h_getI (pc' := 41) (v := σ 79 2) rfl rfl rfl rfl rfl (F0_ 79 2 rfl) (fun z1 hz1 => ?_)
      have tz1 := tf_79_2 hI
      refine h_cge (tg := 104) (pc' := 44) rfl rfl rfl hy4 hz1 (fun c2 => ?_) (fun c2 => ?_)
      · refine h_iinc (pc' := 107) (M := fun z3 => [(2, .int z3), (0, .ref 79), (1, .int y1), (3, .int y3), (4, .int y4)]) rfl rfl rfl rfl hy2 ci_1 rfl (by omega) (by omega) (fun _ => rfl) (fun z3 hz3 => ?_)
        refine h_goto (pc' := 12) rfl rfl ?_
        exact h_wk [(0, .ref 79), (1, .int y1), (2, .int z3)] ⟨rfl, rfl, rfl, trivial⟩ (ih.2.1 _ I0 F0_ y1 _ hy1 (by omega) z3 _ hz3 (by omega) (by omega))
      · refine h_iload_n (pc' := 45) rfl rfl rfl ?_
        refine h_sipush (pc' := 48) (x := (Int32.ofInt 1000)) rfl rfl cs_1000 ?_
        refine h_cge (tg := 104) (pc' := 51) rfl rfl rfl hy3 ci_1000 (fun c4 => ?_) (fun c4 => ?_)
        · refine h_iinc (pc' := 107) (M := fun z5 => [(2, .int z5), (0, .ref 79), (1, .int y1), (3, .int y3), (4, .int y4)]) rfl rfl rfl rfl hy2 ci_1 rfl (by omega) (by omega) (fun _ => rfl) (fun z5 hz5 => ?_)
          refine h_goto (pc' := 12) rfl rfl ?_
          exact h_wk [(0, .ref 79), (1, .int y1), (2, .int z5)] ⟨rfl, rfl, rfl, trivial⟩ (ih.2.1 _ I0 F0_ y1 _ hy1 (by omega) z5 _ hz5 (by omega) (by omega))
        · refine h_iload_n (pc' := 52) rfl rfl rfl ?_
          refine h_aload_n (pc' := 53) rfl rfl rfl ?_
          refine h_getR (pc' := 56) rfl rfl rfl rfl rfl ?_
          refine h_iload_n (pc' := 57) rfl rfl rfl ?_
          refine h_bipush (pc' := 59) (x := (Int32.ofInt 6)) rfl rfl cb_6 ?_
          refine h_imul (pc' := 60) rfl rfl hy1 ci_6 rfl (by omega) (by omega) (fun z6 hz6 => ?_)
          refine h_iload (pc' := 62) rfl rfl rfl ?_
          refine h_iadd (pc' := 63) rfl rfl hz6 hy4 rfl (by omega) (by omega) (fun z7 hz7 => ?_)
          refine h_iald (pc' := 64) (v := s0 80 ((b1 * 6) + b4)) rfl rfl rfl hz7 (by omega) (by omega) rfl (fun z8 hz8 => ?_)
          have tz8 := ty_80 I0 ((b1 * 6) + b4)
          refine h_iadd (pc' := 65) rfl rfl hy3 hz8 rfl (by omega) (by omega) (fun z9 hz9 => ?_)
          refine h_istore (pc' := 67) (M := [(5, .int z9), (0, .ref 79), (1, .int y1), (2, .int y2), (3, .int y3), (4, .int y4)]) rfl rfl rfl rfl ?_
          refine h_iload (pc' := 69) rfl rfl rfl ?_
          refine h_aload_n (pc' := 70) rfl rfl rfl ?_
          refine h_getR (pc' := 73) rfl rfl rfl rfl rfl ?_
          refine h_iload_n (pc' := 74) rfl rfl rfl ?_
          refine h_bipush (pc' := 76) (x := (Int32.ofInt 6)) rfl rfl cb_6 ?_
          refine h_imul (pc' := 77) rfl rfl hy2 ci_6 rfl (by omega) (by omega) (fun z10 hz10 => ?_)
          refine h_iload (pc' := 79) rfl rfl rfl ?_
          refine h_iadd (pc' := 80) rfl rfl hz10 hy4 rfl (by omega) (by omega) (fun z11 hz11 => ?_)
          refine h_iald (pc' := 81) (v := s0 80 ((b2 * 6) + b4)) rfl rfl rfl hz11 (by omega) (by omega) rfl (fun z12 hz12 => ?_)
          have tz12 := ty_80 I0 ((b2 * 6) + b4)
          refine h_cge (tg := 98) (pc' := 84) rfl rfl rfl hz9 hz12 (fun c13 => ?_) (fun c13 => ?_)
          · refine h_iinc (pc' := 101) (M := fun z14 => [(4, .int z14), (5, .int z9), (0, .ref 79), (1, .int y1), (2, .int y2), (3, .int y3)]) rfl rfl rfl rfl hy4 ci_1 rfl (by omega) (by omega) (fun _ => rfl) (fun z14 hz14 => ?_)
            refine h_goto (pc' := 35) rfl rfl ?_
            exact h_wk [(0, .ref 79), (1, .int y1), (2, .int y2), (3, .int y3), (4, .int z14)] ⟨rfl, rfl, rfl, rfl, rfl, trivial⟩ (ih.2.2 _ I0 F0_ y1 _ hy1 (by omega) y2 _ hy2 (by omega) y3 _ hy3 (by omega) z14 _ hz14 (by omega) (by omega))
          · refine h_aload_n (pc' := 85) rfl rfl rfl ?_
            refine h_getR (pc' := 88) rfl rfl rfl rfl rfl ?_
            refine h_iload_n (pc' := 89) rfl rfl rfl ?_
            refine h_bipush (pc' := 91) (x := (Int32.ofInt 6)) rfl rfl cb_6 ?_
            refine h_imul (pc' := 92) rfl rfl hy2 ci_6 rfl (by omega) (by omega) (fun z15 hz15 => ?_)
            refine h_iload (pc' := 94) rfl rfl rfl ?_
            refine h_iadd (pc' := 95) rfl rfl hz15 hy4 rfl (by omega) (by omega) (fun z16 hz16 => ?_)
            refine h_iload (pc' := 97) rfl rfl rfl ?_
            refine h_iast (pc' := 98) rfl rfl rfl rfl hz16 (by omega) (by omega) hz9 (h_fg _ (in_80 I0 (by omega)) (F0_.up rfl) (fun s17 Is17 Fs17 => ?_))
            refine h_iinc (pc' := 101) (M := fun z18 => [(4, .int z18), (5, .int z9), (0, .ref 79), (1, .int y1), (2, .int y2), (3, .int y3)]) rfl rfl rfl rfl hy4 ci_1 rfl (by omega) (by omega) (fun _ => rfl) (fun z18 hz18 => ?_)
            refine h_goto (pc' := 35) rfl rfl ?_
            exact h_wk [(0, .ref 79), (1, .int y1), (2, .int y2), (3, .int y3), (4, .int z18)] ⟨rfl, rfl, rfl, rfl, rfl, trivial⟩ (ih.2.2 _ Is17 Fs17 y1 _ hy1 (by omega) y2 _ hy2 (by omega) y3 _ hy3 (by omega) z18 _ hz18 (by omega) (by omega))
theorem w_26_79 {ns : Nat} (σ : h_S) (hI : h_I σ) {Q : Option Value → h_S → Prop} (kk : ∀ (τ : h_S), h_I τ → h_F (k_in kf_w_26_79) τ σ → Q none τ) : h_T g_P (g_Y ns) 26 0 [(0, .ref 79)] [] σ Q := by
  have F00 : h_F (k_in kf_w_26_79) σ σ := h_F.rf
  refine h_iconst (pc' := 1) (x := (Int32.ofInt 0)) rfl rfl rfl ?_
  refine h_istore_n (pc' := 2) (M := [(1, .int (Int32.ofInt 0)), (0, .ref 79)]) rfl rfl rfl rfl ?_
  exact h_wk [(0, .ref 79), (1, .int (Int32.ofInt 0))] ⟨rfl, rfl, trivial⟩ ((w_26_79_l ns σ hI  kk 1000000000000).1 _ hI F00 (Int32.ofInt 0) _ ci_0 (by omega) (by omega))
def kf_w_23_79_10 : List Nat := [80898, 82943, 83967]
theorem w_23_79_10_l (ns : Nat) (σ : h_S) (hI : h_I σ) {Q : Option Value → h_S → Prop} (kk : ∀ (τ : h_S), h_I τ → h_F (k_in kf_w_23_79_10) τ σ → Q none τ) : ∀ n : Nat, (∀ (s0 : h_S), h_I s0 → h_F (k_in kf_w_23_79_10) s0 σ → ∀ (y2 : Int32) (b2 : Int), y2.toInt = b2 → (0 ≤ b2 ∧ b2 ≤ 6) → (6 + 1 - b2) * 1000000 + 1000000000 ≤ (n : Int) → h_T g_P (g_Y ns) 23 10 [(0, .ref 79), (1, .ref 10), (2, .int y2)] [] s0 Q) ∧ (∀ (s0 : h_S), h_I s0 → h_F (k_in kf_w_23_79_10) s0 σ → ∀ (y2 : Int32) (b2 : Int), y2.toInt = b2 → (0 ≤ b2 ∧ b2 ≤ 5) → ∀ (y3 : Int32) (b3 : Int), y3.toInt = b3 → (0 ≤ b3 ∧ b3 ≤ 6) → ((6 + 1 - b2) - 1) * 1000000 + 1000000000 + (6 + 1 - b3) * 1000 + 100000 ≤ (n : Int) → h_T g_P (g_Y ns) 23 27 [(0, .ref 79), (1, .ref 10), (2, .int y2), (3, .int y3)] [] s0 Q) := by
  intro n
  induction n with
  | zero => exact ⟨by intro s0 I0 F0_ y2 b2 hy2 ry2 hm; exfalso; omega, by intro s0 I0 F0_ y2 b2 hy2 ry2 y3 b3 hy3 ry3 hm; exfalso; omega⟩
  | succ n ih =>
    refine ⟨?_, ?_⟩
    · intro s0 I0 F0_ y2 b2 hy2 ry2 hm
      refine h_iload_n (pc' := 11) rfl rfl rfl ?_
      refine h_aload_n (pc' := 12) rfl rfl rfl ?_
      refine h_getI (pc' := 15) (v := s0 79 2) rfl rfl rfl rfl rfl rfl (fun z1 hz1 => ?_)
      have tz1 := tf_79_2 I0
      refine h_cge (tg := 70) (pc' := 18) rfl rfl rfl hy2 hz1 (fun c2 => ?_) (fun c2 => ?_)
      · refine h_aload_n (pc' := 71) rfl rfl rfl ?_
        refine h_aload_n (pc' := 72) rfl rfl rfl ?_
        refine h_call (sp := false) (pc' := 75) (M := [(0, .ref 79), (1, .ref 10)]) rfl rfl rfl rfl rfl rfl rfl rfl ?_
        refine w_24_79_10 _ I0  (fun s4 Is4 Gs4 => h_Kn ?_)
        have Fs4 := (Gs4.mono (B := kf_w_23_79_10) rfl).tr F0_
        refine h_aload_n (pc' := 76) rfl rfl rfl ?_
        refine h_call (sp := false) (pc' := 79) (M := [(0, .ref 79)]) rfl rfl rfl rfl rfl rfl rfl rfl ?_
        refine w_26_79 _ Is4  (fun s6 Is6 Gs6 => h_Kn ?_)
        have Fs6 := (Gs6.mono (B := kf_w_23_79_10) rfl).tr Fs4
        exact h_vret rfl rfl (kk _ Is6 Fs6)
      · refine h_aload_n (pc' := 19) rfl rfl rfl ?_
        refine h_getR (pc' := 22) rfl rfl rfl rfl rfl ?_
        refine h_iload_n (pc' := 23) rfl rfl rfl ?_
        refine h_iconst (pc' := 24) (x := (Int32.ofInt 0)) rfl rfl rfl ?_
        refine h_iast (pc' := 25) rfl rfl rfl rfl hy2 (by omega) (by omega) ci_0 (h_fg _ (in_81 I0 (h_rgv ci_0)) (F0_.up rfl) (fun s7 Is7 Fs7 => ?_))
        refine h_iconst (pc' := 26) (x := (Int32.ofInt 0)) rfl rfl rfl ?_
        refine h_istore_n (pc' := 27) (M := [(3, .int (Int32.ofInt 0)), (0, .ref 79), (1, .ref 10), (2, .int y2)]) rfl rfl rfl rfl ?_
        exact h_wk [(0, .ref 79), (1, .ref 10), (2, .int y2), (3, .int (Int32.ofInt 0))] ⟨rfl, rfl, rfl, rfl, trivial⟩ (ih.2 _ Is7 Fs7 y2 _ hy2 (by omega) (Int32.ofInt 0) _ ci_0 (by omega) (by omega))
    · intro s0 I0 F0_ y2 b2 hy2 ry2 y3 b3 hy3 ry3 hm
      refine h_iload_n (pc' := 28) rfl rfl rfl ?_
      refine h_aload_n (pc' := 29) rfl rfl rfl ?_
      refine h_getI (pc' := 32) (v := s0 79 2) rfl rfl rfl rfl rfl rfl (fun z1 hz1 => ?_)
      have tz1 := tf_79_2 I0
      refine h_cge (tg := 64) (pc' := 35) rfl rfl rfl hy3 hz1 (fun c2 => ?_) (fun c2 => ?_)
      · refine h_iinc (pc' := 67) (M := fun z3 => [(2, .int z3), (0, .ref 79), (1, .ref 10), (3, .int y3)]) rfl rfl rfl rfl hy2 ci_1 rfl (by omega) (by omega) (fun _ => rfl) (fun z3 hz3 => ?_)
        refine h_goto (pc' := 10) rfl rfl ?_
        exact h_wk [(0, .ref 79), (1, .ref 10), (2, .int z3)] ⟨rfl, rfl, rfl, trivial⟩ (ih.1 _ I0 F0_ z3 _ hz3 (by omega) (by omega))
      · refine h_aload_n (pc' := 36) rfl rfl rfl ?_
        refine h_getR (pc' := 39) rfl rfl rfl rfl rfl ?_
        refine h_iload_n (pc' := 40) rfl rfl rfl ?_
        refine h_bipush (pc' := 42) (x := (Int32.ofInt 6)) rfl rfl cb_6 ?_
        refine h_imul (pc' := 43) rfl rfl hy2 ci_6 rfl (by omega) (by omega) (fun z4 hz4 => ?_)
        refine h_iload_n (pc' := 44) rfl rfl rfl ?_
        refine h_iadd (pc' := 45) rfl rfl hz4 hy3 rfl (by omega) (by omega) (fun z5 hz5 => ?_)
        refine h_iload_n (pc' := 46) rfl rfl rfl ?_
        refine h_iload_n (pc' := 47) rfl rfl rfl ?_
        refine h_cne (tg := 54) (pc' := 50) rfl rfl rfl hy2 hy3 (fun c6 => ?_) (fun c6 => ?_)
        · refine h_sipush (pc' := 57) (x := (Int32.ofInt 1000)) rfl rfl cs_1000 ?_
          refine h_iast (pc' := 58) rfl rfl rfl rfl hz5 (by omega) (by omega) ci_1000 (h_fg _ (in_80 I0 (by omega)) (F0_.up rfl) (fun s7 Is7 Fs7 => ?_))
          refine h_iinc (pc' := 61) (M := fun z8 => [(3, .int z8), (0, .ref 79), (1, .ref 10), (2, .int y2)]) rfl rfl rfl rfl hy3 ci_1 rfl (by omega) (by omega) (fun _ => rfl) (fun z8 hz8 => ?_)
          refine h_goto (pc' := 27) rfl rfl ?_
          exact h_wk [(0, .ref 79), (1, .ref 10), (2, .int y2), (3, .int z8)] ⟨rfl, rfl, rfl, rfl, trivial⟩ (ih.2 _ Is7 Fs7 y2 _ hy2 (by omega) z8 _ hz8 (by omega) (by omega))
        · refine h_iconst (pc' := 51) (x := (Int32.ofInt 0)) rfl rfl rfl ?_
          refine h_goto (pc' := 57) rfl rfl ?_
          refine h_iast (pc' := 58) rfl rfl rfl rfl hz5 (by omega) (by omega) ci_0 (h_fg _ (in_80 I0 (by omega)) (F0_.up rfl) (fun s9 Is9 Fs9 => ?_))
          refine h_iinc (pc' := 61) (M := fun z10 => [(3, .int z10), (0, .ref 79), (1, .ref 10), (2, .int y2)]) rfl rfl rfl rfl hy3 ci_1 rfl (by omega) (by omega) (fun _ => rfl) (fun z10 hz10 => ?_)
          refine h_goto (pc' := 27) rfl rfl ?_
          exact h_wk [(0, .ref 79), (1, .ref 10), (2, .int y2), (3, .int z10)] ⟨rfl, rfl, rfl, rfl, trivial⟩ (ih.2 _ Is9 Fs9 y2 _ hy2 (by omega) z10 _ hz10 (by omega) (by omega))
theorem w_23_79_10 {ns : Nat} (σ : h_S) (hI : h_I σ) {Q : Option Value → h_S → Prop} (kk : ∀ (τ : h_S), h_I τ → h_F (k_in kf_w_23_79_10) τ σ → Q none τ) : h_T g_P (g_Y ns) 23 0 [(0, .ref 79), (1, .ref 10)] [] σ Q := by
  have F00 : h_F (k_in kf_w_23_79_10) σ σ := h_F.rf
  refine h_aload_n (pc' := 1) rfl rfl rfl ?_
  refine h_aload_n (pc' := 2) rfl rfl rfl ?_
  refine h_getI (pc' := 5) (v := σ 10 8) rfl rfl rfl rfl rfl rfl (fun z1 hz1 => ?_)
  have tz1 := tf_10_8 hI
  refine h_put (pc' := 8) rfl rfl rfl rfl rfl rfl hz1 rfl (h_fg _ (if_79_2 hI (by omega)) (F00.up rfl) (fun s2 Is2 Fs2 => ?_))
  refine h_iconst (pc' := 9) (x := (Int32.ofInt 0)) rfl rfl rfl ?_
  refine h_istore_n (pc' := 10) (M := [(2, .int (Int32.ofInt 0)), (0, .ref 79), (1, .ref 10)]) rfl rfl rfl rfl ?_
  exact h_wk [(0, .ref 79), (1, .ref 10), (2, .int (Int32.ofInt 0))] ⟨rfl, rfl, rfl, trivial⟩ ((w_23_79_10_l ns σ hI  kk 1000000000000).1 _ Is2 Fs2 (Int32.ofInt 0) _ ci_0 (by omega) (by omega))
def kf_w_23_79_23 : List Nat := [80898, 82943, 83967]
theorem w_23_79_23_l (ns : Nat) (σ : h_S) (hI : h_I σ) {Q : Option Value → h_S → Prop} (kk : ∀ (τ : h_S), h_I τ → h_F (k_in kf_w_23_79_23) τ σ → Q none τ) : ∀ n : Nat, (∀ (s0 : h_S), h_I s0 → h_F (k_in kf_w_23_79_23) s0 σ → ∀ (y2 : Int32) (b2 : Int), y2.toInt = b2 → (0 ≤ b2 ∧ b2 ≤ 6) → (6 + 1 - b2) * 1000000 + 1000000000 ≤ (n : Int) → h_T g_P (g_Y ns) 23 10 [(0, .ref 79), (1, .ref 23), (2, .int y2)] [] s0 Q) ∧ (∀ (s0 : h_S), h_I s0 → h_F (k_in kf_w_23_79_23) s0 σ → ∀ (y2 : Int32) (b2 : Int), y2.toInt = b2 → (0 ≤ b2 ∧ b2 ≤ 5) → ∀ (y3 : Int32) (b3 : Int), y3.toInt = b3 → (0 ≤ b3 ∧ b3 ≤ 6) → ((6 + 1 - b2) - 1) * 1000000 + 1000000000 + (6 + 1 - b3) * 1000 + 100000 ≤ (n : Int) → h_T g_P (g_Y ns) 23 27 [(0, .ref 79), (1, .ref 23), (2, .int y2), (3, .int y3)] [] s0 Q) := by
  intro n
  induction n with
  | zero => exact ⟨by intro s0 I0 F0_ y2 b2 hy2 ry2 hm; exfalso; omega, by intro s0 I0 F0_ y2 b2 hy2 ry2 y3 b3 hy3 ry3 hm; exfalso; omega⟩
  | succ n ih =>
    refine ⟨?_, ?_⟩
    · intro s0 I0 F0_ y2 b2 hy2 ry2 hm
      refine h_iload_n (pc' := 11) rfl rfl rfl ?_
      refine h_aload_n (pc' := 12) rfl rfl rfl ?_
      refine h_getI (pc' := 15) (v := s0 79 2) rfl rfl rfl rfl rfl rfl (fun z1 hz1 => ?_)
      have tz1 := tf_79_2 I0
      refine h_cge (tg := 70) (pc' := 18) rfl rfl rfl hy2 hz1 (fun c2 => ?_) (fun c2 => ?_)
      · refine h_aload_n (pc' := 71) rfl rfl rfl ?_
        refine h_aload_n (pc' := 72) rfl rfl rfl ?_
        refine h_call (sp := false) (pc' := 75) (M := [(0, .ref 79), (1, .ref 23)]) rfl rfl rfl rfl rfl rfl rfl rfl ?_
        refine w_24_79_23 _ I0  (fun s4 Is4 Gs4 => h_Kn ?_)
        have Fs4 := (Gs4.mono (B := kf_w_23_79_23) rfl).tr F0_
        refine h_aload_n (pc' := 76) rfl rfl rfl ?_
        refine h_call (sp := false) (pc' := 79) (M := [(0, .ref 79)]) rfl rfl rfl rfl rfl rfl rfl rfl ?_
        refine w_26_79 _ Is4  (fun s6 Is6 Gs6 => h_Kn ?_)
        have Fs6 := (Gs6.mono (B := kf_w_23_79_23) rfl).tr Fs4
        exact h_vret rfl rfl (kk _ Is6 Fs6)
      · refine h_aload_n (pc' := 19) rfl rfl rfl ?_
        refine h_getR (pc' := 22) rfl rfl rfl rfl rfl ?_
        refine h_iload_n (pc' := 23) rfl rfl rfl ?_
        refine h_iconst (pc' := 24) (x := (Int32.ofInt 0)) rfl rfl rfl ?_
        refine h_iast (pc' := 25) rfl rfl rfl rfl hy2 (by omega) (by omega) ci_0 (h_fg _ (in_81 I0 (h_rgv ci_0)) (F0_.up rfl) (fun s7 Is7 Fs7 => ?_))
        refine h_iconst (pc' := 26) (x := (Int32.ofInt 0)) rfl rfl rfl ?_
        refine h_istore_n (pc' := 27) (M := [(3, .int (Int32.ofInt 0)), (0, .ref 79), (1, .ref 23), (2, .int y2)]) rfl rfl rfl rfl ?_
        exact h_wk [(0, .ref 79), (1, .ref 23), (2, .int y2), (3, .int (Int32.ofInt 0))] ⟨rfl, rfl, rfl, rfl, trivial⟩ (ih.2 _ Is7 Fs7 y2 _ hy2 (by omega) (Int32.ofInt 0) _ ci_0 (by omega) (by omega))
    · intro s0 I0 F0_ y2 b2 hy2 ry2 y3 b3 hy3 ry3 hm
      refine h_iload_n (pc' := 28) rfl rfl rfl ?_
      refine h_aload_n (pc' := 29) rfl rfl rfl ?_
      refine h_getI (pc' := 32) (v := s0 79 2) rfl rfl rfl rfl rfl rfl (fun z1 hz1 => ?_)
      have tz1 := tf_79_2 I0
      refine h_cge (tg := 64) (pc' := 35) rfl rfl rfl hy3 hz1 (fun c2 => ?_) (fun c2 => ?_)
      · refine h_iinc (pc' := 67) (M := fun z3 => [(2, .int z3), (0, .ref 79), (1, .ref 23), (3, .int y3)]) rfl rfl rfl rfl hy2 ci_1 rfl (by omega) (by omega) (fun _ => rfl) (fun z3 hz3 => ?_)
        refine h_goto (pc' := 10) rfl rfl ?_
        exact h_wk [(0, .ref 79), (1, .ref 23), (2, .int z3)] ⟨rfl, rfl, rfl, trivial⟩ (ih.1 _ I0 F0_ z3 _ hz3 (by omega) (by omega))
      · refine h_aload_n (pc' := 36) rfl rfl rfl ?_
        refine h_getR (pc' := 39) rfl rfl rfl rfl rfl ?_
        refine h_iload_n (pc' := 40) rfl rfl rfl ?_
        refine h_bipush (pc' := 42) (x := (Int32.ofInt 6)) rfl rfl cb_6 ?_
        refine h_imul (pc' := 43) rfl rfl hy2 ci_6 rfl (by omega) (by omega) (fun z4 hz4 => ?_)
        refine h_iload_n (pc' := 44) rfl rfl rfl ?_
        refine h_iadd (pc' := 45) rfl rfl hz4 hy3 rfl (by omega) (by omega) (fun z5 hz5 => ?_)
        refine h_iload_n (pc' := 46) rfl rfl rfl ?_
        refine h_iload_n (pc' := 47) rfl rfl rfl ?_
        refine h_cne (tg := 54) (pc' := 50) rfl rfl rfl hy2 hy3 (fun c6 => ?_) (fun c6 => ?_)
        · refine h_sipush (pc' := 57) (x := (Int32.ofInt 1000)) rfl rfl cs_1000 ?_
          refine h_iast (pc' := 58) rfl rfl rfl rfl hz5 (by omega) (by omega) ci_1000 (h_fg _ (in_80 I0 (by omega)) (F0_.up rfl) (fun s7 Is7 Fs7 => ?_))
          refine h_iinc (pc' := 61) (M := fun z8 => [(3, .int z8), (0, .ref 79), (1, .ref 23), (2, .int y2)]) rfl rfl rfl rfl hy3 ci_1 rfl (by omega) (by omega) (fun _ => rfl) (fun z8 hz8 => ?_)
          refine h_goto (pc' := 27) rfl rfl ?_
          exact h_wk [(0, .ref 79), (1, .ref 23), (2, .int y2), (3, .int z8)] ⟨rfl, rfl, rfl, rfl, trivial⟩ (ih.2 _ Is7 Fs7 y2 _ hy2 (by omega) z8 _ hz8 (by omega) (by omega))
        · refine h_iconst (pc' := 51) (x := (Int32.ofInt 0)) rfl rfl rfl ?_
          refine h_goto (pc' := 57) rfl rfl ?_
          refine h_iast (pc' := 58) rfl rfl rfl rfl hz5 (by omega) (by omega) ci_0 (h_fg _ (in_80 I0 (by omega)) (F0_.up rfl) (fun s9 Is9 Fs9 => ?_))
          refine h_iinc (pc' := 61) (M := fun z10 => [(3, .int z10), (0, .ref 79), (1, .ref 23), (2, .int y2)]) rfl rfl rfl rfl hy3 ci_1 rfl (by omega) (by omega) (fun _ => rfl) (fun z10 hz10 => ?_)
          refine h_goto (pc' := 27) rfl rfl ?_
          exact h_wk [(0, .ref 79), (1, .ref 23), (2, .int y2), (3, .int z10)] ⟨rfl, rfl, rfl, rfl, trivial⟩ (ih.2 _ Is9 Fs9 y2 _ hy2 (by omega) z10 _ hz10 (by omega) (by omega))
theorem w_23_79_23 {ns : Nat} (σ : h_S) (hI : h_I σ) {Q : Option Value → h_S → Prop} (kk : ∀ (τ : h_S), h_I τ → h_F (k_in kf_w_23_79_23) τ σ → Q none τ) : h_T g_P (g_Y ns) 23 0 [(0, .ref 79), (1, .ref 23)] [] σ Q := by
  have F00 : h_F (k_in kf_w_23_79_23) σ σ := h_F.rf
  refine h_aload_n (pc' := 1) rfl rfl rfl ?_
  refine h_aload_n (pc' := 2) rfl rfl rfl ?_
  refine h_getI (pc' := 5) (v := σ 23 8) rfl rfl rfl rfl rfl rfl (fun z1 hz1 => ?_)
  have tz1 := tf_23_8 hI
  refine h_put (pc' := 8) rfl rfl rfl rfl rfl rfl hz1 rfl (h_fg _ (if_79_2 hI (by omega)) (F00.up rfl) (fun s2 Is2 Fs2 => ?_))
  refine h_iconst (pc' := 9) (x := (Int32.ofInt 0)) rfl rfl rfl ?_
  refine h_istore_n (pc' := 10) (M := [(2, .int (Int32.ofInt 0)), (0, .ref 79), (1, .ref 23)]) rfl rfl rfl rfl ?_
  exact h_wk [(0, .ref 79), (1, .ref 23), (2, .int (Int32.ofInt 0))] ⟨rfl, rfl, rfl, trivial⟩ ((w_23_79_23_l ns σ hI  kk 1000000000000).1 _ Is2 Fs2 (Int32.ofInt 0) _ ci_0 (by omega) (by omega))
def kf_w_30_79 : List Nat := []
theorem w_30_79_l (ns : Nat) (σ : h_S) (hI : h_I σ) (x0 : Int32) (a0 : Int) (hx0 : x0.toInt = a0) (ra0 : 0 ≤ a0 ∧ a0 ≤ 5) (x1 : Int32) (a1 : Int) (hx1 : x1.toInt = a1) {Q : Option Value → h_S → Prop} (kk : ∀ (r : Int32) (b : Int) (hb : r.toInt = b) (τ : h_S), h_I τ → h_F (k_in kf_w_30_79) τ σ → Q (some (.int r)) τ) : ∀ n : Nat, (∀ (s0 : h_S), h_I s0 → h_F (k_in kf_w_30_79) s0 σ → ∀ (y3 : Int32) (b3 : Int), y3.toInt = b3 → ∀ (y4 : Int32) (b4 : Int), y4.toInt = b4 → (0 ≤ b4 ∧ b4 ≤ 6) → (6 + 1 - b4) * 1000000 + 1000000000 ≤ (n : Int) → h_T g_P (g_Y ns) 30 5 [(0, .ref 79), (1, .int x0), (2, .int x1), (3, .int y3), (4, .int y4)] [] s0 Q) := by
  intro n
  induction n with
  | zero => exact by intro s0 I0 F0_ y3 b3 hy3 y4 b4 hy4 ry4 hm; exfalso; omega
  | succ n ih =>
    intro s0 I0 F0_ y3 b3 hy3 y4 b4 hy4 ry4 hm
    refine h_iload (pc' := 7) rfl rfl rfl ?_
    refine h_aload_n (pc' := 8) rfl rfl rfl ?_
    refine h_getI (pc' := 11) (v := σ 79 2) rfl rfl rfl rfl rfl (F0_ 79 2 rfl) (fun z1 hz1 => ?_)
    have tz1 := tf_79_2 hI
    refine h_cge (tg := 43) (pc' := 14) rfl rfl rfl hy4 hz1 (fun c2 => ?_) (fun c2 => ?_)
    · refine h_iload_n (pc' := 44) rfl rfl rfl ?_
      exact h_iret rfl rfl (kk _ _ hy3 _ I0 F0_)
    · refine h_aload_n (pc' := 15) rfl rfl rfl ?_
      refine h_getR (pc' := 18) rfl rfl rfl rfl rfl ?_
      refine h_iload_n (pc' := 19) rfl rfl rfl ?_
      refine h_bipush (pc' := 21) (x := (Int32.ofInt 6)) rfl rfl cb_6 ?_
      refine h_imul (pc' := 22) rfl rfl hx0 ci_6 rfl (by omega) (by omega) (fun z3 hz3 => ?_)
      refine h_iload (pc' := 24) rfl rfl rfl ?_
      refine h_iadd (pc' := 25) rfl rfl hz3 hy4 rfl (by omega) (by omega) (fun z4 hz4 => ?_)
      refine h_iald (pc' := 26) (v := σ 80 ((a0 * 6) + b4)) rfl rfl rfl hz4 (by omega) (by omega) (F0_ 80 _ rfl) (fun z5 hz5 => ?_)
      have tz5 := ty_80 hI ((a0 * 6) + b4)
      refine h_iload_n (pc' := 27) rfl rfl rfl ?_
      refine h_cgt (tg := 37) (pc' := 30) rfl rfl rfl hz5 hx1 (fun c6 => ?_) (fun c6 => ?_)
      · refine h_iinc (pc' := 40) (M := fun z7 => [(4, .int z7), (0, .ref 79), (1, .int x0), (2, .int x1), (3, .int y3)]) rfl rfl rfl rfl hy4 ci_1 rfl (by omega) (by omega) (fun _ => rfl) (fun z7 hz7 => ?_)
        refine h_goto (pc' := 5) rfl rfl ?_
        exact h_wk [(0, .ref 79), (1, .int x0), (2, .int x1), (3, .int y3), (4, .int z7)] ⟨rfl, rfl, rfl, rfl, rfl, trivial⟩ (ih _ I0 F0_ y3 _ hy3 z7 _ hz7 (by omega) (by omega))
      · refine h_iload_n (pc' := 31) rfl rfl rfl ?_
        refine h_iconst (pc' := 32) (x := (Int32.ofInt 1)) rfl rfl rfl ?_
        refine h_iload (pc' := 34) rfl rfl rfl ?_
        refine h_shl1 (pc' := 35) rfl rfl ci_1 hy4 (by omega) (by omega) (fun z8 hz8 vz8 => ?_)
        refine h_ior (pc' := 36) rfl rfl (fun z9 hz9 => ?_)
        refine h_istore_n (pc' := 37) (M := [(3, .int z9), (0, .ref 79), (1, .int x0), (2, .int x1), (4, .int y4)]) rfl rfl rfl rfl ?_
        refine h_iinc (pc' := 40) (M := fun z10 => [(4, .int z10), (3, .int z9), (0, .ref 79), (1, .int x0), (2, .int x1)]) rfl rfl rfl rfl hy4 ci_1 rfl (by omega) (by omega) (fun _ => rfl) (fun z10 hz10 => ?_)
        refine h_goto (pc' := 5) rfl rfl ?_
        exact h_wk [(0, .ref 79), (1, .int x0), (2, .int x1), (3, .int z9), (4, .int z10)] ⟨rfl, rfl, rfl, rfl, rfl, trivial⟩ (ih _ I0 F0_ z9 _ rfl z10 _ hz10 (by omega) (by omega))
theorem w_30_79 {ns : Nat} (σ : h_S) (hI : h_I σ) (x0 : Int32) (a0 : Int) (hx0 : x0.toInt = a0) (ra0 : 0 ≤ a0 ∧ a0 ≤ 5) (x1 : Int32) (a1 : Int) (hx1 : x1.toInt = a1) {Q : Option Value → h_S → Prop} (kk : ∀ (r : Int32) (b : Int) (hb : r.toInt = b) (τ : h_S), h_I τ → h_F (k_in kf_w_30_79) τ σ → Q (some (.int r)) τ) : h_T g_P (g_Y ns) 30 0 [(0, .ref 79), (1, .int x0), (2, .int x1)] [] σ Q := by
  have F00 : h_F (k_in kf_w_30_79) σ σ := h_F.rf
  refine h_iconst (pc' := 1) (x := (Int32.ofInt 0)) rfl rfl rfl ?_
  refine h_istore_n (pc' := 2) (M := [(3, .int (Int32.ofInt 0)), (0, .ref 79), (1, .int x0), (2, .int x1)]) rfl rfl rfl rfl ?_
  refine h_iconst (pc' := 3) (x := (Int32.ofInt 0)) rfl rfl rfl ?_
  refine h_istore (pc' := 5) (M := [(4, .int (Int32.ofInt 0)), (3, .int (Int32.ofInt 0)), (0, .ref 79), (1, .int x0), (2, .int x1)]) rfl rfl rfl rfl ?_
  exact h_wk [(0, .ref 79), (1, .int x0), (2, .int x1), (3, .int (Int32.ofInt 0)), (4, .int (Int32.ofInt 0))] ⟨rfl, rfl, rfl, rfl, rfl, trivial⟩ ((w_30_79_l ns σ hI x0 a0 hx0 ra0 x1 a1 hx1 kk 1000000000000) _ hI F00 (Int32.ofInt 0) _ ci_0 (Int32.ofInt 0) _ ci_0 (by omega) (by omega))
def kf_w_29_79 : List Nat := []
theorem w_29_79 {ns : Nat} (σ : h_S) (hI : h_I σ) (x0 : Int32) (a0 : Int) (hx0 : x0.toInt = a0) (x1 : Int32) (a1 : Int) (hx1 : x1.toInt = a1) {Q : Option Value → h_S → Prop} (kk : ∀ (r : Int32) (b : Int) (hb : r.toInt = b) (τ : h_S), h_I τ → h_F (k_in kf_w_29_79) τ σ → Q (some (.int r)) τ) : h_T g_P (g_Y ns) 29 0 [(0, .ref 79), (1, .int x0), (2, .int x1)] [] σ Q := by
  have F00 : h_F (k_in kf_w_29_79) σ σ := h_F.rf
  refine h_iload_n (pc' := 1) rfl rfl rfl ?_
  refine h_zlt (tg := 12) (pc' := 4) rfl rfl rfl hx0 (fun c1 => ?_) (fun c1 => ?_)
  · refine h_iconst (pc' := 13) (x := (Int32.ofInt 1)) rfl rfl rfl ?_
    refine h_aload_n (pc' := 14) rfl rfl rfl ?_
    refine h_getI (pc' := 17) (v := σ 79 2) rfl rfl rfl rfl rfl rfl (fun z2 hz2 => ?_)
    have tz2 := tf_79_2 hI
    refine h_shl1 (pc' := 18) rfl rfl ci_1 hz2 (by omega) (by omega) (fun z3 hz3 vz3 => ?_)
    refine h_iconst (pc' := 19) (x := (Int32.ofInt 1)) rfl rfl rfl ?_
    refine h_isub (pc' := 20) rfl rfl rfl ci_1 rfl (by omega) (by omega) (fun z4 hz4 => ?_)
    exact h_iret rfl rfl (kk _ _ hz4 _ hI F00)
  · refine h_iload_n (pc' := 5) rfl rfl rfl ?_
    refine h_aload_n (pc' := 6) rfl rfl rfl ?_
    refine h_getI (pc' := 9) (v := σ 79 2) rfl rfl rfl rfl rfl rfl (fun z5 hz5 => ?_)
    have tz5 := tf_79_2 hI
    refine h_clt (tg := 21) (pc' := 12) rfl rfl rfl hx0 hz5 (fun c6 => ?_) (fun c6 => ?_)
    · refine h_aload_n (pc' := 22) rfl rfl rfl ?_
      refine h_iload_n (pc' := 23) rfl rfl rfl ?_
      refine h_iload_n (pc' := 24) rfl rfl rfl ?_
      refine h_call (sp := false) (pc' := 27) (M := [(0, .ref 79), (1, .int x0), (2, .int x1)]) rfl rfl rfl rfl rfl rfl rfl rfl ?_
      refine w_30_79 _ hI x0 _ hx0 (by omega) x1 _ hx1 (fun r7 br7 hr7 s8 Is8 Gs8 => h_Kv ?_)
      have Fs8 := (Gs8.mono (B := kf_w_29_79) rfl).tr F00
      refine h_aload_n (pc' := 28) rfl rfl rfl ?_
      refine h_getR (pc' := 31) rfl rfl rfl rfl rfl ?_
      refine h_iload_n (pc' := 32) rfl rfl rfl ?_
      refine h_iald (pc' := 33) (v := σ 81 a0) rfl rfl rfl hx0 (by omega) (by omega) (Fs8 81 _ rfl) (fun z9 hz9 => ?_)
      have tz9 := ty_81 hI a0
      refine h_iconst (pc' := 34) (x := (Int32.ofInt (-1))) rfl rfl rfl ?_
      refine h_ixor (pc' := 35) rfl rfl (fun z10 hz10 => ?_)
      refine h_iand (pc' := 36) rfl rfl (fun z11 hz11 uz11 vz11 => ?_)
      clear uz11
      clear vz11
      exact h_iret rfl rfl (kk _ _ rfl _ Is8 Fs8)
    · refine h_iconst (pc' := 13) (x := (Int32.ofInt 1)) rfl rfl rfl ?_
      refine h_aload_n (pc' := 14) rfl rfl rfl ?_
      refine h_getI (pc' := 17) (v := σ 79 2) rfl rfl rfl rfl rfl rfl (fun z12 hz12 => ?_)
      have tz12 := tf_79_2 hI
      refine h_shl1 (pc' := 18) rfl rfl ci_1 hz12 (by omega) (by omega) (fun z13 hz13 vz13 => ?_)
      refine h_iconst (pc' := 19) (x := (Int32.ofInt 1)) rfl rfl rfl ?_
      refine h_isub (pc' := 20) rfl rfl rfl ci_1 rfl (by omega) (by omega) (fun z14 hz14 => ?_)
      exact h_iret rfl rfl (kk _ _ hz14 _ hI F00)
def kf_w_18_82_10_79 : List Nat := [86015]
theorem w_18_82_10_79_l (ns : Nat) (σ : h_S) (hI : h_I σ) {Q : Option Value → h_S → Prop} (kk : ∀ (τ : h_S), h_I τ → h_F (k_in kf_w_18_82_10_79) τ σ → Q none τ) : ∀ n : Nat, (∀ (s0 : h_S), h_I s0 → h_F (k_in kf_w_18_82_10_79) s0 σ → ∀ (y3 : Int32) (b3 : Int), y3.toInt = b3 → (0 ≤ b3 ∧ b3 ≤ 3) → (3 + 1 - b3) * 1000000 + 1000000000 ≤ (n : Int) → h_T g_P (g_Y ns) 18 2 [(0, .ref 82), (1, .ref 10), (2, .ref 79), (3, .int y3)] [] s0 Q) ∧ (∀ (s0 : h_S), h_I s0 → h_F (k_in kf_w_18_82_10_79) s0 σ → ∀ (y3 : Int32) (b3 : Int), y3.toInt = b3 → (0 ≤ b3 ∧ b3 ≤ 2) → ∀ (y4 : Int32) (b4 : Int), y4.toInt = b4 → (0 ≤ b4 ∧ b4 ≤ 7) → ((3 + 1 - b3) - 1) * 1000000 + 1000000000 + (7 + 1 - b4) * 1000 + 100000 ≤ (n : Int) → h_T g_P (g_Y ns) 18 13 [(0, .ref 82), (1, .ref 10), (2, .ref 79), (3, .int y3), (4, .int y4)] [] s0 Q) := by
  intro n
  induction n with
  | zero => exact ⟨by intro s0 I0 F0_ y3 b3 hy3 ry3 hm; exfalso; omega, by intro s0 I0 F0_ y3 b3 hy3 ry3 y4 b4 hy4 ry4 hm; exfalso; omega⟩
  | succ n ih =>
    refine ⟨?_, ?_⟩
    · intro s0 I0 F0_ y3 b3 hy3 ry3 hm
      refine h_iload_n (pc' := 3) rfl rfl rfl ?_
      refine h_aload_n (pc' := 4) rfl rfl rfl ?_
      refine h_getI (pc' := 7) (v := σ 10 9) rfl rfl rfl rfl rfl (F0_ 10 9 rfl) (fun z1 hz1 => ?_)
      have tz1 := tf_10_9 hI
      refine h_cge (tg := 56) (pc' := 10) rfl rfl rfl hy3 hz1 (fun c2 => ?_) (fun c2 => ?_)
      · exact h_vret rfl rfl (kk _ I0 F0_)
      · refine h_iconst (pc' := 11) (x := (Int32.ofInt 0)) rfl rfl rfl ?_
        refine h_istore (pc' := 13) (M := [(4, .int (Int32.ofInt 0)), (0, .ref 82), (1, .ref 10), (2, .ref 79), (3, .int y3)]) rfl rfl rfl rfl ?_
        exact h_wk [(0, .ref 82), (1, .ref 10), (2, .ref 79), (3, .int y3), (4, .int (Int32.ofInt 0))] ⟨rfl, rfl, rfl, rfl, rfl, trivial⟩ (ih.2 _ I0 F0_ y3 _ hy3 (by omega) (Int32.ofInt 0) _ ci_0 (by omega) (by omega))
    · intro s0 I0 F0_ y3 b3 hy3 ry3 y4 b4 hy4 ry4 hm
      refine h_iload (pc' := 15) rfl rfl rfl ?_
      refine h_bipush (pc' := 17) (x := (Int32.ofInt 6)) rfl rfl cb_6 ?_
      refine h_cgt (tg := 50) (pc' := 20) rfl rfl rfl hy4 ci_6 (fun c1 => ?_) (fun c1 => ?_)
      · refine h_iinc (pc' := 53) (M := fun z2 => [(3, .int z2), (0, .ref 82), (1, .ref 10), (2, .ref 79), (4, .int y4)]) rfl rfl rfl rfl hy3 ci_1 rfl (by omega) (by omega) (fun _ => rfl) (fun z2 hz2 => ?_)
        refine h_goto (pc' := 2) rfl rfl ?_
        exact h_wk [(0, .ref 82), (1, .ref 10), (2, .ref 79), (3, .int z2)] ⟨rfl, rfl, rfl, rfl, trivial⟩ (ih.1 _ I0 F0_ z2 _ hz2 (by omega) (by omega))
      · refine h_aload_n (pc' := 21) rfl rfl rfl ?_
        refine h_getR (pc' := 24) rfl rfl rfl rfl rfl ?_
        refine h_iload_n (pc' := 25) rfl rfl rfl ?_
        refine h_bipush (pc' := 27) (x := (Int32.ofInt 7)) rfl rfl cb_7 ?_
        refine h_imul (pc' := 28) rfl rfl hy3 ci_7 rfl (by omega) (by omega) (fun z3 hz3 => ?_)
        refine h_iload (pc' := 30) rfl rfl rfl ?_
        refine h_iadd (pc' := 31) rfl rfl hz3 hy4 rfl (by omega) (by omega) (fun z4 hz4 => ?_)
        refine h_aload_n (pc' := 32) rfl rfl rfl ?_
        refine h_iload (pc' := 34) rfl rfl rfl ?_
        refine h_aload_n (pc' := 35) rfl rfl rfl ?_
        refine h_getR (pc' := 38) rfl rfl rfl rfl rfl ?_
        refine h_iload_n (pc' := 39) rfl rfl rfl ?_
        refine h_iald (pc' := 40) (v := σ 19 b3) rfl rfl rfl hy3 (by omega) (by omega) (F0_ 19 _ rfl) (fun z5 hz5 => ?_)
        have tz5 := ty_19 hI b3
        refine h_call (sp := false) (pc' := 43) (M := [(0, .ref 79), (1, .int y4), (2, .int z5)]) rfl rfl rfl rfl rfl rfl rfl rfl ?_
        refine w_29_79 _ I0 y4 _ hy4 z5 _ hz5 (fun r6 br6 hr6 s7 Is7 Gs7 => h_Kv ?_)
        have Fs7 := (Gs7.mono (B := kf_w_18_82_10_79) rfl).tr F0_
        refine h_iast (pc' := 44) rfl rfl rfl rfl hz4 (by omega) (by omega) hr6 (h_fg _ (in_83 Is7 (h_rgv hr6)) (Fs7.up rfl) (fun s8 Is8 Fs8 => ?_))
        refine h_iinc (pc' := 47) (M := fun z9 => [(4, .int z9), (0, .ref 82), (1, .ref 10), (2, .ref 79), (3, .int y3)]) rfl rfl rfl rfl hy4 ci_1 rfl (by omega) (by omega) (fun _ => rfl) (fun z9 hz9 => ?_)
        refine h_goto (pc' := 13) rfl rfl ?_
        exact h_wk [(0, .ref 82), (1, .ref 10), (2, .ref 79), (3, .int y3), (4, .int z9)] ⟨rfl, rfl, rfl, rfl, rfl, trivial⟩ (ih.2 _ Is8 Fs8 y3 _ hy3 (by omega) z9 _ hz9 (by omega) (by omega))
theorem w_18_82_10_79 {ns : Nat} (σ : h_S) (hI : h_I σ) {Q : Option Value → h_S → Prop} (kk : ∀ (τ : h_S), h_I τ → h_F (k_in kf_w_18_82_10_79) τ σ → Q none τ) : h_T g_P (g_Y ns) 18 0 [(0, .ref 82), (1, .ref 10), (2, .ref 79)] [] σ Q := by
  have F00 : h_F (k_in kf_w_18_82_10_79) σ σ := h_F.rf
  refine h_iconst (pc' := 1) (x := (Int32.ofInt 0)) rfl rfl rfl ?_
  refine h_istore_n (pc' := 2) (M := [(3, .int (Int32.ofInt 0)), (0, .ref 82), (1, .ref 10), (2, .ref 79)]) rfl rfl rfl rfl ?_
  exact h_wk [(0, .ref 82), (1, .ref 10), (2, .ref 79), (3, .int (Int32.ofInt 0))] ⟨rfl, rfl, rfl, rfl, trivial⟩ ((w_18_82_10_79_l ns σ hI  kk 1000000000000).1 _ hI F00 (Int32.ofInt 0) _ ci_0 (by omega) (by omega))
def kf_w_19_82_10 : List Nat := [83970, 87039]
theorem w_19_82_10_l (ns : Nat) (σ : h_S) (hI : h_I σ) {Q : Option Value → h_S → Prop} (kk : ∀ (τ : h_S), h_I τ → h_F (k_in kf_w_19_82_10) τ σ → Q none τ) : ∀ n : Nat, (∀ (s0 : h_S), h_I s0 → h_F (k_in kf_w_19_82_10) s0 σ → ∀ (y2 : Int32) (b2 : Int), y2.toInt = b2 → (0 ≤ b2 ∧ b2 ≤ 3) → (3 + 1 - b2) * 1000000 + 1000000000 ≤ (n : Int) → h_T g_P (g_Y ns) 19 7 [(0, .ref 82), (1, .ref 10), (2, .int y2)] [] s0 Q) := by
  intro n
  induction n with
  | zero => exact by intro s0 I0 F0_ y2 b2 hy2 ry2 hm; exfalso; omega
  | succ n ih =>
    intro s0 I0 F0_ y2 b2 hy2 ry2 hm
    refine h_iload_n (pc' := 8) rfl rfl rfl ?_
    refine h_aload_n (pc' := 9) rfl rfl rfl ?_
    refine h_getI (pc' := 12) (v := σ 10 9) rfl rfl rfl rfl rfl (F0_ 10 9 rfl) (fun z1 hz1 => ?_)
    have tz1 := tf_10_9 hI
    refine h_cge (tg := 33) (pc' := 15) rfl rfl rfl hy2 hz1 (fun c2 => ?_) (fun c2 => ?_)
    · exact h_vret rfl rfl (kk _ I0 F0_)
    · refine h_aload_n (pc' := 16) rfl rfl rfl ?_
      refine h_getR (pc' := 19) rfl rfl rfl rfl rfl ?_
      refine h_iload_n (pc' := 20) rfl rfl rfl ?_
      refine h_aload_n (pc' := 21) rfl rfl rfl ?_
      refine h_getR (pc' := 24) rfl rfl rfl rfl rfl ?_
      refine h_iload_n (pc' := 25) rfl rfl rfl ?_
      refine h_iald (pc' := 26) (v := σ 20 b2) rfl rfl rfl hy2 (by omega) (by omega) (F0_ 20 _ rfl) (fun z3 hz3 => ?_)
      have tz3 := ty_20 hI b2
      refine h_iast (pc' := 27) rfl rfl rfl rfl hy2 (by omega) (by omega) hz3 (h_fg _ (in_84 I0 (by omega)) (F0_.up rfl) (fun s4 Is4 Fs4 => ?_))
      refine h_iinc (pc' := 30) (M := fun z5 => [(2, .int z5), (0, .ref 82), (1, .ref 10)]) rfl rfl rfl rfl hy2 ci_1 rfl (by omega) (by omega) (fun _ => rfl) (fun z5 hz5 => ?_)
      refine h_goto (pc' := 7) rfl rfl ?_
      exact h_wk [(0, .ref 82), (1, .ref 10), (2, .int z5)] ⟨rfl, rfl, rfl, trivial⟩ (ih _ Is4 Fs4 z5 _ hz5 (by omega) (by omega))
theorem w_19_82_10 {ns : Nat} (σ : h_S) (hI : h_I σ) {Q : Option Value → h_S → Prop} (kk : ∀ (τ : h_S), h_I τ → h_F (k_in kf_w_19_82_10) τ σ → Q none τ) : h_T g_P (g_Y ns) 19 0 [(0, .ref 82), (1, .ref 10)] [] σ Q := by
  have F00 : h_F (k_in kf_w_19_82_10) σ σ := h_F.rf
  refine h_aload_n (pc' := 1) rfl rfl rfl ?_
  refine h_iconst (pc' := 2) (x := (Int32.ofInt 0)) rfl rfl rfl ?_
  refine h_put (pc' := 5) rfl rfl rfl rfl rfl rfl ci_0 rfl (h_fg _ (if_82_2 hI (h_rgv ci_0)) (F00.up rfl) (fun s1 Is1 Fs1 => ?_))
  refine h_iconst (pc' := 6) (x := (Int32.ofInt 0)) rfl rfl rfl ?_
  refine h_istore_n (pc' := 7) (M := [(2, .int (Int32.ofInt 0)), (0, .ref 82), (1, .ref 10)]) rfl rfl rfl rfl ?_
  exact h_wk [(0, .ref 82), (1, .ref 10), (2, .int (Int32.ofInt 0))] ⟨rfl, rfl, rfl, trivial⟩ ((w_19_82_10_l ns σ hI  kk 1000000000000) _ Is1 Fs1 (Int32.ofInt 0) _ ci_0 (by omega) (by omega))
def kf_w_18_82_23_79 : List Nat := [86015]
theorem w_18_82_23_79_l (ns : Nat) (σ : h_S) (hI : h_I σ) {Q : Option Value → h_S → Prop} (kk : ∀ (τ : h_S), h_I τ → h_F (k_in kf_w_18_82_23_79) τ σ → Q none τ) : ∀ n : Nat, (∀ (s0 : h_S), h_I s0 → h_F (k_in kf_w_18_82_23_79) s0 σ → ∀ (y3 : Int32) (b3 : Int), y3.toInt = b3 → (0 ≤ b3 ∧ b3 ≤ 3) → (3 + 1 - b3) * 1000000 + 1000000000 ≤ (n : Int) → h_T g_P (g_Y ns) 18 2 [(0, .ref 82), (1, .ref 23), (2, .ref 79), (3, .int y3)] [] s0 Q) ∧ (∀ (s0 : h_S), h_I s0 → h_F (k_in kf_w_18_82_23_79) s0 σ → ∀ (y3 : Int32) (b3 : Int), y3.toInt = b3 → (0 ≤ b3 ∧ b3 ≤ 2) → ∀ (y4 : Int32) (b4 : Int), y4.toInt = b4 → (0 ≤ b4 ∧ b4 ≤ 7) → ((3 + 1 - b3) - 1) * 1000000 + 1000000000 + (7 + 1 - b4) * 1000 + 100000 ≤ (n : Int) → h_T g_P (g_Y ns) 18 13 [(0, .ref 82), (1, .ref 23), (2, .ref 79), (3, .int y3), (4, .int y4)] [] s0 Q) := by
  intro n
  induction n with
  | zero => exact ⟨by intro s0 I0 F0_ y3 b3 hy3 ry3 hm; exfalso; omega, by intro s0 I0 F0_ y3 b3 hy3 ry3 y4 b4 hy4 ry4 hm; exfalso; omega⟩
  | succ n ih =>
    refine ⟨?_, ?_⟩
    · intro s0 I0 F0_ y3 b3 hy3 ry3 hm
      refine h_iload_n (pc' := 3) rfl rfl rfl ?_
      refine h_aload_n (pc' := 4) rfl rfl rfl ?_
      refine h_getI (pc' := 7) (v := σ 23 9) rfl rfl rfl rfl rfl (F0_ 23 9 rfl) (fun z1 hz1 => ?_)
      have tz1 := tf_23_9 hI
      refine h_cge (tg := 56) (pc' := 10) rfl rfl rfl hy3 hz1 (fun c2 => ?_) (fun c2 => ?_)
      · exact h_vret rfl rfl (kk _ I0 F0_)
      · refine h_iconst (pc' := 11) (x := (Int32.ofInt 0)) rfl rfl rfl ?_
        refine h_istore (pc' := 13) (M := [(4, .int (Int32.ofInt 0)), (0, .ref 82), (1, .ref 23), (2, .ref 79), (3, .int y3)]) rfl rfl rfl rfl ?_
        exact h_wk [(0, .ref 82), (1, .ref 23), (2, .ref 79), (3, .int y3), (4, .int (Int32.ofInt 0))] ⟨rfl, rfl, rfl, rfl, rfl, trivial⟩ (ih.2 _ I0 F0_ y3 _ hy3 (by omega) (Int32.ofInt 0) _ ci_0 (by omega) (by omega))
    · intro s0 I0 F0_ y3 b3 hy3 ry3 y4 b4 hy4 ry4 hm
      refine h_iload (pc' := 15) rfl rfl rfl ?_
      refine h_bipush (pc' := 17) (x := (Int32.ofInt 6)) rfl rfl cb_6 ?_
      refine h_cgt (tg := 50) (pc' := 20) rfl rfl rfl hy4 ci_6 (fun c1 => ?_) (fun c1 => ?_)
      · refine h_iinc (pc' := 53) (M := fun z2 => [(3, .int z2), (0, .ref 82), (1, .ref 23), (2, .ref 79), (4, .int y4)]) rfl rfl rfl rfl hy3 ci_1 rfl (by omega) (by omega) (fun _ => rfl) (fun z2 hz2 => ?_)
        refine h_goto (pc' := 2) rfl rfl ?_
        exact h_wk [(0, .ref 82), (1, .ref 23), (2, .ref 79), (3, .int z2)] ⟨rfl, rfl, rfl, rfl, trivial⟩ (ih.1 _ I0 F0_ z2 _ hz2 (by omega) (by omega))
      · refine h_aload_n (pc' := 21) rfl rfl rfl ?_
        refine h_getR (pc' := 24) rfl rfl rfl rfl rfl ?_
        refine h_iload_n (pc' := 25) rfl rfl rfl ?_
        refine h_bipush (pc' := 27) (x := (Int32.ofInt 7)) rfl rfl cb_7 ?_
        refine h_imul (pc' := 28) rfl rfl hy3 ci_7 rfl (by omega) (by omega) (fun z3 hz3 => ?_)
        refine h_iload (pc' := 30) rfl rfl rfl ?_
        refine h_iadd (pc' := 31) rfl rfl hz3 hy4 rfl (by omega) (by omega) (fun z4 hz4 => ?_)
        refine h_aload_n (pc' := 32) rfl rfl rfl ?_
        refine h_iload (pc' := 34) rfl rfl rfl ?_
        refine h_aload_n (pc' := 35) rfl rfl rfl ?_
        refine h_getR (pc' := 38) rfl rfl rfl rfl rfl ?_
        refine h_iload_n (pc' := 39) rfl rfl rfl ?_
        refine h_iald (pc' := 40) (v := σ 32 b3) rfl rfl rfl hy3 (by omega) (by omega) (F0_ 32 _ rfl) (fun z5 hz5 => ?_)
        have tz5 := ty_32 hI b3
        refine h_call (sp := false) (pc' := 43) (M := [(0, .ref 79), (1, .int y4), (2, .int z5)]) rfl rfl rfl rfl rfl rfl rfl rfl ?_
        refine w_29_79 _ I0 y4 _ hy4 z5 _ hz5 (fun r6 br6 hr6 s7 Is7 Gs7 => h_Kv ?_)
        have Fs7 := (Gs7.mono (B := kf_w_18_82_23_79) rfl).tr F0_
        refine h_iast (pc' := 44) rfl rfl rfl rfl hz4 (by omega) (by omega) hr6 (h_fg _ (in_83 Is7 (h_rgv hr6)) (Fs7.up rfl) (fun s8 Is8 Fs8 => ?_))
        refine h_iinc (pc' := 47) (M := fun z9 => [(4, .int z9), (0, .ref 82), (1, .ref 23), (2, .ref 79), (3, .int y3)]) rfl rfl rfl rfl hy4 ci_1 rfl (by omega) (by omega) (fun _ => rfl) (fun z9 hz9 => ?_)
        refine h_goto (pc' := 13) rfl rfl ?_
        exact h_wk [(0, .ref 82), (1, .ref 23), (2, .ref 79), (3, .int y3), (4, .int z9)] ⟨rfl, rfl, rfl, rfl, rfl, trivial⟩ (ih.2 _ Is8 Fs8 y3 _ hy3 (by omega) z9 _ hz9 (by omega) (by omega))
theorem w_18_82_23_79 {ns : Nat} (σ : h_S) (hI : h_I σ) {Q : Option Value → h_S → Prop} (kk : ∀ (τ : h_S), h_I τ → h_F (k_in kf_w_18_82_23_79) τ σ → Q none τ) : h_T g_P (g_Y ns) 18 0 [(0, .ref 82), (1, .ref 23), (2, .ref 79)] [] σ Q := by
  have F00 : h_F (k_in kf_w_18_82_23_79) σ σ := h_F.rf
  refine h_iconst (pc' := 1) (x := (Int32.ofInt 0)) rfl rfl rfl ?_
  refine h_istore_n (pc' := 2) (M := [(3, .int (Int32.ofInt 0)), (0, .ref 82), (1, .ref 23), (2, .ref 79)]) rfl rfl rfl rfl ?_
  exact h_wk [(0, .ref 82), (1, .ref 23), (2, .ref 79), (3, .int (Int32.ofInt 0))] ⟨rfl, rfl, rfl, rfl, trivial⟩ ((w_18_82_23_79_l ns σ hI  kk 1000000000000).1 _ hI F00 (Int32.ofInt 0) _ ci_0 (by omega) (by omega))
def kf_w_19_82_23 : List Nat := [83970, 87039]
theorem w_19_82_23_l (ns : Nat) (σ : h_S) (hI : h_I σ) {Q : Option Value → h_S → Prop} (kk : ∀ (τ : h_S), h_I τ → h_F (k_in kf_w_19_82_23) τ σ → Q none τ) : ∀ n : Nat, (∀ (s0 : h_S), h_I s0 → h_F (k_in kf_w_19_82_23) s0 σ → ∀ (y2 : Int32) (b2 : Int), y2.toInt = b2 → (0 ≤ b2 ∧ b2 ≤ 3) → (3 + 1 - b2) * 1000000 + 1000000000 ≤ (n : Int) → h_T g_P (g_Y ns) 19 7 [(0, .ref 82), (1, .ref 23), (2, .int y2)] [] s0 Q) := by
  intro n
  induction n with
  | zero => exact by intro s0 I0 F0_ y2 b2 hy2 ry2 hm; exfalso; omega
  | succ n ih =>
    intro s0 I0 F0_ y2 b2 hy2 ry2 hm
    refine h_iload_n (pc' := 8) rfl rfl rfl ?_
    refine h_aload_n (pc' := 9) rfl rfl rfl ?_
    refine h_getI (pc' := 12) (v := σ 23 9) rfl rfl rfl rfl rfl (F0_ 23 9 rfl) (fun z1 hz1 => ?_)
    have tz1 := tf_23_9 hI
    refine h_cge (tg := 33) (pc' := 15) rfl rfl rfl hy2 hz1 (fun c2 => ?_) (fun c2 => ?_)
    · exact h_vret rfl rfl (kk _ I0 F0_)
    · refine h_aload_n (pc' := 16) rfl rfl rfl ?_
      refine h_getR (pc' := 19) rfl rfl rfl rfl rfl ?_
      refine h_iload_n (pc' := 20) rfl rfl rfl ?_
      refine h_aload_n (pc' := 21) rfl rfl rfl ?_
      refine h_getR (pc' := 24) rfl rfl rfl rfl rfl ?_
      refine h_iload_n (pc' := 25) rfl rfl rfl ?_
      refine h_iald (pc' := 26) (v := σ 33 b2) rfl rfl rfl hy2 (by omega) (by omega) (F0_ 33 _ rfl) (fun z3 hz3 => ?_)
      have tz3 := ty_33 hI b2
      refine h_iast (pc' := 27) rfl rfl rfl rfl hy2 (by omega) (by omega) hz3 (h_fg _ (in_84 I0 (by omega)) (F0_.up rfl) (fun s4 Is4 Fs4 => ?_))
      refine h_iinc (pc' := 30) (M := fun z5 => [(2, .int z5), (0, .ref 82), (1, .ref 23)]) rfl rfl rfl rfl hy2 ci_1 rfl (by omega) (by omega) (fun _ => rfl) (fun z5 hz5 => ?_)
      refine h_goto (pc' := 7) rfl rfl ?_
      exact h_wk [(0, .ref 82), (1, .ref 23), (2, .int z5)] ⟨rfl, rfl, rfl, trivial⟩ (ih _ Is4 Fs4 z5 _ hz5 (by omega) (by omega))
theorem w_19_82_23 {ns : Nat} (σ : h_S) (hI : h_I σ) {Q : Option Value → h_S → Prop} (kk : ∀ (τ : h_S), h_I τ → h_F (k_in kf_w_19_82_23) τ σ → Q none τ) : h_T g_P (g_Y ns) 19 0 [(0, .ref 82), (1, .ref 23)] [] σ Q := by
  have F00 : h_F (k_in kf_w_19_82_23) σ σ := h_F.rf
  refine h_aload_n (pc' := 1) rfl rfl rfl ?_
  refine h_iconst (pc' := 2) (x := (Int32.ofInt 0)) rfl rfl rfl ?_
  refine h_put (pc' := 5) rfl rfl rfl rfl rfl rfl ci_0 rfl (h_fg _ (if_82_2 hI (h_rgv ci_0)) (F00.up rfl) (fun s1 Is1 Fs1 => ?_))
  refine h_iconst (pc' := 6) (x := (Int32.ofInt 0)) rfl rfl rfl ?_
  refine h_istore_n (pc' := 7) (M := [(2, .int (Int32.ofInt 0)), (0, .ref 82), (1, .ref 23)]) rfl rfl rfl rfl ?_
  exact h_wk [(0, .ref 82), (1, .ref 23), (2, .int (Int32.ofInt 0))] ⟨rfl, rfl, rfl, trivial⟩ ((w_19_82_23_l ns σ hI  kk 1000000000000) _ Is1 Fs1 (Int32.ofInt 0) _ ci_0 (by omega) (by omega))
def kf_w_20_82 : List Nat := [83970, 87039]
theorem w_20_82 {ns : Nat} (σ : h_S) (hI : h_I σ) (x0 : Int32) (a0 : Int) (hx0 : x0.toInt = a0) (ra0 : 0 ≤ a0 ∧ a0 ≤ 5) (x1 : Int32) (a1 : Int) (hx1 : x1.toInt = a1) (ra1 : 0 ≤ a1 ∧ a1 ≤ 2) {Q : Option Value → h_S → Prop} (kk : ∀ (r : Int32) (b : Int) (hb : r.toInt = b) (τ : h_S), h_I τ → h_F (k_in kf_w_20_82) τ σ → (0 ≤ b ∧ b ≤ 1) → Q (some (.int r)) τ) : h_T g_P (g_Y ns) 20 0 [(0, .ref 82), (1, .int x0), (2, .int x1)] [] σ Q := by
  have F00 : h_F (k_in kf_w_20_82) σ σ := h_F.rf
  refine h_aload_n (pc' := 1) rfl rfl rfl ?_
  refine h_getR (pc' := 4) rfl rfl rfl rfl rfl ?_
  refine h_iload_n (pc' := 5) rfl rfl rfl ?_
  refine h_iald (pc' := 6) (v := σ 84 a1) rfl rfl rfl hx1 (by omega) (by omega) rfl (fun z1 hz1 => ?_)
  have tz1 := ty_84 hI a1
  refine h_bipush (pc' := 8) (x := (Int32.ofInt (-4))) rfl rfl cb_m4 ?_
  refine h_cne (tg := 16) (pc' := 11) rfl rfl rfl hz1 ci_m4 (fun c2 => ?_) (fun c2 => ?_)
  · refine h_aload_n (pc' := 17) rfl rfl rfl ?_
    refine h_getR (pc' := 20) rfl rfl rfl rfl rfl ?_
    refine h_iload_n (pc' := 21) rfl rfl rfl ?_
    refine h_iald (pc' := 22) (v := σ 84 a1) rfl rfl rfl hx1 (by omega) (by omega) rfl (fun z3 hz3 => ?_)
    have tz3 := ty_84 hI a1
    refine h_istore_n (pc' := 23) (M := [(3, .int z3), (0, .ref 82), (1, .int x0), (2, .int x1)]) rfl rfl rfl rfl ?_
    refine h_aload_n (pc' := 24) rfl rfl rfl ?_
    refine h_getR (pc' := 27) rfl rfl rfl rfl rfl ?_
    refine h_iload_n (pc' := 28) rfl rfl rfl ?_
    refine h_bipush (pc' := 30) (x := (Int32.ofInt 7)) rfl rfl cb_7 ?_
    refine h_imul (pc' := 31) rfl rfl hx1 ci_7 rfl (by omega) (by omega) (fun z4 hz4 => ?_)
    refine h_iload_n (pc' := 32) rfl rfl rfl ?_
    refine h_iadd (pc' := 33) rfl rfl hz4 hz3 rfl (by omega) (by omega) (fun z5 hz5 => ?_)
    refine h_iald (pc' := 34) (v := σ 83 ((a1 * 7) + (σ 84 a1))) rfl rfl rfl hz5 (by omega) (by omega) rfl (fun z6 hz6 => ?_)
    have tz6 := ty_83 hI ((a1 * 7) + (σ 84 a1))
    refine h_iload_n (pc' := 35) rfl rfl rfl ?_
    refine h_calls (pc' := 38) (M := [(0, .int z6), (1, .int x0)]) rfl rfl rfl rfl rfl rfl ?_
    refine h_iload_n (pc' := 1) rfl rfl rfl ?_
    refine h_iload_n (pc' := 2) rfl rfl rfl ?_
    refine h_ishr (pc' := 3) rfl rfl (fun z7 hz7 => ?_)
    refine h_iconst (pc' := 4) (x := (Int32.ofInt 1)) rfl rfl rfl ?_
    refine h_iand (pc' := 5) rfl rfl (fun z8 hz8 uz8 vz8 => ?_)
    clear uz8
    rw [ci_1] at vz8
    have yz8 := vz8 (by omega)
    refine h_zeq (tg := 12) (pc' := 8) rfl rfl rfl rfl (fun c9 => ?_) (fun c9 => ?_)
    · refine h_iconst (pc' := 13) (x := (Int32.ofInt 0)) rfl rfl rfl ?_
      refine h_zret rfl rfl ci_0 (by omega) (h_Kv ?_)
      refine h_zne (tg := 43) (pc' := 41) rfl rfl rfl ci_0 (fun c10 => absurd c10 (by omega)) (fun c10 => ?_)
      refine h_iconst (pc' := 42) (x := (Int32.ofInt 0)) rfl rfl rfl ?_
      exact h_zret rfl rfl ci_0 (by omega) (kk _ _ ci_0 _ hI F00 (by omega))
    · refine h_iconst (pc' := 9) (x := (Int32.ofInt 1)) rfl rfl rfl ?_
      refine h_goto (pc' := 13) rfl rfl ?_
      refine h_zret rfl rfl ci_1 (by omega) (h_Kv ?_)
      refine h_zne (tg := 43) (pc' := 41) rfl rfl rfl ci_1 (fun c11 => ?_) (fun c11 => absurd c11 (by omega))
      refine h_aload_n (pc' := 44) rfl rfl rfl ?_
      refine h_getR (pc' := 47) rfl rfl rfl rfl rfl ?_
      refine h_iload_n (pc' := 48) rfl rfl rfl ?_
      refine h_iload_n (pc' := 49) rfl rfl rfl ?_
      refine h_iast (pc' := 50) rfl rfl rfl rfl hx1 (by omega) (by omega) hx0 (h_fg _ (in_84 hI (by omega)) (F00.up rfl) (fun s12 Is12 Fs12 => ?_))
      refine h_aload_n (pc' := 51) rfl rfl rfl ?_
      refine h_dup (pc' := 52) rfl rfl rfl ?_
      refine h_getI (pc' := 55) (v := s12 82 2) rfl rfl rfl rfl rfl rfl (fun z13 hz13 => ?_)
      have tz13 := tf_82_2 Is12
      refine h_iconst (pc' := 56) (x := (Int32.ofInt 1)) rfl rfl rfl ?_
      refine h_iload_n (pc' := 57) rfl rfl rfl ?_
      refine h_shl1 (pc' := 58) rfl rfl ci_1 hx0 (by omega) (by omega) (fun z14 hz14 vz14 => ?_)
      refine h_ior (pc' := 59) rfl rfl (fun z15 hz15 => ?_)
      refine h_put (pc' := 62) rfl rfl rfl rfl rfl rfl rfl rfl (h_fg _ (if_82_2 Is12 (h_rgv rfl)) (Fs12.up rfl) (fun s16 Is16 Fs16 => ?_))
      refine h_iconst (pc' := 63) (x := (Int32.ofInt 1)) rfl rfl rfl ?_
      exact h_zret rfl rfl ci_1 (by omega) (kk _ _ ci_1 _ Is16 Fs16 (by omega))
  · refine h_bipush (pc' := 13) (x := (Int32.ofInt 6)) rfl rfl cb_6 ?_
    refine h_goto (pc' := 22) rfl rfl ?_
    refine h_istore_n (pc' := 23) (M := [(3, .int (Int32.ofInt 6)), (0, .ref 82), (1, .int x0), (2, .int x1)]) rfl rfl rfl rfl ?_
    refine h_aload_n (pc' := 24) rfl rfl rfl ?_
    refine h_getR (pc' := 27) rfl rfl rfl rfl rfl ?_
    refine h_iload_n (pc' := 28) rfl rfl rfl ?_
    refine h_bipush (pc' := 30) (x := (Int32.ofInt 7)) rfl rfl cb_7 ?_
    refine h_imul (pc' := 31) rfl rfl hx1 ci_7 rfl (by omega) (by omega) (fun z17 hz17 => ?_)
    refine h_iload_n (pc' := 32) rfl rfl rfl ?_
    refine h_iadd (pc' := 33) rfl rfl hz17 ci_6 rfl (by omega) (by omega) (fun z18 hz18 => ?_)
    refine h_iald (pc' := 34) (v := σ 83 ((a1 * 7) + 6)) rfl rfl rfl hz18 (by omega) (by omega) rfl (fun z19 hz19 => ?_)
    have tz19 := ty_83 hI ((a1 * 7) + 6)
    refine h_iload_n (pc' := 35) rfl rfl rfl ?_
    refine h_calls (pc' := 38) (M := [(0, .int z19), (1, .int x0)]) rfl rfl rfl rfl rfl rfl ?_
    refine h_iload_n (pc' := 1) rfl rfl rfl ?_
    refine h_iload_n (pc' := 2) rfl rfl rfl ?_
    refine h_ishr (pc' := 3) rfl rfl (fun z20 hz20 => ?_)
    refine h_iconst (pc' := 4) (x := (Int32.ofInt 1)) rfl rfl rfl ?_
    refine h_iand (pc' := 5) rfl rfl (fun z21 hz21 uz21 vz21 => ?_)
    clear uz21
    rw [ci_1] at vz21
    have yz21 := vz21 (by omega)
    refine h_zeq (tg := 12) (pc' := 8) rfl rfl rfl rfl (fun c22 => ?_) (fun c22 => ?_)
    · refine h_iconst (pc' := 13) (x := (Int32.ofInt 0)) rfl rfl rfl ?_
      refine h_zret rfl rfl ci_0 (by omega) (h_Kv ?_)
      refine h_zne (tg := 43) (pc' := 41) rfl rfl rfl ci_0 (fun c23 => absurd c23 (by omega)) (fun c23 => ?_)
      refine h_iconst (pc' := 42) (x := (Int32.ofInt 0)) rfl rfl rfl ?_
      exact h_zret rfl rfl ci_0 (by omega) (kk _ _ ci_0 _ hI F00 (by omega))
    · refine h_iconst (pc' := 9) (x := (Int32.ofInt 1)) rfl rfl rfl ?_
      refine h_goto (pc' := 13) rfl rfl ?_
      refine h_zret rfl rfl ci_1 (by omega) (h_Kv ?_)
      refine h_zne (tg := 43) (pc' := 41) rfl rfl rfl ci_1 (fun c24 => ?_) (fun c24 => absurd c24 (by omega))
      refine h_aload_n (pc' := 44) rfl rfl rfl ?_
      refine h_getR (pc' := 47) rfl rfl rfl rfl rfl ?_
      refine h_iload_n (pc' := 48) rfl rfl rfl ?_
      refine h_iload_n (pc' := 49) rfl rfl rfl ?_
      refine h_iast (pc' := 50) rfl rfl rfl rfl hx1 (by omega) (by omega) hx0 (h_fg _ (in_84 hI (by omega)) (F00.up rfl) (fun s25 Is25 Fs25 => ?_))
      refine h_aload_n (pc' := 51) rfl rfl rfl ?_
      refine h_dup (pc' := 52) rfl rfl rfl ?_
      refine h_getI (pc' := 55) (v := s25 82 2) rfl rfl rfl rfl rfl rfl (fun z26 hz26 => ?_)
      have tz26 := tf_82_2 Is25
      refine h_iconst (pc' := 56) (x := (Int32.ofInt 1)) rfl rfl rfl ?_
      refine h_iload_n (pc' := 57) rfl rfl rfl ?_
      refine h_shl1 (pc' := 58) rfl rfl ci_1 hx0 (by omega) (by omega) (fun z27 hz27 vz27 => ?_)
      refine h_ior (pc' := 59) rfl rfl (fun z28 hz28 => ?_)
      refine h_put (pc' := 62) rfl rfl rfl rfl rfl rfl rfl rfl (h_fg _ (if_82_2 Is25 (h_rgv rfl)) (Fs25.up rfl) (fun s29 Is29 Fs29 => ?_))
      refine h_iconst (pc' := 63) (x := (Int32.ofInt 1)) rfl rfl rfl ?_
      exact h_zret rfl rfl ci_1 (by omega) (kk _ _ ci_1 _ Is29 Fs29 (by omega))
def kf_w_21_82_10 : List Nat := [83970, 87039]
theorem w_21_82_10_l (ns : Nat) (σ : h_S) (hI : h_I σ) (x1 : Int32) (a1 : Int) (hx1 : x1.toInt = a1) {Q : Option Value → h_S → Prop} (kk : ∀ (r : Int32) (b : Int) (hb : r.toInt = b) (τ : h_S), h_I τ → h_F (k_in kf_w_21_82_10) τ σ → Q (some (.int r)) τ) : ∀ n : Nat, (∀ (s0 : h_S), h_I s0 → h_F (k_in kf_w_21_82_10) s0 σ → ∀ (y3 : Int32) (b3 : Int), y3.toInt = b3 → ∀ (y4 : Int32) (b4 : Int), y4.toInt = b4 → (0 ≤ b4 ∧ b4 ≤ 8) → (8 + 1 - b4) * 1000000 + 1000000000 ≤ (n : Int) → h_T g_P (g_Y ns) 21 10 [(0, .ref 82), (1, .ref 10), (2, .int x1), (3, .int y3), (4, .int y4)] [] s0 Q) := by
  intro n
  induction n with
  | zero => exact by intro s0 I0 F0_ y3 b3 hy3 y4 b4 hy4 ry4 hm; exfalso; omega
  | succ n ih =>
    intro s0 I0 F0_ y3 b3 hy3 y4 b4 hy4 ry4 hm
    refine h_iload (pc' := 12) rfl rfl rfl ?_
    refine h_aload_n (pc' := 13) rfl rfl rfl ?_
    refine h_getI (pc' := 16) (v := σ 10 10) rfl rfl rfl rfl rfl (F0_ 10 10 rfl) (fun z1 hz1 => ?_)
    have tz1 := tf_10_10 hI
    refine h_cge (tg := 72) (pc' := 19) rfl rfl rfl hy4 hz1 (fun c2 => ?_) (fun c2 => ?_)
    · refine h_iload_n (pc' := 73) rfl rfl rfl ?_
      exact h_iret rfl rfl (kk _ _ hy3 _ I0 F0_)
    · refine h_aload_n (pc' := 20) rfl rfl rfl ?_
      refine h_getR (pc' := 23) rfl rfl rfl rfl rfl ?_
      refine h_iload (pc' := 25) rfl rfl rfl ?_
      refine h_iald (pc' := 26) (v := σ 22 b4) rfl rfl rfl hy4 (by omega) (by omega) (F0_ 22 _ rfl) (fun z3 hz3 => ?_)
      have tz3 := ty_22 hI b4
      refine h_bipush (pc' := 28) (x := (Int32.ofInt 10)) rfl rfl cb_10 ?_
      refine h_idiv (pc' := 29) rfl rfl hz3 ci_10 (by omega) (by omega) (fun z4 hz4 => ?_)
      refine h_istore (pc' := 31) (M := [(5, .int z4), (0, .ref 82), (1, .ref 10), (2, .int x1), (3, .int y3), (4, .int y4)]) rfl rfl rfl rfl ?_
      refine h_iload_n (pc' := 32) rfl rfl rfl ?_
      refine h_iload (pc' := 34) rfl rfl rfl ?_
      refine h_calls (pc' := 37) (M := [(0, .int x1), (1, .int z4)]) rfl rfl rfl rfl rfl rfl ?_
      refine h_iload_n (pc' := 1) rfl rfl rfl ?_
      refine h_iload_n (pc' := 2) rfl rfl rfl ?_
      refine h_ishr (pc' := 3) rfl rfl (fun z5 hz5 => ?_)
      refine h_iconst (pc' := 4) (x := (Int32.ofInt 1)) rfl rfl rfl ?_
      refine h_iand (pc' := 5) rfl rfl (fun z6 hz6 uz6 vz6 => ?_)
      clear uz6
      rw [ci_1] at vz6
      have yz6 := vz6 (by omega)
      refine h_zeq (tg := 12) (pc' := 8) rfl rfl rfl rfl (fun c7 => ?_) (fun c7 => ?_)
      · refine h_iconst (pc' := 13) (x := (Int32.ofInt 0)) rfl rfl rfl ?_
        refine h_zret rfl rfl ci_0 (by omega) (h_Kv ?_)
        refine h_zne (tg := 66) (pc' := 40) rfl rfl rfl ci_0 (fun c8 => absurd c8 (by omega)) (fun c8 => ?_)
        refine h_aload_n (pc' := 41) rfl rfl rfl ?_
        refine h_iload (pc' := 43) rfl rfl rfl ?_
        refine h_aload_n (pc' := 44) rfl rfl rfl ?_
        refine h_getR (pc' := 47) rfl rfl rfl rfl rfl ?_
        refine h_iload (pc' := 49) rfl rfl rfl ?_
        refine h_iald (pc' := 50) (v := σ 22 b4) rfl rfl rfl hy4 (by omega) (by omega) (F0_ 22 _ rfl) (fun z9 hz9 => ?_)
        have tz9 := ty_22 hI b4
        refine h_bipush (pc' := 52) (x := (Int32.ofInt 10)) rfl rfl cb_10 ?_
        refine h_irem (pc' := 53) rfl rfl hz9 ci_10 (by omega) (by omega) (fun z10 hz10 => ?_)
        refine h_call (sp := false) (pc' := 56) (M := [(0, .ref 82), (1, .int z4), (2, .int z10)]) rfl rfl rfl rfl rfl rfl rfl rfl ?_
        refine w_20_82 _ I0 z4 _ hz4 (by omega) z10 _ hz10 (by omega) (fun r11 br11 hr11 s12 Is12 Gs12 tr11 => h_Kv ?_)
        have Fs12 := (Gs12.mono (B := kf_w_21_82_10) rfl).tr F0_
        refine h_zeq (tg := 66) (pc' := 59) rfl rfl rfl hr11 (fun c13 => ?_) (fun c13 => ?_)
        · refine h_iinc (pc' := 69) (M := fun z14 => [(4, .int z14), (5, .int z4), (0, .ref 82), (1, .ref 10), (2, .int x1), (3, .int y3)]) rfl rfl rfl rfl hy4 ci_1 rfl (by omega) (by omega) (fun _ => rfl) (fun z14 hz14 => ?_)
          refine h_goto (pc' := 10) rfl rfl ?_
          exact h_wk [(0, .ref 82), (1, .ref 10), (2, .int x1), (3, .int y3), (4, .int z14)] ⟨rfl, rfl, rfl, rfl, rfl, trivial⟩ (ih _ Is12 Fs12 y3 _ hy3 z14 _ hz14 (by omega) (by omega))
        · refine h_iload_n (pc' := 60) rfl rfl rfl ?_
          refine h_iconst (pc' := 61) (x := (Int32.ofInt 1)) rfl rfl rfl ?_
          refine h_iload (pc' := 63) rfl rfl rfl ?_
          refine h_ishl (pc' := 64) rfl rfl (fun z15 hz15 => ?_)
          refine h_ior (pc' := 65) rfl rfl (fun z16 hz16 => ?_)
          refine h_istore_n (pc' := 66) (M := [(3, .int z16), (5, .int z4), (0, .ref 82), (1, .ref 10), (2, .int x1), (4, .int y4)]) rfl rfl rfl rfl ?_
          refine h_iinc (pc' := 69) (M := fun z17 => [(4, .int z17), (3, .int z16), (5, .int z4), (0, .ref 82), (1, .ref 10), (2, .int x1)]) rfl rfl rfl rfl hy4 ci_1 rfl (by omega) (by omega) (fun _ => rfl) (fun z17 hz17 => ?_)
          refine h_goto (pc' := 10) rfl rfl ?_
          exact h_wk [(0, .ref 82), (1, .ref 10), (2, .int x1), (3, .int z16), (4, .int z17)] ⟨rfl, rfl, rfl, rfl, rfl, trivial⟩ (ih _ Is12 Fs12 z16 _ rfl z17 _ hz17 (by omega) (by omega))
      · refine h_iconst (pc' := 9) (x := (Int32.ofInt 1)) rfl rfl rfl ?_
        refine h_goto (pc' := 13) rfl rfl ?_
        refine h_zret rfl rfl ci_1 (by omega) (h_Kv ?_)
        refine h_zne (tg := 66) (pc' := 40) rfl rfl rfl ci_1 (fun c18 => ?_) (fun c18 => absurd c18 (by omega))
        refine h_iinc (pc' := 69) (M := fun z19 => [(4, .int z19), (5, .int z4), (0, .ref 82), (1, .ref 10), (2, .int x1), (3, .int y3)]) rfl rfl rfl rfl hy4 ci_1 rfl (by omega) (by omega) (fun _ => rfl) (fun z19 hz19 => ?_)
        refine h_goto (pc' := 10) rfl rfl ?_
        exact h_wk [(0, .ref 82), (1, .ref 10), (2, .int x1), (3, .int y3), (4, .int z19)] ⟨rfl, rfl, rfl, rfl, rfl, trivial⟩ (ih _ I0 F0_ y3 _ hy3 z19 _ hz19 (by omega) (by omega))
theorem w_21_82_10 {ns : Nat} (σ : h_S) (hI : h_I σ) (x1 : Int32) (a1 : Int) (hx1 : x1.toInt = a1) {Q : Option Value → h_S → Prop} (kk : ∀ (r : Int32) (b : Int) (hb : r.toInt = b) (τ : h_S), h_I τ → h_F (k_in kf_w_21_82_10) τ σ → Q (some (.int r)) τ) : h_T g_P (g_Y ns) 21 0 [(0, .ref 82), (1, .ref 10), (2, .int x1)] [] σ Q := by
  have F00 : h_F (k_in kf_w_21_82_10) σ σ := h_F.rf
  refine h_aload_n (pc' := 1) rfl rfl rfl ?_
  refine h_aload_n (pc' := 2) rfl rfl rfl ?_
  refine h_call (sp := false) (pc' := 5) (M := [(0, .ref 82), (1, .ref 10)]) rfl rfl rfl rfl rfl rfl rfl rfl ?_
  refine w_19_82_10 _ hI  (fun s2 Is2 Gs2 => h_Kn ?_)
  have Fs2 := (Gs2.mono (B := kf_w_21_82_10) rfl).tr F00
  refine h_iconst (pc' := 6) (x := (Int32.ofInt 0)) rfl rfl rfl ?_
  refine h_istore_n (pc' := 7) (M := [(3, .int (Int32.ofInt 0)), (0, .ref 82), (1, .ref 10), (2, .int x1)]) rfl rfl rfl rfl ?_
  refine h_iconst (pc' := 8) (x := (Int32.ofInt 0)) rfl rfl rfl ?_
  refine h_istore (pc' := 10) (M := [(4, .int (Int32.ofInt 0)), (3, .int (Int32.ofInt 0)), (0, .ref 82), (1, .ref 10), (2, .int x1)]) rfl rfl rfl rfl ?_
  exact h_wk [(0, .ref 82), (1, .ref 10), (2, .int x1), (3, .int (Int32.ofInt 0)), (4, .int (Int32.ofInt 0))] ⟨rfl, rfl, rfl, rfl, rfl, trivial⟩ ((w_21_82_10_l ns σ hI x1 a1 hx1 kk 1000000000000) _ Is2 Fs2 (Int32.ofInt 0) _ ci_0 (Int32.ofInt 0) _ ci_0 (by omega) (by omega))
def kf_w_21_82_23 : List Nat := [83970, 87039]
theorem w_21_82_23_l (ns : Nat) (σ : h_S) (hI : h_I σ) (x1 : Int32) (a1 : Int) (hx1 : x1.toInt = a1) {Q : Option Value → h_S → Prop} (kk : ∀ (r : Int32) (b : Int) (hb : r.toInt = b) (τ : h_S), h_I τ → h_F (k_in kf_w_21_82_23) τ σ → Q (some (.int r)) τ) : ∀ n : Nat, (∀ (s0 : h_S), h_I s0 → h_F (k_in kf_w_21_82_23) s0 σ → ∀ (y3 : Int32) (b3 : Int), y3.toInt = b3 → ∀ (y4 : Int32) (b4 : Int), y4.toInt = b4 → (0 ≤ b4 ∧ b4 ≤ 8) → (8 + 1 - b4) * 1000000 + 1000000000 ≤ (n : Int) → h_T g_P (g_Y ns) 21 10 [(0, .ref 82), (1, .ref 23), (2, .int x1), (3, .int y3), (4, .int y4)] [] s0 Q) := by
  intro n
  induction n with
  | zero => exact by intro s0 I0 F0_ y3 b3 hy3 y4 b4 hy4 ry4 hm; exfalso; omega
  | succ n ih =>
    intro s0 I0 F0_ y3 b3 hy3 y4 b4 hy4 ry4 hm
    refine h_iload (pc' := 12) rfl rfl rfl ?_
    refine h_aload_n (pc' := 13) rfl rfl rfl ?_
    refine h_getI (pc' := 16) (v := σ 23 10) rfl rfl rfl rfl rfl (F0_ 23 10 rfl) (fun z1 hz1 => ?_)
    have tz1 := tf_23_10 hI
    refine h_cge (tg := 72) (pc' := 19) rfl rfl rfl hy4 hz1 (fun c2 => ?_) (fun c2 => ?_)
    · refine h_iload_n (pc' := 73) rfl rfl rfl ?_
      exact h_iret rfl rfl (kk _ _ hy3 _ I0 F0_)
    · refine h_aload_n (pc' := 20) rfl rfl rfl ?_
      refine h_getR (pc' := 23) rfl rfl rfl rfl rfl ?_
      refine h_iload (pc' := 25) rfl rfl rfl ?_
      refine h_iald (pc' := 26) (v := σ 35 b4) rfl rfl rfl hy4 (by omega) (by omega) (F0_ 35 _ rfl) (fun z3 hz3 => ?_)
      have tz3 := ty_35 hI b4
      refine h_bipush (pc' := 28) (x := (Int32.ofInt 10)) rfl rfl cb_10 ?_
      refine h_idiv (pc' := 29) rfl rfl hz3 ci_10 (by omega) (by omega) (fun z4 hz4 => ?_)
      refine h_istore (pc' := 31) (M := [(5, .int z4), (0, .ref 82), (1, .ref 23), (2, .int x1), (3, .int y3), (4, .int y4)]) rfl rfl rfl rfl ?_
      refine h_iload_n (pc' := 32) rfl rfl rfl ?_
      refine h_iload (pc' := 34) rfl rfl rfl ?_
      refine h_calls (pc' := 37) (M := [(0, .int x1), (1, .int z4)]) rfl rfl rfl rfl rfl rfl ?_
      refine h_iload_n (pc' := 1) rfl rfl rfl ?_
      refine h_iload_n (pc' := 2) rfl rfl rfl ?_
      refine h_ishr (pc' := 3) rfl rfl (fun z5 hz5 => ?_)
      refine h_iconst (pc' := 4) (x := (Int32.ofInt 1)) rfl rfl rfl ?_
      refine h_iand (pc' := 5) rfl rfl (fun z6 hz6 uz6 vz6 => ?_)
      clear uz6
      rw [ci_1] at vz6
      have yz6 := vz6 (by omega)
      refine h_zeq (tg := 12) (pc' := 8) rfl rfl rfl rfl (fun c7 => ?_) (fun c7 => ?_)
      · refine h_iconst (pc' := 13) (x := (Int32.ofInt 0)) rfl rfl rfl ?_
        refine h_zret rfl rfl ci_0 (by omega) (h_Kv ?_)
        refine h_zne (tg := 66) (pc' := 40) rfl rfl rfl ci_0 (fun c8 => absurd c8 (by omega)) (fun c8 => ?_)
        refine h_aload_n (pc' := 41) rfl rfl rfl ?_
        refine h_iload (pc' := 43) rfl rfl rfl ?_
        refine h_aload_n (pc' := 44) rfl rfl rfl ?_
        refine h_getR (pc' := 47) rfl rfl rfl rfl rfl ?_
        refine h_iload (pc' := 49) rfl rfl rfl ?_
        refine h_iald (pc' := 50) (v := σ 35 b4) rfl rfl rfl hy4 (by omega) (by omega) (F0_ 35 _ rfl) (fun z9 hz9 => ?_)
        have tz9 := ty_35 hI b4
        refine h_bipush (pc' := 52) (x := (Int32.ofInt 10)) rfl rfl cb_10 ?_
        refine h_irem (pc' := 53) rfl rfl hz9 ci_10 (by omega) (by omega) (fun z10 hz10 => ?_)
        refine h_call (sp := false) (pc' := 56) (M := [(0, .ref 82), (1, .int z4), (2, .int z10)]) rfl rfl rfl rfl rfl rfl rfl rfl ?_
        refine w_20_82 _ I0 z4 _ hz4 (by omega) z10 _ hz10 (by omega) (fun r11 br11 hr11 s12 Is12 Gs12 tr11 => h_Kv ?_)
        have Fs12 := (Gs12.mono (B := kf_w_21_82_23) rfl).tr F0_
        refine h_zeq (tg := 66) (pc' := 59) rfl rfl rfl hr11 (fun c13 => ?_) (fun c13 => ?_)
        · refine h_iinc (pc' := 69) (M := fun z14 => [(4, .int z14), (5, .int z4), (0, .ref 82), (1, .ref 23), (2, .int x1), (3, .int y3)]) rfl rfl rfl rfl hy4 ci_1 rfl (by omega) (by omega) (fun _ => rfl) (fun z14 hz14 => ?_)
          refine h_goto (pc' := 10) rfl rfl ?_
          exact h_wk [(0, .ref 82), (1, .ref 23), (2, .int x1), (3, .int y3), (4, .int z14)] ⟨rfl, rfl, rfl, rfl, rfl, trivial⟩ (ih _ Is12 Fs12 y3 _ hy3 z14 _ hz14 (by omega) (by omega))
        · refine h_iload_n (pc' := 60) rfl rfl rfl ?_
          refine h_iconst (pc' := 61) (x := (Int32.ofInt 1)) rfl rfl rfl ?_
          refine h_iload (pc' := 63) rfl rfl rfl ?_
          refine h_ishl (pc' := 64) rfl rfl (fun z15 hz15 => ?_)
          refine h_ior (pc' := 65) rfl rfl (fun z16 hz16 => ?_)
          refine h_istore_n (pc' := 66) (M := [(3, .int z16), (5, .int z4), (0, .ref 82), (1, .ref 23), (2, .int x1), (4, .int y4)]) rfl rfl rfl rfl ?_
          refine h_iinc (pc' := 69) (M := fun z17 => [(4, .int z17), (3, .int z16), (5, .int z4), (0, .ref 82), (1, .ref 23), (2, .int x1)]) rfl rfl rfl rfl hy4 ci_1 rfl (by omega) (by omega) (fun _ => rfl) (fun z17 hz17 => ?_)
          refine h_goto (pc' := 10) rfl rfl ?_
          exact h_wk [(0, .ref 82), (1, .ref 23), (2, .int x1), (3, .int z16), (4, .int z17)] ⟨rfl, rfl, rfl, rfl, rfl, trivial⟩ (ih _ Is12 Fs12 z16 _ rfl z17 _ hz17 (by omega) (by omega))
      · refine h_iconst (pc' := 9) (x := (Int32.ofInt 1)) rfl rfl rfl ?_
        refine h_goto (pc' := 13) rfl rfl ?_
        refine h_zret rfl rfl ci_1 (by omega) (h_Kv ?_)
        refine h_zne (tg := 66) (pc' := 40) rfl rfl rfl ci_1 (fun c18 => ?_) (fun c18 => absurd c18 (by omega))
        refine h_iinc (pc' := 69) (M := fun z19 => [(4, .int z19), (5, .int z4), (0, .ref 82), (1, .ref 23), (2, .int x1), (3, .int y3)]) rfl rfl rfl rfl hy4 ci_1 rfl (by omega) (by omega) (fun _ => rfl) (fun z19 hz19 => ?_)
        refine h_goto (pc' := 10) rfl rfl ?_
        exact h_wk [(0, .ref 82), (1, .ref 23), (2, .int x1), (3, .int y3), (4, .int z19)] ⟨rfl, rfl, rfl, rfl, rfl, trivial⟩ (ih _ I0 F0_ y3 _ hy3 z19 _ hz19 (by omega) (by omega))
theorem w_21_82_23 {ns : Nat} (σ : h_S) (hI : h_I σ) (x1 : Int32) (a1 : Int) (hx1 : x1.toInt = a1) {Q : Option Value → h_S → Prop} (kk : ∀ (r : Int32) (b : Int) (hb : r.toInt = b) (τ : h_S), h_I τ → h_F (k_in kf_w_21_82_23) τ σ → Q (some (.int r)) τ) : h_T g_P (g_Y ns) 21 0 [(0, .ref 82), (1, .ref 23), (2, .int x1)] [] σ Q := by
  have F00 : h_F (k_in kf_w_21_82_23) σ σ := h_F.rf
  refine h_aload_n (pc' := 1) rfl rfl rfl ?_
  refine h_aload_n (pc' := 2) rfl rfl rfl ?_
  refine h_call (sp := false) (pc' := 5) (M := [(0, .ref 82), (1, .ref 23)]) rfl rfl rfl rfl rfl rfl rfl rfl ?_
  refine w_19_82_23 _ hI  (fun s2 Is2 Gs2 => h_Kn ?_)
  have Fs2 := (Gs2.mono (B := kf_w_21_82_23) rfl).tr F00
  refine h_iconst (pc' := 6) (x := (Int32.ofInt 0)) rfl rfl rfl ?_
  refine h_istore_n (pc' := 7) (M := [(3, .int (Int32.ofInt 0)), (0, .ref 82), (1, .ref 23), (2, .int x1)]) rfl rfl rfl rfl ?_
  refine h_iconst (pc' := 8) (x := (Int32.ofInt 0)) rfl rfl rfl ?_
  refine h_istore (pc' := 10) (M := [(4, .int (Int32.ofInt 0)), (3, .int (Int32.ofInt 0)), (0, .ref 82), (1, .ref 23), (2, .int x1)]) rfl rfl rfl rfl ?_
  exact h_wk [(0, .ref 82), (1, .ref 23), (2, .int x1), (3, .int (Int32.ofInt 0)), (4, .int (Int32.ofInt 0))] ⟨rfl, rfl, rfl, rfl, rfl, trivial⟩ ((w_21_82_23_l ns σ hI x1 a1 hx1 kk 1000000000000) _ Is2 Fs2 (Int32.ofInt 0) _ ci_0 (Int32.ofInt 0) _ ci_0 (by omega) (by omega))
