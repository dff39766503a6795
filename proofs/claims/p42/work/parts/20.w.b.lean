def kf_w_32_85_10_79 : List Nat := [87044, 89087]
theorem w_32_85_10_79_l (ns : Nat) (σ : h_S) (hI : h_I σ) (x2 : Int32) (a2 : Int) (hx2 : x2.toInt = a2) (ra2 : 0 ≤ a2 ∧ a2 ≤ 2) {Q : Option Value → h_S → Prop} (kk : ∀ (τ : h_S), h_I τ → h_F (k_in kf_w_32_85_10_79) τ σ → Q none τ) : ∀ n : Nat, (∀ (s0 : h_S), h_I s0 → h_F (k_in kf_w_32_85_10_79) s0 σ → ∀ (y4 : Int32) (b4 : Int), y4.toInt = b4 → (0 ≤ b4 ∧ b4 ≤ 6) → (6 + 1 - b4) * 1000000 + 1000000000 ≤ (n : Int) → h_T g_P (g_Y ns) 32 11 [(0, .ref 85), (1, .ref 10), (2, .ref 79), (3, .int x2), (4, .int y4)] [] s0 Q) := by
  intro n
  induction n with
  | zero => exact by intro s0 I0 F0_ y4 b4 hy4 ry4 hm; exfalso; omega
  | succ n ih =>
    intro s0 I0 F0_ y4 b4 hy4 ry4 hm
    refine h_iload (pc' := 13) rfl rfl rfl ?_
    refine h_aload_n (pc' := 14) rfl rfl rfl ?_
    refine h_getI (pc' := 17) (v := s0 85 4) rfl rfl rfl rfl rfl rfl (fun z1 hz1 => ?_)
    have tz1 := tf_85_4 I0
    refine h_cge (tg := 45) (pc' := 20) rfl rfl rfl hy4 hz1 (fun c2 => ?_) (fun c2 => ?_)
    · refine h_aload_n (pc' := 46) rfl rfl rfl ?_
      refine h_getR (pc' := 49) rfl rfl rfl rfl rfl ?_
      refine h_bipush (pc' := 51) (x := (Int32.ofInt 6)) rfl rfl cb_6 ?_
      refine h_aload_n (pc' := 52) rfl rfl rfl ?_
      refine h_aload_n (pc' := 53) rfl rfl rfl ?_
      refine h_getR (pc' := 56) rfl rfl rfl rfl rfl ?_
      refine h_iload_n (pc' := 57) rfl rfl rfl ?_
      refine h_iald (pc' := 58) (v := σ 20 a2) rfl rfl rfl hx2 (by omega) (by omega) (F0_ 20 _ rfl) (fun z3 hz3 => ?_)
      have tz3 := ty_20 hI a2
      refine h_aload_n (pc' := 59) rfl rfl rfl ?_
      refine h_getR (pc' := 62) rfl rfl rfl rfl rfl ?_
      refine h_iload_n (pc' := 63) rfl rfl rfl ?_
      refine h_iald (pc' := 64) (v := σ 19 a2) rfl rfl rfl hx2 (by omega) (by omega) (F0_ 19 _ rfl) (fun z4 hz4 => ?_)
      have tz4 := ty_19 hI a2
      refine h_call (sp := false) (pc' := 67) (M := [(0, .ref 79), (1, .int z3), (2, .int z4)]) rfl rfl rfl rfl rfl rfl rfl rfl ?_
      refine w_29_79 _ I0 z3 _ hz3 z4 _ hz4 (fun r5 br5 hr5 s6 Is6 Gs6 => h_Kv ?_)
      have Fs6 := (Gs6.mono (B := kf_w_32_85_10_79) rfl).tr F0_
      refine h_iast (pc' := 68) rfl rfl rfl rfl ci_6 (by omega) (by omega) hr5 (h_fg _ (in_86 Is6 (h_rgv hr5)) (Fs6.up rfl) (fun s7 Is7 Fs7 => ?_))
      exact h_vret rfl rfl (kk _ Is7 Fs7)
    · refine h_aload_n (pc' := 21) rfl rfl rfl ?_
      refine h_getR (pc' := 24) rfl rfl rfl rfl rfl ?_
      refine h_iload (pc' := 26) rfl rfl rfl ?_
      refine h_aload_n (pc' := 27) rfl rfl rfl ?_
      refine h_iload (pc' := 29) rfl rfl rfl ?_
      refine h_aload_n (pc' := 30) rfl rfl rfl ?_
      refine h_getR (pc' := 33) rfl rfl rfl rfl rfl ?_
      refine h_iload_n (pc' := 34) rfl rfl rfl ?_
      refine h_iald (pc' := 35) (v := σ 19 a2) rfl rfl rfl hx2 (by omega) (by omega) (F0_ 19 _ rfl) (fun z8 hz8 => ?_)
      have tz8 := ty_19 hI a2
      refine h_call (sp := false) (pc' := 38) (M := [(0, .ref 79), (1, .int y4), (2, .int z8)]) rfl rfl rfl rfl rfl rfl rfl rfl ?_
      refine w_29_79 _ I0 y4 _ hy4 z8 _ hz8 (fun r9 br9 hr9 s10 Is10 Gs10 => h_Kv ?_)
      have Fs10 := (Gs10.mono (B := kf_w_32_85_10_79) rfl).tr F0_
      refine h_iast (pc' := 39) rfl rfl rfl rfl hy4 (by omega) (by omega) hr9 (h_fg _ (in_86 Is10 (h_rgv hr9)) (Fs10.up rfl) (fun s11 Is11 Fs11 => ?_))
      refine h_iinc (pc' := 42) (M := fun z12 => [(4, .int z12), (0, .ref 85), (1, .ref 10), (2, .ref 79), (3, .int x2)]) rfl rfl rfl rfl hy4 ci_1 rfl (by omega) (by omega) (fun _ => rfl) (fun z12 hz12 => ?_)
      refine h_goto (pc' := 11) rfl rfl ?_
      exact h_wk [(0, .ref 85), (1, .ref 10), (2, .ref 79), (3, .int x2), (4, .int z12)] ⟨rfl, rfl, rfl, rfl, rfl, trivial⟩ (ih _ Is11 Fs11 z12 _ hz12 (by omega) (by omega))
theorem w_32_85_10_79 {ns : Nat} (σ : h_S) (hI : h_I σ) (x2 : Int32) (a2 : Int) (hx2 : x2.toInt = a2) (ra2 : 0 ≤ a2 ∧ a2 ≤ 2) {Q : Option Value → h_S → Prop} (kk : ∀ (τ : h_S), h_I τ → h_F (k_in kf_w_32_85_10_79) τ σ → Q none τ) : h_T g_P (g_Y ns) 32 0 [(0, .ref 85), (1, .ref 10), (2, .ref 79), (3, .int x2)] [] σ Q := by
  have F00 : h_F (k_in kf_w_32_85_10_79) σ σ := h_F.rf
  refine h_aload_n (pc' := 1) rfl rfl rfl ?_
  refine h_aload_n (pc' := 2) rfl rfl rfl ?_
  refine h_getI (pc' := 5) (v := σ 10 8) rfl rfl rfl rfl rfl rfl (fun z1 hz1 => ?_)
  have tz1 := tf_10_8 hI
  refine h_put (pc' := 8) rfl rfl rfl rfl rfl rfl hz1 rfl (h_fg _ (if_85_4 hI (by omega)) (F00.up rfl) (fun s2 Is2 Fs2 => ?_))
  refine h_iconst (pc' := 9) (x := (Int32.ofInt 0)) rfl rfl rfl ?_
  refine h_istore (pc' := 11) (M := [(4, .int (Int32.ofInt 0)), (0, .ref 85), (1, .ref 10), (2, .ref 79), (3, .int x2)]) rfl rfl rfl rfl ?_
  exact h_wk [(0, .ref 85), (1, .ref 10), (2, .ref 79), (3, .int x2), (4, .int (Int32.ofInt 0))] ⟨rfl, rfl, rfl, rfl, rfl, trivial⟩ ((w_32_85_10_79_l ns σ hI x2 a2 hx2 ra2 kk 1000000000000) _ Is2 Fs2 (Int32.ofInt 0) _ ci_0 (by omega) (by omega))
def kf_w_32_85_23_79 : List Nat := [87044, 89087]
theorem w_32_85_23_79_l (ns : Nat) (σ : h_S) (hI : h_I σ) (x2 : Int32) (a2 : Int) (hx2 : x2.toInt = a2) (ra2 : 0 ≤ a2 ∧ a2 ≤ 2) {Q : Option Value → h_S → Prop} (kk : ∀ (τ : h_S), h_I τ → h_F (k_in kf_w_32_85_23_79) τ σ → Q none τ) : ∀ n : Nat, (∀ (s0 : h_S), h_I s0 → h_F (k_in kf_w_32_85_23_79) s0 σ → ∀ (y4 : Int32) (b4 : Int), y4.toInt = b4 → (0 ≤ b4 ∧ b4 ≤ 6) → (6 + 1 - b4) * 1000000 + 1000000000 ≤ (n : Int) → h_T g_P (g_Y ns) 32 11 [(0, .ref 85), (1, .ref 23), (2, .ref 79), (3, .int x2), (4, .int y4)] [] s0 Q) := by
  intro n
  induction n with
  | zero => exact by intro s0 I0 F0_ y4 b4 hy4 ry4 hm; exfalso; omega
  | succ n ih =>
    intro s0 I0 F0_ y4 b4 hy4 ry4 hm
    refine h_iload (pc' := 13) rfl rfl rfl ?_
    refine h_aload_n (pc' := 14) rfl rfl rfl ?_
    refine h_getI (pc' := 17) (v := s0 85 4) rfl rfl rfl rfl rfl rfl (fun z1 hz1 => ?_)
    have tz1 := tf_85_4 I0
    refine h_cge (tg := 45) (pc' := 20) rfl rfl rfl hy4 hz1 (fun c2 => ?_) (fun c2 => ?_)
    · refine h_aload_n (pc' := 46) rfl rfl rfl ?_
      refine h_getR (pc' := 49) rfl rfl rfl rfl rfl ?_
      refine h_bipush (pc' := 51) (x := (Int32.ofInt 6)) rfl rfl cb_6 ?_
      refine h_aload_n (pc' := 52) rfl rfl rfl ?_
      refine h_aload_n (pc' := 53) rfl rfl rfl ?_
      refine h_getR (pc' := 56) rfl rfl rfl rfl rfl ?_
      refine h_iload_n (pc' := 57) rfl rfl rfl ?_
      refine h_iald (pc' := 58) (v := σ 33 a2) rfl rfl rfl hx2 (by omega) (by omega) (F0_ 33 _ rfl) (fun z3 hz3 => ?_)
      have tz3 := ty_33 hI a2
      refine h_aload_n (pc' := 59) rfl rfl rfl ?_
      refine h_getR (pc' := 62) rfl rfl rfl rfl rfl ?_
      refine h_iload_n (pc' := 63) rfl rfl rfl ?_
      refine h_iald (pc' := 64) (v := σ 32 a2) rfl rfl rfl hx2 (by omega) (by omega) (F0_ 32 _ rfl) (fun z4 hz4 => ?_)
      have tz4 := ty_32 hI a2
      refine h_call (sp := false) (pc' := 67) (M := [(0, .ref 79), (1, .int z3), (2, .int z4)]) rfl rfl rfl rfl rfl rfl rfl rfl ?_
      refine w_29_79 _ I0 z3 _ hz3 z4 _ hz4 (fun r5 br5 hr5 s6 Is6 Gs6 => h_Kv ?_)
      have Fs6 := (Gs6.mono (B := kf_w_32_85_23_79) rfl).tr F0_
      refine h_iast (pc' := 68) rfl rfl rfl rfl ci_6 (by omega) (by omega) hr5 (h_fg _ (in_86 Is6 (h_rgv hr5)) (Fs6.up rfl) (fun s7 Is7 Fs7 => ?_))
      exact h_vret rfl rfl (kk _ Is7 Fs7)
    · refine h_aload_n (pc' := 21) rfl rfl rfl ?_
      refine h_getR (pc' := 24) rfl rfl rfl rfl rfl ?_
      refine h_iload (pc' := 26) rfl rfl rfl ?_
      refine h_aload_n (pc' := 27) rfl rfl rfl ?_
      refine h_iload (pc' := 29) rfl rfl rfl ?_
      refine h_aload_n (pc' := 30) rfl rfl rfl ?_
      refine h_getR (pc' := 33) rfl rfl rfl rfl rfl ?_
      refine h_iload_n (pc' := 34) rfl rfl rfl ?_
      refine h_iald (pc' := 35) (v := σ 32 a2) rfl rfl rfl hx2 (by omega) (by omega) (F0_ 32 _ rfl) (fun z8 hz8 => ?_)
      have tz8 := ty_32 hI a2
      refine h_call (sp := false) (pc' := 38) (M := [(0, .ref 79), (1, .int y4), (2, .int z8)]) rfl rfl rfl rfl rfl rfl rfl rfl ?_
      refine w_29_79 _ I0 y4 _ hy4 z8 _ hz8 (fun r9 br9 hr9 s10 Is10 Gs10 => h_Kv ?_)
      have Fs10 := (Gs10.mono (B := kf_w_32_85_23_79) rfl).tr F0_
      refine h_iast (pc' := 39) rfl rfl rfl rfl hy4 (by omega) (by omega) hr9 (h_fg _ (in_86 Is10 (h_rgv hr9)) (Fs10.up rfl) (fun s11 Is11 Fs11 => ?_))
      refine h_iinc (pc' := 42) (M := fun z12 => [(4, .int z12), (0, .ref 85), (1, .ref 23), (2, .ref 79), (3, .int x2)]) rfl rfl rfl rfl hy4 ci_1 rfl (by omega) (by omega) (fun _ => rfl) (fun z12 hz12 => ?_)
      refine h_goto (pc' := 11) rfl rfl ?_
      exact h_wk [(0, .ref 85), (1, .ref 23), (2, .ref 79), (3, .int x2), (4, .int z12)] ⟨rfl, rfl, rfl, rfl, rfl, trivial⟩ (ih _ Is11 Fs11 z12 _ hz12 (by omega) (by omega))
theorem w_32_85_23_79 {ns : Nat} (σ : h_S) (hI : h_I σ) (x2 : Int32) (a2 : Int) (hx2 : x2.toInt = a2) (ra2 : 0 ≤ a2 ∧ a2 ≤ 2) {Q : Option Value → h_S → Prop} (kk : ∀ (τ : h_S), h_I τ → h_F (k_in kf_w_32_85_23_79) τ σ → Q none τ) : h_T g_P (g_Y ns) 32 0 [(0, .ref 85), (1, .ref 23), (2, .ref 79), (3, .int x2)] [] σ Q := by
  have F00 : h_F (k_in kf_w_32_85_23_79) σ σ := h_F.rf
  refine h_aload_n (pc' := 1) rfl rfl rfl ?_
  refine h_aload_n (pc' := 2) rfl rfl rfl ?_
  refine h_getI (pc' := 5) (v := σ 23 8) rfl rfl rfl rfl rfl rfl (fun z1 hz1 => ?_)
  have tz1 := tf_23_8 hI
  refine h_put (pc' := 8) rfl rfl rfl rfl rfl rfl hz1 rfl (h_fg _ (if_85_4 hI (by omega)) (F00.up rfl) (fun s2 Is2 Fs2 => ?_))
  refine h_iconst (pc' := 9) (x := (Int32.ofInt 0)) rfl rfl rfl ?_
  refine h_istore (pc' := 11) (M := [(4, .int (Int32.ofInt 0)), (0, .ref 85), (1, .ref 23), (2, .ref 79), (3, .int x2)]) rfl rfl rfl rfl ?_
  exact h_wk [(0, .ref 85), (1, .ref 23), (2, .ref 79), (3, .int x2), (4, .int (Int32.ofInt 0))] ⟨rfl, rfl, rfl, rfl, rfl, trivial⟩ ((w_32_85_23_79_l ns σ hI x2 a2 hx2 ra2 kk 1000000000000) _ Is2 Fs2 (Int32.ofInt 0) _ ci_0 (by omega) (by omega))
def kf_w_35_85 : List Nat := [90111, 91135]
theorem w_35_85_l (ns : Nat) (σ : h_S) (hI : h_I σ) (x0 : Int32) (a0 : Int) (hx0 : x0.toInt = a0) (ra0 : 0 ≤ a0 ∧ a0 ≤ 63) (x1 : Int32) (a1 : Int) (hx1 : x1.toInt = a1) (ra1 : 0 ≤ a1 ∧ a1 ≤ 6) {Q : Option Value → h_S → Prop} (kk : ∀ (τ : h_S), h_I τ → h_F (k_in kf_w_35_85) τ σ → Q none τ) : ∀ n : Nat, (∀ (s0 : h_S), h_I s0 → h_F (k_in kf_w_35_85) s0 σ → ∀ (y3 : Int32) (b3 : Int), y3.toInt = b3 → (0 ≤ b3) → ∀ (y4 : Int32) (b4 : Int), y4.toInt = b4 → ∀ (y5 : Int32) (b5 : Int), y5.toInt = b5 → (0 ≤ b5 ∧ b5 ≤ 63) → ∀ (y6 : Int32) (b6 : Int), y6.toInt = b6 → (0 ≤ b6 ∧ b6 ≤ 6) → (6 + 1 - b6) * 1000000 + 1000000000 ≤ (n : Int) → h_T g_P (g_Y ns) 35 18 [(0, .ref 85), (1, .int x0), (2, .int x1), (3, .int y3), (4, .int y4), (5, .int y5), (6, .int y6)] [] s0 Q) := by
  intro n
  induction n with
  | zero => exact by intro s0 I0 F0_ y3 b3 hy3 ry3 y4 b4 hy4 y5 b5 hy5 ry5 y6 b6 hy6 ry6 hm; have gy3 := h_rgv hy3; exfalso; omega
  | succ n ih =>
    intro s0 I0 F0_ y3 b3 hy3 ry3 y4 b4 hy4 y5 b5 hy5 ry5 y6 b6 hy6 ry6 hm; have gy3 := h_rgv hy3
    refine h_iload (pc' := 20) rfl rfl rfl ?_
    refine h_aload_n (pc' := 21) rfl rfl rfl ?_
    refine h_getI (pc' := 24) (v := σ 85 4) rfl rfl rfl rfl rfl (F0_ 85 4 rfl) (fun z1 hz1 => ?_)
    have tz1 := tf_85_4 hI
    refine h_cge (tg := 109) (pc' := 27) rfl rfl rfl hy6 hz1 (fun c2 => ?_) (fun c2 => ?_)
    · refine h_aload_n (pc' := 110) rfl rfl rfl ?_
      refine h_getR (pc' := 113) rfl rfl rfl rfl rfl ?_
      refine h_iload_n (pc' := 114) rfl rfl rfl ?_
      refine h_bipush (pc' := 116) (x := (Int32.ofInt 7)) rfl rfl cb_7 ?_
      refine h_imul (pc' := 117) rfl rfl hx0 ci_7 rfl (by omega) (by omega) (fun z3 hz3 => ?_)
      refine h_iload_n (pc' := 118) rfl rfl rfl ?_
      refine h_iadd (pc' := 119) rfl rfl hz3 hx1 rfl (by omega) (by omega) (fun z4 hz4 => ?_)
      refine h_iload_n (pc' := 120) rfl rfl rfl ?_
      refine h_iast (pc' := 121) rfl rfl rfl rfl hz4 (by omega) (by omega) hy3 (h_fg _ (in_87 I0 (h_rgv hy3)) (F0_.up rfl) (fun s5 Is5 Fs5 => ?_))
      refine h_aload_n (pc' := 122) rfl rfl rfl ?_
      refine h_getR (pc' := 125) rfl rfl rfl rfl rfl ?_
      refine h_iload_n (pc' := 126) rfl rfl rfl ?_
      refine h_bipush (pc' := 128) (x := (Int32.ofInt 7)) rfl rfl cb_7 ?_
      refine h_imul (pc' := 129) rfl rfl hx0 ci_7 rfl (by omega) (by omega) (fun z6 hz6 => ?_)
      refine h_iload_n (pc' := 130) rfl rfl rfl ?_
      refine h_iadd (pc' := 131) rfl rfl hz6 hx1 rfl (by omega) (by omega) (fun z7 hz7 => ?_)
      refine h_iload (pc' := 133) rfl rfl rfl ?_
      refine h_iast (pc' := 134) rfl rfl rfl rfl hz7 (by omega) (by omega) hy4 (h_fg _ (in_88 Is5 (h_rgv hy4)) (Fs5.up rfl) (fun s8 Is8 Fs8 => ?_))
      exact h_vret rfl rfl (kk _ Is8 Fs8)
    · refine h_iload (pc' := 29) rfl rfl rfl ?_
      refine h_iload (pc' := 31) rfl rfl rfl ?_
      refine h_calls (pc' := 34) (M := [(0, .int y5), (1, .int y6)]) rfl rfl rfl rfl rfl rfl ?_
      refine h_iload_n (pc' := 1) rfl rfl rfl ?_
      refine h_iload_n (pc' := 2) rfl rfl rfl ?_
      refine h_ishr (pc' := 3) rfl rfl (fun z9 hz9 => ?_)
      refine h_iconst (pc' := 4) (x := (Int32.ofInt 1)) rfl rfl rfl ?_
      refine h_iand (pc' := 5) rfl rfl (fun z10 hz10 uz10 vz10 => ?_)
      clear uz10
      rw [ci_1] at vz10
      have yz10 := vz10 (by omega)
      refine h_zeq (tg := 12) (pc' := 8) rfl rfl rfl rfl (fun c11 => ?_) (fun c11 => ?_)
      · refine h_iconst (pc' := 13) (x := (Int32.ofInt 0)) rfl rfl rfl ?_
        refine h_zret rfl rfl ci_0 (by omega) (h_Kv ?_)
        refine h_zeq (tg := 103) (pc' := 37) rfl rfl rfl ci_0 (fun c12 => ?_) (fun c12 => absurd c12 (by omega))
        refine h_iinc (pc' := 106) (M := fun z13 => [(6, .int z13), (0, .ref 85), (1, .int x0), (2, .int x1), (3, .int y3), (4, .int y4), (5, .int y5)]) rfl rfl rfl rfl hy6 ci_1 rfl (by omega) (by omega) (fun _ => rfl) (fun z13 hz13 => ?_)
        refine h_goto (pc' := 18) rfl rfl ?_
        exact h_wk [(0, .ref 85), (1, .int x0), (2, .int x1), (3, .int y3), (4, .int y4), (5, .int y5), (6, .int z13)] ⟨rfl, rfl, rfl, rfl, rfl, rfl, rfl, trivial⟩ (ih _ I0 F0_ y3 _ hy3 (by omega) y4 _ hy4 y5 _ hy5 (by omega) z13 _ hz13 (by omega) (by omega))
      · refine h_iconst (pc' := 9) (x := (Int32.ofInt 1)) rfl rfl rfl ?_
        refine h_goto (pc' := 13) rfl rfl ?_
        refine h_zret rfl rfl ci_1 (by omega) (h_Kv ?_)
        refine h_zeq (tg := 103) (pc' := 37) rfl rfl rfl ci_1 (fun c14 => absurd c14 (by omega)) (fun c14 => ?_)
        refine h_iload_n (pc' := 38) rfl rfl rfl ?_
        refine h_iconst (pc' := 39) (x := (Int32.ofInt 1)) rfl rfl rfl ?_
        refine h_iload (pc' := 41) rfl rfl rfl ?_
        refine h_shl1 (pc' := 42) rfl rfl ci_1 hy6 (by omega) (by omega) (fun z15 hz15 vz15 => ?_)
        refine h_iconst (pc' := 43) (x := (Int32.ofInt (-1))) rfl rfl rfl ?_
        refine h_ixor (pc' := 44) rfl rfl (fun z16 hz16 => ?_)
        refine h_iand (pc' := 45) rfl rfl (fun z17 hz17 uz17 vz17 => ?_)
        rw [hx0] at uz17
        have wz17 := uz17 (by omega)
        clear vz17
        refine h_bipush (pc' := 47) (x := (Int32.ofInt 7)) rfl rfl cb_7 ?_
        refine h_imul (pc' := 48) rfl rfl rfl ci_7 rfl (by omega) (by omega) (fun z18 hz18 => ?_)
        refine h_iload (pc' := 50) rfl rfl rfl ?_
        refine h_iadd (pc' := 51) rfl rfl hz18 hy6 rfl (by omega) (by omega) (fun z19 hz19 => ?_)
        refine h_istore (pc' := 53) (M := [(7, .int z19), (0, .ref 85), (1, .int x0), (2, .int x1), (3, .int y3), (4, .int y4), (5, .int y5), (6, .int y6)]) rfl rfl rfl rfl ?_
        refine h_aload_n (pc' := 54) rfl rfl rfl ?_
        refine h_getR (pc' := 57) rfl rfl rfl rfl rfl ?_
        refine h_iload (pc' := 59) rfl rfl rfl ?_
        refine h_iald (pc' := 60) (v := s0 87 ((z17.toInt * 7) + b6)) rfl rfl rfl hz19 (by omega) (by omega) rfl (fun z20 hz20 => ?_)
        have tz20 := ty_87 I0 ((z17.toInt * 7) + b6)
        refine h_iconst (pc' := 61) (x := (Int32.ofInt 1)) rfl rfl rfl ?_
        refine h_iaddA (pc' := 62) rfl rfl (fun z21 hz21 => ?_)
        refine h_istore (pc' := 64) (M := [(8, .int z21), (7, .int z19), (0, .ref 85), (1, .int x0), (2, .int x1), (3, .int y3), (4, .int y4), (5, .int y5), (6, .int y6)]) rfl rfl rfl rfl ?_
        refine h_iload (pc' := 66) rfl rfl rfl ?_
        refine h_iload_n (pc' := 67) rfl rfl rfl ?_
        refine h_cle (tg := 85) (pc' := 70) rfl rfl rfl rfl hy3 (fun c22 => ?_) (fun c22 => ?_)
        · refine h_iload (pc' := 87) rfl rfl rfl ?_
          refine h_iload_n (pc' := 88) rfl rfl rfl ?_
          refine h_cne (tg := 103) (pc' := 91) rfl rfl rfl rfl hy3 (fun c23 => ?_) (fun c23 => ?_)
          · refine h_iinc (pc' := 106) (M := fun z24 => [(6, .int z24), (8, .int z21), (7, .int z19), (0, .ref 85), (1, .int x0), (2, .int x1), (3, .int y3), (4, .int y4), (5, .int y5)]) rfl rfl rfl rfl hy6 ci_1 rfl (by omega) (by omega) (fun _ => rfl) (fun z24 hz24 => ?_)
            refine h_goto (pc' := 18) rfl rfl ?_
            exact h_wk [(0, .ref 85), (1, .int x0), (2, .int x1), (3, .int y3), (4, .int y4), (5, .int y5), (6, .int z24)] ⟨rfl, rfl, rfl, rfl, rfl, rfl, rfl, trivial⟩ (ih _ I0 F0_ y3 _ hy3 (by omega) y4 _ hy4 y5 _ hy5 (by omega) z24 _ hz24 (by omega) (by omega))
          · refine h_iload (pc' := 93) rfl rfl rfl ?_
            refine h_aload_n (pc' := 94) rfl rfl rfl ?_
            refine h_getR (pc' := 97) rfl rfl rfl rfl rfl ?_
            refine h_iload (pc' := 99) rfl rfl rfl ?_
            refine h_iald (pc' := 100) (v := s0 88 ((z17.toInt * 7) + b6)) rfl rfl rfl hz19 (by omega) (by omega) rfl (fun z25 hz25 => ?_)
            have tz25 := ty_88 I0 ((z17.toInt * 7) + b6)
            refine h_iaddA (pc' := 101) rfl rfl (fun z26 hz26 => ?_)
            refine h_istore (pc' := 103) (M := [(4, .int z26), (8, .int z21), (7, .int z19), (0, .ref 85), (1, .int x0), (2, .int x1), (3, .int y3), (5, .int y5), (6, .int y6)]) rfl rfl rfl rfl ?_
            refine h_iinc (pc' := 106) (M := fun z27 => [(6, .int z27), (4, .int z26), (8, .int z21), (7, .int z19), (0, .ref 85), (1, .int x0), (2, .int x1), (3, .int y3), (5, .int y5)]) rfl rfl rfl rfl hy6 ci_1 rfl (by omega) (by omega) (fun _ => rfl) (fun z27 hz27 => ?_)
            refine h_goto (pc' := 18) rfl rfl ?_
            exact h_wk [(0, .ref 85), (1, .int x0), (2, .int x1), (3, .int y3), (4, .int z26), (5, .int y5), (6, .int z27)] ⟨rfl, rfl, rfl, rfl, rfl, rfl, rfl, trivial⟩ (ih _ I0 F0_ y3 _ hy3 (by omega) z26 _ rfl y5 _ hy5 (by omega) z27 _ hz27 (by omega) (by omega))
        · refine h_iload (pc' := 72) rfl rfl rfl ?_
          refine h_istore_n (pc' := 73) (M := [(3, .int z21), (8, .int z21), (7, .int z19), (0, .ref 85), (1, .int x0), (2, .int x1), (4, .int y4), (5, .int y5), (6, .int y6)]) rfl rfl rfl rfl ?_
          refine h_aload_n (pc' := 74) rfl rfl rfl ?_
          refine h_getR (pc' := 77) rfl rfl rfl rfl rfl ?_
          refine h_iload (pc' := 79) rfl rfl rfl ?_
          refine h_iald (pc' := 80) (v := s0 88 ((z17.toInt * 7) + b6)) rfl rfl rfl hz19 (by omega) (by omega) rfl (fun z28 hz28 => ?_)
          have tz28 := ty_88 I0 ((z17.toInt * 7) + b6)
          refine h_istore (pc' := 82) (M := [(4, .int z28), (3, .int z21), (8, .int z21), (7, .int z19), (0, .ref 85), (1, .int x0), (2, .int x1), (5, .int y5), (6, .int y6)]) rfl rfl rfl rfl ?_
          refine h_goto (pc' := 103) rfl rfl ?_
          refine h_iinc (pc' := 106) (M := fun z29 => [(6, .int z29), (4, .int z28), (3, .int z21), (8, .int z21), (7, .int z19), (0, .ref 85), (1, .int x0), (2, .int x1), (5, .int y5)]) rfl rfl rfl rfl hy6 ci_1 rfl (by omega) (by omega) (fun _ => rfl) (fun z29 hz29 => ?_)
          refine h_goto (pc' := 18) rfl rfl ?_
          exact h_wk [(0, .ref 85), (1, .int x0), (2, .int x1), (3, .int z21), (4, .int z28), (5, .int y5), (6, .int z29)] ⟨rfl, rfl, rfl, rfl, rfl, rfl, rfl, trivial⟩ (ih _ I0 F0_ z21 _ rfl (by omega) z28 _ hz28 y5 _ hy5 (by omega) z29 _ hz29 (by omega) (by omega))
theorem w_35_85 {ns : Nat} (σ : h_S) (hI : h_I σ) (x0 : Int32) (a0 : Int) (hx0 : x0.toInt = a0) (ra0 : 0 ≤ a0 ∧ a0 ≤ 63) (x1 : Int32) (a1 : Int) (hx1 : x1.toInt = a1) (ra1 : 0 ≤ a1 ∧ a1 ≤ 6) {Q : Option Value → h_S → Prop} (kk : ∀ (τ : h_S), h_I τ → h_F (k_in kf_w_35_85) τ σ → Q none τ) : h_T g_P (g_Y ns) 35 0 [(0, .ref 85), (1, .int x0), (2, .int x1)] [] σ Q := by
  have F00 : h_F (k_in kf_w_35_85) σ σ := h_F.rf
  refine h_iconst (pc' := 1) (x := (Int32.ofInt 0)) rfl rfl rfl ?_
  refine h_istore_n (pc' := 2) (M := [(3, .int (Int32.ofInt 0)), (0, .ref 85), (1, .int x0), (2, .int x1)]) rfl rfl rfl rfl ?_
  refine h_iconst (pc' := 3) (x := (Int32.ofInt 1)) rfl rfl rfl ?_
  refine h_istore (pc' := 5) (M := [(4, .int (Int32.ofInt 1)), (3, .int (Int32.ofInt 0)), (0, .ref 85), (1, .int x0), (2, .int x1)]) rfl rfl rfl rfl ?_
  refine h_iload_n (pc' := 6) rfl rfl rfl ?_
  refine h_aload_n (pc' := 7) rfl rfl rfl ?_
  refine h_getR (pc' := 10) rfl rfl rfl rfl rfl ?_
  refine h_iload_n (pc' := 11) rfl rfl rfl ?_
  refine h_iald (pc' := 12) (v := σ 86 a1) rfl rfl rfl hx1 (by omega) (by omega) rfl (fun z1 hz1 => ?_)
  have tz1 := ty_86 hI a1
  refine h_iand (pc' := 13) rfl rfl (fun z2 hz2 uz2 vz2 => ?_)
  rw [hx0] at uz2
  have wz2 := uz2 (by omega)
  clear vz2
  refine h_istore (pc' := 15) (M := [(5, .int z2), (4, .int (Int32.ofInt 1)), (3, .int (Int32.ofInt 0)), (0, .ref 85), (1, .int x0), (2, .int x1)]) rfl rfl rfl rfl ?_
  refine h_iconst (pc' := 16) (x := (Int32.ofInt 0)) rfl rfl rfl ?_
  refine h_istore (pc' := 18) (M := [(6, .int (Int32.ofInt 0)), (5, .int z2), (4, .int (Int32.ofInt 1)), (3, .int (Int32.ofInt 0)), (0, .ref 85), (1, .int x0), (2, .int x1)]) rfl rfl rfl rfl ?_
  exact h_wk [(0, .ref 85), (1, .int x0), (2, .int x1), (3, .int (Int32.ofInt 0)), (4, .int (Int32.ofInt 1)), (5, .int z2), (6, .int (Int32.ofInt 0))] ⟨rfl, rfl, rfl, rfl, rfl, rfl, rfl, trivial⟩ ((w_35_85_l ns σ hI x0 a0 hx0 ra0 x1 a1 hx1 ra1 kk 1000000000000) _ hI F00 (Int32.ofInt 0) _ ci_0 (by omega) (Int32.ofInt 1) _ ci_1 z2 _ rfl (by omega) (Int32.ofInt 0) _ ci_0 (by omega) (by omega))
def kf_w_33_85 : List Nat := [90111, 91135]
theorem w_33_85_l (ns : Nat) (σ : h_S) (hI : h_I σ) {Q : Option Value → h_S → Prop} (kk : ∀ (τ : h_S), h_I τ → h_F (k_in kf_w_33_85) τ σ → Q none τ) : ∀ n : Nat, (∀ (s0 : h_S), h_I s0 → h_F (k_in kf_w_33_85) s0 σ → ∀ (y1 : Int32) (b1 : Int), y1.toInt = b1 → (0 ≤ b1 ∧ b1 ≤ 64) → (64 + 1 - b1) * 1000000 + 1000000000 ≤ (n : Int) → h_T g_P (g_Y ns) 33 2 [(0, .ref 85), (1, .int y1)] [] s0 Q) ∧ (∀ (s0 : h_S), h_I s0 → h_F (k_in kf_w_33_85) s0 σ → ∀ (y1 : Int32) (b1 : Int), y1.toInt = b1 → (0 ≤ b1 ∧ b1 ≤ 63) → ∀ (y2 : Int32) (b2 : Int), y2.toInt = b2 → (0 ≤ b2 ∧ b2 ≤ 6) → ((64 + 1 - b1) - 1) * 1000000 + 1000000000 + (6 + 1 - b2) * 1000 + 100000 ≤ (n : Int) → h_T g_P (g_Y ns) 33 12 [(0, .ref 85), (1, .int y1), (2, .int y2)] [] s0 Q) := by
  intro n
  induction n with
  | zero => exact ⟨by intro s0 I0 F0_ y1 b1 hy1 ry1 hm; exfalso; omega, by intro s0 I0 F0_ y1 b1 hy1 ry1 y2 b2 hy2 ry2 hm; exfalso; omega⟩
  | succ n ih =>
    refine ⟨?_, ?_⟩
    · intro s0 I0 F0_ y1 b1 hy1 ry1 hm
      refine h_iload_n (pc' := 3) rfl rfl rfl ?_
      refine h_aload_n (pc' := 4) rfl rfl rfl ?_
      refine h_call (sp := false) (pc' := 7) (M := [(0, .ref 85)]) rfl rfl rfl rfl rfl rfl rfl rfl ?_
      refine h_iconst (pc' := 1) (x := (Int32.ofInt 1)) rfl rfl rfl ?_
      refine h_aload_n (pc' := 2) rfl rfl rfl ?_
      refine h_getI (pc' := 5) (v := σ 85 4) rfl rfl rfl rfl rfl (F0_ 85 4 rfl) (fun z1 hz1 => ?_)
      have tz1 := tf_85_4 hI
      refine h_shl1 (pc' := 6) rfl rfl ci_1 hz1 (by omega) (by omega) (fun z2 hz2 vz2 => ?_)
      refine h_iconst (pc' := 7) (x := (Int32.ofInt 1)) rfl rfl rfl ?_
      refine h_isub (pc' := 8) rfl rfl rfl ci_1 rfl (by omega) (by omega) (fun z3 hz3 => ?_)
      refine h_iret rfl rfl (h_Kv ?_)
      refine h_cgt (tg := 46) (pc' := 10) rfl rfl rfl hy1 hz3 (fun c4 => ?_) (fun c4 => ?_)
      · refine h_aload_n (pc' := 47) rfl rfl rfl ?_
        refine h_aload_n (pc' := 48) rfl rfl rfl ?_
        refine h_call (sp := false) (pc' := 51) (M := [(0, .ref 85)]) rfl rfl rfl rfl rfl rfl rfl rfl ?_
        refine h_iconst (pc' := 1) (x := (Int32.ofInt 1)) rfl rfl rfl ?_
        refine h_aload_n (pc' := 2) rfl rfl rfl ?_
        refine h_getI (pc' := 5) (v := σ 85 4) rfl rfl rfl rfl rfl (F0_ 85 4 rfl) (fun z5 hz5 => ?_)
        have tz5 := tf_85_4 hI
        refine h_shl1 (pc' := 6) rfl rfl ci_1 hz5 (by omega) (by omega) (fun z6 hz6 vz6 => ?_)
        refine h_iconst (pc' := 7) (x := (Int32.ofInt 1)) rfl rfl rfl ?_
        refine h_isub (pc' := 8) rfl rfl rfl ci_1 rfl (by omega) (by omega) (fun z7 hz7 => ?_)
        refine h_iret rfl rfl (h_Kv ?_)
        refine h_bipush (pc' := 53) (x := (Int32.ofInt 6)) rfl rfl cb_6 ?_
        refine h_call (sp := false) (pc' := 56) (M := [(0, .ref 85), (1, .int z7), (2, .int (Int32.ofInt 6))]) rfl rfl rfl rfl rfl rfl rfl rfl ?_
        refine w_35_85 _ I0 z7 _ hz7 (by omega) (Int32.ofInt 6) _ ci_6 (by omega) (fun s9 Is9 Gs9 => h_Kn ?_)
        have Fs9 := (Gs9.mono (B := kf_w_33_85) rfl).tr F0_
        exact h_vret rfl rfl (kk _ Is9 Fs9)
      · refine h_iconst (pc' := 11) (x := (Int32.ofInt 0)) rfl rfl rfl ?_
        refine h_istore_n (pc' := 12) (M := [(2, .int (Int32.ofInt 0)), (0, .ref 85), (1, .int y1)]) rfl rfl rfl rfl ?_
        exact h_wk [(0, .ref 85), (1, .int y1), (2, .int (Int32.ofInt 0))] ⟨rfl, rfl, rfl, trivial⟩ (ih.2 _ I0 F0_ y1 _ hy1 (by omega) (Int32.ofInt 0) _ ci_0 (by omega) (by omega))
    · intro s0 I0 F0_ y1 b1 hy1 ry1 y2 b2 hy2 ry2 hm
      refine h_iload_n (pc' := 13) rfl rfl rfl ?_
      refine h_aload_n (pc' := 14) rfl rfl rfl ?_
      refine h_getI (pc' := 17) (v := σ 85 4) rfl rfl rfl rfl rfl (F0_ 85 4 rfl) (fun z1 hz1 => ?_)
      have tz1 := tf_85_4 hI
      refine h_cge (tg := 40) (pc' := 20) rfl rfl rfl hy2 hz1 (fun c2 => ?_) (fun c2 => ?_)
      · refine h_iinc (pc' := 43) (M := fun z3 => [(1, .int z3), (0, .ref 85), (2, .int y2)]) rfl rfl rfl rfl hy1 ci_1 rfl (by omega) (by omega) (fun _ => rfl) (fun z3 hz3 => ?_)
        refine h_goto (pc' := 2) rfl rfl ?_
        exact h_wk [(0, .ref 85), (1, .int z3)] ⟨rfl, rfl, trivial⟩ (ih.1 _ I0 F0_ z3 _ hz3 (by omega) (by omega))
      · refine h_iload_n (pc' := 21) rfl rfl rfl ?_
        refine h_iload_n (pc' := 22) rfl rfl rfl ?_
        refine h_calls (pc' := 25) (M := [(0, .int y1), (1, .int y2)]) rfl rfl rfl rfl rfl rfl ?_
        refine h_iload_n (pc' := 1) rfl rfl rfl ?_
        refine h_iload_n (pc' := 2) rfl rfl rfl ?_
        refine h_ishr (pc' := 3) rfl rfl (fun z4 hz4 => ?_)
        refine h_iconst (pc' := 4) (x := (Int32.ofInt 1)) rfl rfl rfl ?_
        refine h_iand (pc' := 5) rfl rfl (fun z5 hz5 uz5 vz5 => ?_)
        clear uz5
        rw [ci_1] at vz5
        have yz5 := vz5 (by omega)
        refine h_zeq (tg := 12) (pc' := 8) rfl rfl rfl rfl (fun c6 => ?_) (fun c6 => ?_)
        · refine h_iconst (pc' := 13) (x := (Int32.ofInt 0)) rfl rfl rfl ?_
          refine h_zret rfl rfl ci_0 (by omega) (h_Kv ?_)
          refine h_zne (tg := 34) (pc' := 28) rfl rfl rfl ci_0 (fun c7 => absurd c7 (by omega)) (fun c7 => ?_)
          refine h_aload_n (pc' := 29) rfl rfl rfl ?_
          refine h_iload_n (pc' := 30) rfl rfl rfl ?_
          refine h_iload_n (pc' := 31) rfl rfl rfl ?_
          refine h_call (sp := false) (pc' := 34) (M := [(0, .ref 85), (1, .int y1), (2, .int y2)]) rfl rfl rfl rfl rfl rfl rfl rfl ?_
          refine w_35_85 _ I0 y1 _ hy1 (by omega) y2 _ hy2 (by omega) (fun s9 Is9 Gs9 => h_Kn ?_)
          have Fs9 := (Gs9.mono (B := kf_w_33_85) rfl).tr F0_
          refine h_iinc (pc' := 37) (M := fun z10 => [(2, .int z10), (0, .ref 85), (1, .int y1)]) rfl rfl rfl rfl hy2 ci_1 rfl (by omega) (by omega) (fun _ => rfl) (fun z10 hz10 => ?_)
          refine h_goto (pc' := 12) rfl rfl ?_
          exact h_wk [(0, .ref 85), (1, .int y1), (2, .int z10)] ⟨rfl, rfl, rfl, trivial⟩ (ih.2 _ Is9 Fs9 y1 _ hy1 (by omega) z10 _ hz10 (by omega) (by omega))
        · refine h_iconst (pc' := 9) (x := (Int32.ofInt 1)) rfl rfl rfl ?_
          refine h_goto (pc' := 13) rfl rfl ?_
          refine h_zret rfl rfl ci_1 (by omega) (h_Kv ?_)
          refine h_zne (tg := 34) (pc' := 28) rfl rfl rfl ci_1 (fun c11 => ?_) (fun c11 => absurd c11 (by omega))
          refine h_iinc (pc' := 37) (M := fun z12 => [(2, .int z12), (0, .ref 85), (1, .int y1)]) rfl rfl rfl rfl hy2 ci_1 rfl (by omega) (by omega) (fun _ => rfl) (fun z12 hz12 => ?_)
          refine h_goto (pc' := 12) rfl rfl ?_
          exact h_wk [(0, .ref 85), (1, .int y1), (2, .int z12)] ⟨rfl, rfl, rfl, trivial⟩ (ih.2 _ I0 F0_ y1 _ hy1 (by omega) z12 _ hz12 (by omega) (by omega))
theorem w_33_85 {ns : Nat} (σ : h_S) (hI : h_I σ) {Q : Option Value → h_S → Prop} (kk : ∀ (τ : h_S), h_I τ → h_F (k_in kf_w_33_85) τ σ → Q none τ) : h_T g_P (g_Y ns) 33 0 [(0, .ref 85)] [] σ Q := by
  have F00 : h_F (k_in kf_w_33_85) σ σ := h_F.rf
  refine h_iconst (pc' := 1) (x := (Int32.ofInt 0)) rfl rfl rfl ?_
  refine h_istore_n (pc' := 2) (M := [(1, .int (Int32.ofInt 0)), (0, .ref 85)]) rfl rfl rfl rfl ?_
  exact h_wk [(0, .ref 85), (1, .int (Int32.ofInt 0))] ⟨rfl, rfl, trivial⟩ ((w_33_85_l ns σ hI  kk 1000000000000).1 _ hI F00 (Int32.ofInt 0) _ ci_0 (by omega) (by omega))
def kf_w_39_85 : List Nat := []
theorem w_39_85_l (ns : Nat) (σ : h_S) (hI : h_I σ) (x0 : Int32) (a0 : Int) (hx0 : x0.toInt = a0) (ra0 : 0 ≤ a0 ∧ a0 ≤ 63) (x1 : Int32) (a1 : Int) (hx1 : x1.toInt = a1) (ra1 : 0 ≤ a1 ∧ a1 ≤ 6) {Q : Option Value → h_S → Prop} (kk : ∀ (r : Int32) (b : Int) (hb : r.toInt = b) (τ : h_S), h_I τ → h_F (k_in kf_w_39_85) τ σ → ((-4) ≤ b ∧ b ≤ 5) → (b = -4 ∨ 0 ≤ b) → Q (some (.int r)) τ) : ∀ n : Nat, (∀ (s0 : h_S), h_I s0 → h_F (k_in kf_w_39_85) s0 σ → ∀ (y3 : Int32) (b3 : Int), y3.toInt = b3 → ∀ (y4 : Int32) (b4 : Int), y4.toInt = b4 → (0 ≤ b4 ∧ b4 ≤ 63) → ∀ (y5 : Int32) (b5 : Int), y5.toInt = b5 → (0 ≤ b5 ∧ b5 ≤ 6) → (6 + 1 - b5) * 1000000 + 1000000000 ≤ (n : Int) → h_T g_P (g_Y ns) 39 27 [(0, .ref 85), (1, .int x0), (2, .int x1), (3, .int y3), (4, .int y4), (5, .int y5)] [] s0 Q) := by
  intro n
  induction n with
  | zero => exact by intro s0 I0 F0_ y3 b3 hy3 y4 b4 hy4 ry4 y5 b5 hy5 ry5 hm; exfalso; omega
  | succ n ih =>
    intro s0 I0 F0_ y3 b3 hy3 y4 b4 hy4 ry4 y5 b5 hy5 ry5 hm
    refine h_iload (pc' := 29) rfl rfl rfl ?_
    refine h_aload_n (pc' := 30) rfl rfl rfl ?_
    refine h_getI (pc' := 33) (v := σ 85 4) rfl rfl rfl rfl rfl (F0_ 85 4 rfl) (fun z1 hz1 => ?_)
    have tz1 := tf_85_4 hI
    refine h_cge (tg := 78) (pc' := 36) rfl rfl rfl hy5 hz1 (fun c2 => ?_) (fun c2 => ?_)
    · refine h_bipush (pc' := 80) (x := (Int32.ofInt (-4))) rfl rfl cb_m4 ?_
      exact h_iret rfl rfl (kk _ _ ci_m4 _ I0 F0_ (by omega) (by omega))
    · refine h_iload (pc' := 38) rfl rfl rfl ?_
      refine h_iload (pc' := 40) rfl rfl rfl ?_
      refine h_calls (pc' := 43) (M := [(0, .int y4), (1, .int y5)]) rfl rfl rfl rfl rfl rfl ?_
      refine h_iload_n (pc' := 1) rfl rfl rfl ?_
      refine h_iload_n (pc' := 2) rfl rfl rfl ?_
      refine h_ishr (pc' := 3) rfl rfl (fun z3 hz3 => ?_)
      refine h_iconst (pc' := 4) (x := (Int32.ofInt 1)) rfl rfl rfl ?_
      refine h_iand (pc' := 5) rfl rfl (fun z4 hz4 uz4 vz4 => ?_)
      clear uz4
      rw [ci_1] at vz4
      have yz4 := vz4 (by omega)
      refine h_zeq (tg := 12) (pc' := 8) rfl rfl rfl rfl (fun c5 => ?_) (fun c5 => ?_)
      · refine h_iconst (pc' := 13) (x := (Int32.ofInt 0)) rfl rfl rfl ?_
        refine h_zret rfl rfl ci_0 (by omega) (h_Kv ?_)
        refine h_zeq (tg := 72) (pc' := 46) rfl rfl rfl ci_0 (fun c6 => ?_) (fun c6 => absurd c6 (by omega))
        refine h_iinc (pc' := 75) (M := fun z7 => [(5, .int z7), (0, .ref 85), (1, .int x0), (2, .int x1), (3, .int y3), (4, .int y4)]) rfl rfl rfl rfl hy5 ci_1 rfl (by omega) (by omega) (fun _ => rfl) (fun z7 hz7 => ?_)
        refine h_goto (pc' := 27) rfl rfl ?_
        exact h_wk [(0, .ref 85), (1, .int x0), (2, .int x1), (3, .int y3), (4, .int y4), (5, .int z7)] ⟨rfl, rfl, rfl, rfl, rfl, rfl, trivial⟩ (ih _ I0 F0_ y3 _ hy3 y4 _ hy4 (by omega) z7 _ hz7 (by omega) (by omega))
      · refine h_iconst (pc' := 9) (x := (Int32.ofInt 1)) rfl rfl rfl ?_
        refine h_goto (pc' := 13) rfl rfl ?_
        refine h_zret rfl rfl ci_1 (by omega) (h_Kv ?_)
        refine h_zeq (tg := 72) (pc' := 46) rfl rfl rfl ci_1 (fun c8 => absurd c8 (by omega)) (fun c8 => ?_)
        refine h_aload_n (pc' := 47) rfl rfl rfl ?_
        refine h_getR (pc' := 50) rfl rfl rfl rfl rfl ?_
        refine h_iload_n (pc' := 51) rfl rfl rfl ?_
        refine h_iconst (pc' := 52) (x := (Int32.ofInt 1)) rfl rfl rfl ?_
        refine h_iload (pc' := 54) rfl rfl rfl ?_
        refine h_shl1 (pc' := 55) rfl rfl ci_1 hy5 (by omega) (by omega) (fun z9 hz9 vz9 => ?_)
        refine h_iconst (pc' := 56) (x := (Int32.ofInt (-1))) rfl rfl rfl ?_
        refine h_ixor (pc' := 57) rfl rfl (fun z10 hz10 => ?_)
        refine h_iand (pc' := 58) rfl rfl (fun z11 hz11 uz11 vz11 => ?_)
        rw [hx0] at uz11
        have wz11 := uz11 (by omega)
        clear vz11
        refine h_bipush (pc' := 60) (x := (Int32.ofInt 7)) rfl rfl cb_7 ?_
        refine h_imul (pc' := 61) rfl rfl rfl ci_7 rfl (by omega) (by omega) (fun z12 hz12 => ?_)
        refine h_iload (pc' := 63) rfl rfl rfl ?_
        refine h_iadd (pc' := 64) rfl rfl hz12 hy5 rfl (by omega) (by omega) (fun z13 hz13 => ?_)
        refine h_iald (pc' := 65) (v := σ 87 ((z11.toInt * 7) + b5)) rfl rfl rfl hz13 (by omega) (by omega) (F0_ 87 _ rfl) (fun z14 hz14 => ?_)
        have tz14 := ty_87 hI ((z11.toInt * 7) + b5)
        refine h_iload_n (pc' := 66) rfl rfl rfl ?_
        refine h_cne (tg := 72) (pc' := 69) rfl rfl rfl hz14 hy3 (fun c15 => ?_) (fun c15 => ?_)
        · refine h_iinc (pc' := 75) (M := fun z16 => [(5, .int z16), (0, .ref 85), (1, .int x0), (2, .int x1), (3, .int y3), (4, .int y4)]) rfl rfl rfl rfl hy5 ci_1 rfl (by omega) (by omega) (fun _ => rfl) (fun z16 hz16 => ?_)
          refine h_goto (pc' := 27) rfl rfl ?_
          exact h_wk [(0, .ref 85), (1, .int x0), (2, .int x1), (3, .int y3), (4, .int y4), (5, .int z16)] ⟨rfl, rfl, rfl, rfl, rfl, rfl, trivial⟩ (ih _ I0 F0_ y3 _ hy3 y4 _ hy4 (by omega) z16 _ hz16 (by omega) (by omega))
        · refine h_iload (pc' := 71) rfl rfl rfl ?_
          exact h_iret rfl rfl (kk _ _ hy5 _ I0 F0_ (by omega) (by omega))
theorem w_39_85 {ns : Nat} (σ : h_S) (hI : h_I σ) (x0 : Int32) (a0 : Int) (hx0 : x0.toInt = a0) (ra0 : 0 ≤ a0 ∧ a0 ≤ 63) (x1 : Int32) (a1 : Int) (hx1 : x1.toInt = a1) (ra1 : 0 ≤ a1 ∧ a1 ≤ 6) {Q : Option Value → h_S → Prop} (kk : ∀ (r : Int32) (b : Int) (hb : r.toInt = b) (τ : h_S), h_I τ → h_F (k_in kf_w_39_85) τ σ → ((-4) ≤ b ∧ b ≤ 5) → (b = -4 ∨ 0 ≤ b) → Q (some (.int r)) τ) : h_T g_P (g_Y ns) 39 0 [(0, .ref 85), (1, .int x0), (2, .int x1)] [] σ Q := by
  have F00 : h_F (k_in kf_w_39_85) σ σ := h_F.rf
  refine h_aload_n (pc' := 1) rfl rfl rfl ?_
  refine h_getR (pc' := 4) rfl rfl rfl rfl rfl ?_
  refine h_iload_n (pc' := 5) rfl rfl rfl ?_
  refine h_bipush (pc' := 7) (x := (Int32.ofInt 7)) rfl rfl cb_7 ?_
  refine h_imul (pc' := 8) rfl rfl hx0 ci_7 rfl (by omega) (by omega) (fun z1 hz1 => ?_)
  refine h_iload_n (pc' := 9) rfl rfl rfl ?_
  refine h_iadd (pc' := 10) rfl rfl hz1 hx1 rfl (by omega) (by omega) (fun z2 hz2 => ?_)
  refine h_iald (pc' := 11) (v := σ 87 ((a0 * 7) + a1)) rfl rfl rfl hz2 (by omega) (by omega) rfl (fun z3 hz3 => ?_)
  have tz3 := ty_87 hI ((a0 * 7) + a1)
  refine h_iconst (pc' := 12) (x := (Int32.ofInt 1)) rfl rfl rfl ?_
  refine h_isubA (pc' := 13) rfl rfl (fun z4 hz4 => ?_)
  refine h_istore_n (pc' := 14) (M := [(3, .int z4), (0, .ref 85), (1, .int x0), (2, .int x1)]) rfl rfl rfl rfl ?_
  refine h_iload_n (pc' := 15) rfl rfl rfl ?_
  refine h_aload_n (pc' := 16) rfl rfl rfl ?_
  refine h_getR (pc' := 19) rfl rfl rfl rfl rfl ?_
  refine h_iload_n (pc' := 20) rfl rfl rfl ?_
  refine h_iald (pc' := 21) (v := σ 86 a1) rfl rfl rfl hx1 (by omega) (by omega) rfl (fun z5 hz5 => ?_)
  have tz5 := ty_86 hI a1
  refine h_iand (pc' := 22) rfl rfl (fun z6 hz6 uz6 vz6 => ?_)
  rw [hx0] at uz6
  have wz6 := uz6 (by omega)
  clear vz6
  refine h_istore (pc' := 24) (M := [(4, .int z6), (3, .int z4), (0, .ref 85), (1, .int x0), (2, .int x1)]) rfl rfl rfl rfl ?_
  refine h_iconst (pc' := 25) (x := (Int32.ofInt 0)) rfl rfl rfl ?_
  refine h_istore (pc' := 27) (M := [(5, .int (Int32.ofInt 0)), (4, .int z6), (3, .int z4), (0, .ref 85), (1, .int x0), (2, .int x1)]) rfl rfl rfl rfl ?_
  exact h_wk [(0, .ref 85), (1, .int x0), (2, .int x1), (3, .int z4), (4, .int z6), (5, .int (Int32.ofInt 0))] ⟨rfl, rfl, rfl, rfl, rfl, rfl, trivial⟩ ((w_39_85_l ns σ hI x0 a0 hx0 ra0 x1 a1 hx1 ra1 kk 1000000000000) _ hI F00 z4 _ rfl z6 _ rfl (by omega) (Int32.ofInt 0) _ ci_0 (by omega) (by omega))
def kf_w_38_85 : List Nat := []
theorem w_38_85_l (ns : Nat) (σ : h_S) (hI : h_I σ) (x0 : Int32) (a0 : Int) (hx0 : x0.toInt = a0) {Q : Option Value → h_S → Prop} (kk : ∀ (r : Int32) (b : Int) (hb : r.toInt = b) (τ : h_S), h_I τ → h_F (k_in kf_w_38_85) τ σ → ((-4) ≤ b ∧ b ≤ 6) → Q (some (.int r)) τ) : ∀ n : Nat, (∀ (s0 : h_S), h_I s0 → h_F (k_in kf_w_38_85) s0 σ → ∀ (y2 : Int32) (b2 : Int), y2.toInt = b2 → (0 ≤ b2 ∧ b2 ≤ 63) → ∀ (y3 : Int32) (b3 : Int), y3.toInt = b3 → ((-4) ≤ b3 ∧ b3 ≤ 6) → ∀ (y4 : Int32) (b4 : Int), y4.toInt = b4 → (0 ≤ b4) → (b3 = -4 ∨ 0 ≤ b3) → (0 ≤ a0 ∧ a0 ≤ 2147483646) → (2147483647 + 1 - b4) * 1000000 + 1000000000 ≤ (n : Int) → h_T g_P (g_Y ns) 38 26 [(0, .ref 85), (1, .int x0), (2, .int y2), (3, .int y3), (4, .int y4)] [] s0 Q) := by
  intro n
  induction n with
  | zero => exact by intro s0 I0 F0_ y2 b2 hy2 ry2 y3 b3 hy3 ry3 y4 b4 hy4 ry4 ex0 ex1 hm; have gy4 := h_rgv hy4; exfalso; omega
  | succ n ih =>
    intro s0 I0 F0_ y2 b2 hy2 ry2 y3 b3 hy3 ry3 y4 b4 hy4 ry4 ex0 ex1 hm; have gy4 := h_rgv hy4
    refine h_iload (pc' := 28) rfl rfl rfl ?_
    refine h_iload_n (pc' := 29) rfl rfl rfl ?_
    refine h_cgt (tg := 65) (pc' := 32) rfl rfl rfl hy4 hx0 (fun c1 => ?_) (fun c1 => ?_)
    · refine h_iload_n (pc' := 66) rfl rfl rfl ?_
      exact h_iret rfl rfl (kk _ _ hy3 _ I0 F0_ (by omega))
    · refine h_iload_n (pc' := 33) rfl rfl rfl ?_
      refine h_bipush (pc' := 35) (x := (Int32.ofInt (-4))) rfl rfl cb_m4 ?_
      refine h_ceq (tg := 65) (pc' := 38) rfl rfl rfl hy3 ci_m4 (fun c2 => ?_) (fun c2 => ?_)
      · refine h_iload_n (pc' := 66) rfl rfl rfl ?_
        exact h_iret rfl rfl (kk _ _ hy3 _ I0 F0_ (by omega))
      · refine h_aload_n (pc' := 39) rfl rfl rfl ?_
        refine h_iload_n (pc' := 40) rfl rfl rfl ?_
        refine h_iload_n (pc' := 41) rfl rfl rfl ?_
        refine h_call (sp := false) (pc' := 44) (M := [(0, .ref 85), (1, .int y2), (2, .int y3)]) rfl rfl rfl rfl rfl rfl rfl rfl ?_
        refine w_39_85 _ I0 y2 _ hy2 (by omega) y3 _ hy3 (by omega) (fun r3 br3 hr3 s4 Is4 Gs4 tr3 ps4_0 => h_Kv ?_)
        have Fs4 := (Gs4.mono (B := kf_w_38_85) rfl).tr F0_
        refine h_istore_n (pc' := 45) (M := [(3, .int r3), (0, .ref 85), (1, .int x0), (2, .int y2), (4, .int y4)]) rfl rfl rfl rfl ?_
        refine h_iload_n (pc' := 46) rfl rfl rfl ?_
        refine h_bipush (pc' := 48) (x := (Int32.ofInt (-4))) rfl rfl cb_m4 ?_
        refine h_ceq (tg := 59) (pc' := 51) rfl rfl rfl hr3 ci_m4 (fun c5 => ?_) (fun c5 => ?_)
        · refine h_iinc (pc' := 62) (M := fun z6 => [(4, .int z6), (3, .int r3), (0, .ref 85), (1, .int x0), (2, .int y2)]) rfl rfl rfl rfl hy4 ci_1 rfl (by omega) (by omega) (fun _ => rfl) (fun z6 hz6 => ?_)
          refine h_goto (pc' := 26) rfl rfl ?_
          exact h_wk [(0, .ref 85), (1, .int x0), (2, .int y2), (3, .int r3), (4, .int z6)] ⟨rfl, rfl, rfl, rfl, rfl, trivial⟩ (ih _ Is4 Fs4 y2 _ hy2 (by omega) r3 _ hr3 (by omega) z6 _ hz6 (by omega) (by omega) (by omega) (by omega))
        · refine h_iload_n (pc' := 52) rfl rfl rfl ?_
          refine h_iconst (pc' := 53) (x := (Int32.ofInt 1)) rfl rfl rfl ?_
          refine h_iload_n (pc' := 54) rfl rfl rfl ?_
          refine h_ishl (pc' := 55) rfl rfl (fun z7 hz7 => ?_)
          refine h_iconst (pc' := 56) (x := (Int32.ofInt (-1))) rfl rfl rfl ?_
          refine h_ixor (pc' := 57) rfl rfl (fun z8 hz8 => ?_)
          refine h_iand (pc' := 58) rfl rfl (fun z9 hz9 uz9 vz9 => ?_)
          rw [hy2] at uz9
          have wz9 := uz9 (by omega)
          clear vz9
          refine h_istore_n (pc' := 59) (M := [(2, .int z9), (3, .int r3), (0, .ref 85), (1, .int x0), (4, .int y4)]) rfl rfl rfl rfl ?_
          refine h_iinc (pc' := 62) (M := fun z10 => [(4, .int z10), (2, .int z9), (3, .int r3), (0, .ref 85), (1, .int x0)]) rfl rfl rfl rfl hy4 ci_1 rfl (by omega) (by omega) (fun _ => rfl) (fun z10 hz10 => ?_)
          refine h_goto (pc' := 26) rfl rfl ?_
          exact h_wk [(0, .ref 85), (1, .int x0), (2, .int z9), (3, .int r3), (4, .int z10)] ⟨rfl, rfl, rfl, rfl, rfl, trivial⟩ (ih _ Is4 Fs4 z9 _ rfl (by omega) r3 _ hr3 (by omega) z10 _ hz10 (by omega) (by omega) (by omega) (by omega))
theorem w_38_85 {ns : Nat} (σ : h_S) (hI : h_I σ) (x0 : Int32) (a0 : Int) (hx0 : x0.toInt = a0) {Q : Option Value → h_S → Prop} (kk : ∀ (r : Int32) (b : Int) (hb : r.toInt = b) (τ : h_S), h_I τ → h_F (k_in kf_w_38_85) τ σ → ((-4) ≤ b ∧ b ≤ 6) → Q (some (.int r)) τ) : h_T g_P (g_Y ns) 38 0 [(0, .ref 85), (1, .int x0)] [] σ Q := by
  have F00 : h_F (k_in kf_w_38_85) σ σ := h_F.rf
  refine h_iload_n (pc' := 1) rfl rfl rfl ?_
  refine h_zlt (tg := 12) (pc' := 4) rfl rfl rfl hx0 (fun c1 => ?_) (fun c1 => ?_)
  · refine h_bipush (pc' := 14) (x := (Int32.ofInt (-4))) rfl rfl cb_m4 ?_
    exact h_iret rfl rfl (kk _ _ ci_m4 _ hI F00 (by omega))
  · refine h_iload_n (pc' := 5) rfl rfl rfl ?_
    refine h_aload_n (pc' := 6) rfl rfl rfl ?_
    refine h_call (sp := false) (pc' := 9) (M := [(0, .ref 85)]) rfl rfl rfl rfl rfl rfl rfl rfl ?_
    refine h_aload_n (pc' := 1) rfl rfl rfl ?_
    refine h_getR (pc' := 4) rfl rfl rfl rfl rfl ?_
    refine h_aload_n (pc' := 5) rfl rfl rfl ?_
    refine h_call (sp := false) (pc' := 8) (M := [(0, .ref 85)]) rfl rfl rfl rfl rfl rfl rfl rfl ?_
    refine h_iconst (pc' := 1) (x := (Int32.ofInt 1)) rfl rfl rfl ?_
    refine h_aload_n (pc' := 2) rfl rfl rfl ?_
    refine h_getI (pc' := 5) (v := σ 85 4) rfl rfl rfl rfl rfl rfl (fun z2 hz2 => ?_)
    have tz2 := tf_85_4 hI
    refine h_shl1 (pc' := 6) rfl rfl ci_1 hz2 (by omega) (by omega) (fun z3 hz3 vz3 => ?_)
    refine h_iconst (pc' := 7) (x := (Int32.ofInt 1)) rfl rfl rfl ?_
    refine h_isub (pc' := 8) rfl rfl rfl ci_1 rfl (by omega) (by omega) (fun z4 hz4 => ?_)
    refine h_iret rfl rfl (h_Kv ?_)
    refine h_bipush (pc' := 10) (x := (Int32.ofInt 7)) rfl rfl cb_7 ?_
    refine h_imul (pc' := 11) rfl rfl hz4 ci_7 rfl (by omega) (by omega) (fun z5 hz5 => ?_)
    refine h_bipush (pc' := 13) (x := (Int32.ofInt 6)) rfl rfl cb_6 ?_
    refine h_iadd (pc' := 14) rfl rfl hz5 ci_6 rfl (by omega) (by omega) (fun z6 hz6 => ?_)
    refine h_iald (pc' := 15) (v := σ 87 (((z3.toInt - 1) * 7) + 6)) rfl rfl rfl hz6 (by omega) (by omega) rfl (fun z7 hz7 => ?_)
    have tz7 := ty_87 hI (((z3.toInt - 1) * 7) + 6)
    refine h_iret rfl rfl (h_Kv ?_)
    refine h_clt (tg := 15) (pc' := 12) rfl rfl rfl hx0 hz7 (fun c8 => ?_) (fun c8 => ?_)
    · refine h_aload_n (pc' := 16) rfl rfl rfl ?_
      refine h_call (sp := false) (pc' := 19) (M := [(0, .ref 85)]) rfl rfl rfl rfl rfl rfl rfl rfl ?_
      refine h_iconst (pc' := 1) (x := (Int32.ofInt 1)) rfl rfl rfl ?_
      refine h_aload_n (pc' := 2) rfl rfl rfl ?_
      refine h_getI (pc' := 5) (v := σ 85 4) rfl rfl rfl rfl rfl rfl (fun z9 hz9 => ?_)
      have tz9 := tf_85_4 hI
      refine h_shl1 (pc' := 6) rfl rfl ci_1 hz9 (by omega) (by omega) (fun z10 hz10 vz10 => ?_)
      refine h_iconst (pc' := 7) (x := (Int32.ofInt 1)) rfl rfl rfl ?_
      refine h_isub (pc' := 8) rfl rfl rfl ci_1 rfl (by omega) (by omega) (fun z11 hz11 => ?_)
      refine h_iret rfl rfl (h_Kv ?_)
      refine h_istore_n (pc' := 20) (M := [(2, .int z11), (0, .ref 85), (1, .int x0)]) rfl rfl rfl rfl ?_
      refine h_bipush (pc' := 22) (x := (Int32.ofInt 6)) rfl rfl cb_6 ?_
      refine h_istore_n (pc' := 23) (M := [(3, .int (Int32.ofInt 6)), (2, .int z11), (0, .ref 85), (1, .int x0)]) rfl rfl rfl rfl ?_
      refine h_iconst (pc' := 24) (x := (Int32.ofInt 0)) rfl rfl rfl ?_
      refine h_istore (pc' := 26) (M := [(4, .int (Int32.ofInt 0)), (3, .int (Int32.ofInt 6)), (2, .int z11), (0, .ref 85), (1, .int x0)]) rfl rfl rfl rfl ?_
      exact h_wk [(0, .ref 85), (1, .int x0), (2, .int z11), (3, .int (Int32.ofInt 6)), (4, .int (Int32.ofInt 0))] ⟨rfl, rfl, rfl, rfl, rfl, trivial⟩ ((w_38_85_l ns σ hI x0 a0 hx0 kk 100000000000000000000) _ hI F00 z11 _ hz11 (by omega) (Int32.ofInt 6) _ ci_6 (by omega) (Int32.ofInt 0) _ ci_0 (by omega) (by omega) (by omega) (by omega))
    · refine h_bipush (pc' := 14) (x := (Int32.ofInt (-4))) rfl rfl cb_m4 ?_
      exact h_iret rfl rfl (kk _ _ ci_m4 _ hI F00 (by omega))
def kf_w_41_85 : List Nat := [92159]
theorem w_41_85_l (ns : Nat) (σ : h_S) (hI : h_I σ) (x0 : Int32) (a0 : Int) (hx0 : x0.toInt = a0) (ra0 : 0 ≤ a0 ∧ a0 ≤ 6) (x1 : Int32) (a1 : Int) (hx1 : x1.toInt = a1) (ra1 : 0 ≤ a1 ∧ a1 ≤ 5) {Q : Option Value → h_S → Prop} (kk : ∀ (τ : h_S), h_I τ → h_F (k_in kf_w_41_85) τ σ → Q none τ) : ∀ n : Nat, (∀ (s0 : h_S), h_I s0 → h_F (k_in kf_w_41_85) s0 σ → ∀ (y3 : Int32) (b3 : Int), y3.toInt = b3 → (0 ≤ b3 ∧ b3 ≤ 6) → (6 + 1 - b3) * 1000000 + 1000000000 ≤ (n : Int) → h_T g_P (g_Y ns) 41 2 [(0, .ref 85), (1, .int x0), (2, .int x1), (3, .int y3)] [] s0 Q) := by
  intro n
  induction n with
  | zero => exact by intro s0 I0 F0_ y3 b3 hy3 ry3 hm; exfalso; omega
  | succ n ih =>
    intro s0 I0 F0_ y3 b3 hy3 ry3 hm
    refine h_iload_n (pc' := 3) rfl rfl rfl ?_
    refine h_aload_n (pc' := 4) rfl rfl rfl ?_
    refine h_getI (pc' := 7) (v := σ 85 4) rfl rfl rfl rfl rfl (F0_ 85 4 rfl) (fun z1 hz1 => ?_)
    have tz1 := tf_85_4 hI
    refine h_cge (tg := 57) (pc' := 10) rfl rfl rfl hy3 hz1 (fun c2 => ?_) (fun c2 => ?_)
    · exact h_vret rfl rfl (kk _ I0 F0_)
    · refine h_iload_n (pc' := 11) rfl rfl rfl ?_
      refine h_iload_n (pc' := 12) rfl rfl rfl ?_
      refine h_ceq (tg := 51) (pc' := 15) rfl rfl rfl hy3 hx1 (fun c3 => ?_) (fun c3 => ?_)
      · refine h_iinc (pc' := 54) (M := fun z4 => [(3, .int z4), (0, .ref 85), (1, .int x0), (2, .int x1)]) rfl rfl rfl rfl hy3 ci_1 rfl (by omega) (by omega) (fun _ => rfl) (fun z4 hz4 => ?_)
        refine h_goto (pc' := 2) rfl rfl ?_
        exact h_wk [(0, .ref 85), (1, .int x0), (2, .int x1), (3, .int z4)] ⟨rfl, rfl, rfl, rfl, trivial⟩ (ih _ I0 F0_ z4 _ hz4 (by omega) (by omega))
      · refine h_aload_n (pc' := 16) rfl rfl rfl ?_
        refine h_getR (pc' := 19) rfl rfl rfl rfl rfl ?_
        refine h_iload_n (pc' := 20) rfl rfl rfl ?_
        refine h_iald (pc' := 21) (v := σ 86 a0) rfl rfl rfl hx0 (by omega) (by omega) (F0_ 86 _ rfl) (fun z5 hz5 => ?_)
        have tz5 := ty_86 hI a0
        refine h_iload_n (pc' := 22) rfl rfl rfl ?_
        refine h_calls (pc' := 25) (M := [(0, .int z5), (1, .int y3)]) rfl rfl rfl rfl rfl rfl ?_
        refine h_iload_n (pc' := 1) rfl rfl rfl ?_
        refine h_iload_n (pc' := 2) rfl rfl rfl ?_
        refine h_ishr (pc' := 3) rfl rfl (fun z6 hz6 => ?_)
        refine h_iconst (pc' := 4) (x := (Int32.ofInt 1)) rfl rfl rfl ?_
        refine h_iand (pc' := 5) rfl rfl (fun z7 hz7 uz7 vz7 => ?_)
        clear uz7
        rw [ci_1] at vz7
        have yz7 := vz7 (by omega)
        refine h_zeq (tg := 12) (pc' := 8) rfl rfl rfl rfl (fun c8 => ?_) (fun c8 => ?_)
        · refine h_iconst (pc' := 13) (x := (Int32.ofInt 0)) rfl rfl rfl ?_
          refine h_zret rfl rfl ci_0 (by omega) (h_Kv ?_)
          refine h_zeq (tg := 51) (pc' := 28) rfl rfl rfl ci_0 (fun c9 => ?_) (fun c9 => absurd c9 (by omega))
          refine h_iinc (pc' := 54) (M := fun z10 => [(3, .int z10), (0, .ref 85), (1, .int x0), (2, .int x1)]) rfl rfl rfl rfl hy3 ci_1 rfl (by omega) (by omega) (fun _ => rfl) (fun z10 hz10 => ?_)
          refine h_goto (pc' := 2) rfl rfl ?_
          exact h_wk [(0, .ref 85), (1, .int x0), (2, .int x1), (3, .int z10)] ⟨rfl, rfl, rfl, rfl, trivial⟩ (ih _ I0 F0_ z10 _ hz10 (by omega) (by omega))
        · refine h_iconst (pc' := 9) (x := (Int32.ofInt 1)) rfl rfl rfl ?_
          refine h_goto (pc' := 13) rfl rfl ?_
          refine h_zret rfl rfl ci_1 (by omega) (h_Kv ?_)
          refine h_zeq (tg := 51) (pc' := 28) rfl rfl rfl ci_1 (fun c11 => absurd c11 (by omega)) (fun c11 => ?_)
          refine h_aload_n (pc' := 29) rfl rfl rfl ?_
          refine h_getR (pc' := 32) rfl rfl rfl rfl rfl ?_
          refine h_iload_n (pc' := 33) rfl rfl rfl ?_
          refine h_aload_n (pc' := 34) rfl rfl rfl ?_
          refine h_getR (pc' := 37) rfl rfl rfl rfl rfl ?_
          refine h_iload_n (pc' := 38) rfl rfl rfl ?_
          refine h_iald (pc' := 39) (v := s0 89 a0) rfl rfl rfl hx0 (by omega) (by omega) rfl (fun z12 hz12 => ?_)
          have tz12 := ty_89 I0 a0
          refine h_aload_n (pc' := 40) rfl rfl rfl ?_
          refine h_getR (pc' := 43) rfl rfl rfl rfl rfl ?_
          refine h_iload_n (pc' := 44) rfl rfl rfl ?_
          refine h_iald (pc' := 45) (v := s0 89 b3) rfl rfl rfl hy3 (by omega) (by omega) rfl (fun z13 hz13 => ?_)
          have tz13 := ty_89 I0 b3
          refine h_iconst (pc' := 46) (x := (Int32.ofInt 1)) rfl rfl rfl ?_
          refine h_iaddA (pc' := 47) rfl rfl (fun z14 hz14 => ?_)
          refine h_min (pc' := 50) rfl rfl rfl rfl rfl hz12 rfl (fun z15 hz15 => ?_)
          refine h_iast (pc' := 51) rfl rfl rfl rfl hx0 (by omega) (by omega) rfl (h_fg _ (in_89 I0 (h_rgv rfl)) (F0_.up rfl) (fun s16 Is16 Fs16 => ?_))
          refine h_iinc (pc' := 54) (M := fun z17 => [(3, .int z17), (0, .ref 85), (1, .int x0), (2, .int x1)]) rfl rfl rfl rfl hy3 ci_1 rfl (by omega) (by omega) (fun _ => rfl) (fun z17 hz17 => ?_)
          refine h_goto (pc' := 2) rfl rfl ?_
          exact h_wk [(0, .ref 85), (1, .int x0), (2, .int x1), (3, .int z17)] ⟨rfl, rfl, rfl, rfl, trivial⟩ (ih _ Is16 Fs16 z17 _ hz17 (by omega) (by omega))
theorem w_41_85 {ns : Nat} (σ : h_S) (hI : h_I σ) (x0 : Int32) (a0 : Int) (hx0 : x0.toInt = a0) (ra0 : 0 ≤ a0 ∧ a0 ≤ 6) (x1 : Int32) (a1 : Int) (hx1 : x1.toInt = a1) (ra1 : 0 ≤ a1 ∧ a1 ≤ 5) {Q : Option Value → h_S → Prop} (kk : ∀ (τ : h_S), h_I τ → h_F (k_in kf_w_41_85) τ σ → Q none τ) : h_T g_P (g_Y ns) 41 0 [(0, .ref 85), (1, .int x0), (2, .int x1)] [] σ Q := by
  have F00 : h_F (k_in kf_w_41_85) σ σ := h_F.rf
  refine h_iconst (pc' := 1) (x := (Int32.ofInt 0)) rfl rfl rfl ?_
  refine h_istore_n (pc' := 2) (M := [(3, .int (Int32.ofInt 0)), (0, .ref 85), (1, .int x0), (2, .int x1)]) rfl rfl rfl rfl ?_
  exact h_wk [(0, .ref 85), (1, .int x0), (2, .int x1), (3, .int (Int32.ofInt 0))] ⟨rfl, rfl, rfl, rfl, trivial⟩ ((w_41_85_l ns σ hI x0 a0 hx0 ra0 x1 a1 hx1 ra1 kk 1000000000000) _ hI F00 (Int32.ofInt 0) _ ci_0 (by omega) (by omega))
def kf_w_40_85 : List Nat := [92159]
theorem w_40_85_l (ns : Nat) (σ : h_S) (hI : h_I σ) (x0 : Int32) (a0 : Int) (hx0 : x0.toInt = a0) (ra0 : 0 ≤ a0 ∧ a0 ≤ 5) {Q : Option Value → h_S → Prop} (kk : ∀ (τ : h_S), h_I τ → h_F (k_in kf_w_40_85) τ σ → Q none τ) : ∀ n : Nat, (∀ (s0 : h_S), h_I s0 → h_F (k_in kf_w_40_85) s0 σ → ∀ (y2 : Int32) (b2 : Int), y2.toInt = b2 → (0 ≤ b2 ∧ b2 ≤ 7) → (7 + 1 - b2) * 1000000 + 2000000000 ≤ (n : Int) → h_T g_P (g_Y ns) 40 2 [(0, .ref 85), (1, .int x0), (2, .int y2)] [] s0 Q) ∧ (∀ (s0 : h_S), h_I s0 → h_F (k_in kf_w_40_85) s0 σ → ∀ (y2 : Int32) (b2 : Int), y2.toInt = b2 → (0 ≤ b2 ∧ b2 ≤ 6) → (6 + 1 - b2) * 1000000 + 1000000000 ≤ (n : Int) → h_T g_P (g_Y ns) 40 42 [(0, .ref 85), (1, .int x0), (2, .int y2)] [] s0 Q) ∧ (∀ (s0 : h_S), h_I s0 → h_F (k_in kf_w_40_85) s0 σ → ∀ (y2 : Int32) (b2 : Int), y2.toInt = b2 → (0 ≤ b2 ∧ b2 ≤ 5) → ∀ (y3 : Int32) (b3 : Int), y3.toInt = b3 → (0 ≤ b3 ∧ b3 ≤ 6) → ((6 + 1 - b2) - 1) * 1000000 + 1000000000 + (6 + 1 - b3) * 1000 + 100000 ≤ (n : Int) → h_T g_P (g_Y ns) 40 52 [(0, .ref 85), (1, .int x0), (2, .int y2), (3, .int y3)] [] s0 Q) := by
  intro n
  induction n with
  | zero => exact ⟨by intro s0 I0 F0_ y2 b2 hy2 ry2 hm; exfalso; omega, by intro s0 I0 F0_ y2 b2 hy2 ry2 hm; exfalso; omega, by intro s0 I0 F0_ y2 b2 hy2 ry2 y3 b3 hy3 ry3 hm; exfalso; omega⟩
  | succ n ih =>
    refine ⟨?_, ?_, ?_⟩
    · intro s0 I0 F0_ y2 b2 hy2 ry2 hm
      refine h_iload_n (pc' := 3) rfl rfl rfl ?_
      refine h_bipush (pc' := 5) (x := (Int32.ofInt 7)) rfl rfl cb_7 ?_
      refine h_cge (tg := 40) (pc' := 8) rfl rfl rfl hy2 ci_7 (fun c1 => ?_) (fun c1 => ?_)
      · refine h_iconst (pc' := 41) (x := (Int32.ofInt 0)) rfl rfl rfl ?_
        refine h_istore_n (pc' := 42) (M := [(2, .int (Int32.ofInt 0)), (0, .ref 85), (1, .int x0)]) rfl rfl rfl rfl ?_
        exact h_wk [(0, .ref 85), (1, .int x0), (2, .int (Int32.ofInt 0))] ⟨rfl, rfl, rfl, trivial⟩ (ih.2.1 _ I0 F0_ (Int32.ofInt 0) _ ci_0 (by omega) (by omega))
      · refine h_aload_n (pc' := 9) rfl rfl rfl ?_
        refine h_getR (pc' := 12) rfl rfl rfl rfl rfl ?_
        refine h_iload_n (pc' := 13) rfl rfl rfl ?_
        refine h_aload_n (pc' := 14) rfl rfl rfl ?_
        refine h_getR (pc' := 17) rfl rfl rfl rfl rfl ?_
        refine h_iload_n (pc' := 18) rfl rfl rfl ?_
        refine h_iald (pc' := 19) (v := σ 86 b2) rfl rfl rfl hy2 (by omega) (by omega) (F0_ 86 _ rfl) (fun z2 hz2 => ?_)
        have tz2 := ty_86 hI b2
        refine h_iload_n (pc' := 20) rfl rfl rfl ?_
        refine h_calls (pc' := 23) (M := [(0, .int z2), (1, .int x0)]) rfl rfl rfl rfl rfl rfl ?_
        refine h_iload_n (pc' := 1) rfl rfl rfl ?_
        refine h_iload_n (pc' := 2) rfl rfl rfl ?_
        refine h_ishr (pc' := 3) rfl rfl (fun z3 hz3 => ?_)
        refine h_iconst (pc' := 4) (x := (Int32.ofInt 1)) rfl rfl rfl ?_
        refine h_iand (pc' := 5) rfl rfl (fun z4 hz4 uz4 vz4 => ?_)
        clear uz4
        rw [ci_1] at vz4
        have yz4 := vz4 (by omega)
        refine h_zeq (tg := 12) (pc' := 8) rfl rfl rfl rfl (fun c5 => ?_) (fun c5 => ?_)
        · refine h_iconst (pc' := 13) (x := (Int32.ofInt 0)) rfl rfl rfl ?_
          refine h_zret rfl rfl ci_0 (by omega) (h_Kv ?_)
          refine h_zeq (tg := 30) (pc' := 26) rfl rfl rfl ci_0 (fun c6 => ?_) (fun c6 => absurd c6 (by omega))
          refine h_sipush (pc' := 33) (x := (Int32.ofInt 1000)) rfl rfl cs_1000 ?_
          refine h_iast (pc' := 34) rfl rfl rfl rfl hy2 (by omega) (by omega) ci_1000 (h_fg _ (in_89 I0 (h_rgv ci_1000)) (F0_.up rfl) (fun s7 Is7 Fs7 => ?_))
          refine h_iinc (pc' := 37) (M := fun z8 => [(2, .int z8), (0, .ref 85), (1, .int x0)]) rfl rfl rfl rfl hy2 ci_1 rfl (by omega) (by omega) (fun _ => rfl) (fun z8 hz8 => ?_)
          refine h_goto (pc' := 2) rfl rfl ?_
          exact h_wk [(0, .ref 85), (1, .int x0), (2, .int z8)] ⟨rfl, rfl, rfl, trivial⟩ (ih.1 _ Is7 Fs7 z8 _ hz8 (by omega) (by omega))
        · refine h_iconst (pc' := 9) (x := (Int32.ofInt 1)) rfl rfl rfl ?_
          refine h_goto (pc' := 13) rfl rfl ?_
          refine h_zret rfl rfl ci_1 (by omega) (h_Kv ?_)
          refine h_zeq (tg := 30) (pc' := 26) rfl rfl rfl ci_1 (fun c9 => absurd c9 (by omega)) (fun c9 => ?_)
          refine h_iconst (pc' := 27) (x := (Int32.ofInt 0)) rfl rfl rfl ?_
          refine h_goto (pc' := 33) rfl rfl ?_
          refine h_iast (pc' := 34) rfl rfl rfl rfl hy2 (by omega) (by omega) ci_0 (h_fg _ (in_89 I0 (h_rgv ci_0)) (F0_.up rfl) (fun s10 Is10 Fs10 => ?_))
          refine h_iinc (pc' := 37) (M := fun z11 => [(2, .int z11), (0, .ref 85), (1, .int x0)]) rfl rfl rfl rfl hy2 ci_1 rfl (by omega) (by omega) (fun _ => rfl) (fun z11 hz11 => ?_)
          refine h_goto (pc' := 2) rfl rfl ?_
          exact h_wk [(0, .ref 85), (1, .int x0), (2, .int z11)] ⟨rfl, rfl, rfl, trivial⟩ (ih.1 _ Is10 Fs10 z11 _ hz11 (by omega) (by omega))
    · intro s0 I0 F0_ y2 b2 hy2 ry2 hm
      refine h_iload_n (pc' := 43) rfl rfl rfl ?_
      refine h_aload_n (pc' := 44) rfl rfl rfl ?_
      refine h_getI (pc' := 47) (v := σ 85 4) rfl rfl rfl rfl rfl (F0_ 85 4 rfl) (fun z1 hz1 => ?_)
      have tz1 := tf_85_4 hI
      refine h_cge (tg := 78) (pc' := 50) rfl rfl rfl hy2 hz1 (fun c2 => ?_) (fun c2 => ?_)
      · refine h_aload_n (pc' := 79) rfl rfl rfl ?_
        refine h_bipush (pc' := 81) (x := (Int32.ofInt 6)) rfl rfl cb_6 ?_
        refine h_iload_n (pc' := 82) rfl rfl rfl ?_
        refine h_call (sp := false) (pc' := 85) (M := [(0, .ref 85), (1, .int (Int32.ofInt 6)), (2, .int x0)]) rfl rfl rfl rfl rfl rfl rfl rfl ?_
        refine w_41_85 _ I0 (Int32.ofInt 6) _ ci_6 (by omega) x0 _ hx0 (by omega) (fun s4 Is4 Gs4 => h_Kn ?_)
        have Fs4 := (Gs4.mono (B := kf_w_40_85) rfl).tr F0_
        exact h_vret rfl rfl (kk _ Is4 Fs4)
      · refine h_iconst (pc' := 51) (x := (Int32.ofInt 0)) rfl rfl rfl ?_
        refine h_istore_n (pc' := 52) (M := [(3, .int (Int32.ofInt 0)), (0, .ref 85), (1, .int x0), (2, .int y2)]) rfl rfl rfl rfl ?_
        exact h_wk [(0, .ref 85), (1, .int x0), (2, .int y2), (3, .int (Int32.ofInt 0))] ⟨rfl, rfl, rfl, rfl, trivial⟩ (ih.2.2 _ I0 F0_ y2 _ hy2 (by omega) (Int32.ofInt 0) _ ci_0 (by omega) (by omega))
    · intro s0 I0 F0_ y2 b2 hy2 ry2 y3 b3 hy3 ry3 hm
      refine h_iload_n (pc' := 53) rfl rfl rfl ?_
      refine h_aload_n (pc' := 54) rfl rfl rfl ?_
      refine h_getI (pc' := 57) (v := σ 85 4) rfl rfl rfl rfl rfl (F0_ 85 4 rfl) (fun z1 hz1 => ?_)
      have tz1 := tf_85_4 hI
      refine h_cge (tg := 72) (pc' := 60) rfl rfl rfl hy3 hz1 (fun c2 => ?_) (fun c2 => ?_)
      · refine h_iinc (pc' := 75) (M := fun z3 => [(2, .int z3), (0, .ref 85), (1, .int x0), (3, .int y3)]) rfl rfl rfl rfl hy2 ci_1 rfl (by omega) (by omega) (fun _ => rfl) (fun z3 hz3 => ?_)
        refine h_goto (pc' := 42) rfl rfl ?_
        exact h_wk [(0, .ref 85), (1, .int x0), (2, .int z3)] ⟨rfl, rfl, rfl, trivial⟩ (ih.2.1 _ I0 F0_ z3 _ hz3 (by omega) (by omega))
      · refine h_aload_n (pc' := 61) rfl rfl rfl ?_
        refine h_iload_n (pc' := 62) rfl rfl rfl ?_
        refine h_iload_n (pc' := 63) rfl rfl rfl ?_
        refine h_call (sp := false) (pc' := 66) (M := [(0, .ref 85), (1, .int y3), (2, .int x0)]) rfl rfl rfl rfl rfl rfl rfl rfl ?_
        refine w_41_85 _ I0 y3 _ hy3 (by omega) x0 _ hx0 (by omega) (fun s5 Is5 Gs5 => h_Kn ?_)
        have Fs5 := (Gs5.mono (B := kf_w_40_85) rfl).tr F0_
        refine h_iinc (pc' := 69) (M := fun z6 => [(3, .int z6), (0, .ref 85), (1, .int x0), (2, .int y2)]) rfl rfl rfl rfl hy3 ci_1 rfl (by omega) (by omega) (fun _ => rfl) (fun z6 hz6 => ?_)
        refine h_goto (pc' := 52) rfl rfl ?_
        exact h_wk [(0, .ref 85), (1, .int x0), (2, .int y2), (3, .int z6)] ⟨rfl, rfl, rfl, rfl, trivial⟩ (ih.2.2 _ Is5 Fs5 y2 _ hy2 (by omega) z6 _ hz6 (by omega) (by omega))
theorem w_40_85 {ns : Nat} (σ : h_S) (hI : h_I σ) (x0 : Int32) (a0 : Int) (hx0 : x0.toInt = a0) (ra0 : 0 ≤ a0 ∧ a0 ≤ 5) {Q : Option Value → h_S → Prop} (kk : ∀ (τ : h_S), h_I τ → h_F (k_in kf_w_40_85) τ σ → Q none τ) : h_T g_P (g_Y ns) 40 0 [(0, .ref 85), (1, .int x0)] [] σ Q := by
  have F00 : h_F (k_in kf_w_40_85) σ σ := h_F.rf
  refine h_iconst (pc' := 1) (x := (Int32.ofInt 0)) rfl rfl rfl ?_
  refine h_istore_n (pc' := 2) (M := [(2, .int (Int32.ofInt 0)), (0, .ref 85), (1, .int x0)]) rfl rfl rfl rfl ?_
  exact h_wk [(0, .ref 85), (1, .int x0), (2, .int (Int32.ofInt 0))] ⟨rfl, rfl, rfl, trivial⟩ ((w_40_85_l ns σ hI x0 a0 hx0 ra0 kk 1000000000000).1 _ hI F00 (Int32.ofInt 0) _ ci_0 (by omega) (by omega))
def kf_w_43_85 : List Nat := []
theorem w_43_85_l (ns : Nat) (σ : h_S) (hI : h_I σ) (x0 : Int32) (a0 : Int) (hx0 : x0.toInt = a0) (ra0 : 0 ≤ a0 ∧ a0 ≤ 6) (x1 : Int32) (a1 : Int) (hx1 : x1.toInt = a1) (ra1 : 0 ≤ a1 ∧ a1 ≤ 5) {Q : Option Value → h_S → Prop} (kk : ∀ (r : Int32) (b : Int) (hb : r.toInt = b) (τ : h_S), h_I τ → h_F (k_in kf_w_43_85) τ σ → ((-4) ≤ b ∧ b ≤ 5) → (b = -4 ∨ 0 ≤ b) → Q (some (.int r)) τ) : ∀ n : Nat, (∀ (s0 : h_S), h_I s0 → h_F (k_in kf_w_43_85) s0 σ → ∀ (y3 : Int32) (b3 : Int), y3.toInt = b3 → (0 ≤ b3 ∧ b3 ≤ 6) → (6 + 1 - b3) * 1000000 + 1000000000 ≤ (n : Int) → h_T g_P (g_Y ns) 43 2 [(0, .ref 85), (1, .int x0), (2, .int x1), (3, .int y3)] [] s0 Q) := by
  intro n
  induction n with
  | zero => exact by intro s0 I0 F0_ y3 b3 hy3 ry3 hm; exfalso; omega
  | succ n ih =>
    intro s0 I0 F0_ y3 b3 hy3 ry3 hm
    refine h_iload_n (pc' := 3) rfl rfl rfl ?_
    refine h_aload_n (pc' := 4) rfl rfl rfl ?_
    refine h_getI (pc' := 7) (v := σ 85 4) rfl rfl rfl rfl rfl (F0_ 85 4 rfl) (fun z1 hz1 => ?_)
    have tz1 := tf_85_4 hI
    refine h_cge (tg := 53) (pc' := 10) rfl rfl rfl hy3 hz1 (fun c2 => ?_) (fun c2 => ?_)
    · refine h_bipush (pc' := 55) (x := (Int32.ofInt (-4))) rfl rfl cb_m4 ?_
      exact h_iret rfl rfl (kk _ _ ci_m4 _ I0 F0_ (by omega) (by omega))
    · refine h_iload_n (pc' := 11) rfl rfl rfl ?_
      refine h_iload_n (pc' := 12) rfl rfl rfl ?_
      refine h_ceq (tg := 47) (pc' := 15) rfl rfl rfl hy3 hx1 (fun c3 => ?_) (fun c3 => ?_)
      · refine h_iinc (pc' := 50) (M := fun z4 => [(3, .int z4), (0, .ref 85), (1, .int x0), (2, .int x1)]) rfl rfl rfl rfl hy3 ci_1 rfl (by omega) (by omega) (fun _ => rfl) (fun z4 hz4 => ?_)
        refine h_goto (pc' := 2) rfl rfl ?_
        exact h_wk [(0, .ref 85), (1, .int x0), (2, .int x1), (3, .int z4)] ⟨rfl, rfl, rfl, rfl, trivial⟩ (ih _ I0 F0_ z4 _ hz4 (by omega) (by omega))
      · refine h_aload_n (pc' := 16) rfl rfl rfl ?_
        refine h_getR (pc' := 19) rfl rfl rfl rfl rfl ?_
        refine h_iload_n (pc' := 20) rfl rfl rfl ?_
        refine h_iald (pc' := 21) (v := σ 86 a0) rfl rfl rfl hx0 (by omega) (by omega) (F0_ 86 _ rfl) (fun z5 hz5 => ?_)
        have tz5 := ty_86 hI a0
        refine h_iload_n (pc' := 22) rfl rfl rfl ?_
        refine h_calls (pc' := 25) (M := [(0, .int z5), (1, .int y3)]) rfl rfl rfl rfl rfl rfl ?_
        refine h_iload_n (pc' := 1) rfl rfl rfl ?_
        refine h_iload_n (pc' := 2) rfl rfl rfl ?_
        refine h_ishr (pc' := 3) rfl rfl (fun z6 hz6 => ?_)
        refine h_iconst (pc' := 4) (x := (Int32.ofInt 1)) rfl rfl rfl ?_
        refine h_iand (pc' := 5) rfl rfl (fun z7 hz7 uz7 vz7 => ?_)
        clear uz7
        rw [ci_1] at vz7
        have yz7 := vz7 (by omega)
        refine h_zeq (tg := 12) (pc' := 8) rfl rfl rfl rfl (fun c8 => ?_) (fun c8 => ?_)
        · refine h_iconst (pc' := 13) (x := (Int32.ofInt 0)) rfl rfl rfl ?_
          refine h_zret rfl rfl ci_0 (by omega) (h_Kv ?_)
          refine h_zeq (tg := 47) (pc' := 28) rfl rfl rfl ci_0 (fun c9 => ?_) (fun c9 => absurd c9 (by omega))
          refine h_iinc (pc' := 50) (M := fun z10 => [(3, .int z10), (0, .ref 85), (1, .int x0), (2, .int x1)]) rfl rfl rfl rfl hy3 ci_1 rfl (by omega) (by omega) (fun _ => rfl) (fun z10 hz10 => ?_)
          refine h_goto (pc' := 2) rfl rfl ?_
          exact h_wk [(0, .ref 85), (1, .int x0), (2, .int x1), (3, .int z10)] ⟨rfl, rfl, rfl, rfl, trivial⟩ (ih _ I0 F0_ z10 _ hz10 (by omega) (by omega))
        · refine h_iconst (pc' := 9) (x := (Int32.ofInt 1)) rfl rfl rfl ?_
          refine h_goto (pc' := 13) rfl rfl ?_
          refine h_zret rfl rfl ci_1 (by omega) (h_Kv ?_)
          refine h_zeq (tg := 47) (pc' := 28) rfl rfl rfl ci_1 (fun c11 => absurd c11 (by omega)) (fun c11 => ?_)
          refine h_aload_n (pc' := 29) rfl rfl rfl ?_
          refine h_getR (pc' := 32) rfl rfl rfl rfl rfl ?_
          refine h_iload_n (pc' := 33) rfl rfl rfl ?_
          refine h_iald (pc' := 34) (v := σ 89 b3) rfl rfl rfl hy3 (by omega) (by omega) (F0_ 89 _ rfl) (fun z12 hz12 => ?_)
          have tz12 := ty_89 hI b3
          refine h_aload_n (pc' := 35) rfl rfl rfl ?_
          refine h_getR (pc' := 38) rfl rfl rfl rfl rfl ?_
          refine h_iload_n (pc' := 39) rfl rfl rfl ?_
          refine h_iald (pc' := 40) (v := σ 89 a0) rfl rfl rfl hx0 (by omega) (by omega) (F0_ 89 _ rfl) (fun z13 hz13 => ?_)
          have tz13 := ty_89 hI a0
          refine h_iconst (pc' := 41) (x := (Int32.ofInt 1)) rfl rfl rfl ?_
          refine h_isubA (pc' := 42) rfl rfl (fun z14 hz14 => ?_)
          refine h_cne (tg := 47) (pc' := 45) rfl rfl rfl hz12 rfl (fun c15 => ?_) (fun c15 => ?_)
          · refine h_iinc (pc' := 50) (M := fun z16 => [(3, .int z16), (0, .ref 85), (1, .int x0), (2, .int x1)]) rfl rfl rfl rfl hy3 ci_1 rfl (by omega) (by omega) (fun _ => rfl) (fun z16 hz16 => ?_)
            refine h_goto (pc' := 2) rfl rfl ?_
            exact h_wk [(0, .ref 85), (1, .int x0), (2, .int x1), (3, .int z16)] ⟨rfl, rfl, rfl, rfl, trivial⟩ (ih _ I0 F0_ z16 _ hz16 (by omega) (by omega))
          · refine h_iload_n (pc' := 46) rfl rfl rfl ?_
            exact h_iret rfl rfl (kk _ _ hy3 _ I0 F0_ (by omega) (by omega))
theorem w_43_85 {ns : Nat} (σ : h_S) (hI : h_I σ) (x0 : Int32) (a0 : Int) (hx0 : x0.toInt = a0) (ra0 : 0 ≤ a0 ∧ a0 ≤ 6) (x1 : Int32) (a1 : Int) (hx1 : x1.toInt = a1) (ra1 : 0 ≤ a1 ∧ a1 ≤ 5) {Q : Option Value → h_S → Prop} (kk : ∀ (r : Int32) (b : Int) (hb : r.toInt = b) (τ : h_S), h_I τ → h_F (k_in kf_w_43_85) τ σ → ((-4) ≤ b ∧ b ≤ 5) → (b = -4 ∨ 0 ≤ b) → Q (some (.int r)) τ) : h_T g_P (g_Y ns) 43 0 [(0, .ref 85), (1, .int x0), (2, .int x1)] [] σ Q := by
  have F00 : h_F (k_in kf_w_43_85) σ σ := h_F.rf
  refine h_iconst (pc' := 1) (x := (Int32.ofInt 0)) rfl rfl rfl ?_
  refine h_istore_n (pc' := 2) (M := [(3, .int (Int32.ofInt 0)), (0, .ref 85), (1, .int x0), (2, .int x1)]) rfl rfl rfl rfl ?_
  exact h_wk [(0, .ref 85), (1, .int x0), (2, .int x1), (3, .int (Int32.ofInt 0))] ⟨rfl, rfl, rfl, rfl, trivial⟩ ((w_43_85_l ns σ hI x0 a0 hx0 ra0 x1 a1 hx1 ra1 kk 1000000000000) _ hI F00 (Int32.ofInt 0) _ ci_0 (by omega) (by omega))
def kf_w_42_85 : List Nat := []
theorem w_42_85_l (ns : Nat) (σ : h_S) (hI : h_I σ) (x0 : Int32) (a0 : Int) (hx0 : x0.toInt = a0) (ra0 : 0 ≤ a0 ∧ a0 ≤ 5) (x1 : Int32) (a1 : Int) (hx1 : x1.toInt = a1) {Q : Option Value → h_S → Prop} (kk : ∀ (r : Int32) (b : Int) (hb : r.toInt = b) (τ : h_S), h_I τ → h_F (k_in kf_w_42_85) τ σ → ((-4) ≤ b ∧ b ≤ 6) → Q (some (.int r)) τ) : ∀ n : Nat, (∀ (s0 : h_S), h_I s0 → h_F (k_in kf_w_42_85) s0 σ → ∀ (y3 : Int32) (b3 : Int), y3.toInt = b3 → ((-4) ≤ b3 ∧ b3 ≤ 6) → ∀ (y4 : Int32) (b4 : Int), y4.toInt = b4 → (0 ≤ b4) → (b3 = -4 ∨ 0 ≤ b3) → (0 ≤ a1 ∧ a1 ≤ 2147483646) → (2147483647 + 1 - b4) * 1000000 + 1000000000 ≤ (n : Int) → h_T g_P (g_Y ns) 42 24 [(0, .ref 85), (1, .int x0), (2, .int x1), (3, .int y3), (4, .int y4)] [] s0 Q) := by
  intro n
  induction n with
  | zero => exact by intro s0 I0 F0_ y3 b3 hy3 ry3 y4 b4 hy4 ry4 ex0 ex1 hm; have gy4 := h_rgv hy4; exfalso; omega
  | succ n ih =>
    intro s0 I0 F0_ y3 b3 hy3 ry3 y4 b4 hy4 ry4 ex0 ex1 hm; have gy4 := h_rgv hy4
    refine h_iload (pc' := 26) rfl rfl rfl ?_
    refine h_iload_n (pc' := 27) rfl rfl rfl ?_
    refine h_cgt (tg := 49) (pc' := 30) rfl rfl rfl hy4 hx1 (fun c1 => ?_) (fun c1 => ?_)
    · refine h_iload_n (pc' := 50) rfl rfl rfl ?_
      exact h_iret rfl rfl (kk _ _ hy3 _ I0 F0_ (by omega))
    · refine h_iload_n (pc' := 31) rfl rfl rfl ?_
      refine h_bipush (pc' := 33) (x := (Int32.ofInt (-4))) rfl rfl cb_m4 ?_
      refine h_ceq (tg := 49) (pc' := 36) rfl rfl rfl hy3 ci_m4 (fun c2 => ?_) (fun c2 => ?_)
      · refine h_iload_n (pc' := 50) rfl rfl rfl ?_
        exact h_iret rfl rfl (kk _ _ hy3 _ I0 F0_ (by omega))
      · refine h_aload_n (pc' := 37) rfl rfl rfl ?_
        refine h_iload_n (pc' := 38) rfl rfl rfl ?_
        refine h_iload_n (pc' := 39) rfl rfl rfl ?_
        refine h_call (sp := false) (pc' := 42) (M := [(0, .ref 85), (1, .int y3), (2, .int x0)]) rfl rfl rfl rfl rfl rfl rfl rfl ?_
        refine w_43_85 _ I0 y3 _ hy3 (by omega) x0 _ hx0 (by omega) (fun r3 br3 hr3 s4 Is4 Gs4 tr3 ps4_0 => h_Kv ?_)
        have Fs4 := (Gs4.mono (B := kf_w_42_85) rfl).tr F0_
        refine h_istore_n (pc' := 43) (M := [(3, .int r3), (0, .ref 85), (1, .int x0), (2, .int x1), (4, .int y4)]) rfl rfl rfl rfl ?_
        refine h_iinc (pc' := 46) (M := fun z5 => [(4, .int z5), (3, .int r3), (0, .ref 85), (1, .int x0), (2, .int x1)]) rfl rfl rfl rfl hy4 ci_1 rfl (by omega) (by omega) (fun _ => rfl) (fun z5 hz5 => ?_)
        refine h_goto (pc' := 24) rfl rfl ?_
        exact h_wk [(0, .ref 85), (1, .int x0), (2, .int x1), (3, .int r3), (4, .int z5)] ⟨rfl, rfl, rfl, rfl, rfl, trivial⟩ (ih _ Is4 Fs4 r3 _ hr3 (by omega) z5 _ hz5 (by omega) (by omega) (by omega) (by omega))
theorem w_42_85 {ns : Nat} (σ : h_S) (hI : h_I σ) (x0 : Int32) (a0 : Int) (hx0 : x0.toInt = a0) (ra0 : 0 ≤ a0 ∧ a0 ≤ 5) (x1 : Int32) (a1 : Int) (hx1 : x1.toInt = a1) {Q : Option Value → h_S → Prop} (kk : ∀ (r : Int32) (b : Int) (hb : r.toInt = b) (τ : h_S), h_I τ → h_F (k_in kf_w_42_85) τ σ → ((-4) ≤ b ∧ b ≤ 6) → Q (some (.int r)) τ) : h_T g_P (g_Y ns) 42 0 [(0, .ref 85), (1, .int x0), (2, .int x1)] [] σ Q := by
  have F00 : h_F (k_in kf_w_42_85) σ σ := h_F.rf
  refine h_iload_n (pc' := 1) rfl rfl rfl ?_
  refine h_zlt (tg := 15) (pc' := 4) rfl rfl rfl hx1 (fun c1 => ?_) (fun c1 => ?_)
  · refine h_bipush (pc' := 17) (x := (Int32.ofInt (-4))) rfl rfl cb_m4 ?_
    exact h_iret rfl rfl (kk _ _ ci_m4 _ hI F00 (by omega))
  · refine h_iload_n (pc' := 5) rfl rfl rfl ?_
    refine h_aload_n (pc' := 6) rfl rfl rfl ?_
    refine h_getR (pc' := 9) rfl rfl rfl rfl rfl ?_
    refine h_bipush (pc' := 11) (x := (Int32.ofInt 6)) rfl rfl cb_6 ?_
    refine h_iald (pc' := 12) (v := σ 89 6) rfl rfl rfl ci_6 (by omega) (by omega) rfl (fun z2 hz2 => ?_)
    have tz2 := ty_89 hI 6
    refine h_clt (tg := 18) (pc' := 15) rfl rfl rfl hx1 hz2 (fun c3 => ?_) (fun c3 => ?_)
    · refine h_bipush (pc' := 20) (x := (Int32.ofInt 6)) rfl rfl cb_6 ?_
      refine h_istore_n (pc' := 21) (M := [(3, .int (Int32.ofInt 6)), (0, .ref 85), (1, .int x0), (2, .int x1)]) rfl rfl rfl rfl ?_
      refine h_iconst (pc' := 22) (x := (Int32.ofInt 0)) rfl rfl rfl ?_
      refine h_istore (pc' := 24) (M := [(4, .int (Int32.ofInt 0)), (3, .int (Int32.ofInt 6)), (0, .ref 85), (1, .int x0), (2, .int x1)]) rfl rfl rfl rfl ?_
      exact h_wk [(0, .ref 85), (1, .int x0), (2, .int x1), (3, .int (Int32.ofInt 6)), (4, .int (Int32.ofInt 0))] ⟨rfl, rfl, rfl, rfl, rfl, trivial⟩ ((w_42_85_l ns σ hI x0 a0 hx0 ra0 x1 a1 hx1 kk 100000000000000000000) _ hI F00 (Int32.ofInt 6) _ ci_6 (by omega) (Int32.ofInt 0) _ ci_0 (by omega) (by omega) (by omega) (by omega))
    · refine h_bipush (pc' := 17) (x := (Int32.ofInt (-4))) rfl rfl cb_m4 ?_
      exact h_iret rfl rfl (kk _ _ ci_m4 _ hI F00 (by omega))
def kf_w_80_90 : List Nat := []
theorem w_80_90_l (ns : Nat) (σ : h_S) (hI : h_I σ) (x0 : Int32) (a0 : Int) (hx0 : x0.toInt = a0) {Q : Option Value → h_S → Prop} (kk : ∀ (r : Int32) (b : Int) (hb : r.toInt = b) (τ : h_S), h_I τ → h_F (k_in kf_w_80_90) τ σ → (0 ≤ b ∧ b ≤ 1) → Q (some (.int r)) τ) : ∀ n : Nat, (∀ (s0 : h_S), h_I s0 → h_F (k_in kf_w_80_90) s0 σ → ∀ (y2 : Int32) (b2 : Int), y2.toInt = b2 → (0 ≤ b2 ∧ b2 ≤ 6) → (6 + 1 - b2) * 1000000 + 1000000000 ≤ (n : Int) → h_T g_P (g_Y ns) 80 2 [(0, .ref 90), (1, .int x0), (2, .int y2)] [] s0 Q) := by
  intro n
  induction n with
  | zero => exact by intro s0 I0 F0_ y2 b2 hy2 ry2 hm; exfalso; omega
  | succ n ih =>
    intro s0 I0 F0_ y2 b2 hy2 ry2 hm
    refine h_iload_n (pc' := 3) rfl rfl rfl ?_
    refine h_aload_n (pc' := 4) rfl rfl rfl ?_
    refine h_getI (pc' := 7) (v := σ 90 2) rfl rfl rfl rfl rfl (F0_ 90 2 rfl) (fun z1 hz1 => ?_)
    have tz1 := tf_90_2 hI
    refine h_cge (tg := 37) (pc' := 10) rfl rfl rfl hy2 hz1 (fun c2 => ?_) (fun c2 => ?_)
    · refine h_iconst (pc' := 38) (x := (Int32.ofInt 1)) rfl rfl rfl ?_
      exact h_zret rfl rfl ci_1 (by omega) (kk _ _ ci_1 _ I0 F0_ (by omega))
    · refine h_iload_n (pc' := 11) rfl rfl rfl ?_
      refine h_aload_n (pc' := 12) rfl rfl rfl ?_
      refine h_getR (pc' := 15) rfl rfl rfl rfl rfl ?_
      refine h_iload_n (pc' := 16) rfl rfl rfl ?_
      refine h_iald (pc' := 17) (v := σ 91 b2) rfl rfl rfl hy2 (by omega) (by omega) (F0_ 91 _ rfl) (fun z3 hz3 => ?_)
      have tz3 := ty_91 hI b2
      refine h_calls (pc' := 20) (M := [(0, .int x0), (1, .int z3)]) rfl rfl rfl rfl rfl rfl ?_
      refine h_iload_n (pc' := 1) rfl rfl rfl ?_
      refine h_iload_n (pc' := 2) rfl rfl rfl ?_
      refine h_ishr (pc' := 3) rfl rfl (fun z4 hz4 => ?_)
      refine h_iconst (pc' := 4) (x := (Int32.ofInt 1)) rfl rfl rfl ?_
      refine h_iand (pc' := 5) rfl rfl (fun z5 hz5 uz5 vz5 => ?_)
      clear uz5
      rw [ci_1] at vz5
      have yz5 := vz5 (by omega)
      refine h_zeq (tg := 12) (pc' := 8) rfl rfl rfl rfl (fun c6 => ?_) (fun c6 => ?_)
      · refine h_iconst (pc' := 13) (x := (Int32.ofInt 0)) rfl rfl rfl ?_
        refine h_zret rfl rfl ci_0 (by omega) (h_Kv ?_)
        refine h_aload_n (pc' := 21) rfl rfl rfl ?_
        refine h_getR (pc' := 24) rfl rfl rfl rfl rfl ?_
        refine h_iload_n (pc' := 25) rfl rfl rfl ?_
        refine h_bald (pc' := 26) (v := σ 92 b2) rfl rfl rfl hy2 (by omega) (by omega) (F0_ 92 _ rfl) (fun z7 hz7 => ?_)
        have tz7 := ty_92 hI b2
        refine h_ceq (tg := 31) (pc' := 29) rfl rfl rfl ci_0 hz7 (fun c8 => ?_) (fun c8 => ?_)
        · refine h_iinc (pc' := 34) (M := fun z9 => [(2, .int z9), (0, .ref 90), (1, .int x0)]) rfl rfl rfl rfl hy2 ci_1 rfl (by omega) (by omega) (fun _ => rfl) (fun z9 hz9 => ?_)
          refine h_goto (pc' := 2) rfl rfl ?_
          exact h_wk [(0, .ref 90), (1, .int x0), (2, .int z9)] ⟨rfl, rfl, rfl, trivial⟩ (ih _ I0 F0_ z9 _ hz9 (by omega) (by omega))
        · refine h_iconst (pc' := 30) (x := (Int32.ofInt 0)) rfl rfl rfl ?_
          exact h_zret rfl rfl ci_0 (by omega) (kk _ _ ci_0 _ I0 F0_ (by omega))
      · refine h_iconst (pc' := 9) (x := (Int32.ofInt 1)) rfl rfl rfl ?_
        refine h_goto (pc' := 13) rfl rfl ?_
        refine h_zret rfl rfl ci_1 (by omega) (h_Kv ?_)
        refine h_aload_n (pc' := 21) rfl rfl rfl ?_
        refine h_getR (pc' := 24) rfl rfl rfl rfl rfl ?_
        refine h_iload_n (pc' := 25) rfl rfl rfl ?_
        refine h_bald (pc' := 26) (v := σ 92 b2) rfl rfl rfl hy2 (by omega) (by omega) (F0_ 92 _ rfl) (fun z10 hz10 => ?_)
        have tz10 := ty_92 hI b2
        refine h_ceq (tg := 31) (pc' := 29) rfl rfl rfl ci_1 hz10 (fun c11 => ?_) (fun c11 => ?_)
        · refine h_iinc (pc' := 34) (M := fun z12 => [(2, .int z12), (0, .ref 90), (1, .int x0)]) rfl rfl rfl rfl hy2 ci_1 rfl (by omega) (by omega) (fun _ => rfl) (fun z12 hz12 => ?_)
          refine h_goto (pc' := 2) rfl rfl ?_
          exact h_wk [(0, .ref 90), (1, .int x0), (2, .int z12)] ⟨rfl, rfl, rfl, trivial⟩ (ih _ I0 F0_ z12 _ hz12 (by omega) (by omega))
        · refine h_iconst (pc' := 30) (x := (Int32.ofInt 0)) rfl rfl rfl ?_
          exact h_zret rfl rfl ci_0 (by omega) (kk _ _ ci_0 _ I0 F0_ (by omega))
theorem w_80_90 {ns : Nat} (σ : h_S) (hI : h_I σ) (x0 : Int32) (a0 : Int) (hx0 : x0.toInt = a0) {Q : Option Value → h_S → Prop} (kk : ∀ (r : Int32) (b : Int) (hb : r.toInt = b) (τ : h_S), h_I τ → h_F (k_in kf_w_80_90) τ σ → (0 ≤ b ∧ b ≤ 1) → Q (some (.int r)) τ) : h_T g_P (g_Y ns) 80 0 [(0, .ref 90), (1, .int x0)] [] σ Q := by
  have F00 : h_F (k_in kf_w_80_90) σ σ := h_F.rf
  refine h_iconst (pc' := 1) (x := (Int32.ofInt 0)) rfl rfl rfl ?_
  refine h_istore_n (pc' := 2) (M := [(2, .int (Int32.ofInt 0)), (0, .ref 90), (1, .int x0)]) rfl rfl rfl rfl ?_
  exact h_wk [(0, .ref 90), (1, .int x0), (2, .int (Int32.ofInt 0))] ⟨rfl, rfl, rfl, trivial⟩ ((w_80_90_l ns σ hI x0 a0 hx0 kk 1000000000000) _ hI F00 (Int32.ofInt 0) _ ci_0 (by omega) (by omega))
def kf_w_226 : List Nat := []
theorem w_226 {ns : Nat} (σ : h_S) (hI : h_I σ) (x0 : Int32) (a0 : Int) (hx0 : x0.toInt = a0) {Q : Option Value → h_S → Prop} (kk : ∀ (r : Int32) (b : Int) (hb : r.toInt = b) (τ : h_S), h_I τ → h_F (k_in kf_w_226) τ σ → (0 ≤ b ∧ b ≤ 63) → Q (some (.int r)) τ) : h_T g_P (g_Y ns) 226 0 [(0, .int x0)] [] σ Q := by
  have F00 : h_F (k_in kf_w_226) σ σ := h_F.rf
  refine h_iload_n (pc' := 1) rfl rfl rfl ?_
  refine h_iload_n (pc' := 2) rfl rfl rfl ?_
  refine h_iconst (pc' := 3) (x := (Int32.ofInt 1)) rfl rfl rfl ?_
  refine h_iushr (pc' := 4) rfl rfl (fun z1 hz1 => ?_)
  refine h_ldcw (pc' := 7) (x := (Int32.ofInt 1431655765)) rfl rfl rfl ?_
  refine h_iand (pc' := 8) rfl rfl (fun z2 hz2 uz2 vz2 => ?_)
  clear uz2
  rw [ci_1431655765] at vz2
  have yz2 := vz2 (by omega)
  refine h_isubA (pc' := 9) rfl rfl (fun z3 hz3 => ?_)
  refine h_istore_n (pc' := 10) (M := [(0, .int z3)]) rfl rfl rfl rfl ?_
  refine h_iload_n (pc' := 11) rfl rfl rfl ?_
  refine h_ldcw (pc' := 14) (x := (Int32.ofInt 858993459)) rfl rfl rfl ?_
  refine h_iand (pc' := 15) rfl rfl (fun z4 hz4 uz4 vz4 => ?_)
  clear uz4
  rw [ci_858993459] at vz4
  have yz4 := vz4 (by omega)
  refine h_iload_n (pc' := 16) rfl rfl rfl ?_
  refine h_iconst (pc' := 17) (x := (Int32.ofInt 2)) rfl rfl rfl ?_
  refine h_iushr (pc' := 18) rfl rfl (fun z5 hz5 => ?_)
  refine h_ldcw (pc' := 21) (x := (Int32.ofInt 858993459)) rfl rfl rfl ?_
  refine h_iand (pc' := 22) rfl rfl (fun z6 hz6 uz6 vz6 => ?_)
  clear uz6
  rw [ci_858993459] at vz6
  have yz6 := vz6 (by omega)
  refine h_iadd (pc' := 23) rfl rfl rfl rfl rfl (by omega) (by omega) (fun z7 hz7 => ?_)
  refine h_istore_n (pc' := 24) (M := [(0, .int z7)]) rfl rfl rfl rfl ?_
  refine h_iload_n (pc' := 25) rfl rfl rfl ?_
  refine h_iload_n (pc' := 26) rfl rfl rfl ?_
  refine h_iconst (pc' := 27) (x := (Int32.ofInt 4)) rfl rfl rfl ?_
  refine h_iushr (pc' := 28) rfl rfl (fun z8 hz8 => ?_)
  refine h_iaddA (pc' := 29) rfl rfl (fun z9 hz9 => ?_)
  refine h_ldcw (pc' := 32) (x := (Int32.ofInt 252645135)) rfl rfl rfl ?_
  refine h_iand (pc' := 33) rfl rfl (fun z10 hz10 uz10 vz10 => ?_)
  clear uz10
  rw [ci_252645135] at vz10
  have yz10 := vz10 (by omega)
  refine h_istore_n (pc' := 34) (M := [(0, .int z10)]) rfl rfl rfl rfl ?_
  refine h_iload_n (pc' := 35) rfl rfl rfl ?_
  refine h_iload_n (pc' := 36) rfl rfl rfl ?_
  refine h_bipush (pc' := 38) (x := (Int32.ofInt 8)) rfl rfl cb_8 ?_
  refine h_iushr (pc' := 39) rfl rfl (fun z11 hz11 => ?_)
  refine h_iaddA (pc' := 40) rfl rfl (fun z12 hz12 => ?_)
  refine h_istore_n (pc' := 41) (M := [(0, .int z12)]) rfl rfl rfl rfl ?_
  refine h_iload_n (pc' := 42) rfl rfl rfl ?_
  refine h_iload_n (pc' := 43) rfl rfl rfl ?_
  refine h_bipush (pc' := 45) (x := (Int32.ofInt 16)) rfl rfl cb_16 ?_
  refine h_iushr (pc' := 46) rfl rfl (fun z13 hz13 => ?_)
  refine h_iaddA (pc' := 47) rfl rfl (fun z14 hz14 => ?_)
  refine h_istore_n (pc' := 48) (M := [(0, .int z14)]) rfl rfl rfl rfl ?_
  refine h_iload_n (pc' := 49) rfl rfl rfl ?_
  refine h_bipush (pc' := 51) (x := (Int32.ofInt 63)) rfl rfl cb_63 ?_
  refine h_iand (pc' := 52) rfl rfl (fun z15 hz15 uz15 vz15 => ?_)
  clear uz15
  rw [ci_63] at vz15
  have yz15 := vz15 (by omega)
  exact h_iret rfl rfl (kk _ _ rfl _ hI F00 (by omega))
def kf_w_127_9_10 : List Nat := [80898, 82943, 83967, 86015]
theorem w_127_9_10 {ns : Nat} (σ : h_S) (hI : h_I σ) {Q : Option Value → h_S → Prop} (kk : ∀ (τ : h_S), h_I τ → h_F (k_in kf_w_127_9_10) τ σ → Q none τ) : h_T g_P (g_Y ns) 127 0 [(0, .ref 9), (1, .ref 10)] [] σ Q := by
  have F00 : h_F (k_in kf_w_127_9_10) σ σ := h_F.rf
  refine h_aload_n (pc' := 1) rfl rfl rfl ?_
  refine h_getR (pc' := 4) rfl rfl rfl rfl rfl ?_
  refine h_aload_n (pc' := 5) rfl rfl rfl ?_
  refine h_call (sp := false) (pc' := 8) (M := [(0, .ref 79), (1, .ref 10)]) rfl rfl rfl rfl rfl rfl rfl rfl ?_
  refine w_23_79_10 _ hI  (fun s2 Is2 Gs2 => h_Kn ?_)
  have Fs2 := (Gs2.mono (B := kf_w_127_9_10) rfl).tr F00
  refine h_aload_n (pc' := 9) rfl rfl rfl ?_
  refine h_getR (pc' := 12) rfl rfl rfl rfl rfl ?_
  refine h_aload_n (pc' := 13) rfl rfl rfl ?_
  refine h_aload_n (pc' := 14) rfl rfl rfl ?_
  refine h_getR (pc' := 17) rfl rfl rfl rfl rfl ?_
  refine h_call (sp := false) (pc' := 20) (M := [(0, .ref 82), (1, .ref 10), (2, .ref 79)]) rfl rfl rfl rfl rfl rfl rfl rfl ?_
  refine w_18_82_10_79 _ Is2  (fun s4 Is4 Gs4 => h_Kn ?_)
  have Fs4 := (Gs4.mono (B := kf_w_127_9_10) rfl).tr Fs2
  exact h_vret rfl rfl (kk _ Is4 Fs4)
def kf_w_127_9_23 : List Nat := [80898, 82943, 83967, 86015]
theorem w_127_9_23 {ns : Nat} (σ : h_S) (hI : h_I σ) {Q : Option Value → h_S → Prop} (kk : ∀ (τ : h_S), h_I τ → h_F (k_in kf_w_127_9_23) τ σ → Q none τ) : h_T g_P (g_Y ns) 127 0 [(0, .ref 9), (1, .ref 23)] [] σ Q := by
  have F00 : h_F (k_in kf_w_127_9_23) σ σ := h_F.rf
  refine h_aload_n (pc' := 1) rfl rfl rfl ?_
  refine h_getR (pc' := 4) rfl rfl rfl rfl rfl ?_
  refine h_aload_n (pc' := 5) rfl rfl rfl ?_
  refine h_call (sp := false) (pc' := 8) (M := [(0, .ref 79), (1, .ref 23)]) rfl rfl rfl rfl rfl rfl rfl rfl ?_
  refine w_23_79_23 _ hI  (fun s2 Is2 Gs2 => h_Kn ?_)
  have Fs2 := (Gs2.mono (B := kf_w_127_9_23) rfl).tr F00
  refine h_aload_n (pc' := 9) rfl rfl rfl ?_
  refine h_getR (pc' := 12) rfl rfl rfl rfl rfl ?_
  refine h_aload_n (pc' := 13) rfl rfl rfl ?_
  refine h_aload_n (pc' := 14) rfl rfl rfl ?_
  refine h_getR (pc' := 17) rfl rfl rfl rfl rfl ?_
  refine h_call (sp := false) (pc' := 20) (M := [(0, .ref 82), (1, .ref 23), (2, .ref 79)]) rfl rfl rfl rfl rfl rfl rfl rfl ?_
  refine w_18_82_23_79 _ Is2  (fun s4 Is4 Gs4 => h_Kn ?_)
  have Fs4 := (Gs4.mono (B := kf_w_127_9_23) rfl).tr Fs2
  exact h_vret rfl rfl (kk _ Is4 Fs4)
def kf_w_129_9 : List Nat := []
theorem w_129_9_l (ns : Nat) (σ : h_S) (hI : h_I σ) (x0 : Int32) (a0 : Int) (hx0 : x0.toInt = a0) {Q : Option Value → h_S → Prop} (kk : ∀ (r : Int32) (b : Int) (hb : r.toInt = b) (τ : h_S), h_I τ → h_F (k_in kf_w_129_9) τ σ → ((-4) ≤ b ∧ b ≤ 7) → Q (some (.int r)) τ) : ∀ n : Nat, (∀ (s0 : h_S), h_I s0 → h_F (k_in kf_w_129_9) s0 σ → ∀ (y2 : Int32) (b2 : Int), y2.toInt = b2 → (0 ≤ b2 ∧ b2 ≤ 8) → (8 + 1 - b2) * 1000000 + 1000000000 ≤ (n : Int) → h_T g_P (g_Y ns) 129 2 [(0, .ref 9), (1, .int x0), (2, .int y2)] [] s0 Q) := by
  intro n
  induction n with
  | zero => exact by intro s0 I0 F0_ y2 b2 hy2 ry2 hm; exfalso; omega
  | succ n ih =>
    intro s0 I0 F0_ y2 b2 hy2 ry2 hm
    refine h_iload_n (pc' := 3) rfl rfl rfl ?_
    refine h_aload_n (pc' := 4) rfl rfl rfl ?_
    refine h_getR (pc' := 7) rfl rfl rfl rfl rfl ?_
    refine h_getI (pc' := 10) (v := σ 10 10) rfl rfl rfl rfl rfl (F0_ 10 10 rfl) (fun z1 hz1 => ?_)
    have tz1 := tf_10_10 hI
    refine h_cge (tg := 29) (pc' := 13) rfl rfl rfl hy2 hz1 (fun c2 => ?_) (fun c2 => ?_)
    · refine h_bipush (pc' := 31) (x := (Int32.ofInt (-4))) rfl rfl cb_m4 ?_
      exact h_iret rfl rfl (kk _ _ ci_m4 _ I0 F0_ (by omega))
    · refine h_iload_n (pc' := 14) rfl rfl rfl ?_
      refine h_iload_n (pc' := 15) rfl rfl rfl ?_
      refine h_calls (pc' := 18) (M := [(0, .int x0), (1, .int y2)]) rfl rfl rfl rfl rfl rfl ?_
      refine h_iload_n (pc' := 1) rfl rfl rfl ?_
      refine h_iload_n (pc' := 2) rfl rfl rfl ?_
      refine h_ishr (pc' := 3) rfl rfl (fun z3 hz3 => ?_)
      refine h_iconst (pc' := 4) (x := (Int32.ofInt 1)) rfl rfl rfl ?_
      refine h_iand (pc' := 5) rfl rfl (fun z4 hz4 uz4 vz4 => ?_)
      clear uz4
      rw [ci_1] at vz4
      have yz4 := vz4 (by omega)
      refine h_zeq (tg := 12) (pc' := 8) rfl rfl rfl rfl (fun c5 => ?_) (fun c5 => ?_)
      · refine h_iconst (pc' := 13) (x := (Int32.ofInt 0)) rfl rfl rfl ?_
        refine h_zret rfl rfl ci_0 (by omega) (h_Kv ?_)
        refine h_zne (tg := 23) (pc' := 21) rfl rfl rfl ci_0 (fun c6 => absurd c6 (by omega)) (fun c6 => ?_)
        refine h_iload_n (pc' := 22) rfl rfl rfl ?_
        exact h_iret rfl rfl (kk _ _ hy2 _ I0 F0_ (by omega))
      · refine h_iconst (pc' := 9) (x := (Int32.ofInt 1)) rfl rfl rfl ?_
        refine h_goto (pc' := 13) rfl rfl ?_
        refine h_zret rfl rfl ci_1 (by omega) (h_Kv ?_)
        refine h_zne (tg := 23) (pc' := 21) rfl rfl rfl ci_1 (fun c7 => ?_) (fun c7 => absurd c7 (by omega))
        refine h_iinc (pc' := 26) (M := fun z8 => [(2, .int z8), (0, .ref 9), (1, .int x0)]) rfl rfl rfl rfl hy2 ci_1 rfl (by omega) (by omega) (fun _ => rfl) (fun z8 hz8 => ?_)
        refine h_goto (pc' := 2) rfl rfl ?_
        exact h_wk [(0, .ref 9), (1, .int x0), (2, .int z8)] ⟨rfl, rfl, rfl, trivial⟩ (ih _ I0 F0_ z8 _ hz8 (by omega) (by omega))
theorem w_129_9 {ns : Nat} (σ : h_S) (hI : h_I σ) (x0 : Int32) (a0 : Int) (hx0 : x0.toInt = a0) {Q : Option Value → h_S → Prop} (kk : ∀ (r : Int32) (b : Int) (hb : r.toInt = b) (τ : h_S), h_I τ → h_F (k_in kf_w_129_9) τ σ → ((-4) ≤ b ∧ b ≤ 7) → Q (some (.int r)) τ) : h_T g_P (g_Y ns) 129 0 [(0, .ref 9), (1, .int x0)] [] σ Q := by
  have F00 : h_F (k_in kf_w_129_9) σ σ := h_F.rf
  refine h_iconst (pc' := 1) (x := (Int32.ofInt 0)) rfl rfl rfl ?_
  refine h_istore_n (pc' := 2) (M := [(2, .int (Int32.ofInt 0)), (0, .ref 9), (1, .int x0)]) rfl rfl rfl rfl ?_
  exact h_wk [(0, .ref 9), (1, .int x0), (2, .int (Int32.ofInt 0))] ⟨rfl, rfl, rfl, trivial⟩ ((w_129_9_l ns σ hI x0 a0 hx0 kk 1000000000000) _ hI F00 (Int32.ofInt 0) _ ci_0 (by omega) (by omega))
def kf_w_130_9_10 : List Nat := [80898, 82943, 83967, 87044, 89087, 90111, 91135]
theorem w_130_9_10 {ns : Nat} (σ : h_S) (hI : h_I σ) (x1 : Int32) (a1 : Int) (hx1 : x1.toInt = a1) (ra1 : 0 ≤ a1 ∧ a1 ≤ 2) {Q : Option Value → h_S → Prop} (kk : ∀ (τ : h_S), h_I τ → h_F (k_in kf_w_130_9_10) τ σ → Q none τ) : h_T g_P (g_Y ns) 130 0 [(0, .ref 9), (1, .ref 10), (2, .int x1)] [] σ Q := by
  have F00 : h_F (k_in kf_w_130_9_10) σ σ := h_F.rf
  refine h_aload_n (pc' := 1) rfl rfl rfl ?_
  refine h_getR (pc' := 4) rfl rfl rfl rfl rfl ?_
  refine h_aload_n (pc' := 5) rfl rfl rfl ?_
  refine h_call (sp := false) (pc' := 8) (M := [(0, .ref 79), (1, .ref 10)]) rfl rfl rfl rfl rfl rfl rfl rfl ?_
  refine w_23_79_10 _ hI  (fun s2 Is2 Gs2 => h_Kn ?_)
  have Fs2 := (Gs2.mono (B := kf_w_130_9_10) rfl).tr F00
  refine h_aload_n (pc' := 9) rfl rfl rfl ?_
  refine h_getR (pc' := 12) rfl rfl rfl rfl rfl ?_
  refine h_aload_n (pc' := 13) rfl rfl rfl ?_
  refine h_aload_n (pc' := 14) rfl rfl rfl ?_
  refine h_getR (pc' := 17) rfl rfl rfl rfl rfl ?_
  refine h_iload_n (pc' := 18) rfl rfl rfl ?_
  refine h_call (sp := false) (pc' := 21) (M := [(0, .ref 85), (1, .ref 10), (2, .ref 79), (3, .int x1)]) rfl rfl rfl rfl rfl rfl rfl rfl ?_
  refine w_32_85_10_79 _ Is2 x1 _ hx1 (by omega) (fun s4 Is4 Gs4 => h_Kn ?_)
  have Fs4 := (Gs4.mono (B := kf_w_130_9_10) rfl).tr Fs2
  refine h_aload_n (pc' := 22) rfl rfl rfl ?_
  refine h_getR (pc' := 25) rfl rfl rfl rfl rfl ?_
  refine h_call (sp := false) (pc' := 28) (M := [(0, .ref 85)]) rfl rfl rfl rfl rfl rfl rfl rfl ?_
  refine w_33_85 _ Is4  (fun s6 Is6 Gs6 => h_Kn ?_)
  have Fs6 := (Gs6.mono (B := kf_w_130_9_10) rfl).tr Fs4
  exact h_vret rfl rfl (kk _ Is6 Fs6)
def kf_w_130_9_23 : List Nat := [80898, 82943, 83967, 87044, 89087, 90111, 91135]
theorem w_130_9_23 {ns : Nat} (σ : h_S) (hI : h_I σ) (x1 : Int32) (a1 : Int) (hx1 : x1.toInt = a1) (ra1 : 0 ≤ a1 ∧ a1 ≤ 2) {Q : Option Value → h_S → Prop} (kk : ∀ (τ : h_S), h_I τ → h_F (k_in kf_w_130_9_23) τ σ → Q none τ) : h_T g_P (g_Y ns) 130 0 [(0, .ref 9), (1, .ref 23), (2, .int x1)] [] σ Q := by
  have F00 : h_F (k_in kf_w_130_9_23) σ σ := h_F.rf
  refine h_aload_n (pc' := 1) rfl rfl rfl ?_
  refine h_getR (pc' := 4) rfl rfl rfl rfl rfl ?_
  refine h_aload_n (pc' := 5) rfl rfl rfl ?_
  refine h_call (sp := false) (pc' := 8) (M := [(0, .ref 79), (1, .ref 23)]) rfl rfl rfl rfl rfl rfl rfl rfl ?_
  refine w_23_79_23 _ hI  (fun s2 Is2 Gs2 => h_Kn ?_)
  have Fs2 := (Gs2.mono (B := kf_w_130_9_23) rfl).tr F00
  refine h_aload_n (pc' := 9) rfl rfl rfl ?_
  refine h_getR (pc' := 12) rfl rfl rfl rfl rfl ?_
  refine h_aload_n (pc' := 13) rfl rfl rfl ?_
  refine h_aload_n (pc' := 14) rfl rfl rfl ?_
  refine h_getR (pc' := 17) rfl rfl rfl rfl rfl ?_
  refine h_iload_n (pc' := 18) rfl rfl rfl ?_
  refine h_call (sp := false) (pc' := 21) (M := [(0, .ref 85), (1, .ref 23), (2, .ref 79), (3, .int x1)]) rfl rfl rfl rfl rfl rfl rfl rfl ?_
  refine w_32_85_23_79 _ Is2 x1 _ hx1 (by omega) (fun s4 Is4 Gs4 => h_Kn ?_)
  have Fs4 := (Gs4.mono (B := kf_w_130_9_23) rfl).tr Fs2
  refine h_aload_n (pc' := 22) rfl rfl rfl ?_
  refine h_getR (pc' := 25) rfl rfl rfl rfl rfl ?_
  refine h_call (sp := false) (pc' := 28) (M := [(0, .ref 85)]) rfl rfl rfl rfl rfl rfl rfl rfl ?_
  refine w_33_85 _ Is4  (fun s6 Is6 Gs6 => h_Kn ?_)
  have Fs6 := (Gs6.mono (B := kf_w_130_9_23) rfl).tr Fs4
  exact h_vret rfl rfl (kk _ Is6 Fs6)
def kf_w_131_9 : List Nat := [23560, 23561, 23562, 25599, 26623, 26626, 28671, 29695, 29698, 31743, 32767, 33791, 34815, 35839, 36863, 80898, 82943, 83967, 87044, 89087, 90111, 91135]
theorem w_131_9 {ns : Nat} (σ : h_S) (hI : h_I σ) (x0 : Int32) (a0 : Int) (hx0 : x0.toInt = a0) (ra0 : 0 ≤ a0 ∧ a0 ≤ 5) (x1 : Int32) (a1 : Int) (hx1 : x1.toInt = a1) (ra1 : 0 ≤ a1 ∧ a1 ≤ 5) (x2 : Int32) (a2 : Int) (hx2 : x2.toInt = a2) (ra2 : 0 ≤ a2 ∧ a2 ≤ 2) {Q : Option Value → h_S → Prop} (kk : ∀ (r : Int32) (b : Int) (hb : r.toInt = b) (τ : h_S), h_I τ → h_F (k_in kf_w_131_9) τ σ → Q (some (.int r)) τ) : h_T g_P (g_Y ns) 131 0 [(0, .ref 9), (1, .int x0), (2, .int x1), (3, .int x2)] [] σ Q := by
  have F00 : h_F (k_in kf_w_131_9) σ σ := h_F.rf
  refine h_aload_n (pc' := 1) rfl rfl rfl ?_
  refine h_getR (pc' := 4) rfl rfl rfl rfl rfl ?_
  refine h_aload_n (pc' := 5) rfl rfl rfl ?_
  refine h_getR (pc' := 8) rfl rfl rfl rfl rfl ?_
  refine h_call (sp := false) (pc' := 11) (M := [(0, .ref 23), (1, .ref 10)]) rfl rfl rfl rfl rfl rfl rfl rfl ?_
  refine w_3_23_10 _ hI  (fun s2 Is2 Gs2 => h_Kn ?_)
  have Fs2 := (Gs2.mono (B := kf_w_131_9) rfl).tr F00
  refine h_aload_n (pc' := 12) rfl rfl rfl ?_
  refine h_getR (pc' := 15) rfl rfl rfl rfl rfl ?_
  refine h_getR (pc' := 18) rfl rfl rfl rfl rfl ?_
  refine h_iload_n (pc' := 19) rfl rfl rfl ?_
  refine h_iload_n (pc' := 20) rfl rfl rfl ?_
  refine h_call (sp := false) (pc' := 23) (M := [(0, .ref 26), (1, .int x0), (2, .int x1)]) rfl rfl rfl rfl rfl rfl rfl rfl ?_
  refine h_aload_n (pc' := 1) rfl rfl rfl ?_
  refine h_call (sp := false) (pc' := 4) (M := [(0, .ref 26)]) rfl rfl rfl rfl rfl rfl rfl rfl ?_
  refine h_aload_n (pc' := 1) rfl rfl rfl ?_
  refine h_getI (pc' := 4) (v := s2 26 2) rfl rfl rfl rfl rfl rfl (fun z3 hz3 => ?_)
  have tz3 := tf_26_2 Is2
  refine h_iconst (pc' := 5) (x := (Int32.ofInt 3)) rfl rfl rfl ?_
  refine h_clt (tg := 12) (pc' := 8) rfl rfl rfl hz3 ci_3 (fun c4 => ?_) (fun c4 => ?_)
  · refine h_iconst (pc' := 13) (x := (Int32.ofInt 0)) rfl rfl rfl ?_
    refine h_zret rfl rfl ci_0 (by omega) (h_Kv ?_)
    refine h_zeq (tg := 9) (pc' := 7) rfl rfl rfl ci_0 (fun c5 => ?_) (fun c5 => absurd c5 (by omega))
    refine h_aload_n (pc' := 10) rfl rfl rfl ?_
    refine h_getR (pc' := 13) rfl rfl rfl rfl rfl ?_
    refine h_aload_n (pc' := 14) rfl rfl rfl ?_
    refine h_getI (pc' := 17) (v := s2 26 2) rfl rfl rfl rfl rfl rfl (fun z6 hz6 => ?_)
    have tz6 := tf_26_2 Is2
    refine h_iload_n (pc' := 18) rfl rfl rfl ?_
    refine h_iast (pc' := 19) rfl rfl rfl rfl hz6 (by omega) (by omega) hx0 ?_
    have Is7 : h_I (h_up s2 27 (s2 26 2) a0) := (in_27 Is2 (by omega))
    have Fs7 := (Fs2.up (q := 27) (a := (s2 26 2)) (v := a0) rfl)
    have es7_0 : h_up s2 27 (s2 26 2) a0 26 2 = s2 26 2 := rfl
    generalize h_up s2 27 (s2 26 2) a0 = s7 at Is7 Fs7 es7_0 ⊢
    refine h_aload_n (pc' := 20) rfl rfl rfl ?_
    refine h_getR (pc' := 23) rfl rfl rfl rfl rfl ?_
    refine h_aload_n (pc' := 24) rfl rfl rfl ?_
    refine h_getI (pc' := 27) (v := s7 26 2) rfl rfl rfl rfl rfl rfl (fun z8 hz8 => ?_)
    have tz8 := tf_26_2 Is7
    refine h_iload_n (pc' := 28) rfl rfl rfl ?_
    refine h_iast (pc' := 29) rfl rfl rfl rfl hz8 (by omega) (by omega) hx1 ?_
    have Is9 : h_I (h_up s7 28 (s7 26 2) a1) := (in_28 Is7 (by omega))
    have Fs9 := (Fs7.up (q := 28) (a := (s7 26 2)) (v := a1) rfl)
    have es9_0 : h_up s7 28 (s7 26 2) a1 26 2 = s7 26 2 := rfl
    generalize h_up s7 28 (s7 26 2) a1 = s9 at Is9 Fs9 es9_0 ⊢
    refine h_aload_n (pc' := 30) rfl rfl rfl ?_
    refine h_dup (pc' := 31) rfl rfl rfl ?_
    refine h_getI (pc' := 34) (v := s9 26 2) rfl rfl rfl rfl rfl rfl (fun z10 hz10 => ?_)
    have tz10 := tf_26_2 Is9
    refine h_iconst (pc' := 35) (x := (Int32.ofInt 1)) rfl rfl rfl ?_
    refine h_iadd (pc' := 36) rfl rfl hz10 ci_1 rfl (by omega) (by omega) (fun z11 hz11 => ?_)
    refine h_put (pc' := 39) rfl rfl rfl rfl rfl rfl hz11 rfl ?_
    have Is12 : h_I (h_up s9 26 2 ((s9 26 2) + 1)) := (if_26_2 Is9 (by omega))
    have Fs12 := (Fs9.up (q := 26) (a := 2) (v := ((s9 26 2) + 1)) rfl)
    have es12_0 : h_up s9 26 2 ((s9 26 2) + 1) 26 2 = ((s9 26 2) + 1) := rfl
    generalize h_up s9 26 2 ((s9 26 2) + 1) = s12 at Is12 Fs12 es12_0 ⊢
    refine h_iconst (pc' := 40) (x := (Int32.ofInt 1)) rfl rfl rfl ?_
    refine h_zret rfl rfl ci_1 (by omega) (h_Kv ?_)
    refine h_pop (pc' := 24) rfl rfl rfl ?_
    refine h_aload_n (pc' := 25) rfl rfl rfl ?_
    refine h_aload_n (pc' := 26) rfl rfl rfl ?_
    refine h_getR (pc' := 29) rfl rfl rfl rfl rfl ?_
    refine h_iload_n (pc' := 30) rfl rfl rfl ?_
    refine h_call (sp := false) (pc' := 33) (M := [(0, .ref 9), (1, .ref 23), (2, .int x2)]) rfl rfl rfl rfl rfl rfl rfl rfl ?_
    refine w_130_9_23 _ Is12 x2 _ hx2 (by omega) (fun s14 Is14 Gs14 => h_Kn ?_)
    have Fs14 := (Gs14.mono (B := kf_w_131_9) rfl).tr Fs12
    refine h_aload_n (pc' := 34) rfl rfl rfl ?_
    refine h_getR (pc' := 37) rfl rfl rfl rfl rfl ?_
    refine h_call (sp := false) (pc' := 40) (M := [(0, .ref 85)]) rfl rfl rfl rfl rfl rfl rfl rfl ?_
    refine h_aload_n (pc' := 1) rfl rfl rfl ?_
    refine h_getR (pc' := 4) rfl rfl rfl rfl rfl ?_
    refine h_aload_n (pc' := 5) rfl rfl rfl ?_
    refine h_call (sp := false) (pc' := 8) (M := [(0, .ref 85)]) rfl rfl rfl rfl rfl rfl rfl rfl ?_
    refine h_iconst (pc' := 1) (x := (Int32.ofInt 1)) rfl rfl rfl ?_
    refine h_aload_n (pc' := 2) rfl rfl rfl ?_
    refine h_getI (pc' := 5) (v := s14 85 4) rfl rfl rfl rfl rfl rfl (fun z15 hz15 => ?_)
    have tz15 := tf_85_4 Is14
    refine h_shl1 (pc' := 6) rfl rfl ci_1 hz15 (by omega) (by omega) (fun z16 hz16 vz16 => ?_)
    refine h_iconst (pc' := 7) (x := (Int32.ofInt 1)) rfl rfl rfl ?_
    refine h_isub (pc' := 8) rfl rfl rfl ci_1 rfl (by omega) (by omega) (fun z17 hz17 => ?_)
    refine h_iret rfl rfl (h_Kv ?_)
    refine h_bipush (pc' := 10) (x := (Int32.ofInt 7)) rfl rfl cb_7 ?_
    refine h_imul (pc' := 11) rfl rfl hz17 ci_7 rfl (by omega) (by omega) (fun z18 hz18 => ?_)
    refine h_bipush (pc' := 13) (x := (Int32.ofInt 6)) rfl rfl cb_6 ?_
    refine h_iadd (pc' := 14) rfl rfl hz18 ci_6 rfl (by omega) (by omega) (fun z19 hz19 => ?_)
    refine h_iald (pc' := 15) (v := s14 87 (((z16.toInt - 1) * 7) + 6)) rfl rfl rfl hz19 (by omega) (by omega) rfl (fun z20 hz20 => ?_)
    have tz20 := ty_87 Is14 (((z16.toInt - 1) * 7) + 6)
    refine h_iret rfl rfl (h_Kv ?_)
    exact h_iret rfl rfl (kk _ _ hz20 _ Is14 Fs14)
  · refine h_iconst (pc' := 9) (x := (Int32.ofInt 1)) rfl rfl rfl ?_
    refine h_goto (pc' := 13) rfl rfl ?_
    refine h_zret rfl rfl ci_1 (by omega) (h_Kv ?_)
    refine h_zeq (tg := 9) (pc' := 7) rfl rfl rfl ci_1 (fun c21 => absurd c21 (by omega)) (fun c21 => ?_)
    refine h_iconst (pc' := 8) (x := (Int32.ofInt 0)) rfl rfl rfl ?_
    refine h_zret rfl rfl ci_0 (by omega) (h_Kv ?_)
    refine h_pop (pc' := 24) rfl rfl rfl ?_
    refine h_aload_n (pc' := 25) rfl rfl rfl ?_
    refine h_aload_n (pc' := 26) rfl rfl rfl ?_
    refine h_getR (pc' := 29) rfl rfl rfl rfl rfl ?_
    refine h_iload_n (pc' := 30) rfl rfl rfl ?_
    refine h_call (sp := false) (pc' := 33) (M := [(0, .ref 9), (1, .ref 23), (2, .int x2)]) rfl rfl rfl rfl rfl rfl rfl rfl ?_
    refine w_130_9_23 _ Is2 x2 _ hx2 (by omega) (fun s23 Is23 Gs23 => h_Kn ?_)
    have Fs23 := (Gs23.mono (B := kf_w_131_9) rfl).tr Fs2
    refine h_aload_n (pc' := 34) rfl rfl rfl ?_
    refine h_getR (pc' := 37) rfl rfl rfl rfl rfl ?_
    refine h_call (sp := false) (pc' := 40) (M := [(0, .ref 85)]) rfl rfl rfl rfl rfl rfl rfl rfl ?_
    refine h_aload_n (pc' := 1) rfl rfl rfl ?_
    refine h_getR (pc' := 4) rfl rfl rfl rfl rfl ?_
    refine h_aload_n (pc' := 5) rfl rfl rfl ?_
    refine h_call (sp := false) (pc' := 8) (M := [(0, .ref 85)]) rfl rfl rfl rfl rfl rfl rfl rfl ?_
    refine h_iconst (pc' := 1) (x := (Int32.ofInt 1)) rfl rfl rfl ?_
    refine h_aload_n (pc' := 2) rfl rfl rfl ?_
    refine h_getI (pc' := 5) (v := s23 85 4) rfl rfl rfl rfl rfl rfl (fun z24 hz24 => ?_)
    have tz24 := tf_85_4 Is23
    refine h_shl1 (pc' := 6) rfl rfl ci_1 hz24 (by omega) (by omega) (fun z25 hz25 vz25 => ?_)
    refine h_iconst (pc' := 7) (x := (Int32.ofInt 1)) rfl rfl rfl ?_
    refine h_isub (pc' := 8) rfl rfl rfl ci_1 rfl (by omega) (by omega) (fun z26 hz26 => ?_)
    refine h_iret rfl rfl (h_Kv ?_)
    refine h_bipush (pc' := 10) (x := (Int32.ofInt 7)) rfl rfl cb_7 ?_
    refine h_imul (pc' := 11) rfl rfl hz26 ci_7 rfl (by omega) (by omega) (fun z27 hz27 => ?_)
    refine h_bipush (pc' := 13) (x := (Int32.ofInt 6)) rfl rfl cb_6 ?_
    refine h_iadd (pc' := 14) rfl rfl hz27 ci_6 rfl (by omega) (by omega) (fun z28 hz28 => ?_)
    refine h_iald (pc' := 15) (v := s23 87 (((z25.toInt - 1) * 7) + 6)) rfl rfl rfl hz28 (by omega) (by omega) rfl (fun z29 hz29 => ?_)
    have tz29 := ty_87 Is23 (((z25.toInt - 1) * 7) + 6)
    refine h_iret rfl rfl (h_Kv ?_)
    exact h_iret rfl rfl (kk _ _ hz29 _ Is23 Fs23)
def kf_w_132_9 : List Nat := []
theorem w_132_9_l (ns : Nat) (σ : h_S) (hI : h_I σ) (x0 : Int32) (a0 : Int) (hx0 : x0.toInt = a0) (x1 : Int32) (a1 : Int) (hx1 : x1.toInt = a1) {Q : Option Value → h_S → Prop} (kk : ∀ (r : Int64) (τ : h_S), h_I τ → h_F (k_in kf_w_132_9) τ σ → Q (some (.long r)) τ) : ∀ n : Nat, (∀ (s0 : h_S), h_I s0 → h_F (k_in kf_w_132_9) s0 σ → ∀ (y3 : Int64), ∀ (y5 : Int32) (b5 : Int), y5.toInt = b5 → (0 ≤ b5 ∧ b5 ≤ 6) → (6 + 1 - b5) * 1000000 + 1000000000 ≤ (n : Int) → h_T g_P (g_Y ns) 132 5 [(0, .ref 9), (1, .int x0), (2, .int x1), (3, .long y3), (5, .int y5)] [] s0 Q) := by
  intro n
  induction n with
  | zero => exact by intro s0 I0 F0_ y3 y5 b5 hy5 ry5 hm; exfalso; omega
  | succ n ih =>
    intro s0 I0 F0_ y3 y5 b5 hy5 ry5 hm
    refine h_iload (pc' := 7) rfl rfl rfl ?_
    refine h_aload_n (pc' := 8) rfl rfl rfl ?_
    refine h_getR (pc' := 11) rfl rfl rfl rfl rfl ?_
    refine h_getI (pc' := 14) (v := σ 10 8) rfl rfl rfl rfl rfl (F0_ 10 8 rfl) (fun z1 hz1 => ?_)
    have tz1 := tf_10_8 hI
    refine h_cge (tg := 45) (pc' := 17) rfl rfl rfl hy5 hz1 (fun c2 => ?_) (fun c2 => ?_)
    · refine h_lload_n (pc' := 46) rfl rfl rfl ?_
      exact h_lret rfl rfl (kk _ _ I0 F0_)
    · refine h_lload_n (pc' := 18) rfl rfl rfl ?_
      refine h_iload_n (pc' := 19) rfl rfl rfl ?_
      refine h_iload (pc' := 21) rfl rfl rfl ?_
      refine h_calls (pc' := 24) (M := [(0, .int x0), (1, .int y5)]) rfl rfl rfl rfl rfl rfl ?_
      refine h_iload_n (pc' := 1) rfl rfl rfl ?_
      refine h_iload_n (pc' := 2) rfl rfl rfl ?_
      refine h_ishr (pc' := 3) rfl rfl (fun z3 hz3 => ?_)
      refine h_iconst (pc' := 4) (x := (Int32.ofInt 1)) rfl rfl rfl ?_
      refine h_iand (pc' := 5) rfl rfl (fun z4 hz4 uz4 vz4 => ?_)
      clear uz4
      rw [ci_1] at vz4
      have yz4 := vz4 (by omega)
      refine h_zeq (tg := 12) (pc' := 8) rfl rfl rfl rfl (fun c5 => ?_) (fun c5 => ?_)
      · refine h_iconst (pc' := 13) (x := (Int32.ofInt 0)) rfl rfl rfl ?_
        refine h_zret rfl rfl ci_0 (by omega) (h_Kv ?_)
        refine h_zeq (tg := 32) (pc' := 27) rfl rfl rfl ci_0 (fun c6 => ?_) (fun c6 => absurd c6 (by omega))
        refine h_bipush (pc' := 34) (x := (Int32.ofInt 10)) rfl rfl cb_10 ?_
        refine h_iload_n (pc' := 35) rfl rfl rfl ?_
        refine h_isubA (pc' := 36) rfl rfl (fun z7 hz7 => ?_)
        refine h_i2l (pc' := 37) rfl rfl rfl (fun z8 hz8 => ?_)
        refine h_lmulA (pc' := 38) rfl rfl (fun z9 hz9 => ?_)
        refine h_lstore_n (pc' := 39) (M := [(3, .long z9), (0, .ref 9), (1, .int x0), (2, .int x1), (5, .int y5)]) rfl rfl rfl rfl ?_
        refine h_iinc (pc' := 42) (M := fun z10 => [(5, .int z10), (3, .long z9), (0, .ref 9), (1, .int x0), (2, .int x1)]) rfl rfl rfl rfl hy5 ci_1 rfl (by omega) (by omega) (fun _ => rfl) (fun z10 hz10 => ?_)
        refine h_goto (pc' := 5) rfl rfl ?_
        exact h_wk [(0, .ref 9), (1, .int x0), (2, .int x1), (3, .long z9), (5, .int z10)] ⟨rfl, rfl, rfl, rfl, rfl, trivial⟩ (ih _ I0 F0_ z9 z10 _ hz10 (by omega) (by omega))
      · refine h_iconst (pc' := 9) (x := (Int32.ofInt 1)) rfl rfl rfl ?_
        refine h_goto (pc' := 13) rfl rfl ?_
        refine h_zret rfl rfl ci_1 (by omega) (h_Kv ?_)
        refine h_zeq (tg := 32) (pc' := 27) rfl rfl rfl ci_1 (fun c11 => absurd c11 (by omega)) (fun c11 => ?_)
        refine h_iload_n (pc' := 28) rfl rfl rfl ?_
        refine h_i2l (pc' := 29) rfl rfl hx1 (fun z12 hz12 => ?_)
        refine h_goto (pc' := 37) rfl rfl ?_
        refine h_lmulA (pc' := 38) rfl rfl (fun z13 hz13 => ?_)
        refine h_lstore_n (pc' := 39) (M := [(3, .long z13), (0, .ref 9), (1, .int x0), (2, .int x1), (5, .int y5)]) rfl rfl rfl rfl ?_
        refine h_iinc (pc' := 42) (M := fun z14 => [(5, .int z14), (3, .long z13), (0, .ref 9), (1, .int x0), (2, .int x1)]) rfl rfl rfl rfl hy5 ci_1 rfl (by omega) (by omega) (fun _ => rfl) (fun z14 hz14 => ?_)
        refine h_goto (pc' := 5) rfl rfl ?_
        exact h_wk [(0, .ref 9), (1, .int x0), (2, .int x1), (3, .long z13), (5, .int z14)] ⟨rfl, rfl, rfl, rfl, rfl, trivial⟩ (ih _ I0 F0_ z13 z14 _ hz14 (by omega) (by omega))
theorem w_132_9 {ns : Nat} (σ : h_S) (hI : h_I σ) (x0 : Int32) (a0 : Int) (hx0 : x0.toInt = a0) (x1 : Int32) (a1 : Int) (hx1 : x1.toInt = a1) {Q : Option Value → h_S → Prop} (kk : ∀ (r : Int64) (τ : h_S), h_I τ → h_F (k_in kf_w_132_9) τ σ → Q (some (.long r)) τ) : h_T g_P (g_Y ns) 132 0 [(0, .ref 9), (1, .int x0), (2, .int x1)] [] σ Q := by
  have F00 : h_F (k_in kf_w_132_9) σ σ := h_F.rf
  refine h_lconst (pc' := 1) (x := (Int64.ofInt 1)) rfl rfl rfl ?_
  refine h_lstore_n (pc' := 2) (M := [(3, .long (Int64.ofInt 1)), (0, .ref 9), (1, .int x0), (2, .int x1)]) rfl rfl rfl rfl ?_
  refine h_iconst (pc' := 3) (x := (Int32.ofInt 0)) rfl rfl rfl ?_
  refine h_istore (pc' := 5) (M := [(5, .int (Int32.ofInt 0)), (3, .long (Int64.ofInt 1)), (0, .ref 9), (1, .int x0), (2, .int x1)]) rfl rfl rfl rfl ?_
  exact h_wk [(0, .ref 9), (1, .int x0), (2, .int x1), (3, .long (Int64.ofInt 1)), (5, .int (Int32.ofInt 0))] ⟨rfl, rfl, rfl, rfl, rfl, trivial⟩ ((w_132_9_l ns σ hI x0 a0 hx0 x1 a1 hx1 kk 1000000000000) _ hI F00 (Int64.ofInt 1) (Int32.ofInt 0) _ ci_0 (by omega) (by omega))
def kf_w_134 : List Nat := []
theorem w_134_l (ns : Nat) (σ : h_S) (hI : h_I σ) (x0 : Int64) (x1 : Int64) {Q : Option Value → h_S → Prop} (kk : ∀ (r : Int64) (τ : h_S), h_I τ → h_F (k_in kf_w_134) τ σ → Q (some (.long r)) τ) : ∀ n : Nat, (∀ (s0 : h_S), h_I s0 → h_F (k_in kf_w_134) s0 σ → ∀ (y0 : Int64), ∀ (y2 : Int64), ∀ (y4 : Int64), ∀ (y6 : Int64), ∀ (y8 : Int32) (b8 : Int), y8.toInt = b8 → (0 ≤ b8 ∧ b8 ≤ 1000) → (1000 + 1 - b8) * 1000000 + 1000000000 ≤ (n : Int) → h_T g_P (g_Y ns) 134 9 [(0, .long y0), (2, .long y2), (4, .long y4), (6, .long y6), (8, .int y8)] [] s0 Q) := by
  intro n
  induction n with
  | zero => exact by intro s0 I0 F0_ y0 y2 y4 y6 y8 b8 hy8 ry8 hm; exfalso; omega
  | succ n ih =>
    intro s0 I0 F0_ y0 y2 y4 y6 y8 b8 hy8 ry8 hm
    refine h_iload (pc' := 11) rfl rfl rfl ?_
    refine h_sipush (pc' := 14) (x := (Int32.ofInt 1000)) rfl rfl cs_1000 ?_
    refine h_cge (tg := 45) (pc' := 17) rfl rfl rfl hy8 ci_1000 (fun c1 => ?_) (fun c1 => ?_)
    · refine h_lload (pc' := 47) rfl rfl rfl ?_
      exact h_lret rfl rfl (kk _ _ I0 F0_)
    · refine h_lload (pc' := 19) rfl rfl rfl ?_
      refine h_lconst (pc' := 20) (x := (Int64.ofInt 0)) rfl rfl rfl ?_
      refine h_lcmp (pc' := 21) rfl rfl rfl cl_0 (fun z2 hz2 => ?_)
      refine h_zeq (tg := 45) (pc' := 24) rfl rfl rfl rfl (fun c3 => ?_) (fun c3 => ?_)
      · replace c3 := (h_lcr hz2).2.2.2.2.1 c3
        clear hz2
        refine h_lload (pc' := 47) rfl rfl rfl ?_
        exact h_lret rfl rfl (kk _ _ I0 F0_)
      · replace c3 := (h_lcr hz2).2.2.2.2.2 c3
        clear hz2
        refine h_lload (pc' := 26) rfl rfl rfl ?_
        refine h_lload (pc' := 28) rfl rfl rfl ?_
        refine h_lremA (pc' := 29) rfl rfl (h_lne0 rfl (by omega)) (fun z4 hz4 => ?_)
        refine h_lstore (pc' := 31) (M := [(9, .long z4), (0, .long y0), (2, .long y2), (4, .long y4), (6, .long y6), (8, .int y8)]) rfl rfl rfl rfl ?_
        refine h_lload (pc' := 33) rfl rfl rfl ?_
        refine h_lstore (pc' := 35) (M := [(4, .long y6), (9, .long z4), (0, .long y0), (2, .long y2), (6, .long y6), (8, .int y8)]) rfl rfl rfl rfl ?_
        refine h_lload (pc' := 37) rfl rfl rfl ?_
        refine h_lstore (pc' := 39) (M := [(6, .long z4), (4, .long y6), (9, .long z4), (0, .long y0), (2, .long y2), (8, .int y8)]) rfl rfl rfl rfl ?_
        refine h_iinc (pc' := 42) (M := fun z5 => [(8, .int z5), (6, .long z4), (4, .long y6), (9, .long z4), (0, .long y0), (2, .long y2)]) rfl rfl rfl rfl hy8 ci_1 rfl (by omega) (by omega) (fun _ => rfl) (fun z5 hz5 => ?_)
        refine h_goto (pc' := 9) rfl rfl ?_
        exact h_wk [(0, .long y0), (2, .long y2), (4, .long y6), (6, .long z4), (8, .int z5)] ⟨rfl, rfl, rfl, rfl, rfl, trivial⟩ (ih _ I0 F0_ y0 y2 y6 z4 z5 _ hz5 (by omega) (by omega))
theorem w_134 {ns : Nat} (σ : h_S) (hI : h_I σ) (x0 : Int64) (x1 : Int64) {Q : Option Value → h_S → Prop} (kk : ∀ (r : Int64) (τ : h_S), h_I τ → h_F (k_in kf_w_134) τ σ → Q (some (.long r)) τ) : h_T g_P (g_Y ns) 134 0 [(0, .long x0), (2, .long x1)] [] σ Q := by
  have F00 : h_F (k_in kf_w_134) σ σ := h_F.rf
  refine h_lload_n (pc' := 1) rfl rfl rfl ?_
  refine h_lstore (pc' := 3) (M := [(4, .long x0), (0, .long x0), (2, .long x1)]) rfl rfl rfl rfl ?_
  refine h_lload_n (pc' := 4) rfl rfl rfl ?_
  refine h_lstore (pc' := 6) (M := [(6, .long x1), (4, .long x0), (0, .long x0), (2, .long x1)]) rfl rfl rfl rfl ?_
  refine h_iconst (pc' := 7) (x := (Int32.ofInt 0)) rfl rfl rfl ?_
  refine h_istore (pc' := 9) (M := [(8, .int (Int32.ofInt 0)), (6, .long x1), (4, .long x0), (0, .long x0), (2, .long x1)]) rfl rfl rfl rfl ?_
  exact h_wk [(0, .long x0), (2, .long x1), (4, .long x0), (6, .long x1), (8, .int (Int32.ofInt 0))] ⟨rfl, rfl, rfl, rfl, rfl, trivial⟩ ((w_134_l ns σ hI x0 x1 kk 1000000000000) _ hI F00 x0 x1 x0 x1 (Int32.ofInt 0) _ ci_0 (by omega) (by omega))
def kf_w_133_9 : List Nat := []
theorem w_133_9_l (ns : Nat) (σ : h_S) (hI : h_I σ) (x0 : Int64) (x1 : Int32) (a1 : Int) (hx1 : x1.toInt = a1) {Q : Option Value → h_S → Prop} (kk : ∀ (r : Int64) (τ : h_S), h_I τ → h_F (k_in kf_w_133_9) τ σ → Q (some (.long r)) τ) : ∀ n : Nat, (∀ (s0 : h_S), h_I s0 → h_F (k_in kf_w_133_9) s0 σ → ∀ (y1 : Int64), ∀ (y4 : Int64), ∀ (y6 : Int32) (b6 : Int), y6.toInt = b6 → (0 ≤ b6 ∧ b6 ≤ 6) → (6 + 1 - b6) * 1000000 + 1000000000 ≤ (n : Int) → h_T g_P (g_Y ns) 133 6 [(0, .ref 9), (1, .long y1), (3, .int x1), (4, .long y4), (6, .int y6)] [] s0 Q) := by
  intro n
  induction n with
  | zero => exact by intro s0 I0 F0_ y1 y4 y6 b6 hy6 ry6 hm; exfalso; omega
  | succ n ih =>
    intro s0 I0 F0_ y1 y4 y6 b6 hy6 ry6 hm
    refine h_iload (pc' := 8) rfl rfl rfl ?_
    refine h_aload_n (pc' := 9) rfl rfl rfl ?_
    refine h_getR (pc' := 12) rfl rfl rfl rfl rfl ?_
    refine h_getI (pc' := 15) (v := σ 10 8) rfl rfl rfl rfl rfl (F0_ 10 8 rfl) (fun z1 hz1 => ?_)
    have tz1 := tf_10_8 hI
    refine h_cge (tg := 32) (pc' := 18) rfl rfl rfl hy6 hz1 (fun c2 => ?_) (fun c2 => ?_)
    · refine h_lload_n (pc' := 33) rfl rfl rfl ?_
      refine h_lload (pc' := 35) rfl rfl rfl ?_
      refine h_calls (pc' := 38) (M := [(0, .long y1), (2, .long y4)]) rfl rfl rfl rfl rfl rfl ?_
      refine w_134 _ I0 y1 y4 (fun r3 s4 Is4 Gs4 => h_Kv ?_)
      have Fs4 := (Gs4.mono (B := kf_w_133_9) rfl).tr F0_
      refine h_lstore (pc' := 40) (M := [(6, .long r3), (0, .ref 9), (1, .long y1), (3, .int x1), (4, .long y4)]) rfl rfl rfl rfl ?_
      refine h_lload (pc' := 42) rfl rfl rfl ?_
      refine h_lconst (pc' := 43) (x := (Int64.ofInt 0)) rfl rfl rfl ?_
      refine h_lcmp (pc' := 44) rfl rfl rfl cl_0 (fun z5 hz5 => ?_)
      refine h_zgt (tg := 51) (pc' := 47) rfl rfl rfl rfl (fun c6 => ?_) (fun c6 => ?_)
      · replace c6 := (h_lcr hz5).2.2.2.1 c6
        clear hz5
        refine h_iload_n (pc' := 52) rfl rfl rfl ?_
        refine h_zne (tg := 62) (pc' := 55) rfl rfl rfl hx1 (fun c7 => ?_) (fun c7 => ?_)
        · refine h_lload (pc' := 64) rfl rfl rfl ?_
          refine h_lload (pc' := 66) rfl rfl rfl ?_
          refine h_ldivA (pc' := 67) rfl rfl (h_lne0 rfl (by omega)) (fun z8 hz8 => ?_)
          exact h_lret rfl rfl (kk _ _ Is4 Fs4)
        · refine h_lload_n (pc' := 56) rfl rfl rfl ?_
          refine h_lload (pc' := 58) rfl rfl rfl ?_
          refine h_ldivA (pc' := 59) rfl rfl (h_lne0 rfl (by omega)) (fun z9 hz9 => ?_)
          refine h_goto (pc' := 67) rfl rfl ?_
          exact h_lret rfl rfl (kk _ _ Is4 Fs4)
      · replace c6 := (h_lcr hz5).2.2.1 c6
        clear hz5
        refine h_ldc2 (pc' := 50) (x := (Int64.ofInt (-1))) rfl rfl rfl ?_
        exact h_lret rfl rfl (kk _ _ Is4 Fs4)
    · refine h_lload (pc' := 20) rfl rfl rfl ?_
      refine h_ldc2 (pc' := 23) (x := (Int64.ofInt 10)) rfl rfl rfl ?_
      refine h_lmulA (pc' := 24) rfl rfl (fun z10 hz10 => ?_)
      refine h_lstore (pc' := 26) (M := [(4, .long z10), (0, .ref 9), (1, .long y1), (3, .int x1), (6, .int y6)]) rfl rfl rfl rfl ?_
      refine h_iinc (pc' := 29) (M := fun z11 => [(6, .int z11), (4, .long z10), (0, .ref 9), (1, .long y1), (3, .int x1)]) rfl rfl rfl rfl hy6 ci_1 rfl (by omega) (by omega) (fun _ => rfl) (fun z11 hz11 => ?_)
      refine h_goto (pc' := 6) rfl rfl ?_
      exact h_wk [(0, .ref 9), (1, .long y1), (3, .int x1), (4, .long z10), (6, .int z11)] ⟨rfl, rfl, rfl, rfl, rfl, trivial⟩ (ih _ I0 F0_ y1 z10 z11 _ hz11 (by omega) (by omega))
theorem w_133_9 {ns : Nat} (σ : h_S) (hI : h_I σ) (x0 : Int64) (x1 : Int32) (a1 : Int) (hx1 : x1.toInt = a1) {Q : Option Value → h_S → Prop} (kk : ∀ (r : Int64) (τ : h_S), h_I τ → h_F (k_in kf_w_133_9) τ σ → Q (some (.long r)) τ) : h_T g_P (g_Y ns) 133 0 [(0, .ref 9), (1, .long x0), (3, .int x1)] [] σ Q := by
  have F00 : h_F (k_in kf_w_133_9) σ σ := h_F.rf
  refine h_lconst (pc' := 1) (x := (Int64.ofInt 1)) rfl rfl rfl ?_
  refine h_lstore (pc' := 3) (M := [(4, .long (Int64.ofInt 1)), (0, .ref 9), (1, .long x0), (3, .int x1)]) rfl rfl rfl rfl ?_
  refine h_iconst (pc' := 4) (x := (Int32.ofInt 0)) rfl rfl rfl ?_
  refine h_istore (pc' := 6) (M := [(6, .int (Int32.ofInt 0)), (4, .long (Int64.ofInt 1)), (0, .ref 9), (1, .long x0), (3, .int x1)]) rfl rfl rfl rfl ?_
  exact h_wk [(0, .ref 9), (1, .long x0), (3, .int x1), (4, .long (Int64.ofInt 1)), (6, .int (Int32.ofInt 0))] ⟨rfl, rfl, rfl, rfl, rfl, trivial⟩ ((w_133_9_l ns σ hI x0 x1 a1 hx1 kk 1000000000000) _ hI F00 x0 (Int64.ofInt 1) (Int32.ofInt 0) _ ci_0 (by omega) (by omega))
def kf_w_135_9 : List Nat := [23560, 23561, 23562, 25599, 26623, 26626, 28671, 29695, 29698, 31743, 32767, 33791, 34815, 35839, 36863, 80898, 82943, 83967, 83970, 86015, 87039, 100351]
theorem w_135_9_l (ns : Nat) (σ : h_S) (hI : h_I σ) (x0 : Int32) (a0 : Int) (hx0 : x0.toInt = a0) (ra0 : 0 ≤ a0 ∧ a0 ≤ 5) {Q : Option Value → h_S → Prop} (kk : ∀ (r : Int32) (b : Int) (hb : r.toInt = b) (τ : h_S), h_I τ → h_F (k_in kf_w_135_9) τ σ → Q (some (.int r)) τ) : ∀ n : Nat, (∀ (s0 : h_S), h_I s0 → h_F (k_in kf_w_135_9) s0 σ → ∀ (y2 : Int32) (b2 : Int), y2.toInt = b2 → ∀ (y3 : Int32) (b3 : Int), y3.toInt = b3 → (0 ≤ b3 ∧ b3 ≤ 7) → (7 + 1 - b3) * 1000000 + 1000000000 ≤ (n : Int) → h_T g_P (g_Y ns) 135 15 [(0, .ref 9), (1, .int x0), (2, .int y2), (3, .int y3)] [] s0 Q) := by
  intro n
  induction n with
  | zero => exact by intro s0 I0 F0_ y2 b2 hy2 y3 b3 hy3 ry3 hm; exfalso; omega
  | succ n ih =>
    intro s0 I0 F0_ y2 b2 hy2 y3 b3 hy3 ry3 hm
    refine h_iload_n (pc' := 16) rfl rfl rfl ?_
    refine h_bipush (pc' := 18) (x := (Int32.ofInt 6)) rfl rfl cb_6 ?_
    refine h_cgt (tg := 107) (pc' := 21) rfl rfl rfl hy3 ci_6 (fun c1 => ?_) (fun c1 => ?_)
    · refine h_iload_n (pc' := 108) rfl rfl rfl ?_
      exact h_iret rfl rfl (kk _ _ hy2 _ I0 F0_)
    · refine h_iload_n (pc' := 22) rfl rfl rfl ?_
      refine h_iload_n (pc' := 23) rfl rfl rfl ?_
      refine h_clt (tg := 32) (pc' := 26) rfl rfl rfl hy3 hx0 (fun c2 => ?_) (fun c2 => ?_)
      · refine h_aload_n (pc' := 33) rfl rfl rfl ?_
        refine h_getR (pc' := 36) rfl rfl rfl rfl rfl ?_
        refine h_getR (pc' := 39) rfl rfl rfl rfl rfl ?_
        refine h_iload_n (pc' := 40) rfl rfl rfl ?_
        refine h_iload_n (pc' := 41) rfl rfl rfl ?_
        refine h_bipush (pc' := 43) (x := (Int32.ofInt 6)) rfl rfl cb_6 ?_
        refine h_cne (tg := 51) (pc' := 46) rfl rfl rfl hy3 ci_6 (fun c3 => ?_) (fun c3 => absurd c3 (by omega))
        refine h_iload_n (pc' := 52) rfl rfl rfl ?_
        refine h_iast (pc' := 53) rfl rfl rfl rfl hx0 (by omega) (by omega) hy3 (h_fg _ (in_25 I0 (by omega)) (F0_.up rfl) (fun s4 Is4 Fs4 => ?_))
        refine h_aload_n (pc' := 54) rfl rfl rfl ?_
        refine h_aload_n (pc' := 55) rfl rfl rfl ?_
        refine h_getR (pc' := 58) rfl rfl rfl rfl rfl ?_
        refine h_call (sp := false) (pc' := 61) (M := [(0, .ref 9), (1, .ref 23)]) rfl rfl rfl rfl rfl rfl rfl rfl ?_
        refine w_127_9_23 _ Is4  (fun s6 Is6 Gs6 => h_Kn ?_)
        have Fs6 := (Gs6.mono (B := kf_w_135_9) rfl).tr Fs4
        refine h_aload_n (pc' := 62) rfl rfl rfl ?_
        refine h_getR (pc' := 65) rfl rfl rfl rfl rfl ?_
        refine h_iload_n (pc' := 66) rfl rfl rfl ?_
        refine h_aload_n (pc' := 67) rfl rfl rfl ?_
        refine h_getR (pc' := 70) rfl rfl rfl rfl rfl ?_
        refine h_aload_n (pc' := 71) rfl rfl rfl ?_
        refine h_getR (pc' := 74) rfl rfl rfl rfl rfl ?_
        refine h_iconst (pc' := 75) (x := (Int32.ofInt 0)) rfl rfl rfl ?_
        refine h_call (sp := false) (pc' := 78) (M := [(0, .ref 82), (1, .ref 23), (2, .int (Int32.ofInt 0))]) rfl rfl rfl rfl rfl rfl rfl rfl ?_
        refine w_21_82_23 _ Is6 (Int32.ofInt 0) _ ci_0 (fun r7 br7 hr7 s8 Is8 Gs8 => h_Kv ?_)
        have Fs8 := (Gs8.mono (B := kf_w_135_9) rfl).tr Fs6
        refine h_iast (pc' := 79) rfl rfl rfl rfl hy3 (by omega) (by omega) hr7 (h_fg _ (in_97 Is8 (h_rgv hr7)) (Fs8.up rfl) (fun s9 Is9 Fs9 => ?_))
        refine h_aload_n (pc' := 80) rfl rfl rfl ?_
        refine h_getR (pc' := 83) rfl rfl rfl rfl rfl ?_
        refine h_aload_n (pc' := 84) rfl rfl rfl ?_
        refine h_getR (pc' := 87) rfl rfl rfl rfl rfl ?_
        refine h_iload_n (pc' := 88) rfl rfl rfl ?_
        refine h_iald (pc' := 89) (v := s9 97 b3) rfl rfl rfl hy3 (by omega) (by omega) rfl (fun z10 hz10 => ?_)
        have tz10 := ty_97 Is9 b3
        refine h_call (sp := false) (pc' := 92) (M := [(0, .ref 90), (1, .int z10)]) rfl rfl rfl rfl rfl rfl rfl rfl ?_
        refine w_80_90 _ Is9 z10 _ hz10 (fun r11 br11 hr11 s12 Is12 Gs12 tr11 => h_Kv ?_)
        have Fs12 := (Gs12.mono (B := kf_w_135_9) rfl).tr Fs9
        refine h_zeq (tg := 101) (pc' := 95) rfl rfl rfl hr11 (fun c13 => ?_) (fun c13 => ?_)
        · refine h_iinc (pc' := 104) (M := fun z14 => [(3, .int z14), (0, .ref 9), (1, .int x0), (2, .int y2)]) rfl rfl rfl rfl hy3 ci_1 rfl (by omega) (by omega) (fun _ => rfl) (fun z14 hz14 => ?_)
          refine h_goto (pc' := 15) rfl rfl ?_
          exact h_wk [(0, .ref 9), (1, .int x0), (2, .int y2), (3, .int z14)] ⟨rfl, rfl, rfl, rfl, trivial⟩ (ih _ Is12 Fs12 y2 _ hy2 z14 _ hz14 (by omega) (by omega))
        · refine h_iload_n (pc' := 96) rfl rfl rfl ?_
          refine h_iconst (pc' := 97) (x := (Int32.ofInt 1)) rfl rfl rfl ?_
          refine h_iload_n (pc' := 98) rfl rfl rfl ?_
          refine h_shl1 (pc' := 99) rfl rfl ci_1 hy3 (by omega) (by omega) (fun z15 hz15 vz15 => ?_)
          refine h_ior (pc' := 100) rfl rfl (fun z16 hz16 => ?_)
          refine h_istore_n (pc' := 101) (M := [(2, .int z16), (0, .ref 9), (1, .int x0), (3, .int y3)]) rfl rfl rfl rfl ?_
          refine h_iinc (pc' := 104) (M := fun z17 => [(3, .int z17), (2, .int z16), (0, .ref 9), (1, .int x0)]) rfl rfl rfl rfl hy3 ci_1 rfl (by omega) (by omega) (fun _ => rfl) (fun z17 hz17 => ?_)
          refine h_goto (pc' := 15) rfl rfl ?_
          exact h_wk [(0, .ref 9), (1, .int x0), (2, .int z16), (3, .int z17)] ⟨rfl, rfl, rfl, rfl, trivial⟩ (ih _ Is12 Fs12 z16 _ rfl z17 _ hz17 (by omega) (by omega))
      · refine h_iload_n (pc' := 27) rfl rfl rfl ?_
        refine h_bipush (pc' := 29) (x := (Int32.ofInt 6)) rfl rfl cb_6 ?_
        refine h_cne (tg := 101) (pc' := 32) rfl rfl rfl hy3 ci_6 (fun c18 => ?_) (fun c18 => ?_)
        · refine h_iinc (pc' := 104) (M := fun z19 => [(3, .int z19), (0, .ref 9), (1, .int x0), (2, .int y2)]) rfl rfl rfl rfl hy3 ci_1 rfl (by omega) (by omega) (fun _ => rfl) (fun z19 hz19 => ?_)
          refine h_goto (pc' := 15) rfl rfl ?_
          exact h_wk [(0, .ref 9), (1, .int x0), (2, .int y2), (3, .int z19)] ⟨rfl, rfl, rfl, rfl, trivial⟩ (ih _ I0 F0_ y2 _ hy2 z19 _ hz19 (by omega) (by omega))
        · refine h_aload_n (pc' := 33) rfl rfl rfl ?_
          refine h_getR (pc' := 36) rfl rfl rfl rfl rfl ?_
          refine h_getR (pc' := 39) rfl rfl rfl rfl rfl ?_
          refine h_iload_n (pc' := 40) rfl rfl rfl ?_
          refine h_iload_n (pc' := 41) rfl rfl rfl ?_
          refine h_bipush (pc' := 43) (x := (Int32.ofInt 6)) rfl rfl cb_6 ?_
          refine h_cne (tg := 51) (pc' := 46) rfl rfl rfl hy3 ci_6 (fun c20 => absurd c20 (by omega)) (fun c20 => ?_)
          refine h_bipush (pc' := 48) (x := (Int32.ofInt (-4))) rfl rfl cb_m4 ?_
          refine h_goto (pc' := 52) rfl rfl ?_
          refine h_iast (pc' := 53) rfl rfl rfl rfl hx0 (by omega) (by omega) ci_m4 (h_fg _ (in_25 I0 (by omega)) (F0_.up rfl) (fun s21 Is21 Fs21 => ?_))
          refine h_aload_n (pc' := 54) rfl rfl rfl ?_
          refine h_aload_n (pc' := 55) rfl rfl rfl ?_
          refine h_getR (pc' := 58) rfl rfl rfl rfl rfl ?_
          refine h_call (sp := false) (pc' := 61) (M := [(0, .ref 9), (1, .ref 23)]) rfl rfl rfl rfl rfl rfl rfl rfl ?_
          refine w_127_9_23 _ Is21  (fun s23 Is23 Gs23 => h_Kn ?_)
          have Fs23 := (Gs23.mono (B := kf_w_135_9) rfl).tr Fs21
          refine h_aload_n (pc' := 62) rfl rfl rfl ?_
          refine h_getR (pc' := 65) rfl rfl rfl rfl rfl ?_
          refine h_iload_n (pc' := 66) rfl rfl rfl ?_
          refine h_aload_n (pc' := 67) rfl rfl rfl ?_
          refine h_getR (pc' := 70) rfl rfl rfl rfl rfl ?_
          refine h_aload_n (pc' := 71) rfl rfl rfl ?_
          refine h_getR (pc' := 74) rfl rfl rfl rfl rfl ?_
          refine h_iconst (pc' := 75) (x := (Int32.ofInt 0)) rfl rfl rfl ?_
          refine h_call (sp := false) (pc' := 78) (M := [(0, .ref 82), (1, .ref 23), (2, .int (Int32.ofInt 0))]) rfl rfl rfl rfl rfl rfl rfl rfl ?_
          refine w_21_82_23 _ Is23 (Int32.ofInt 0) _ ci_0 (fun r24 br24 hr24 s25 Is25 Gs25 => h_Kv ?_)
          have Fs25 := (Gs25.mono (B := kf_w_135_9) rfl).tr Fs23
          refine h_iast (pc' := 79) rfl rfl rfl rfl hy3 (by omega) (by omega) hr24 (h_fg _ (in_97 Is25 (h_rgv hr24)) (Fs25.up rfl) (fun s26 Is26 Fs26 => ?_))
          refine h_aload_n (pc' := 80) rfl rfl rfl ?_
          refine h_getR (pc' := 83) rfl rfl rfl rfl rfl ?_
          refine h_aload_n (pc' := 84) rfl rfl rfl ?_
          refine h_getR (pc' := 87) rfl rfl rfl rfl rfl ?_
          refine h_iload_n (pc' := 88) rfl rfl rfl ?_
          refine h_iald (pc' := 89) (v := s26 97 b3) rfl rfl rfl hy3 (by omega) (by omega) rfl (fun z27 hz27 => ?_)
          have tz27 := ty_97 Is26 b3
          refine h_call (sp := false) (pc' := 92) (M := [(0, .ref 90), (1, .int z27)]) rfl rfl rfl rfl rfl rfl rfl rfl ?_
          refine w_80_90 _ Is26 z27 _ hz27 (fun r28 br28 hr28 s29 Is29 Gs29 tr28 => h_Kv ?_)
          have Fs29 := (Gs29.mono (B := kf_w_135_9) rfl).tr Fs26
          refine h_zeq (tg := 101) (pc' := 95) rfl rfl rfl hr28 (fun c30 => ?_) (fun c30 => ?_)
          · refine h_iinc (pc' := 104) (M := fun z31 => [(3, .int z31), (0, .ref 9), (1, .int x0), (2, .int y2)]) rfl rfl rfl rfl hy3 ci_1 rfl (by omega) (by omega) (fun _ => rfl) (fun z31 hz31 => ?_)
            refine h_goto (pc' := 15) rfl rfl ?_
            exact h_wk [(0, .ref 9), (1, .int x0), (2, .int y2), (3, .int z31)] ⟨rfl, rfl, rfl, rfl, trivial⟩ (ih _ Is29 Fs29 y2 _ hy2 z31 _ hz31 (by omega) (by omega))
          · refine h_iload_n (pc' := 96) rfl rfl rfl ?_
            refine h_iconst (pc' := 97) (x := (Int32.ofInt 1)) rfl rfl rfl ?_
            refine h_iload_n (pc' := 98) rfl rfl rfl ?_
            refine h_shl1 (pc' := 99) rfl rfl ci_1 hy3 (by omega) (by omega) (fun z32 hz32 vz32 => ?_)
            refine h_ior (pc' := 100) rfl rfl (fun z33 hz33 => ?_)
            refine h_istore_n (pc' := 101) (M := [(2, .int z33), (0, .ref 9), (1, .int x0), (3, .int y3)]) rfl rfl rfl rfl ?_
            refine h_iinc (pc' := 104) (M := fun z34 => [(3, .int z34), (2, .int z33), (0, .ref 9), (1, .int x0)]) rfl rfl rfl rfl hy3 ci_1 rfl (by omega) (by omega) (fun _ => rfl) (fun z34 hz34 => ?_)
            refine h_goto (pc' := 15) rfl rfl ?_
            exact h_wk [(0, .ref 9), (1, .int x0), (2, .int z33), (3, .int z34)] ⟨rfl, rfl, rfl, rfl, trivial⟩ (ih _ Is29 Fs29 z33 _ rfl z34 _ hz34 (by omega) (by omega))
theorem w_135_9 {ns : Nat} (σ : h_S) (hI : h_I σ) (x0 : Int32) (a0 : Int) (hx0 : x0.toInt = a0) (ra0 : 0 ≤ a0 ∧ a0 ≤ 5) {Q : Option Value → h_S → Prop} (kk : ∀ (r : Int32) (b : Int) (hb : r.toInt = b) (τ : h_S), h_I τ → h_F (k_in kf_w_135_9) τ σ → Q (some (.int r)) τ) : h_T g_P (g_Y ns) 135 0 [(0, .ref 9), (1, .int x0)] [] σ Q := by
  have F00 : h_F (k_in kf_w_135_9) σ σ := h_F.rf
  refine h_aload_n (pc' := 1) rfl rfl rfl ?_
  refine h_getR (pc' := 4) rfl rfl rfl rfl rfl ?_
  refine h_aload_n (pc' := 5) rfl rfl rfl ?_
  refine h_getR (pc' := 8) rfl rfl rfl rfl rfl ?_
  refine h_call (sp := false) (pc' := 11) (M := [(0, .ref 23), (1, .ref 10)]) rfl rfl rfl rfl rfl rfl rfl rfl ?_
  refine w_3_23_10 _ hI  (fun s2 Is2 Gs2 => h_Kn ?_)
  have Fs2 := (Gs2.mono (B := kf_w_135_9) rfl).tr F00
  refine h_iconst (pc' := 12) (x := (Int32.ofInt 0)) rfl rfl rfl ?_
  refine h_istore_n (pc' := 13) (M := [(2, .int (Int32.ofInt 0)), (0, .ref 9), (1, .int x0)]) rfl rfl rfl rfl ?_
  refine h_iconst (pc' := 14) (x := (Int32.ofInt 0)) rfl rfl rfl ?_
  refine h_istore_n (pc' := 15) (M := [(3, .int (Int32.ofInt 0)), (2, .int (Int32.ofInt 0)), (0, .ref 9), (1, .int x0)]) rfl rfl rfl rfl ?_
  exact h_wk [(0, .ref 9), (1, .int x0), (2, .int (Int32.ofInt 0)), (3, .int (Int32.ofInt 0))] ⟨rfl, rfl, rfl, rfl, trivial⟩ ((w_135_9_l ns σ hI x0 a0 hx0 ra0 kk 1000000000000) _ Is2 Fs2 (Int32.ofInt 0) _ ci_0 (Int32.ofInt 0) _ ci_0 (by omega) (by omega))
def kf_w_136_9 : List Nat := []
theorem w_136_9_l (ns : Nat) (σ : h_S) (hI : h_I σ) (x0 : Int32) (a0 : Int) (hx0 : x0.toInt = a0) (x1 : Int32) (a1 : Int) (hx1 : x1.toInt = a1) {Q : Option Value → h_S → Prop} (kk : ∀ (r : Int32) (b : Int) (hb : r.toInt = b) (τ : h_S), h_I τ → h_F (k_in kf_w_136_9) τ σ → Q (some (.int r)) τ) : ∀ n : Nat, (∀ (s0 : h_S), h_I s0 → h_F (k_in kf_w_136_9) s0 σ → ∀ (y3 : Int32) (b3 : Int), y3.toInt = b3 → ∀ (y4 : Int32) (b4 : Int), y4.toInt = b4 → ∀ (y5 : Int32) (b5 : Int), y5.toInt = b5 → (0 ≤ b5 ∧ b5 ≤ 7) → (7 + 1 - b5) * 1000000 + 1000000000 ≤ (n : Int) → h_T g_P (g_Y ns) 136 8 [(0, .ref 9), (1, .int x0), (2, .int x1), (3, .int y3), (4, .int y4), (5, .int y5)] [] s0 Q) := by
  intro n
  induction n with
  | zero => exact by intro s0 I0 F0_ y3 b3 hy3 y4 b4 hy4 y5 b5 hy5 ry5 hm; exfalso; omega
  | succ n ih =>
    intro s0 I0 F0_ y3 b3 hy3 y4 b4 hy4 y5 b5 hy5 ry5 hm
    refine h_iload (pc' := 10) rfl rfl rfl ?_
    refine h_bipush (pc' := 12) (x := (Int32.ofInt 6)) rfl rfl cb_6 ?_
    refine h_cgt (tg := 53) (pc' := 15) rfl rfl rfl hy5 ci_6 (fun c1 => ?_) (fun c1 => ?_)
    · refine h_iload_n (pc' := 54) rfl rfl rfl ?_
      refine h_iload (pc' := 56) rfl rfl rfl ?_
      refine h_max (pc' := 59) rfl rfl rfl rfl rfl hy3 hy4 (fun z2 hz2 => ?_)
      exact h_iret rfl rfl (kk _ _ rfl _ I0 F0_)
    · refine h_iload_n (pc' := 16) rfl rfl rfl ?_
      refine h_iload (pc' := 18) rfl rfl rfl ?_
      refine h_calls (pc' := 21) (M := [(0, .int x0), (1, .int y5)]) rfl rfl rfl rfl rfl rfl ?_
      refine h_iload_n (pc' := 1) rfl rfl rfl ?_
      refine h_iload_n (pc' := 2) rfl rfl rfl ?_
      refine h_ishr (pc' := 3) rfl rfl (fun z3 hz3 => ?_)
      refine h_iconst (pc' := 4) (x := (Int32.ofInt 1)) rfl rfl rfl ?_
      refine h_iand (pc' := 5) rfl rfl (fun z4 hz4 uz4 vz4 => ?_)
      clear uz4
      rw [ci_1] at vz4
      have yz4 := vz4 (by omega)
      refine h_zeq (tg := 12) (pc' := 8) rfl rfl rfl rfl (fun c5 => ?_) (fun c5 => ?_)
      · refine h_iconst (pc' := 13) (x := (Int32.ofInt 0)) rfl rfl rfl ?_
        refine h_zret rfl rfl ci_0 (by omega) (h_Kv ?_)
        refine h_zeq (tg := 47) (pc' := 24) rfl rfl rfl ci_0 (fun c6 => ?_) (fun c6 => absurd c6 (by omega))
        refine h_iinc (pc' := 50) (M := fun z7 => [(5, .int z7), (0, .ref 9), (1, .int x0), (2, .int x1), (3, .int y3), (4, .int y4)]) rfl rfl rfl rfl hy5 ci_1 rfl (by omega) (by omega) (fun _ => rfl) (fun z7 hz7 => ?_)
        refine h_goto (pc' := 8) rfl rfl ?_
        exact h_wk [(0, .ref 9), (1, .int x0), (2, .int x1), (3, .int y3), (4, .int y4), (5, .int z7)] ⟨rfl, rfl, rfl, rfl, rfl, rfl, trivial⟩ (ih _ I0 F0_ y3 _ hy3 y4 _ hy4 z7 _ hz7 (by omega) (by omega))
      · refine h_iconst (pc' := 9) (x := (Int32.ofInt 1)) rfl rfl rfl ?_
        refine h_goto (pc' := 13) rfl rfl ?_
        refine h_zret rfl rfl ci_1 (by omega) (h_Kv ?_)
        refine h_zeq (tg := 47) (pc' := 24) rfl rfl rfl ci_1 (fun c8 => absurd c8 (by omega)) (fun c8 => ?_)
        refine h_aload_n (pc' := 25) rfl rfl rfl ?_
        refine h_getR (pc' := 28) rfl rfl rfl rfl rfl ?_
        refine h_iload (pc' := 30) rfl rfl rfl ?_
        refine h_iald (pc' := 31) (v := σ 97 b5) rfl rfl rfl hy5 (by omega) (by omega) (F0_ 97 _ rfl) (fun z9 hz9 => ?_)
        have tz9 := ty_97 hI b5
        refine h_iload_n (pc' := 32) rfl rfl rfl ?_
        refine h_calls (pc' := 35) (M := [(0, .int z9), (1, .int x1)]) rfl rfl rfl rfl rfl rfl ?_
        refine h_iload_n (pc' := 1) rfl rfl rfl ?_
        refine h_iload_n (pc' := 2) rfl rfl rfl ?_
        refine h_ishr (pc' := 3) rfl rfl (fun z10 hz10 => ?_)
        refine h_iconst (pc' := 4) (x := (Int32.ofInt 1)) rfl rfl rfl ?_
        refine h_iand (pc' := 5) rfl rfl (fun z11 hz11 uz11 vz11 => ?_)
        clear uz11
        rw [ci_1] at vz11
        have yz11 := vz11 (by omega)
        refine h_zeq (tg := 12) (pc' := 8) rfl rfl rfl rfl (fun c12 => ?_) (fun c12 => ?_)
        · refine h_iconst (pc' := 13) (x := (Int32.ofInt 0)) rfl rfl rfl ?_
          refine h_zret rfl rfl ci_0 (by omega) (h_Kv ?_)
          refine h_zeq (tg := 44) (pc' := 38) rfl rfl rfl ci_0 (fun c13 => ?_) (fun c13 => absurd c13 (by omega))
          refine h_iincA (pc' := 47) (M := fun z14 => [(4, .int z14), (0, .ref 9), (1, .int x0), (2, .int x1), (3, .int y3), (5, .int y5)]) rfl rfl rfl rfl (fun _ => rfl) (fun z14 hz14 => ?_)
          refine h_iinc (pc' := 50) (M := fun z15 => [(5, .int z15), (4, .int z14), (0, .ref 9), (1, .int x0), (2, .int x1), (3, .int y3)]) rfl rfl rfl rfl hy5 ci_1 rfl (by omega) (by omega) (fun _ => rfl) (fun z15 hz15 => ?_)
          refine h_goto (pc' := 8) rfl rfl ?_
          exact h_wk [(0, .ref 9), (1, .int x0), (2, .int x1), (3, .int y3), (4, .int z14), (5, .int z15)] ⟨rfl, rfl, rfl, rfl, rfl, rfl, trivial⟩ (ih _ I0 F0_ y3 _ hy3 z14 _ rfl z15 _ hz15 (by omega) (by omega))
        · refine h_iconst (pc' := 9) (x := (Int32.ofInt 1)) rfl rfl rfl ?_
          refine h_goto (pc' := 13) rfl rfl ?_
          refine h_zret rfl rfl ci_1 (by omega) (h_Kv ?_)
          refine h_zeq (tg := 44) (pc' := 38) rfl rfl rfl ci_1 (fun c16 => absurd c16 (by omega)) (fun c16 => ?_)
          refine h_iincA (pc' := 41) (M := fun z17 => [(3, .int z17), (0, .ref 9), (1, .int x0), (2, .int x1), (4, .int y4), (5, .int y5)]) rfl rfl rfl rfl (fun _ => rfl) (fun z17 hz17 => ?_)
          refine h_goto (pc' := 47) rfl rfl ?_
          refine h_iinc (pc' := 50) (M := fun z18 => [(5, .int z18), (3, .int z17), (0, .ref 9), (1, .int x0), (2, .int x1), (4, .int y4)]) rfl rfl rfl rfl hy5 ci_1 rfl (by omega) (by omega) (fun _ => rfl) (fun z18 hz18 => ?_)
          refine h_goto (pc' := 8) rfl rfl ?_
          exact h_wk [(0, .ref 9), (1, .int x0), (2, .int x1), (3, .int z17), (4, .int y4), (5, .int z18)] ⟨rfl, rfl, rfl, rfl, rfl, rfl, trivial⟩ (ih _ I0 F0_ z17 _ rfl y4 _ hy4 z18 _ hz18 (by omega) (by omega))
theorem w_136_9 {ns : Nat} (σ : h_S) (hI : h_I σ) (x0 : Int32) (a0 : Int) (hx0 : x0.toInt = a0) (x1 : Int32) (a1 : Int) (hx1 : x1.toInt = a1) {Q : Option Value → h_S → Prop} (kk : ∀ (r : Int32) (b : Int) (hb : r.toInt = b) (τ : h_S), h_I τ → h_F (k_in kf_w_136_9) τ σ → Q (some (.int r)) τ) : h_T g_P (g_Y ns) 136 0 [(0, .ref 9), (1, .int x0), (2, .int x1)] [] σ Q := by
  have F00 : h_F (k_in kf_w_136_9) σ σ := h_F.rf
  refine h_iconst (pc' := 1) (x := (Int32.ofInt 0)) rfl rfl rfl ?_
  refine h_istore_n (pc' := 2) (M := [(3, .int (Int32.ofInt 0)), (0, .ref 9), (1, .int x0), (2, .int x1)]) rfl rfl rfl rfl ?_
  refine h_iconst (pc' := 3) (x := (Int32.ofInt 0)) rfl rfl rfl ?_
  refine h_istore (pc' := 5) (M := [(4, .int (Int32.ofInt 0)), (3, .int (Int32.ofInt 0)), (0, .ref 9), (1, .int x0), (2, .int x1)]) rfl rfl rfl rfl ?_
  refine h_iconst (pc' := 6) (x := (Int32.ofInt 0)) rfl rfl rfl ?_
  refine h_istore (pc' := 8) (M := [(5, .int (Int32.ofInt 0)), (4, .int (Int32.ofInt 0)), (3, .int (Int32.ofInt 0)), (0, .ref 9), (1, .int x0), (2, .int x1)]) rfl rfl rfl rfl ?_
  exact h_wk [(0, .ref 9), (1, .int x0), (2, .int x1), (3, .int (Int32.ofInt 0)), (4, .int (Int32.ofInt 0)), (5, .int (Int32.ofInt 0))] ⟨rfl, rfl, rfl, rfl, rfl, rfl, trivial⟩ ((w_136_9_l ns σ hI x0 a0 hx0 x1 a1 hx1 kk 1000000000000) _ hI F00 (Int32.ofInt 0) _ ci_0 (Int32.ofInt 0) _ ci_0 (Int32.ofInt 0) _ ci_0 (by omega) (by omega))
