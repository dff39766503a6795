def kf_w_156_98 : List Nat := []
theorem w_156_98 {ns : Nat} (σ : h_S) (hI : h_I σ) {Q : Option Value → h_S → Prop} (kk : ∀ (r : Int32) (b : Int) (hb : r.toInt = b) (τ : h_S), h_I τ → h_F (k_in kf_w_156_98) τ σ → Q (some (.int r)) τ) : h_T g_P (g_Y ns) 156 0 [(0, .ref 98)] [] σ Q := by
  have F00 : h_F (k_in kf_w_156_98) σ σ := h_F.rf
  refine h_aload_n (pc' := 1) rfl rfl rfl ?_
  refine h_getI (pc' := 4) (v := σ 98 12) rfl rfl rfl rfl rfl rfl (fun z1 hz1 => ?_)
  have tz1 := tf_98_12 hI
  exact h_iret rfl rfl (kk _ _ hz1 _ hI F00)
def kf_w_160_98 : List Nat := []
theorem w_160_98 {ns : Nat} (σ : h_S) (hI : h_I σ) (x0 : Int32) (a0 : Int) (hx0 : x0.toInt = a0) {Q : Option Value → h_S → Prop} (kk : ∀ (r : Int32) (b : Int) (hb : r.toInt = b) (τ : h_S), h_I τ → h_F (k_in kf_w_160_98) τ σ → Q (some (.int r)) τ) : h_T g_P (g_Y ns) 160 0 [(0, .ref 98), (1, .int x0)] [] σ Q := by
  have F00 : h_F (k_in kf_w_160_98) σ σ := h_F.rf
  refine h_iload_n (pc' := 1) rfl rfl rfl ?_
  refine h_tsw (dt := 79) (ts := [40, 45, 53, 61, 66, 74]) rfl rfl rfl rfl hx0 (fun c1 => ?_) ⟨fun c1 => ?_, fun c1 => ?_, fun c1 => ?_, fun c1 => ?_, fun c1 => ?_, fun c1 => ?_, trivial⟩
  · refine h_iconst (pc' := 80) (x := (Int32.ofInt (-1))) rfl rfl rfl ?_
    exact h_iret rfl rfl (kk _ _ ci_m1 _ hI F00)
  · refine h_aload_n (pc' := 41) rfl rfl rfl ?_
    refine h_getI (pc' := 44) (v := σ 98 1) rfl rfl rfl rfl rfl rfl (fun z2 hz2 => ?_)
    have tz2 := tf_98_1 hI
    exact h_iret rfl rfl (kk _ _ hz2 _ hI F00)
  · refine h_aload_n (pc' := 46) rfl rfl rfl ?_
    refine h_getR (pc' := 49) rfl rfl rfl rfl rfl ?_
    refine h_bipush (pc' := 51) (x := (Int32.ofInt 18)) rfl rfl cb_18 ?_
    refine h_iald (pc' := 52) (v := σ 99 18) rfl rfl rfl ci_18 (by omega) (by omega) rfl (fun z3 hz3 => ?_)
    have tz3 := ty_99_3 hI 18 (by omega)
    exact h_iret rfl rfl (kk _ _ hz3 _ hI F00)
  · refine h_aload_n (pc' := 54) rfl rfl rfl ?_
    refine h_getR (pc' := 57) rfl rfl rfl rfl rfl ?_
    refine h_bipush (pc' := 59) (x := (Int32.ofInt 25)) rfl rfl cb_25 ?_
    refine h_iald (pc' := 60) (v := σ 99 25) rfl rfl rfl ci_25 (by omega) (by omega) rfl (fun z4 hz4 => ?_)
    have tz4 := ty_99_5 hI 25 (by omega)
    exact h_iret rfl rfl (kk _ _ hz4 _ hI F00)
  · refine h_aload_n (pc' := 62) rfl rfl rfl ?_
    refine h_getI (pc' := 65) (v := σ 98 2) rfl rfl rfl rfl rfl rfl (fun z5 hz5 => ?_)
    have tz5 := tf_98_2 hI
    exact h_iret rfl rfl (kk _ _ hz5 _ hI F00)
  · refine h_aload_n (pc' := 67) rfl rfl rfl ?_
    refine h_getR (pc' := 70) rfl rfl rfl rfl rfl ?_
    refine h_bipush (pc' := 72) (x := (Int32.ofInt 43)) rfl rfl cb_43 ?_
    refine h_iald (pc' := 73) (v := σ 99 43) rfl rfl rfl ci_43 (by omega) (by omega) rfl (fun z6 hz6 => ?_)
    have tz6 := ty_99_10 hI 43 (by omega)
    exact h_iret rfl rfl (kk _ _ hz6 _ hI F00)
  · refine h_aload_n (pc' := 75) rfl rfl rfl ?_
    refine h_call (sp := false) (pc' := 78) (M := [(0, .ref 98)]) rfl rfl rfl rfl rfl rfl rfl rfl ?_
    refine w_159_98 _ hI  (fun r7 br7 hr7 s8 Is8 Gs8 => h_Kv ?_)
    have Fs8 := (Gs8.mono (B := kf_w_160_98) rfl).tr F00
    exact h_iret rfl rfl (kk _ _ hr7 _ Is8 Fs8)
def kf_w_168_98 : List Nat := [108543]
theorem w_168_98 {ns : Nat} (σ : h_S) (hI : h_I σ) (x0 : Int32) (a0 : Int) (hx0 : x0.toInt = a0) (x1 : Int32) (a1 : Int) (hx1 : x1.toInt = a1) {Q : Option Value → h_S → Prop} (kk : ∀ (r : Int32) (b : Int) (hb : r.toInt = b) (τ : h_S), h_I τ → h_F (k_in kf_w_168_98) τ σ → Q (some (.int r)) τ) : h_T g_P (g_Y ns) 168 0 [(0, .ref 98), (1, .int x0), (2, .int x1)] [] σ Q := by
  have F00 : h_F (k_in kf_w_168_98) σ σ := h_F.rf
  refine h_aload_n (pc' := 1) rfl rfl rfl ?_
  refine h_iload_n (pc' := 2) rfl rfl rfl ?_
  refine h_call (sp := false) (pc' := 5) (M := [(0, .ref 98), (1, .int x0)]) rfl rfl rfl rfl rfl rfl rfl rfl ?_
  refine h_iload_n (pc' := 1) rfl rfl rfl ?_
  refine h_i2l (pc' := 2) rfl rfl hx0 (fun z1 hz1 => ?_)
  refine h_lconst (pc' := 3) (x := (Int64.ofInt 0)) rfl rfl rfl ?_
  refine h_aload_n (pc' := 4) rfl rfl rfl ?_
  refine h_getI (pc' := 7) (v := σ 98 1) rfl rfl rfl rfl rfl rfl (fun z2 hz2 => ?_)
  have tz2 := tf_98_1 hI
  refine h_iconst (pc' := 8) (x := (Int32.ofInt 1)) rfl rfl rfl ?_
  refine h_isub (pc' := 9) rfl rfl hz2 ci_1 rfl (by omega) (by omega) (fun z3 hz3 => ?_)
  refine h_i2l (pc' := 10) rfl rfl hz3 (fun z4 hz4 => ?_)
  refine h_calls (pc' := 13) (M := [(0, .long z1), (2, .long (Int64.ofInt 0)), (4, .long z4)]) rfl rfl rfl rfl rfl rfl ?_
  refine h_lload_n (pc' := 1) rfl rfl rfl ?_
  refine h_lload_n (pc' := 2) rfl rfl rfl ?_
  refine h_lcmp (pc' := 3) rfl rfl hz1 cl_0 (fun z5 hz5 => ?_)
  refine h_zlt (tg := 17) (pc' := 6) rfl rfl rfl rfl (fun c6 => ?_) (fun c6 => ?_)
  · replace c6 := (h_lcr hz5).1 c6
    clear hz5
    refine h_iconst (pc' := 18) (x := (Int32.ofInt 0)) rfl rfl rfl ?_
    refine h_zret rfl rfl ci_0 (by omega) (h_Kv ?_)
    refine h_zret rfl rfl ci_0 (by omega) (h_Kv ?_)
    refine h_zne (tg := 10) (pc' := 8) rfl rfl rfl ci_0 (fun c7 => absurd c7 (by omega)) (fun c7 => ?_)
    refine h_iconst (pc' := 9) (x := (Int32.ofInt (-1))) rfl rfl rfl ?_
    exact h_iret rfl rfl (kk _ _ ci_m1 _ hI F00)
  · replace c6 := (h_lcr hz5).2.1 c6
    clear hz5
    refine h_lload_n (pc' := 7) rfl rfl rfl ?_
    refine h_lload (pc' := 9) rfl rfl rfl ?_
    refine h_lcmp (pc' := 10) rfl rfl hz1 hz4 (fun z8 hz8 => ?_)
    refine h_zgt (tg := 17) (pc' := 13) rfl rfl rfl rfl (fun c9 => ?_) (fun c9 => ?_)
    · replace c9 := (h_lcr hz8).2.2.2.1 c9
      clear hz8
      refine h_iconst (pc' := 18) (x := (Int32.ofInt 0)) rfl rfl rfl ?_
      refine h_zret rfl rfl ci_0 (by omega) (h_Kv ?_)
      refine h_zret rfl rfl ci_0 (by omega) (h_Kv ?_)
      refine h_zne (tg := 10) (pc' := 8) rfl rfl rfl ci_0 (fun c10 => absurd c10 (by omega)) (fun c10 => ?_)
      refine h_iconst (pc' := 9) (x := (Int32.ofInt (-1))) rfl rfl rfl ?_
      exact h_iret rfl rfl (kk _ _ ci_m1 _ hI F00)
    · replace c9 := (h_lcr hz8).2.2.1 c9
      clear hz8
      refine h_iconst (pc' := 14) (x := (Int32.ofInt 1)) rfl rfl rfl ?_
      refine h_goto (pc' := 18) rfl rfl ?_
      refine h_zret rfl rfl ci_1 (by omega) (h_Kv ?_)
      refine h_zret rfl rfl ci_1 (by omega) (h_Kv ?_)
      refine h_zne (tg := 10) (pc' := 8) rfl rfl rfl ci_1 (fun c11 => ?_) (fun c11 => absurd c11 (by omega))
      refine h_aload_n (pc' := 11) rfl rfl rfl ?_
      refine h_iconst (pc' := 12) (x := (Int32.ofInt 0)) rfl rfl rfl ?_
      refine h_call (sp := false) (pc' := 15) (M := [(0, .ref 98), (1, .int (Int32.ofInt 0))]) rfl rfl rfl rfl rfl rfl rfl rfl ?_
      refine w_162_98 _ hI (Int32.ofInt 0) _ ci_0 (by omega) (fun s13 Is13 Gs13 => h_Kn ?_)
      have Fs13 := (Gs13.mono (B := kf_w_168_98) rfl).tr F00
      refine h_iload_n (pc' := 16) rfl rfl rfl ?_
      refine h_tsw (dt := 96) (ts := [52, 59, 72, 84, 90]) rfl rfl rfl rfl hx1 (fun c14 => ?_) ⟨fun c14 => ?_, fun c14 => ?_, fun c14 => ?_, fun c14 => ?_, fun c14 => ?_, trivial⟩
      · refine h_iconst (pc' := 97) (x := (Int32.ofInt (-1))) rfl rfl rfl ?_
        exact h_iret rfl rfl (kk _ _ ci_m1 _ Is13 Fs13)
      · refine h_aload_n (pc' := 53) rfl rfl rfl ?_
        refine h_getR (pc' := 56) rfl rfl rfl rfl rfl ?_
        refine h_iload_n (pc' := 57) rfl rfl rfl ?_
        refine h_iald (pc' := 58) (v := σ 99 a0) rfl rfl rfl hx0 (by omega) (by omega) (Fs13 99 _ rfl) (fun z15 hz15 => ?_)
        have tz15 := ty_99_0 hI a0 (by omega)
        exact h_iret rfl rfl (kk _ _ hz15 _ Is13 Fs13)
      · refine h_aload_n (pc' := 60) rfl rfl rfl ?_
        refine h_getR (pc' := 63) rfl rfl rfl rfl rfl ?_
        refine h_bipush (pc' := 65) (x := (Int32.ofInt 6)) rfl rfl cb_6 ?_
        refine h_iload_n (pc' := 66) rfl rfl rfl ?_
        refine h_iadd (pc' := 67) rfl rfl ci_6 hx0 rfl (by have g0 := h_rgv hx0; omega) (by have g0 := h_rgv hx0; omega) (fun z16 hz16 => ?_)
        refine h_iald (pc' := 68) (v := σ 99 (6 + a0)) rfl rfl rfl hz16 (by omega) (by omega) (Fs13 99 _ rfl) (fun z17 hz17 => ?_)
        have tz17 := ty_99_1 hI (6 + a0) (by omega)
        refine h_calls (pc' := 71) (M := [(0, .int z17)]) rfl rfl rfl rfl rfl rfl ?_
        refine h_iload_n (pc' := 1) rfl rfl rfl ?_
        refine h_zne (tg := 9) (pc' := 4) rfl rfl rfl hz17 (fun c18 => ?_) (fun c18 => ?_)
        · refine h_iload_n (pc' := 10) rfl rfl rfl ?_
          refine h_iconst (pc' := 11) (x := (Int32.ofInt 1)) rfl rfl rfl ?_
          refine h_isub (pc' := 12) rfl rfl hz17 ci_1 rfl (by omega) (by omega) (fun z19 hz19 => ?_)
          refine h_iret rfl rfl (h_Kv ?_)
          exact h_iret rfl rfl (kk _ _ hz19 _ Is13 Fs13)
        · refine h_bipush (pc' := 6) (x := (Int32.ofInt (-4))) rfl rfl cb_m4 ?_
          refine h_goto (pc' := 12) rfl rfl ?_
          refine h_iret rfl rfl (h_Kv ?_)
          exact h_iret rfl rfl (kk _ _ ci_m4 _ Is13 Fs13)
      · refine h_aload_n (pc' := 73) rfl rfl rfl ?_
        refine h_getR (pc' := 76) rfl rfl rfl rfl rfl ?_
        refine h_aload_n (pc' := 77) rfl rfl rfl ?_
        refine h_getR (pc' := 80) rfl rfl rfl rfl rfl ?_
        refine h_iload_n (pc' := 81) rfl rfl rfl ?_
        refine h_iald (pc' := 82) (v := σ 99 a0) rfl rfl rfl hx0 (by omega) (by omega) (Fs13 99 _ rfl) (fun z20 hz20 => ?_)
        have tz20 := ty_99_0 hI a0 (by omega)
        refine h_iald (pc' := 83) (v := σ 100 (σ 99 a0)) rfl rfl rfl hz20 (by omega) (by omega) (Fs13 100 _ rfl) (fun z21 hz21 => ?_)
        have tz21 := ty_100 hI (σ 99 a0)
        exact h_iret rfl rfl (kk _ _ hz21 _ Is13 Fs13)
      · refine h_aload_n (pc' := 85) rfl rfl rfl ?_
        refine h_iload_n (pc' := 86) rfl rfl rfl ?_
        refine h_call (sp := false) (pc' := 89) (M := [(0, .ref 98), (1, .int x0)]) rfl rfl rfl rfl rfl rfl rfl rfl ?_
        refine w_166_98 _ Is13 x0 _ hx0 (fun r22 br22 hr22 s23 Is23 Gs23 => h_Kv ?_)
        have Fs23 := (Gs23.mono (B := kf_w_168_98) rfl).tr Fs13
        exact h_iret rfl rfl (kk _ _ hr22 _ Is23 Fs23)
      · refine h_aload_n (pc' := 91) rfl rfl rfl ?_
        refine h_iload_n (pc' := 92) rfl rfl rfl ?_
        refine h_call (sp := false) (pc' := 95) (M := [(0, .ref 98), (1, .int x0)]) rfl rfl rfl rfl rfl rfl rfl rfl ?_
        refine w_165_98 _ Is13 x0 _ hx0 (by omega) (fun r24 br24 hr24 s25 Is25 Gs25 => h_Kv ?_)
        have Fs25 := (Gs25.mono (B := kf_w_168_98) rfl).tr Fs13
        exact h_iret rfl rfl (kk _ _ hr24 _ Is25 Fs25)
def kf_w_170_98 : List Nat := [108543]
theorem w_170_98 {ns : Nat} (σ : h_S) (hI : h_I σ) (x0 : Int32) (a0 : Int) (hx0 : x0.toInt = a0) (x1 : Int32) (a1 : Int) (hx1 : x1.toInt = a1) {Q : Option Value → h_S → Prop} (kk : ∀ (r : Int32) (b : Int) (hb : r.toInt = b) (τ : h_S), h_I τ → h_F (k_in kf_w_170_98) τ σ → Q (some (.int r)) τ) : h_T g_P (g_Y ns) 170 0 [(0, .ref 98), (1, .int x0), (2, .int x1)] [] σ Q := by
  have F00 : h_F (k_in kf_w_170_98) σ σ := h_F.rf
  refine h_aload_n (pc' := 1) rfl rfl rfl ?_
  refine h_iload_n (pc' := 2) rfl rfl rfl ?_
  refine h_call (sp := false) (pc' := 5) (M := [(0, .ref 98), (1, .int x0)]) rfl rfl rfl rfl rfl rfl rfl rfl ?_
  refine h_iload_n (pc' := 1) rfl rfl rfl ?_
  refine h_i2l (pc' := 2) rfl rfl hx0 (fun z1 hz1 => ?_)
  refine h_lconst (pc' := 3) (x := (Int64.ofInt 0)) rfl rfl rfl ?_
  refine h_aload_n (pc' := 4) rfl rfl rfl ?_
  refine h_getI (pc' := 7) (v := σ 98 2) rfl rfl rfl rfl rfl rfl (fun z2 hz2 => ?_)
  have tz2 := tf_98_2 hI
  refine h_iconst (pc' := 8) (x := (Int32.ofInt 1)) rfl rfl rfl ?_
  refine h_isub (pc' := 9) rfl rfl hz2 ci_1 rfl (by omega) (by omega) (fun z3 hz3 => ?_)
  refine h_i2l (pc' := 10) rfl rfl hz3 (fun z4 hz4 => ?_)
  refine h_calls (pc' := 13) (M := [(0, .long z1), (2, .long (Int64.ofInt 0)), (4, .long z4)]) rfl rfl rfl rfl rfl rfl ?_
  refine h_lload_n (pc' := 1) rfl rfl rfl ?_
  refine h_lload_n (pc' := 2) rfl rfl rfl ?_
  refine h_lcmp (pc' := 3) rfl rfl hz1 cl_0 (fun z5 hz5 => ?_)
  refine h_zlt (tg := 17) (pc' := 6) rfl rfl rfl rfl (fun c6 => ?_) (fun c6 => ?_)
  · replace c6 := (h_lcr hz5).1 c6
    clear hz5
    refine h_iconst (pc' := 18) (x := (Int32.ofInt 0)) rfl rfl rfl ?_
    refine h_zret rfl rfl ci_0 (by omega) (h_Kv ?_)
    refine h_zret rfl rfl ci_0 (by omega) (h_Kv ?_)
    refine h_zne (tg := 10) (pc' := 8) rfl rfl rfl ci_0 (fun c7 => absurd c7 (by omega)) (fun c7 => ?_)
    refine h_iconst (pc' := 9) (x := (Int32.ofInt (-1))) rfl rfl rfl ?_
    exact h_iret rfl rfl (kk _ _ ci_m1 _ hI F00)
  · replace c6 := (h_lcr hz5).2.1 c6
    clear hz5
    refine h_lload_n (pc' := 7) rfl rfl rfl ?_
    refine h_lload (pc' := 9) rfl rfl rfl ?_
    refine h_lcmp (pc' := 10) rfl rfl hz1 hz4 (fun z8 hz8 => ?_)
    refine h_zgt (tg := 17) (pc' := 13) rfl rfl rfl rfl (fun c9 => ?_) (fun c9 => ?_)
    · replace c9 := (h_lcr hz8).2.2.2.1 c9
      clear hz8
      refine h_iconst (pc' := 18) (x := (Int32.ofInt 0)) rfl rfl rfl ?_
      refine h_zret rfl rfl ci_0 (by omega) (h_Kv ?_)
      refine h_zret rfl rfl ci_0 (by omega) (h_Kv ?_)
      refine h_zne (tg := 10) (pc' := 8) rfl rfl rfl ci_0 (fun c10 => absurd c10 (by omega)) (fun c10 => ?_)
      refine h_iconst (pc' := 9) (x := (Int32.ofInt (-1))) rfl rfl rfl ?_
      exact h_iret rfl rfl (kk _ _ ci_m1 _ hI F00)
    · replace c9 := (h_lcr hz8).2.2.1 c9
      clear hz8
      refine h_iconst (pc' := 14) (x := (Int32.ofInt 1)) rfl rfl rfl ?_
      refine h_goto (pc' := 18) rfl rfl ?_
      refine h_zret rfl rfl ci_1 (by omega) (h_Kv ?_)
      refine h_zret rfl rfl ci_1 (by omega) (h_Kv ?_)
      refine h_zne (tg := 10) (pc' := 8) rfl rfl rfl ci_1 (fun c11 => ?_) (fun c11 => absurd c11 (by omega))
      refine h_aload_n (pc' := 11) rfl rfl rfl ?_
      refine h_iconst (pc' := 12) (x := (Int32.ofInt 0)) rfl rfl rfl ?_
      refine h_call (sp := false) (pc' := 15) (M := [(0, .ref 98), (1, .int (Int32.ofInt 0))]) rfl rfl rfl rfl rfl rfl rfl rfl ?_
      refine w_162_98 _ hI (Int32.ofInt 0) _ ci_0 (by omega) (fun s13 Is13 Gs13 => h_Kn ?_)
      have Fs13 := (Gs13.mono (B := kf_w_170_98) rfl).tr F00
      refine h_iload_n (pc' := 16) rfl rfl rfl ?_
      refine h_tsw (dt := 96) (ts := [48, 58, 71, 81]) rfl rfl rfl rfl hx1 (fun c14 => ?_) ⟨fun c14 => ?_, fun c14 => ?_, fun c14 => ?_, fun c14 => ?_, trivial⟩
      · refine h_iconst (pc' := 97) (x := (Int32.ofInt (-1))) rfl rfl rfl ?_
        exact h_iret rfl rfl (kk _ _ ci_m1 _ Is13 Fs13)
      · refine h_aload_n (pc' := 49) rfl rfl rfl ?_
        refine h_getR (pc' := 52) rfl rfl rfl rfl rfl ?_
        refine h_bipush (pc' := 54) (x := (Int32.ofInt 26)) rfl rfl cb_26 ?_
        refine h_iload_n (pc' := 55) rfl rfl rfl ?_
        refine h_iadd (pc' := 56) rfl rfl ci_26 hx0 rfl (by have g0 := h_rgv hx0; omega) (by have g0 := h_rgv hx0; omega) (fun z15 hz15 => ?_)
        refine h_iald (pc' := 57) (v := σ 99 (26 + a0)) rfl rfl rfl hz15 (by omega) (by omega) (Fs13 99 _ rfl) (fun z16 hz16 => ?_)
        have tz16 := ty_99_6 hI (26 + a0) (by omega)
        exact h_iret rfl rfl (kk _ _ hz16 _ Is13 Fs13)
      · refine h_aload_n (pc' := 59) rfl rfl rfl ?_
        refine h_getR (pc' := 62) rfl rfl rfl rfl rfl ?_
        refine h_bipush (pc' := 64) (x := (Int32.ofInt 29)) rfl rfl cb_29 ?_
        refine h_iload_n (pc' := 65) rfl rfl rfl ?_
        refine h_iadd (pc' := 66) rfl rfl ci_29 hx0 rfl (by have g0 := h_rgv hx0; omega) (by have g0 := h_rgv hx0; omega) (fun z17 hz17 => ?_)
        refine h_iald (pc' := 67) (v := σ 99 (29 + a0)) rfl rfl rfl hz17 (by omega) (by omega) (Fs13 99 _ rfl) (fun z18 hz18 => ?_)
        have tz18 := ty_99_7 hI (29 + a0) (by omega)
        refine h_calls (pc' := 70) (M := [(0, .int z18)]) rfl rfl rfl rfl rfl rfl ?_
        refine h_iload_n (pc' := 1) rfl rfl rfl ?_
        refine h_zne (tg := 9) (pc' := 4) rfl rfl rfl hz18 (fun c19 => ?_) (fun c19 => ?_)
        · refine h_iload_n (pc' := 10) rfl rfl rfl ?_
          refine h_iconst (pc' := 11) (x := (Int32.ofInt 1)) rfl rfl rfl ?_
          refine h_isub (pc' := 12) rfl rfl hz18 ci_1 rfl (by omega) (by omega) (fun z20 hz20 => ?_)
          refine h_iret rfl rfl (h_Kv ?_)
          exact h_iret rfl rfl (kk _ _ hz20 _ Is13 Fs13)
        · refine h_bipush (pc' := 6) (x := (Int32.ofInt (-4))) rfl rfl cb_m4 ?_
          refine h_goto (pc' := 12) rfl rfl ?_
          refine h_iret rfl rfl (h_Kv ?_)
          exact h_iret rfl rfl (kk _ _ ci_m4 _ Is13 Fs13)
      · refine h_aload_n (pc' := 72) rfl rfl rfl ?_
        refine h_getR (pc' := 75) rfl rfl rfl rfl rfl ?_
        refine h_bipush (pc' := 77) (x := (Int32.ofInt 32)) rfl rfl cb_32 ?_
        refine h_iload_n (pc' := 78) rfl rfl rfl ?_
        refine h_iadd (pc' := 79) rfl rfl ci_32 hx0 rfl (by have g0 := h_rgv hx0; omega) (by have g0 := h_rgv hx0; omega) (fun z21 hz21 => ?_)
        refine h_iald (pc' := 80) (v := σ 99 (32 + a0)) rfl rfl rfl hz21 (by omega) (by omega) (Fs13 99 _ rfl) (fun z22 hz22 => ?_)
        have tz22 := ty_99_8 hI (32 + a0) (by omega)
        exact h_iret rfl rfl (kk _ _ hz22 _ Is13 Fs13)
      · refine h_aload_n (pc' := 82) rfl rfl rfl ?_
        refine h_iload_n (pc' := 83) rfl rfl rfl ?_
        refine h_aload_n (pc' := 84) rfl rfl rfl ?_
        refine h_getR (pc' := 87) rfl rfl rfl rfl rfl ?_
        refine h_bipush (pc' := 89) (x := (Int32.ofInt 26)) rfl rfl cb_26 ?_
        refine h_iload_n (pc' := 90) rfl rfl rfl ?_
        refine h_iadd (pc' := 91) rfl rfl ci_26 hx0 rfl (by have g0 := h_rgv hx0; omega) (by have g0 := h_rgv hx0; omega) (fun z23 hz23 => ?_)
        refine h_iald (pc' := 92) (v := σ 99 (26 + a0)) rfl rfl rfl hz23 (by omega) (by omega) (Fs13 99 _ rfl) (fun z24 hz24 => ?_)
        have tz24 := ty_99_6 hI (26 + a0) (by omega)
        refine h_call (sp := false) (pc' := 95) (M := [(0, .ref 98), (1, .int x0), (2, .int z24)]) rfl rfl rfl rfl rfl rfl rfl rfl ?_
        refine w_169_98 _ Is13 x0 _ hx0 (by omega) z24 _ hz24 (fun r25 br25 hr25 s26 Is26 Gs26 => h_Kv ?_)
        have Fs26 := (Gs26.mono (B := kf_w_170_98) rfl).tr Fs13
        exact h_iret rfl rfl (kk _ _ hr25 _ Is26 Fs26)
def kf_w_173_98 : List Nat := []
theorem w_173_98 {ns : Nat} (σ : h_S) (hI : h_I σ) (x0 : Int32) (a0 : Int) (hx0 : x0.toInt = a0) (x1 : Int32) (a1 : Int) (hx1 : x1.toInt = a1) {Q : Option Value → h_S → Prop} (kk : ∀ (r : Int32) (b : Int) (hb : r.toInt = b) (τ : h_S), h_I τ → h_F (k_in kf_w_173_98) τ σ → ((-1) ≤ b ∧ b ≤ 55) → Q (some (.int r)) τ) : h_T g_P (g_Y ns) 173 0 [(0, .ref 98), (1, .int x0), (2, .int x1)] [] σ Q := by
  have F00 : h_F (k_in kf_w_173_98) σ σ := h_F.rf
  refine h_aload_n (pc' := 1) rfl rfl rfl ?_
  refine h_iload_n (pc' := 2) rfl rfl rfl ?_
  refine h_iload_n (pc' := 3) rfl rfl rfl ?_
  refine h_call (sp := false) (pc' := 6) (M := [(0, .ref 98), (1, .int x0), (2, .int x1)]) rfl rfl rfl rfl rfl rfl rfl rfl ?_
  refine h_iload_n (pc' := 1) rfl rfl rfl ?_
  refine h_i2l (pc' := 2) rfl rfl hx0 (fun z1 hz1 => ?_)
  refine h_lconst (pc' := 3) (x := (Int64.ofInt 0)) rfl rfl rfl ?_
  refine h_lconst (pc' := 4) (x := (Int64.ofInt 1)) rfl rfl rfl ?_
  refine h_calls (pc' := 7) (M := [(0, .long z1), (2, .long (Int64.ofInt 0)), (4, .long (Int64.ofInt 1))]) rfl rfl rfl rfl rfl rfl ?_
  refine h_lload_n (pc' := 1) rfl rfl rfl ?_
  refine h_lload_n (pc' := 2) rfl rfl rfl ?_
  refine h_lcmp (pc' := 3) rfl rfl hz1 cl_0 (fun z2 hz2 => ?_)
  refine h_zlt (tg := 17) (pc' := 6) rfl rfl rfl rfl (fun c3 => ?_) (fun c3 => ?_)
  · replace c3 := (h_lcr hz2).1 c3
    clear hz2
    refine h_iconst (pc' := 18) (x := (Int32.ofInt 0)) rfl rfl rfl ?_
    refine h_zret rfl rfl ci_0 (by omega) (h_Kv ?_)
    refine h_zeq (tg := 38) (pc' := 10) rfl rfl rfl ci_0 (fun c4 => ?_) (fun c4 => absurd c4 (by omega))
    refine h_iconst (pc' := 39) (x := (Int32.ofInt 0)) rfl rfl rfl ?_
    refine h_zret rfl rfl ci_0 (by omega) (h_Kv ?_)
    refine h_zeq (tg := 44) (pc' := 9) rfl rfl rfl ci_0 (fun c5 => ?_) (fun c5 => absurd c5 (by omega))
    refine h_iconst (pc' := 45) (x := (Int32.ofInt (-1))) rfl rfl rfl ?_
    exact h_iret rfl rfl (kk _ _ ci_m1 _ hI F00 (by omega))
  · replace c3 := (h_lcr hz2).2.1 c3
    clear hz2
    refine h_lload_n (pc' := 7) rfl rfl rfl ?_
    refine h_lload (pc' := 9) rfl rfl rfl ?_
    refine h_lcmp (pc' := 10) rfl rfl hz1 cl_1 (fun z6 hz6 => ?_)
    refine h_zgt (tg := 17) (pc' := 13) rfl rfl rfl rfl (fun c7 => ?_) (fun c7 => ?_)
    · replace c7 := (h_lcr hz6).2.2.2.1 c7
      clear hz6
      refine h_iconst (pc' := 18) (x := (Int32.ofInt 0)) rfl rfl rfl ?_
      refine h_zret rfl rfl ci_0 (by omega) (h_Kv ?_)
      refine h_zeq (tg := 38) (pc' := 10) rfl rfl rfl ci_0 (fun c8 => ?_) (fun c8 => absurd c8 (by omega))
      refine h_iconst (pc' := 39) (x := (Int32.ofInt 0)) rfl rfl rfl ?_
      refine h_zret rfl rfl ci_0 (by omega) (h_Kv ?_)
      refine h_zeq (tg := 44) (pc' := 9) rfl rfl rfl ci_0 (fun c9 => ?_) (fun c9 => absurd c9 (by omega))
      refine h_iconst (pc' := 45) (x := (Int32.ofInt (-1))) rfl rfl rfl ?_
      exact h_iret rfl rfl (kk _ _ ci_m1 _ hI F00 (by omega))
    · replace c7 := (h_lcr hz6).2.2.1 c7
      clear hz6
      refine h_iconst (pc' := 14) (x := (Int32.ofInt 1)) rfl rfl rfl ?_
      refine h_goto (pc' := 18) rfl rfl ?_
      refine h_zret rfl rfl ci_1 (by omega) (h_Kv ?_)
      refine h_zeq (tg := 38) (pc' := 10) rfl rfl rfl ci_1 (fun c10 => absurd c10 (by omega)) (fun c10 => ?_)
      refine h_iload_n (pc' := 11) rfl rfl rfl ?_
      refine h_i2l (pc' := 12) rfl rfl hx1 (fun z11 hz11 => ?_)
      refine h_lconst (pc' := 13) (x := (Int64.ofInt 0)) rfl rfl rfl ?_
      refine h_aload_n (pc' := 14) rfl rfl rfl ?_
      refine h_getR (pc' := 17) rfl rfl rfl rfl rfl ?_
      refine h_iload_n (pc' := 18) rfl rfl rfl ?_
      refine h_calls (pc' := 21) (M := [(0, .int x0)]) rfl rfl rfl rfl rfl rfl ?_
      refine h_iload_n (pc' := 1) rfl rfl rfl ?_
      refine h_zne (tg := 9) (pc' := 4) rfl rfl rfl hx0 (fun c12 => ?_) (fun c12 => ?_)
      · refine h_bipush (pc' := 11) (x := (Int32.ofInt 19)) rfl rfl cb_19 ?_
        refine h_iret rfl rfl (h_Kv ?_)
        refine h_bipush (pc' := 23) (x := (Int32.ofInt 6)) rfl rfl cb_6 ?_
        refine h_iadd (pc' := 24) (c := 25) rfl rfl ci_19 ci_6 rfl (by omega) (by omega) (fun z13 hz13 => ?_)
        refine h_iald (pc' := 25) (v := σ 99 25) rfl rfl rfl hz13 (by omega) (by omega) rfl (fun z14 hz14 => ?_)
        have tz14 := ty_99_5 hI 25 (by omega)
        refine h_iconst (pc' := 26) (x := (Int32.ofInt 1)) rfl rfl rfl ?_
        refine h_isub (pc' := 27) rfl rfl hz14 ci_1 rfl (by omega) (by omega) (fun z15 hz15 => ?_)
        refine h_i2l (pc' := 28) rfl rfl hz15 (fun z16 hz16 => ?_)
        refine h_calls (pc' := 31) (M := [(0, .long z11), (2, .long (Int64.ofInt 0)), (4, .long z16)]) rfl rfl rfl rfl rfl rfl ?_
        refine h_lload_n (pc' := 1) rfl rfl rfl ?_
        refine h_lload_n (pc' := 2) rfl rfl rfl ?_
        refine h_lcmp (pc' := 3) rfl rfl hz11 cl_0 (fun z17 hz17 => ?_)
        refine h_zlt (tg := 17) (pc' := 6) rfl rfl rfl rfl (fun c18 => ?_) (fun c18 => ?_)
        · replace c18 := (h_lcr hz17).1 c18
          clear hz17
          refine h_iconst (pc' := 18) (x := (Int32.ofInt 0)) rfl rfl rfl ?_
          refine h_zret rfl rfl ci_0 (by omega) (h_Kv ?_)
          refine h_zeq (tg := 38) (pc' := 34) rfl rfl rfl ci_0 (fun c19 => ?_) (fun c19 => absurd c19 (by omega))
          refine h_iconst (pc' := 39) (x := (Int32.ofInt 0)) rfl rfl rfl ?_
          refine h_zret rfl rfl ci_0 (by omega) (h_Kv ?_)
          refine h_zeq (tg := 44) (pc' := 9) rfl rfl rfl ci_0 (fun c20 => ?_) (fun c20 => absurd c20 (by omega))
          refine h_iconst (pc' := 45) (x := (Int32.ofInt (-1))) rfl rfl rfl ?_
          exact h_iret rfl rfl (kk _ _ ci_m1 _ hI F00 (by omega))
        · replace c18 := (h_lcr hz17).2.1 c18
          clear hz17
          refine h_lload_n (pc' := 7) rfl rfl rfl ?_
          refine h_lload (pc' := 9) rfl rfl rfl ?_
          refine h_lcmp (pc' := 10) rfl rfl hz11 hz16 (fun z21 hz21 => ?_)
          refine h_zgt (tg := 17) (pc' := 13) rfl rfl rfl rfl (fun c22 => ?_) (fun c22 => ?_)
          · replace c22 := (h_lcr hz21).2.2.2.1 c22
            clear hz21
            refine h_iconst (pc' := 18) (x := (Int32.ofInt 0)) rfl rfl rfl ?_
            refine h_zret rfl rfl ci_0 (by omega) (h_Kv ?_)
            refine h_zeq (tg := 38) (pc' := 34) rfl rfl rfl ci_0 (fun c23 => ?_) (fun c23 => absurd c23 (by omega))
            refine h_iconst (pc' := 39) (x := (Int32.ofInt 0)) rfl rfl rfl ?_
            refine h_zret rfl rfl ci_0 (by omega) (h_Kv ?_)
            refine h_zeq (tg := 44) (pc' := 9) rfl rfl rfl ci_0 (fun c24 => ?_) (fun c24 => absurd c24 (by omega))
            refine h_iconst (pc' := 45) (x := (Int32.ofInt (-1))) rfl rfl rfl ?_
            exact h_iret rfl rfl (kk _ _ ci_m1 _ hI F00 (by omega))
          · replace c22 := (h_lcr hz21).2.2.1 c22
            clear hz21
            refine h_iconst (pc' := 14) (x := (Int32.ofInt 1)) rfl rfl rfl ?_
            refine h_goto (pc' := 18) rfl rfl ?_
            refine h_zret rfl rfl ci_1 (by omega) (h_Kv ?_)
            refine h_zeq (tg := 38) (pc' := 34) rfl rfl rfl ci_1 (fun c25 => absurd c25 (by omega)) (fun c25 => ?_)
            refine h_iconst (pc' := 35) (x := (Int32.ofInt 1)) rfl rfl rfl ?_
            refine h_goto (pc' := 39) rfl rfl ?_
            refine h_zret rfl rfl ci_1 (by omega) (h_Kv ?_)
            refine h_zeq (tg := 44) (pc' := 9) rfl rfl rfl ci_1 (fun c26 => absurd c26 (by omega)) (fun c26 => ?_)
            refine h_bipush (pc' := 11) (x := (Int32.ofInt 10)) rfl rfl cb_10 ?_
            refine h_aload_n (pc' := 12) rfl rfl rfl ?_
            refine h_getR (pc' := 15) rfl rfl rfl rfl rfl ?_
            refine h_iload_n (pc' := 16) rfl rfl rfl ?_
            refine h_calls (pc' := 19) (M := [(0, .int x0)]) rfl rfl rfl rfl rfl rfl ?_
            refine h_iload_n (pc' := 1) rfl rfl rfl ?_
            refine h_zne (tg := 9) (pc' := 4) rfl rfl rfl hx0 (fun c27 => ?_) (fun c27 => absurd c27 (by omega))
            refine h_bipush (pc' := 11) (x := (Int32.ofInt 19)) rfl rfl cb_19 ?_
            refine h_iret rfl rfl (h_Kv ?_)
            refine h_iconst (pc' := 20) (x := (Int32.ofInt 2)) rfl rfl rfl ?_
            refine h_iload_n (pc' := 21) rfl rfl rfl ?_
            refine h_imul (pc' := 22) rfl rfl ci_2 hx1 rfl (by have g0 := h_rgv hx1; omega) (by have g0 := h_rgv hx1; omega) (fun z28 hz28 => ?_)
            refine h_iadd (pc' := 23) rfl rfl ci_19 hz28 rfl (by omega) (by omega) (fun z29 hz29 => ?_)
            refine h_iald (pc' := 24) (v := σ 99 (19 + (2 * a1))) rfl rfl rfl hz29 (by omega) (by omega) rfl (fun z30 hz30 => ?_)
            have tz30 := ty_99_4 hI (19 + (2 * a1)) (by omega)
            refine h_imul (pc' := 25) rfl rfl ci_10 hz30 rfl (by omega) (by omega) (fun z31 hz31 => ?_)
            refine h_aload_n (pc' := 26) rfl rfl rfl ?_
            refine h_getR (pc' := 29) rfl rfl rfl rfl rfl ?_
            refine h_iload_n (pc' := 30) rfl rfl rfl ?_
            refine h_calls (pc' := 33) (M := [(0, .int x0)]) rfl rfl rfl rfl rfl rfl ?_
            refine h_iload_n (pc' := 1) rfl rfl rfl ?_
            refine h_zne (tg := 9) (pc' := 4) rfl rfl rfl hx0 (fun c32 => ?_) (fun c32 => absurd c32 (by omega))
            refine h_bipush (pc' := 11) (x := (Int32.ofInt 19)) rfl rfl cb_19 ?_
            refine h_iret rfl rfl (h_Kv ?_)
            refine h_iconst (pc' := 34) (x := (Int32.ofInt 2)) rfl rfl rfl ?_
            refine h_iload_n (pc' := 35) rfl rfl rfl ?_
            refine h_imul (pc' := 36) rfl rfl ci_2 hx1 rfl (by have g0 := h_rgv hx1; omega) (by have g0 := h_rgv hx1; omega) (fun z33 hz33 => ?_)
            refine h_iadd (pc' := 37) rfl rfl ci_19 hz33 rfl (by omega) (by omega) (fun z34 hz34 => ?_)
            refine h_iconst (pc' := 38) (x := (Int32.ofInt 1)) rfl rfl rfl ?_
            refine h_iadd (pc' := 39) rfl rfl hz34 ci_1 rfl (by omega) (by omega) (fun z35 hz35 => ?_)
            refine h_iald (pc' := 40) (v := σ 99 ((19 + (2 * a1)) + 1)) rfl rfl rfl hz35 (by omega) (by omega) rfl (fun z36 hz36 => ?_)
            have tz36 := ty_99_4 hI ((19 + (2 * a1)) + 1) (by omega)
            refine h_iadd (pc' := 41) rfl rfl hz31 hz36 rfl (by omega) (by omega) (fun z37 hz37 => ?_)
            refine h_goto (pc' := 45) rfl rfl ?_
            exact h_iret rfl rfl (kk _ _ hz37 _ hI F00 (by omega))
      · refine h_bipush (pc' := 6) (x := (Int32.ofInt 12)) rfl rfl cb_12 ?_
        refine h_goto (pc' := 11) rfl rfl ?_
        refine h_iret rfl rfl (h_Kv ?_)
        refine h_bipush (pc' := 23) (x := (Int32.ofInt 6)) rfl rfl cb_6 ?_
        refine h_iadd (pc' := 24) (c := 18) rfl rfl ci_12 ci_6 rfl (by omega) (by omega) (fun z38 hz38 => ?_)
        refine h_iald (pc' := 25) (v := σ 99 18) rfl rfl rfl hz38 (by omega) (by omega) rfl (fun z39 hz39 => ?_)
        have tz39 := ty_99_3 hI 18 (by omega)
        refine h_iconst (pc' := 26) (x := (Int32.ofInt 1)) rfl rfl rfl ?_
        refine h_isub (pc' := 27) rfl rfl hz39 ci_1 rfl (by omega) (by omega) (fun z40 hz40 => ?_)
        refine h_i2l (pc' := 28) rfl rfl hz40 (fun z41 hz41 => ?_)
        refine h_calls (pc' := 31) (M := [(0, .long z11), (2, .long (Int64.ofInt 0)), (4, .long z41)]) rfl rfl rfl rfl rfl rfl ?_
        refine h_lload_n (pc' := 1) rfl rfl rfl ?_
        refine h_lload_n (pc' := 2) rfl rfl rfl ?_
        refine h_lcmp (pc' := 3) rfl rfl hz11 cl_0 (fun z42 hz42 => ?_)
        refine h_zlt (tg := 17) (pc' := 6) rfl rfl rfl rfl (fun c43 => ?_) (fun c43 => ?_)
        · replace c43 := (h_lcr hz42).1 c43
          clear hz42
          refine h_iconst (pc' := 18) (x := (Int32.ofInt 0)) rfl rfl rfl ?_
          refine h_zret rfl rfl ci_0 (by omega) (h_Kv ?_)
          refine h_zeq (tg := 38) (pc' := 34) rfl rfl rfl ci_0 (fun c44 => ?_) (fun c44 => absurd c44 (by omega))
          refine h_iconst (pc' := 39) (x := (Int32.ofInt 0)) rfl rfl rfl ?_
          refine h_zret rfl rfl ci_0 (by omega) (h_Kv ?_)
          refine h_zeq (tg := 44) (pc' := 9) rfl rfl rfl ci_0 (fun c45 => ?_) (fun c45 => absurd c45 (by omega))
          refine h_iconst (pc' := 45) (x := (Int32.ofInt (-1))) rfl rfl rfl ?_
          exact h_iret rfl rfl (kk _ _ ci_m1 _ hI F00 (by omega))
        · replace c43 := (h_lcr hz42).2.1 c43
          clear hz42
          refine h_lload_n (pc' := 7) rfl rfl rfl ?_
          refine h_lload (pc' := 9) rfl rfl rfl ?_
          refine h_lcmp (pc' := 10) rfl rfl hz11 hz41 (fun z46 hz46 => ?_)
          refine h_zgt (tg := 17) (pc' := 13) rfl rfl rfl rfl (fun c47 => ?_) (fun c47 => ?_)
          · replace c47 := (h_lcr hz46).2.2.2.1 c47
            clear hz46
            refine h_iconst (pc' := 18) (x := (Int32.ofInt 0)) rfl rfl rfl ?_
            refine h_zret rfl rfl ci_0 (by omega) (h_Kv ?_)
            refine h_zeq (tg := 38) (pc' := 34) rfl rfl rfl ci_0 (fun c48 => ?_) (fun c48 => absurd c48 (by omega))
            refine h_iconst (pc' := 39) (x := (Int32.ofInt 0)) rfl rfl rfl ?_
            refine h_zret rfl rfl ci_0 (by omega) (h_Kv ?_)
            refine h_zeq (tg := 44) (pc' := 9) rfl rfl rfl ci_0 (fun c49 => ?_) (fun c49 => absurd c49 (by omega))
            refine h_iconst (pc' := 45) (x := (Int32.ofInt (-1))) rfl rfl rfl ?_
            exact h_iret rfl rfl (kk _ _ ci_m1 _ hI F00 (by omega))
          · replace c47 := (h_lcr hz46).2.2.1 c47
            clear hz46
            refine h_iconst (pc' := 14) (x := (Int32.ofInt 1)) rfl rfl rfl ?_
            refine h_goto (pc' := 18) rfl rfl ?_
            refine h_zret rfl rfl ci_1 (by omega) (h_Kv ?_)
            refine h_zeq (tg := 38) (pc' := 34) rfl rfl rfl ci_1 (fun c50 => absurd c50 (by omega)) (fun c50 => ?_)
            refine h_iconst (pc' := 35) (x := (Int32.ofInt 1)) rfl rfl rfl ?_
            refine h_goto (pc' := 39) rfl rfl ?_
            refine h_zret rfl rfl ci_1 (by omega) (h_Kv ?_)
            refine h_zeq (tg := 44) (pc' := 9) rfl rfl rfl ci_1 (fun c51 => absurd c51 (by omega)) (fun c51 => ?_)
            refine h_bipush (pc' := 11) (x := (Int32.ofInt 10)) rfl rfl cb_10 ?_
            refine h_aload_n (pc' := 12) rfl rfl rfl ?_
            refine h_getR (pc' := 15) rfl rfl rfl rfl rfl ?_
            refine h_iload_n (pc' := 16) rfl rfl rfl ?_
            refine h_calls (pc' := 19) (M := [(0, .int x0)]) rfl rfl rfl rfl rfl rfl ?_
            refine h_iload_n (pc' := 1) rfl rfl rfl ?_
            refine h_zne (tg := 9) (pc' := 4) rfl rfl rfl hx0 (fun c52 => absurd c52 (by omega)) (fun c52 => ?_)
            refine h_bipush (pc' := 6) (x := (Int32.ofInt 12)) rfl rfl cb_12 ?_
            refine h_goto (pc' := 11) rfl rfl ?_
            refine h_iret rfl rfl (h_Kv ?_)
            refine h_iconst (pc' := 20) (x := (Int32.ofInt 2)) rfl rfl rfl ?_
            refine h_iload_n (pc' := 21) rfl rfl rfl ?_
            refine h_imul (pc' := 22) rfl rfl ci_2 hx1 rfl (by have g0 := h_rgv hx1; omega) (by have g0 := h_rgv hx1; omega) (fun z53 hz53 => ?_)
            refine h_iadd (pc' := 23) rfl rfl ci_12 hz53 rfl (by omega) (by omega) (fun z54 hz54 => ?_)
            refine h_iald (pc' := 24) (v := σ 99 (12 + (2 * a1))) rfl rfl rfl hz54 (by omega) (by omega) rfl (fun z55 hz55 => ?_)
            have tz55 := ty_99_2 hI (12 + (2 * a1)) (by omega)
            refine h_imul (pc' := 25) rfl rfl ci_10 hz55 rfl (by omega) (by omega) (fun z56 hz56 => ?_)
            refine h_aload_n (pc' := 26) rfl rfl rfl ?_
            refine h_getR (pc' := 29) rfl rfl rfl rfl rfl ?_
            refine h_iload_n (pc' := 30) rfl rfl rfl ?_
            refine h_calls (pc' := 33) (M := [(0, .int x0)]) rfl rfl rfl rfl rfl rfl ?_
            refine h_iload_n (pc' := 1) rfl rfl rfl ?_
            refine h_zne (tg := 9) (pc' := 4) rfl rfl rfl hx0 (fun c57 => absurd c57 (by omega)) (fun c57 => ?_)
            refine h_bipush (pc' := 6) (x := (Int32.ofInt 12)) rfl rfl cb_12 ?_
            refine h_goto (pc' := 11) rfl rfl ?_
            refine h_iret rfl rfl (h_Kv ?_)
            refine h_iconst (pc' := 34) (x := (Int32.ofInt 2)) rfl rfl rfl ?_
            refine h_iload_n (pc' := 35) rfl rfl rfl ?_
            refine h_imul (pc' := 36) rfl rfl ci_2 hx1 rfl (by have g0 := h_rgv hx1; omega) (by have g0 := h_rgv hx1; omega) (fun z58 hz58 => ?_)
            refine h_iadd (pc' := 37) rfl rfl ci_12 hz58 rfl (by omega) (by omega) (fun z59 hz59 => ?_)
            refine h_iconst (pc' := 38) (x := (Int32.ofInt 1)) rfl rfl rfl ?_
            refine h_iadd (pc' := 39) rfl rfl hz59 ci_1 rfl (by omega) (by omega) (fun z60 hz60 => ?_)
            refine h_iald (pc' := 40) (v := σ 99 ((12 + (2 * a1)) + 1)) rfl rfl rfl hz60 (by omega) (by omega) rfl (fun z61 hz61 => ?_)
            have tz61 := ty_99_2 hI ((12 + (2 * a1)) + 1) (by omega)
            refine h_iadd (pc' := 41) rfl rfl hz56 hz61 rfl (by omega) (by omega) (fun z62 hz62 => ?_)
            refine h_goto (pc' := 45) rfl rfl ?_
            exact h_iret rfl rfl (kk _ _ hz62 _ hI F00 (by omega))
def kf_w_174_98 : List Nat := []
theorem w_174_98 {ns : Nat} (σ : h_S) (hI : h_I σ) (x0 : Int32) (a0 : Int) (hx0 : x0.toInt = a0) {Q : Option Value → h_S → Prop} (kk : ∀ (r : Int32) (b : Int) (hb : r.toInt = b) (τ : h_S), h_I τ → h_F (k_in kf_w_174_98) τ σ → ((-1) ≤ b ∧ b ≤ 52) → Q (some (.int r)) τ) : h_T g_P (g_Y ns) 174 0 [(0, .ref 98), (1, .int x0)] [] σ Q := by
  have F00 : h_F (k_in kf_w_174_98) σ σ := h_F.rf
  refine h_iload_n (pc' := 1) rfl rfl rfl ?_
  refine h_i2l (pc' := 2) rfl rfl hx0 (fun z1 hz1 => ?_)
  refine h_lconst (pc' := 3) (x := (Int64.ofInt 0)) rfl rfl rfl ?_
  refine h_aload_n (pc' := 4) rfl rfl rfl ?_
  refine h_getR (pc' := 7) rfl rfl rfl rfl rfl ?_
  refine h_bipush (pc' := 9) (x := (Int32.ofInt 43)) rfl rfl cb_43 ?_
  refine h_iald (pc' := 10) (v := σ 99 43) rfl rfl rfl ci_43 (by omega) (by omega) rfl (fun z2 hz2 => ?_)
  have tz2 := ty_99_10 hI 43 (by omega)
  refine h_iconst (pc' := 11) (x := (Int32.ofInt 1)) rfl rfl rfl ?_
  refine h_isub (pc' := 12) rfl rfl hz2 ci_1 rfl (by omega) (by omega) (fun z3 hz3 => ?_)
  refine h_i2l (pc' := 13) rfl rfl hz3 (fun z4 hz4 => ?_)
  refine h_calls (pc' := 16) (M := [(0, .long z1), (2, .long (Int64.ofInt 0)), (4, .long z4)]) rfl rfl rfl rfl rfl rfl ?_
  refine h_lload_n (pc' := 1) rfl rfl rfl ?_
  refine h_lload_n (pc' := 2) rfl rfl rfl ?_
  refine h_lcmp (pc' := 3) rfl rfl hz1 cl_0 (fun z5 hz5 => ?_)
  refine h_zlt (tg := 17) (pc' := 6) rfl rfl rfl rfl (fun c6 => ?_) (fun c6 => ?_)
  · replace c6 := (h_lcr hz5).1 c6
    clear hz5
    refine h_iconst (pc' := 18) (x := (Int32.ofInt 0)) rfl rfl rfl ?_
    refine h_zret rfl rfl ci_0 (by omega) (h_Kv ?_)
    refine h_zeq (tg := 31) (pc' := 19) rfl rfl rfl ci_0 (fun c7 => ?_) (fun c7 => absurd c7 (by omega))
    refine h_iconst (pc' := 32) (x := (Int32.ofInt (-1))) rfl rfl rfl ?_
    exact h_iret rfl rfl (kk _ _ ci_m1 _ hI F00 (by omega))
  · replace c6 := (h_lcr hz5).2.1 c6
    clear hz5
    refine h_lload_n (pc' := 7) rfl rfl rfl ?_
    refine h_lload (pc' := 9) rfl rfl rfl ?_
    refine h_lcmp (pc' := 10) rfl rfl hz1 hz4 (fun z8 hz8 => ?_)
    refine h_zgt (tg := 17) (pc' := 13) rfl rfl rfl rfl (fun c9 => ?_) (fun c9 => ?_)
    · replace c9 := (h_lcr hz8).2.2.2.1 c9
      clear hz8
      refine h_iconst (pc' := 18) (x := (Int32.ofInt 0)) rfl rfl rfl ?_
      refine h_zret rfl rfl ci_0 (by omega) (h_Kv ?_)
      refine h_zeq (tg := 31) (pc' := 19) rfl rfl rfl ci_0 (fun c10 => ?_) (fun c10 => absurd c10 (by omega))
      refine h_iconst (pc' := 32) (x := (Int32.ofInt (-1))) rfl rfl rfl ?_
      exact h_iret rfl rfl (kk _ _ ci_m1 _ hI F00 (by omega))
    · replace c9 := (h_lcr hz8).2.2.1 c9
      clear hz8
      refine h_iconst (pc' := 14) (x := (Int32.ofInt 1)) rfl rfl rfl ?_
      refine h_goto (pc' := 18) rfl rfl ?_
      refine h_zret rfl rfl ci_1 (by omega) (h_Kv ?_)
      refine h_zeq (tg := 31) (pc' := 19) rfl rfl rfl ci_1 (fun c11 => absurd c11 (by omega)) (fun c11 => ?_)
      refine h_aload_n (pc' := 20) rfl rfl rfl ?_
      refine h_getR (pc' := 23) rfl rfl rfl rfl rfl ?_
      refine h_bipush (pc' := 25) (x := (Int32.ofInt 35)) rfl rfl cb_35 ?_
      refine h_iload_n (pc' := 26) rfl rfl rfl ?_
      refine h_iadd (pc' := 27) rfl rfl ci_35 hx0 rfl (by have g0 := h_rgv hx0; omega) (by have g0 := h_rgv hx0; omega) (fun z12 hz12 => ?_)
      refine h_iald (pc' := 28) (v := σ 99 (35 + a0)) rfl rfl rfl hz12 (by omega) (by omega) rfl (fun z13 hz13 => ?_)
      have tz13 := ty_99_9 hI (35 + a0) (by omega)
      refine h_goto (pc' := 32) rfl rfl ?_
      exact h_iret rfl rfl (kk _ _ hz13 _ hI F00 (by omega))
def kf_w_175_98 : List Nat := [108543]
theorem w_175_98 {ns : Nat} (σ : h_S) (hI : h_I σ) (x0 : Int32) (a0 : Int) (hx0 : x0.toInt = a0) (x1 : Int32) (a1 : Int) (hx1 : x1.toInt = a1) {Q : Option Value → h_S → Prop} (kk : ∀ (r : Int32) (b : Int) (hb : r.toInt = b) (τ : h_S), h_I τ → h_F (k_in kf_w_175_98) τ σ → ((-4) ≤ b ∧ b ≤ 999999) → Q (some (.int r)) τ) : h_T g_P (g_Y ns) 175 0 [(0, .ref 98), (1, .int x0), (2, .int x1)] [] σ Q := by
  have F00 : h_F (k_in kf_w_175_98) σ σ := h_F.rf
  refine h_aload_n (pc' := 1) rfl rfl rfl ?_
  refine h_iload_n (pc' := 2) rfl rfl rfl ?_
  refine h_call (sp := false) (pc' := 5) (M := [(0, .ref 98), (1, .int x0)]) rfl rfl rfl rfl rfl rfl rfl rfl ?_
  refine h_iload_n (pc' := 1) rfl rfl rfl ?_
  refine h_i2l (pc' := 2) rfl rfl hx0 (fun z1 hz1 => ?_)
  refine h_lconst (pc' := 3) (x := (Int64.ofInt 0)) rfl rfl rfl ?_
  refine h_aload_n (pc' := 4) rfl rfl rfl ?_
  refine h_getI (pc' := 7) (v := σ 98 1) rfl rfl rfl rfl rfl rfl (fun z2 hz2 => ?_)
  have tz2 := tf_98_1 hI
  refine h_iconst (pc' := 8) (x := (Int32.ofInt 1)) rfl rfl rfl ?_
  refine h_isub (pc' := 9) rfl rfl hz2 ci_1 rfl (by omega) (by omega) (fun z3 hz3 => ?_)
  refine h_i2l (pc' := 10) rfl rfl hz3 (fun z4 hz4 => ?_)
  refine h_calls (pc' := 13) (M := [(0, .long z1), (2, .long (Int64.ofInt 0)), (4, .long z4)]) rfl rfl rfl rfl rfl rfl ?_
  refine h_lload_n (pc' := 1) rfl rfl rfl ?_
  refine h_lload_n (pc' := 2) rfl rfl rfl ?_
  refine h_lcmp (pc' := 3) rfl rfl hz1 cl_0 (fun z5 hz5 => ?_)
  refine h_zlt (tg := 17) (pc' := 6) rfl rfl rfl rfl (fun c6 => ?_) (fun c6 => ?_)
  · replace c6 := (h_lcr hz5).1 c6
    clear hz5
    refine h_iconst (pc' := 18) (x := (Int32.ofInt 0)) rfl rfl rfl ?_
    refine h_zret rfl rfl ci_0 (by omega) (h_Kv ?_)
    refine h_zret rfl rfl ci_0 (by omega) (h_Kv ?_)
    refine h_zeq (tg := 16) (pc' := 8) rfl rfl rfl ci_0 (fun c7 => ?_) (fun c7 => absurd c7 (by omega))
    refine h_iconst (pc' := 17) (x := (Int32.ofInt (-1))) rfl rfl rfl ?_
    exact h_iret rfl rfl (kk _ _ ci_m1 _ hI F00 (by omega))
  · replace c6 := (h_lcr hz5).2.1 c6
    clear hz5
    refine h_lload_n (pc' := 7) rfl rfl rfl ?_
    refine h_lload (pc' := 9) rfl rfl rfl ?_
    refine h_lcmp (pc' := 10) rfl rfl hz1 hz4 (fun z8 hz8 => ?_)
    refine h_zgt (tg := 17) (pc' := 13) rfl rfl rfl rfl (fun c9 => ?_) (fun c9 => ?_)
    · replace c9 := (h_lcr hz8).2.2.2.1 c9
      clear hz8
      refine h_iconst (pc' := 18) (x := (Int32.ofInt 0)) rfl rfl rfl ?_
      refine h_zret rfl rfl ci_0 (by omega) (h_Kv ?_)
      refine h_zret rfl rfl ci_0 (by omega) (h_Kv ?_)
      refine h_zeq (tg := 16) (pc' := 8) rfl rfl rfl ci_0 (fun c10 => ?_) (fun c10 => absurd c10 (by omega))
      refine h_iconst (pc' := 17) (x := (Int32.ofInt (-1))) rfl rfl rfl ?_
      exact h_iret rfl rfl (kk _ _ ci_m1 _ hI F00 (by omega))
    · replace c9 := (h_lcr hz8).2.2.1 c9
      clear hz8
      refine h_iconst (pc' := 14) (x := (Int32.ofInt 1)) rfl rfl rfl ?_
      refine h_goto (pc' := 18) rfl rfl ?_
      refine h_zret rfl rfl ci_1 (by omega) (h_Kv ?_)
      refine h_zret rfl rfl ci_1 (by omega) (h_Kv ?_)
      refine h_zeq (tg := 16) (pc' := 8) rfl rfl rfl ci_1 (fun c11 => absurd c11 (by omega)) (fun c11 => ?_)
      refine h_aload_n (pc' := 9) rfl rfl rfl ?_
      refine h_iload_n (pc' := 10) rfl rfl rfl ?_
      refine h_call (sp := false) (pc' := 13) (M := [(0, .ref 98), (1, .int x1)]) rfl rfl rfl rfl rfl rfl rfl rfl ?_
      refine h_iload_n (pc' := 1) rfl rfl rfl ?_
      refine h_i2l (pc' := 2) rfl rfl hx1 (fun z12 hz12 => ?_)
      refine h_lconst (pc' := 3) (x := (Int64.ofInt 0)) rfl rfl rfl ?_
      refine h_aload_n (pc' := 4) rfl rfl rfl ?_
      refine h_getI (pc' := 7) (v := σ 98 1) rfl rfl rfl rfl rfl rfl (fun z13 hz13 => ?_)
      have tz13 := tf_98_1 hI
      refine h_iconst (pc' := 8) (x := (Int32.ofInt 1)) rfl rfl rfl ?_
      refine h_isub (pc' := 9) rfl rfl hz13 ci_1 rfl (by omega) (by omega) (fun z14 hz14 => ?_)
      refine h_i2l (pc' := 10) rfl rfl hz14 (fun z15 hz15 => ?_)
      refine h_calls (pc' := 13) (M := [(0, .long z12), (2, .long (Int64.ofInt 0)), (4, .long z15)]) rfl rfl rfl rfl rfl rfl ?_
      refine h_lload_n (pc' := 1) rfl rfl rfl ?_
      refine h_lload_n (pc' := 2) rfl rfl rfl ?_
      refine h_lcmp (pc' := 3) rfl rfl hz12 cl_0 (fun z16 hz16 => ?_)
      refine h_zlt (tg := 17) (pc' := 6) rfl rfl rfl rfl (fun c17 => ?_) (fun c17 => ?_)
      · replace c17 := (h_lcr hz16).1 c17
        clear hz16
        refine h_iconst (pc' := 18) (x := (Int32.ofInt 0)) rfl rfl rfl ?_
        refine h_zret rfl rfl ci_0 (by omega) (h_Kv ?_)
        refine h_zret rfl rfl ci_0 (by omega) (h_Kv ?_)
        refine h_zne (tg := 18) (pc' := 16) rfl rfl rfl ci_0 (fun c18 => absurd c18 (by omega)) (fun c18 => ?_)
        refine h_iconst (pc' := 17) (x := (Int32.ofInt (-1))) rfl rfl rfl ?_
        exact h_iret rfl rfl (kk _ _ ci_m1 _ hI F00 (by omega))
      · replace c17 := (h_lcr hz16).2.1 c17
        clear hz16
        refine h_lload_n (pc' := 7) rfl rfl rfl ?_
        refine h_lload (pc' := 9) rfl rfl rfl ?_
        refine h_lcmp (pc' := 10) rfl rfl hz12 hz15 (fun z19 hz19 => ?_)
        refine h_zgt (tg := 17) (pc' := 13) rfl rfl rfl rfl (fun c20 => ?_) (fun c20 => ?_)
        · replace c20 := (h_lcr hz19).2.2.2.1 c20
          clear hz19
          refine h_iconst (pc' := 18) (x := (Int32.ofInt 0)) rfl rfl rfl ?_
          refine h_zret rfl rfl ci_0 (by omega) (h_Kv ?_)
          refine h_zret rfl rfl ci_0 (by omega) (h_Kv ?_)
          refine h_zne (tg := 18) (pc' := 16) rfl rfl rfl ci_0 (fun c21 => absurd c21 (by omega)) (fun c21 => ?_)
          refine h_iconst (pc' := 17) (x := (Int32.ofInt (-1))) rfl rfl rfl ?_
          exact h_iret rfl rfl (kk _ _ ci_m1 _ hI F00 (by omega))
        · replace c20 := (h_lcr hz19).2.2.1 c20
          clear hz19
          refine h_iconst (pc' := 14) (x := (Int32.ofInt 1)) rfl rfl rfl ?_
          refine h_goto (pc' := 18) rfl rfl ?_
          refine h_zret rfl rfl ci_1 (by omega) (h_Kv ?_)
          refine h_zret rfl rfl ci_1 (by omega) (h_Kv ?_)
          refine h_zne (tg := 18) (pc' := 16) rfl rfl rfl ci_1 (fun c22 => ?_) (fun c22 => absurd c22 (by omega))
          refine h_aload_n (pc' := 19) rfl rfl rfl ?_
          refine h_iconst (pc' := 20) (x := (Int32.ofInt 0)) rfl rfl rfl ?_
          refine h_call (sp := false) (pc' := 23) (M := [(0, .ref 98), (1, .int (Int32.ofInt 0))]) rfl rfl rfl rfl rfl rfl rfl rfl ?_
          refine w_162_98 _ hI (Int32.ofInt 0) _ ci_0 (by omega) (fun s24 Is24 Gs24 => h_Kn ?_)
          have Fs24 := (Gs24.mono (B := kf_w_175_98) rfl).tr F00
          refine h_aload_n (pc' := 24) rfl rfl rfl ?_
          refine h_getR (pc' := 27) rfl rfl rfl rfl rfl ?_
          refine h_bipush (pc' := 29) (x := (Int32.ofInt 6)) rfl rfl cb_6 ?_
          refine h_iload_n (pc' := 30) rfl rfl rfl ?_
          refine h_imul (pc' := 31) rfl rfl ci_6 hx0 rfl (by have g0 := h_rgv hx0; omega) (by have g0 := h_rgv hx0; omega) (fun z25 hz25 => ?_)
          refine h_iload_n (pc' := 32) rfl rfl rfl ?_
          refine h_iadd (pc' := 33) rfl rfl hz25 hx1 rfl (by have g0 := h_rgv hx1; omega) (by have g0 := h_rgv hx1; omega) (fun z26 hz26 => ?_)
          refine h_iald (pc' := 34) (v := s24 105 ((6 * a0) + a1)) rfl rfl rfl hz26 (by omega) (by omega) rfl (fun z27 hz27 => ?_)
          have tz27 := ty_105 Is24 ((6 * a0) + a1)
          refine h_istore_n (pc' := 35) (M := [(3, .int z27), (0, .ref 98), (1, .int x0), (2, .int x1)]) rfl rfl rfl rfl ?_
          refine h_iload_n (pc' := 36) rfl rfl rfl ?_
          refine h_ldc (pc' := 38) (x := (Int32.ofInt 1000000)) rfl rfl rfl ?_
          refine h_cge (tg := 45) (pc' := 41) rfl rfl rfl hz27 ci_1000000 (fun c28 => ?_) (fun c28 => ?_)
          · refine h_bipush (pc' := 47) (x := (Int32.ofInt (-4))) rfl rfl cb_m4 ?_
            exact h_iret rfl rfl (kk _ _ ci_m4 _ Is24 Fs24 (by omega))
          · refine h_iload_n (pc' := 42) rfl rfl rfl ?_
            refine h_goto (pc' := 47) rfl rfl ?_
            exact h_iret rfl rfl (kk _ _ hz27 _ Is24 Fs24 (by omega))
def kf_w_177_98 : List Nat := []
theorem w_177_98_l (ns : Nat) (σ : h_S) (hI : h_I σ) (x0 : Int32) (a0 : Int) (hx0 : x0.toInt = a0) (x1 : Int32) (a1 : Int) (hx1 : x1.toInt = a1) {Q : Option Value → h_S → Prop} (kk : ∀ (r : Int32) (b : Int) (hb : r.toInt = b) (τ : h_S), h_I τ → h_F (k_in kf_w_177_98) τ σ → ((-4) ≤ b ∧ b ≤ 5) → Q (some (.int r)) τ) : ∀ n : Nat, (∀ (s0 : h_S), h_I s0 → h_F (k_in kf_w_177_98) s0 σ → ∀ (y3 : Int32) (b3 : Int), y3.toInt = b3 → ∀ (y4 : Int32) (b4 : Int), y4.toInt = b4 → ((-4) ≤ b4 ∧ b4 ≤ 5) → ∀ (y5 : Int32) (b5 : Int), y5.toInt = b5 → (0 ≤ b5 ∧ b5 ≤ 6) → (6 + 1 - b5) * 1000000 + 1000000000 ≤ (n : Int) → h_T g_P (g_Y ns) 177 37 [(0, .ref 98), (1, .int x0), (2, .int x1), (3, .int y3), (4, .int y4), (5, .int y5)] [] s0 Q) := by
  intro n
  induction n with
  | zero => exact by intro s0 I0 F0_ y3 b3 hy3 y4 b4 hy4 ry4 y5 b5 hy5 ry5 hm; exfalso; omega
  | succ n ih =>
    intro s0 I0 F0_ y3 b3 hy3 y4 b4 hy4 ry4 y5 b5 hy5 ry5 hm
    refine h_iload (pc' := 39) rfl rfl rfl ?_
    refine h_aload_n (pc' := 40) rfl rfl rfl ?_
    refine h_getI (pc' := 43) (v := σ 98 1) rfl rfl rfl rfl rfl (F0_ 98 1 rfl) (fun z1 hz1 => ?_)
    have tz1 := tf_98_1 hI
    refine h_cge (tg := 71) (pc' := 46) rfl rfl rfl hy5 hz1 (fun c2 => ?_) (fun c2 => ?_)
    · refine h_iload (pc' := 73) rfl rfl rfl ?_
      exact h_iret rfl rfl (kk _ _ hy4 _ I0 F0_ (by omega))
    · refine h_iload_n (pc' := 47) rfl rfl rfl ?_
      refine h_iload (pc' := 49) rfl rfl rfl ?_
      refine h_ishr (pc' := 50) rfl rfl (fun z3 hz3 => ?_)
      refine h_iconst (pc' := 51) (x := (Int32.ofInt 1)) rfl rfl rfl ?_
      refine h_iand (pc' := 52) rfl rfl (fun z4 hz4 uz4 vz4 => ?_)
      clear uz4
      rw [ci_1] at vz4
      have yz4 := vz4 (by omega)
      refine h_iconst (pc' := 53) (x := (Int32.ofInt 1)) rfl rfl rfl ?_
      refine h_cne (tg := 61) (pc' := 56) rfl rfl rfl rfl ci_1 (fun c5 => ?_) (fun c5 => ?_)
      · refine h_iload (pc' := 63) rfl rfl rfl ?_
        refine h_istore (pc' := 65) (M := [(4, .int y4), (0, .ref 98), (1, .int x0), (2, .int x1), (3, .int y3), (5, .int y5)]) rfl rfl rfl rfl ?_
        refine h_iinc (pc' := 68) (M := fun z6 => [(5, .int z6), (4, .int y4), (0, .ref 98), (1, .int x0), (2, .int x1), (3, .int y3)]) rfl rfl rfl rfl hy5 ci_1 rfl (by omega) (by omega) (fun _ => rfl) (fun z6 hz6 => ?_)
        refine h_goto (pc' := 37) rfl rfl ?_
        exact h_wk [(0, .ref 98), (1, .int x0), (2, .int x1), (3, .int y3), (4, .int y4), (5, .int z6)] ⟨rfl, rfl, rfl, rfl, rfl, rfl, trivial⟩ (ih _ I0 F0_ y3 _ hy3 y4 _ hy4 (by omega) z6 _ hz6 (by omega) (by omega))
      · refine h_iload (pc' := 58) rfl rfl rfl ?_
        refine h_goto (pc' := 63) rfl rfl ?_
        refine h_istore (pc' := 65) (M := [(4, .int y5), (0, .ref 98), (1, .int x0), (2, .int x1), (3, .int y3), (5, .int y5)]) rfl rfl rfl rfl ?_
        refine h_iinc (pc' := 68) (M := fun z7 => [(5, .int z7), (4, .int y5), (0, .ref 98), (1, .int x0), (2, .int x1), (3, .int y3)]) rfl rfl rfl rfl hy5 ci_1 rfl (by omega) (by omega) (fun _ => rfl) (fun z7 hz7 => ?_)
        refine h_goto (pc' := 37) rfl rfl ?_
        exact h_wk [(0, .ref 98), (1, .int x0), (2, .int x1), (3, .int y3), (4, .int y5), (5, .int z7)] ⟨rfl, rfl, rfl, rfl, rfl, rfl, trivial⟩ (ih _ I0 F0_ y3 _ hy3 y5 _ hy5 (by omega) z7 _ hz7 (by omega) (by omega))
theorem w_177_98 {ns : Nat} (σ : h_S) (hI : h_I σ) (x0 : Int32) (a0 : Int) (hx0 : x0.toInt = a0) (x1 : Int32) (a1 : Int) (hx1 : x1.toInt = a1) {Q : Option Value → h_S → Prop} (kk : ∀ (r : Int32) (b : Int) (hb : r.toInt = b) (τ : h_S), h_I τ → h_F (k_in kf_w_177_98) τ σ → ((-4) ≤ b ∧ b ≤ 5) → Q (some (.int r)) τ) : h_T g_P (g_Y ns) 177 0 [(0, .ref 98), (1, .int x0), (2, .int x1)] [] σ Q := by
  have F00 : h_F (k_in kf_w_177_98) σ σ := h_F.rf
  refine h_aload_n (pc' := 1) rfl rfl rfl ?_
  refine h_iload_n (pc' := 2) rfl rfl rfl ?_
  refine h_call (sp := false) (pc' := 5) (M := [(0, .ref 98), (1, .int x0)]) rfl rfl rfl rfl rfl rfl rfl rfl ?_
  refine h_iload_n (pc' := 1) rfl rfl rfl ?_
  refine h_i2l (pc' := 2) rfl rfl hx0 (fun z1 hz1 => ?_)
  refine h_lconst (pc' := 3) (x := (Int64.ofInt 0)) rfl rfl rfl ?_
  refine h_aload_n (pc' := 4) rfl rfl rfl ?_
  refine h_getI (pc' := 7) (v := σ 98 1) rfl rfl rfl rfl rfl rfl (fun z2 hz2 => ?_)
  have tz2 := tf_98_1 hI
  refine h_iconst (pc' := 8) (x := (Int32.ofInt 1)) rfl rfl rfl ?_
  refine h_isub (pc' := 9) rfl rfl hz2 ci_1 rfl (by omega) (by omega) (fun z3 hz3 => ?_)
  refine h_i2l (pc' := 10) rfl rfl hz3 (fun z4 hz4 => ?_)
  refine h_calls (pc' := 13) (M := [(0, .long z1), (2, .long (Int64.ofInt 0)), (4, .long z4)]) rfl rfl rfl rfl rfl rfl ?_
  refine h_lload_n (pc' := 1) rfl rfl rfl ?_
  refine h_lload_n (pc' := 2) rfl rfl rfl ?_
  refine h_lcmp (pc' := 3) rfl rfl hz1 cl_0 (fun z5 hz5 => ?_)
  refine h_zlt (tg := 17) (pc' := 6) rfl rfl rfl rfl (fun c6 => ?_) (fun c6 => ?_)
  · replace c6 := (h_lcr hz5).1 c6
    clear hz5
    refine h_iconst (pc' := 18) (x := (Int32.ofInt 0)) rfl rfl rfl ?_
    refine h_zret rfl rfl ci_0 (by omega) (h_Kv ?_)
    refine h_zret rfl rfl ci_0 (by omega) (h_Kv ?_)
    refine h_zeq (tg := 16) (pc' := 8) rfl rfl rfl ci_0 (fun c7 => ?_) (fun c7 => absurd c7 (by omega))
    refine h_iconst (pc' := 17) (x := (Int32.ofInt (-1))) rfl rfl rfl ?_
    exact h_iret rfl rfl (kk _ _ ci_m1 _ hI F00 (by omega))
  · replace c6 := (h_lcr hz5).2.1 c6
    clear hz5
    refine h_lload_n (pc' := 7) rfl rfl rfl ?_
    refine h_lload (pc' := 9) rfl rfl rfl ?_
    refine h_lcmp (pc' := 10) rfl rfl hz1 hz4 (fun z8 hz8 => ?_)
    refine h_zgt (tg := 17) (pc' := 13) rfl rfl rfl rfl (fun c9 => ?_) (fun c9 => ?_)
    · replace c9 := (h_lcr hz8).2.2.2.1 c9
      clear hz8
      refine h_iconst (pc' := 18) (x := (Int32.ofInt 0)) rfl rfl rfl ?_
      refine h_zret rfl rfl ci_0 (by omega) (h_Kv ?_)
      refine h_zret rfl rfl ci_0 (by omega) (h_Kv ?_)
      refine h_zeq (tg := 16) (pc' := 8) rfl rfl rfl ci_0 (fun c10 => ?_) (fun c10 => absurd c10 (by omega))
      refine h_iconst (pc' := 17) (x := (Int32.ofInt (-1))) rfl rfl rfl ?_
      exact h_iret rfl rfl (kk _ _ ci_m1 _ hI F00 (by omega))
    · replace c9 := (h_lcr hz8).2.2.1 c9
      clear hz8
      refine h_iconst (pc' := 14) (x := (Int32.ofInt 1)) rfl rfl rfl ?_
      refine h_goto (pc' := 18) rfl rfl ?_
      refine h_zret rfl rfl ci_1 (by omega) (h_Kv ?_)
      refine h_zret rfl rfl ci_1 (by omega) (h_Kv ?_)
      refine h_zeq (tg := 16) (pc' := 8) rfl rfl rfl ci_1 (fun c11 => absurd c11 (by omega)) (fun c11 => ?_)
      refine h_aload_n (pc' := 9) rfl rfl rfl ?_
      refine h_iload_n (pc' := 10) rfl rfl rfl ?_
      refine h_call (sp := false) (pc' := 13) (M := [(0, .ref 98), (1, .int x1)]) rfl rfl rfl rfl rfl rfl rfl rfl ?_
      refine h_iload_n (pc' := 1) rfl rfl rfl ?_
      refine h_i2l (pc' := 2) rfl rfl hx1 (fun z12 hz12 => ?_)
      refine h_lconst (pc' := 3) (x := (Int64.ofInt 0)) rfl rfl rfl ?_
      refine h_aload_n (pc' := 4) rfl rfl rfl ?_
      refine h_getI (pc' := 7) (v := σ 98 1) rfl rfl rfl rfl rfl rfl (fun z13 hz13 => ?_)
      have tz13 := tf_98_1 hI
      refine h_iconst (pc' := 8) (x := (Int32.ofInt 1)) rfl rfl rfl ?_
      refine h_isub (pc' := 9) rfl rfl hz13 ci_1 rfl (by omega) (by omega) (fun z14 hz14 => ?_)
      refine h_i2l (pc' := 10) rfl rfl hz14 (fun z15 hz15 => ?_)
      refine h_calls (pc' := 13) (M := [(0, .long z12), (2, .long (Int64.ofInt 0)), (4, .long z15)]) rfl rfl rfl rfl rfl rfl ?_
      refine h_lload_n (pc' := 1) rfl rfl rfl ?_
      refine h_lload_n (pc' := 2) rfl rfl rfl ?_
      refine h_lcmp (pc' := 3) rfl rfl hz12 cl_0 (fun z16 hz16 => ?_)
      refine h_zlt (tg := 17) (pc' := 6) rfl rfl rfl rfl (fun c17 => ?_) (fun c17 => ?_)
      · replace c17 := (h_lcr hz16).1 c17
        clear hz16
        refine h_iconst (pc' := 18) (x := (Int32.ofInt 0)) rfl rfl rfl ?_
        refine h_zret rfl rfl ci_0 (by omega) (h_Kv ?_)
        refine h_zret rfl rfl ci_0 (by omega) (h_Kv ?_)
        refine h_zne (tg := 18) (pc' := 16) rfl rfl rfl ci_0 (fun c18 => absurd c18 (by omega)) (fun c18 => ?_)
        refine h_iconst (pc' := 17) (x := (Int32.ofInt (-1))) rfl rfl rfl ?_
        exact h_iret rfl rfl (kk _ _ ci_m1 _ hI F00 (by omega))
      · replace c17 := (h_lcr hz16).2.1 c17
        clear hz16
        refine h_lload_n (pc' := 7) rfl rfl rfl ?_
        refine h_lload (pc' := 9) rfl rfl rfl ?_
        refine h_lcmp (pc' := 10) rfl rfl hz12 hz15 (fun z19 hz19 => ?_)
        refine h_zgt (tg := 17) (pc' := 13) rfl rfl rfl rfl (fun c20 => ?_) (fun c20 => ?_)
        · replace c20 := (h_lcr hz19).2.2.2.1 c20
          clear hz19
          refine h_iconst (pc' := 18) (x := (Int32.ofInt 0)) rfl rfl rfl ?_
          refine h_zret rfl rfl ci_0 (by omega) (h_Kv ?_)
          refine h_zret rfl rfl ci_0 (by omega) (h_Kv ?_)
          refine h_zne (tg := 18) (pc' := 16) rfl rfl rfl ci_0 (fun c21 => absurd c21 (by omega)) (fun c21 => ?_)
          refine h_iconst (pc' := 17) (x := (Int32.ofInt (-1))) rfl rfl rfl ?_
          exact h_iret rfl rfl (kk _ _ ci_m1 _ hI F00 (by omega))
        · replace c20 := (h_lcr hz19).2.2.1 c20
          clear hz19
          refine h_iconst (pc' := 14) (x := (Int32.ofInt 1)) rfl rfl rfl ?_
          refine h_goto (pc' := 18) rfl rfl ?_
          refine h_zret rfl rfl ci_1 (by omega) (h_Kv ?_)
          refine h_zret rfl rfl ci_1 (by omega) (h_Kv ?_)
          refine h_zne (tg := 18) (pc' := 16) rfl rfl rfl ci_1 (fun c22 => ?_) (fun c22 => absurd c22 (by omega))
          refine h_aload_n (pc' := 19) rfl rfl rfl ?_
          refine h_iload_n (pc' := 20) rfl rfl rfl ?_
          refine h_call (sp := false) (pc' := 23) (M := [(0, .ref 98), (1, .int x0)]) rfl rfl rfl rfl rfl rfl rfl rfl ?_
          refine w_176_98 _ hI x0 _ hx0 (by omega) (fun r23 br23 hr23 s24 Is24 Gs24 => h_Kv ?_)
          have Fs24 := (Gs24.mono (B := kf_w_177_98) rfl).tr F00
          refine h_aload_n (pc' := 24) rfl rfl rfl ?_
          refine h_iload_n (pc' := 25) rfl rfl rfl ?_
          refine h_call (sp := false) (pc' := 28) (M := [(0, .ref 98), (1, .int x1)]) rfl rfl rfl rfl rfl rfl rfl rfl ?_
          refine w_176_98 _ Is24 x1 _ hx1 (by omega) (fun r25 br25 hr25 s26 Is26 Gs26 => h_Kv ?_)
          have Fs26 := (Gs26.mono (B := kf_w_177_98) rfl).tr Fs24
          refine h_iand (pc' := 29) rfl rfl (fun z27 hz27 uz27 vz27 => ?_)
          clear uz27
          clear vz27
          refine h_istore_n (pc' := 30) (M := [(3, .int z27), (0, .ref 98), (1, .int x0), (2, .int x1)]) rfl rfl rfl rfl ?_
          refine h_bipush (pc' := 32) (x := (Int32.ofInt (-4))) rfl rfl cb_m4 ?_
          refine h_istore (pc' := 34) (M := [(4, .int (Int32.ofInt (-4))), (3, .int z27), (0, .ref 98), (1, .int x0), (2, .int x1)]) rfl rfl rfl rfl ?_
          refine h_iconst (pc' := 35) (x := (Int32.ofInt 0)) rfl rfl rfl ?_
          refine h_istore (pc' := 37) (M := [(5, .int (Int32.ofInt 0)), (4, .int (Int32.ofInt (-4))), (3, .int z27), (0, .ref 98), (1, .int x0), (2, .int x1)]) rfl rfl rfl rfl ?_
          exact h_wk [(0, .ref 98), (1, .int x0), (2, .int x1), (3, .int z27), (4, .int (Int32.ofInt (-4))), (5, .int (Int32.ofInt 0))] ⟨rfl, rfl, rfl, rfl, rfl, rfl, trivial⟩ ((w_177_98_l ns σ hI x0 a0 hx0 x1 a1 hx1 kk 1000000000000) _ Is26 Fs26 z27 _ rfl (Int32.ofInt (-4)) _ ci_m4 (by omega) (Int32.ofInt 0) _ ci_0 (by omega) (by omega))
def kf_w_194_98 : List Nat := [100374, 100375, 101891, 108543]
theorem w_194_98 {ns : Nat} (σ : h_S) (hI : h_I σ) (x0 : Int32) (a0 : Int) (hx0 : x0.toInt = a0) {Q : Option Value → h_S → Prop} (kk : ∀ (r : Int32) (b : Int) (hb : r.toInt = b) (τ : h_S), h_I τ → h_F (k_in kf_w_194_98) τ σ → Q (some (.int r)) τ) : h_T g_P (g_Y ns) 194 0 [(0, .ref 98), (1, .int x0)] [] σ Q := by
  have F00 : h_F (k_in kf_w_194_98) σ σ := h_F.rf
  refine h_iload_n (pc' := 1) rfl rfl rfl ?_
  refine h_i2l (pc' := 2) rfl rfl hx0 (fun z1 hz1 => ?_)
  refine h_lconst (pc' := 3) (x := (Int64.ofInt 0)) rfl rfl rfl ?_
  refine h_ldc2 (pc' := 6) (x := (Int64.ofInt 3)) rfl rfl rfl ?_
  refine h_calls (pc' := 9) (M := [(0, .long z1), (2, .long (Int64.ofInt 0)), (4, .long (Int64.ofInt 3))]) rfl rfl rfl rfl rfl rfl ?_
  refine h_lload_n (pc' := 1) rfl rfl rfl ?_
  refine h_lload_n (pc' := 2) rfl rfl rfl ?_
  refine h_lcmp (pc' := 3) rfl rfl hz1 cl_0 (fun z2 hz2 => ?_)
  refine h_zlt (tg := 17) (pc' := 6) rfl rfl rfl rfl (fun c3 => ?_) (fun c3 => ?_)
  · replace c3 := (h_lcr hz2).1 c3
    clear hz2
    refine h_iconst (pc' := 18) (x := (Int32.ofInt 0)) rfl rfl rfl ?_
    refine h_zret rfl rfl ci_0 (by omega) (h_Kv ?_)
    refine h_zne (tg := 14) (pc' := 12) rfl rfl rfl ci_0 (fun c4 => absurd c4 (by omega)) (fun c4 => ?_)
    refine h_iconst (pc' := 13) (x := (Int32.ofInt (-1))) rfl rfl rfl ?_
    exact h_iret rfl rfl (kk _ _ ci_m1 _ hI F00)
  · replace c3 := (h_lcr hz2).2.1 c3
    clear hz2
    refine h_lload_n (pc' := 7) rfl rfl rfl ?_
    refine h_lload (pc' := 9) rfl rfl rfl ?_
    refine h_lcmp (pc' := 10) rfl rfl hz1 cl_3 (fun z5 hz5 => ?_)
    refine h_zgt (tg := 17) (pc' := 13) rfl rfl rfl rfl (fun c6 => ?_) (fun c6 => ?_)
    · replace c6 := (h_lcr hz5).2.2.2.1 c6
      clear hz5
      refine h_iconst (pc' := 18) (x := (Int32.ofInt 0)) rfl rfl rfl ?_
      refine h_zret rfl rfl ci_0 (by omega) (h_Kv ?_)
      refine h_zne (tg := 14) (pc' := 12) rfl rfl rfl ci_0 (fun c7 => absurd c7 (by omega)) (fun c7 => ?_)
      refine h_iconst (pc' := 13) (x := (Int32.ofInt (-1))) rfl rfl rfl ?_
      exact h_iret rfl rfl (kk _ _ ci_m1 _ hI F00)
    · replace c6 := (h_lcr hz5).2.2.1 c6
      clear hz5
      refine h_iconst (pc' := 14) (x := (Int32.ofInt 1)) rfl rfl rfl ?_
      refine h_goto (pc' := 18) rfl rfl ?_
      refine h_zret rfl rfl ci_1 (by omega) (h_Kv ?_)
      refine h_zne (tg := 14) (pc' := 12) rfl rfl rfl ci_1 (fun c8 => ?_) (fun c8 => absurd c8 (by omega))
      refine h_aload_n (pc' := 15) rfl rfl rfl ?_
      refine h_iconst (pc' := 16) (x := (Int32.ofInt 0)) rfl rfl rfl ?_
      refine h_iconst (pc' := 17) (x := (Int32.ofInt 0)) rfl rfl rfl ?_
      refine h_call (sp := false) (pc' := 20) (M := [(0, .ref 98), (1, .int (Int32.ofInt 0)), (2, .int (Int32.ofInt 0))]) rfl rfl rfl rfl rfl rfl rfl rfl ?_
      refine w_191_98 _ hI (Int32.ofInt 0) _ ci_0 (by omega) (Int32.ofInt 0) _ ci_0 (fun s10 Is10 Gs10 => h_Kn ?_)
      have Fs10 := (Gs10.mono (B := kf_w_194_98) rfl).tr F00
      refine h_iload_n (pc' := 21) rfl rfl rfl ?_
      refine h_zne (tg := 31) (pc' := 24) rfl rfl rfl hx0 (fun c11 => ?_) (fun c11 => ?_)
      · refine h_iload_n (pc' := 32) rfl rfl rfl ?_
        refine h_iconst (pc' := 33) (x := (Int32.ofInt 1)) rfl rfl rfl ?_
        refine h_cne (tg := 46) (pc' := 36) rfl rfl rfl hx0 ci_1 (fun c12 => ?_) (fun c12 => ?_)
        · refine h_iload_n (pc' := 47) rfl rfl rfl ?_
          refine h_iconst (pc' := 48) (x := (Int32.ofInt 2)) rfl rfl rfl ?_
          refine h_cne (tg := 58) (pc' := 51) rfl rfl rfl hx0 ci_2 (fun c13 => ?_) (fun c13 => ?_)
          · refine h_aload_n (pc' := 59) rfl rfl rfl ?_
            refine h_call (sp := false) (pc' := 62) (M := [(0, .ref 98)]) rfl rfl rfl rfl rfl rfl rfl rfl ?_
            refine w_193_98 _ Is10  (fun r14 br14 hr14 s15 Is15 Gs15 tr14 => h_Kv ?_)
            have Fs15 := (Gs15.mono (B := kf_w_194_98) rfl).tr Fs10
            exact h_iret rfl rfl (kk _ _ hr14 _ Is15 Fs15)
          · refine h_aload_n (pc' := 52) rfl rfl rfl ?_
            refine h_getI (pc' := 55) (v := s10 98 22) rfl rfl rfl rfl rfl rfl (fun z16 hz16 => ?_)
            have tz16 := tf_98_22 Is10
            refine h_goto (pc' := 62) rfl rfl ?_
            exact h_iret rfl rfl (kk _ _ hz16 _ Is10 Fs10)
        · refine h_aload_n (pc' := 37) rfl rfl rfl ?_
          refine h_getI (pc' := 40) (v := s10 98 23) rfl rfl rfl rfl rfl rfl (fun z17 hz17 => ?_)
          have tz17 := tf_98_23 Is10
          refine h_calls (pc' := 43) (M := [(0, .int z17)]) rfl rfl rfl rfl rfl rfl ?_
          refine w_192 _ Is10 z17 _ hz17 (fun r18 br18 hr18 s19 Is19 Gs19 => h_Kv ?_)
          have Fs19 := (Gs19.mono (B := kf_w_194_98) rfl).tr Fs10
          refine h_goto (pc' := 62) rfl rfl ?_
          exact h_iret rfl rfl (kk _ _ hr18 _ Is19 Fs19)
      · refine h_aload_n (pc' := 25) rfl rfl rfl ?_
        refine h_getI (pc' := 28) (v := s10 98 23) rfl rfl rfl rfl rfl rfl (fun z20 hz20 => ?_)
        have tz20 := tf_98_23 Is10
        refine h_goto (pc' := 62) rfl rfl ?_
        exact h_iret rfl rfl (kk _ _ hz20 _ Is10 Fs10)
def kf_w_195_98 : List Nat := [100374, 100375, 101891, 108543]
theorem w_195_98 {ns : Nat} (σ : h_S) (hI : h_I σ) (x0 : Int32) (a0 : Int) (hx0 : x0.toInt = a0) {Q : Option Value → h_S → Prop} (kk : ∀ (r : Int32) (b : Int) (hb : r.toInt = b) (τ : h_S), h_I τ → h_F (k_in kf_w_195_98) τ σ → ((-4) ≤ b ∧ b ≤ 5) → Q (some (.int r)) τ) : h_T g_P (g_Y ns) 195 0 [(0, .ref 98), (1, .int x0)] [] σ Q := by
  have F00 : h_F (k_in kf_w_195_98) σ σ := h_F.rf
  refine h_aload_n (pc' := 1) rfl rfl rfl ?_
  refine h_iload_n (pc' := 2) rfl rfl rfl ?_
  refine h_call (sp := false) (pc' := 5) (M := [(0, .ref 98), (1, .int x0)]) rfl rfl rfl rfl rfl rfl rfl rfl ?_
  refine h_iload_n (pc' := 1) rfl rfl rfl ?_
  refine h_i2l (pc' := 2) rfl rfl hx0 (fun z1 hz1 => ?_)
  refine h_lconst (pc' := 3) (x := (Int64.ofInt 0)) rfl rfl rfl ?_
  refine h_aload_n (pc' := 4) rfl rfl rfl ?_
  refine h_getI (pc' := 7) (v := σ 98 2) rfl rfl rfl rfl rfl rfl (fun z2 hz2 => ?_)
  have tz2 := tf_98_2 hI
  refine h_iconst (pc' := 8) (x := (Int32.ofInt 1)) rfl rfl rfl ?_
  refine h_isub (pc' := 9) rfl rfl hz2 ci_1 rfl (by omega) (by omega) (fun z3 hz3 => ?_)
  refine h_i2l (pc' := 10) rfl rfl hz3 (fun z4 hz4 => ?_)
  refine h_calls (pc' := 13) (M := [(0, .long z1), (2, .long (Int64.ofInt 0)), (4, .long z4)]) rfl rfl rfl rfl rfl rfl ?_
  refine h_lload_n (pc' := 1) rfl rfl rfl ?_
  refine h_lload_n (pc' := 2) rfl rfl rfl ?_
  refine h_lcmp (pc' := 3) rfl rfl hz1 cl_0 (fun z5 hz5 => ?_)
  refine h_zlt (tg := 17) (pc' := 6) rfl rfl rfl rfl (fun c6 => ?_) (fun c6 => ?_)
  · replace c6 := (h_lcr hz5).1 c6
    clear hz5
    refine h_iconst (pc' := 18) (x := (Int32.ofInt 0)) rfl rfl rfl ?_
    refine h_zret rfl rfl ci_0 (by omega) (h_Kv ?_)
    refine h_zret rfl rfl ci_0 (by omega) (h_Kv ?_)
    refine h_zne (tg := 10) (pc' := 8) rfl rfl rfl ci_0 (fun c7 => absurd c7 (by omega)) (fun c7 => ?_)
    refine h_iconst (pc' := 9) (x := (Int32.ofInt (-1))) rfl rfl rfl ?_
    exact h_iret rfl rfl (kk _ _ ci_m1 _ hI F00 (by omega))
  · replace c6 := (h_lcr hz5).2.1 c6
    clear hz5
    refine h_lload_n (pc' := 7) rfl rfl rfl ?_
    refine h_lload (pc' := 9) rfl rfl rfl ?_
    refine h_lcmp (pc' := 10) rfl rfl hz1 hz4 (fun z8 hz8 => ?_)
    refine h_zgt (tg := 17) (pc' := 13) rfl rfl rfl rfl (fun c9 => ?_) (fun c9 => ?_)
    · replace c9 := (h_lcr hz8).2.2.2.1 c9
      clear hz8
      refine h_iconst (pc' := 18) (x := (Int32.ofInt 0)) rfl rfl rfl ?_
      refine h_zret rfl rfl ci_0 (by omega) (h_Kv ?_)
      refine h_zret rfl rfl ci_0 (by omega) (h_Kv ?_)
      refine h_zne (tg := 10) (pc' := 8) rfl rfl rfl ci_0 (fun c10 => absurd c10 (by omega)) (fun c10 => ?_)
      refine h_iconst (pc' := 9) (x := (Int32.ofInt (-1))) rfl rfl rfl ?_
      exact h_iret rfl rfl (kk _ _ ci_m1 _ hI F00 (by omega))
    · replace c9 := (h_lcr hz8).2.2.1 c9
      clear hz8
      refine h_iconst (pc' := 14) (x := (Int32.ofInt 1)) rfl rfl rfl ?_
      refine h_goto (pc' := 18) rfl rfl ?_
      refine h_zret rfl rfl ci_1 (by omega) (h_Kv ?_)
      refine h_zret rfl rfl ci_1 (by omega) (h_Kv ?_)
      refine h_zne (tg := 10) (pc' := 8) rfl rfl rfl ci_1 (fun c11 => ?_) (fun c11 => absurd c11 (by omega))
      refine h_aload_n (pc' := 11) rfl rfl rfl ?_
      refine h_iconst (pc' := 12) (x := (Int32.ofInt 0)) rfl rfl rfl ?_
      refine h_iconst (pc' := 13) (x := (Int32.ofInt 0)) rfl rfl rfl ?_
      refine h_call (sp := false) (pc' := 16) (M := [(0, .ref 98), (1, .int (Int32.ofInt 0)), (2, .int (Int32.ofInt 0))]) rfl rfl rfl rfl rfl rfl rfl rfl ?_
      refine w_191_98 _ hI (Int32.ofInt 0) _ ci_0 (by omega) (Int32.ofInt 0) _ ci_0 (fun s13 Is13 Gs13 => h_Kn ?_)
      have Fs13 := (Gs13.mono (B := kf_w_195_98) rfl).tr F00
      refine h_aload_n (pc' := 17) rfl rfl rfl ?_
      refine h_getR (pc' := 20) rfl rfl rfl rfl rfl ?_
      refine h_sipush (pc' := 23) (x := (Int32.ofInt 161)) rfl rfl cs_161 ?_
      refine h_iload_n (pc' := 24) rfl rfl rfl ?_
      refine h_iadd (pc' := 25) rfl rfl ci_161 hx0 rfl (by have g0 := h_rgv hx0; omega) (by have g0 := h_rgv hx0; omega) (fun z14 hz14 => ?_)
      refine h_iald (pc' := 26) (v := s13 99 (161 + a0)) rfl rfl rfl hz14 (by omega) (by omega) rfl (fun z15 hz15 => ?_)
      have tz15 := ty_99_7 Is13 (161 + a0) (by omega)
      refine h_calls (pc' := 29) (M := [(0, .int z15)]) rfl rfl rfl rfl rfl rfl ?_
      refine h_iload_n (pc' := 1) rfl rfl rfl ?_
      refine h_zne (tg := 9) (pc' := 4) rfl rfl rfl hz15 (fun c16 => ?_) (fun c16 => ?_)
      · refine h_iload_n (pc' := 10) rfl rfl rfl ?_
        refine h_iconst (pc' := 11) (x := (Int32.ofInt 1)) rfl rfl rfl ?_
        refine h_isub (pc' := 12) rfl rfl hz15 ci_1 rfl (by omega) (by omega) (fun z17 hz17 => ?_)
        refine h_iret rfl rfl (h_Kv ?_)
        exact h_iret rfl rfl (kk _ _ hz17 _ Is13 Fs13 (by omega))
      · refine h_bipush (pc' := 6) (x := (Int32.ofInt (-4))) rfl rfl cb_m4 ?_
        refine h_goto (pc' := 12) rfl rfl ?_
        refine h_iret rfl rfl (h_Kv ?_)
        exact h_iret rfl rfl (kk _ _ ci_m4 _ Is13 Fs13 (by omega))
def kf_w_203_98 : List Nat := [108543]
theorem w_203_98_l (ns : Nat) (σ : h_S) (hI : h_I σ) {Q : Option Value → h_S → Prop} (kk : ∀ (r : Int32) (b : Int) (hb : r.toInt = b) (τ : h_S), h_I τ → h_F (k_in kf_w_203_98) τ σ → Q (some (.int r)) τ) : ∀ n : Nat, (∀ (s0 : h_S), h_I s0 → h_F (k_in kf_w_203_98) s0 σ → ∀ (y1 : Int32) (b1 : Int), y1.toInt = b1 → ∀ (y2 : Int32) (b2 : Int), y2.toInt = b2 → (0 ≤ b2 ∧ b2 ≤ 3) → (3 + 1 - b2) * 1000000 + 1000000000 ≤ (n : Int) → h_T g_P (g_Y ns) 203 9 [(0, .ref 98), (1, .int y1), (2, .int y2)] [] s0 Q) := by
  intro n
  induction n with
  | zero => exact by intro s0 I0 F0_ y1 b1 hy1 y2 b2 hy2 ry2 hm; exfalso; omega
  | succ n ih =>
    intro s0 I0 F0_ y1 b1 hy1 y2 b2 hy2 ry2 hm
    refine h_iload_n (pc' := 10) rfl rfl rfl ?_
    refine h_aload_n (pc' := 11) rfl rfl rfl ?_
    refine h_getI (pc' := 14) (v := σ 98 2) rfl rfl rfl rfl rfl (F0_ 98 2 rfl) (fun z1 hz1 => ?_)
    have tz1 := tf_98_2 hI
    refine h_cge (tg := 66) (pc' := 17) rfl rfl rfl hy2 hz1 (fun c2 => ?_) (fun c2 => ?_)
    · refine h_iload_n (pc' := 67) rfl rfl rfl ?_
      exact h_iret rfl rfl (kk _ _ hy1 _ I0 F0_)
    · refine h_aload_n (pc' := 18) rfl rfl rfl ?_
      refine h_getR (pc' := 21) rfl rfl rfl rfl rfl ?_
      refine h_bipush (pc' := 23) (x := (Int32.ofInt 26)) rfl rfl cb_26 ?_
      refine h_iload_n (pc' := 24) rfl rfl rfl ?_
      refine h_iadd (pc' := 25) rfl rfl ci_26 hy2 rfl (by omega) (by omega) (fun z3 hz3 => ?_)
      refine h_iald (pc' := 26) (v := σ 99 (26 + b2)) rfl rfl rfl hz3 (by omega) (by omega) (F0_ 99 _ rfl) (fun z4 hz4 => ?_)
      have tz4 := ty_99_6 hI (26 + b2) (by omega)
      refine h_istore_n (pc' := 27) (M := [(3, .int z4), (0, .ref 98), (1, .int y1), (2, .int y2)]) rfl rfl rfl rfl ?_
      refine h_iload_n (pc' := 28) rfl rfl rfl ?_
      refine h_aload_n (pc' := 29) rfl rfl rfl ?_
      refine h_iload_n (pc' := 30) rfl rfl rfl ?_
      refine h_iload_n (pc' := 31) rfl rfl rfl ?_
      refine h_iconst (pc' := 32) (x := (Int32.ofInt 1)) rfl rfl rfl ?_
      refine h_iadd (pc' := 33) rfl rfl hz4 ci_1 rfl (by omega) (by omega) (fun z5 hz5 => ?_)
      refine h_call (sp := false) (pc' := 36) (M := [(0, .ref 98), (1, .int y2), (2, .int z5)]) rfl rfl rfl rfl rfl rfl rfl rfl ?_
      refine w_169_98 _ I0 y2 _ hy2 (by omega) z5 _ hz5 (fun r6 br6 hr6 s7 Is7 Gs7 => h_Kv ?_)
      have Fs7 := (Gs7.mono (B := kf_w_203_98) rfl).tr F0_
      refine h_calls (pc' := 39) (M := [(0, .int r6)]) rfl rfl rfl rfl rfl rfl ?_
      refine w_192 _ Is7 r6 _ hr6 (fun r8 br8 hr8 s9 Is9 Gs9 => h_Kv ?_)
      have Fs9 := (Gs9.mono (B := kf_w_203_98) rfl).tr Fs7
      refine h_aload_n (pc' := 40) rfl rfl rfl ?_
      refine h_iload_n (pc' := 41) rfl rfl rfl ?_
      refine h_iload_n (pc' := 42) rfl rfl rfl ?_
      refine h_call (sp := false) (pc' := 45) (M := [(0, .ref 98), (1, .int y2), (2, .int z4)]) rfl rfl rfl rfl rfl rfl rfl rfl ?_
      refine w_169_98 _ Is9 y2 _ hy2 (by omega) z4 _ hz4 (fun r10 br10 hr10 s11 Is11 Gs11 => h_Kv ?_)
      have Fs11 := (Gs11.mono (B := kf_w_203_98) rfl).tr Fs9
      refine h_calls (pc' := 48) (M := [(0, .int r10)]) rfl rfl rfl rfl rfl rfl ?_
      refine w_192 _ Is11 r10 _ hr10 (fun r12 br12 hr12 s13 Is13 Gs13 => h_Kv ?_)
      have Fs13 := (Gs13.mono (B := kf_w_203_98) rfl).tr Fs11
      refine h_cle (tg := 57) (pc' := 51) rfl rfl rfl hr8 hr12 (fun c14 => ?_) (fun c14 => ?_)
      · refine h_iconst (pc' := 58) (x := (Int32.ofInt 0)) rfl rfl rfl ?_
        refine h_ior (pc' := 59) rfl rfl (fun z15 hz15 => ?_)
        refine h_istore_n (pc' := 60) (M := [(1, .int z15), (3, .int z4), (0, .ref 98), (2, .int y2)]) rfl rfl rfl rfl ?_
        refine h_iinc (pc' := 63) (M := fun z16 => [(2, .int z16), (1, .int z15), (3, .int z4), (0, .ref 98)]) rfl rfl rfl rfl hy2 ci_1 rfl (by omega) (by omega) (fun _ => rfl) (fun z16 hz16 => ?_)
        refine h_goto (pc' := 9) rfl rfl ?_
        exact h_wk [(0, .ref 98), (1, .int z15), (2, .int z16)] ⟨rfl, rfl, rfl, trivial⟩ (ih _ Is13 Fs13 z15 _ rfl z16 _ hz16 (by omega) (by omega))
      · refine h_iconst (pc' := 52) (x := (Int32.ofInt 1)) rfl rfl rfl ?_
        refine h_iload_n (pc' := 53) rfl rfl rfl ?_
        refine h_shl1 (pc' := 54) rfl rfl ci_1 hy2 (by omega) (by omega) (fun z17 hz17 vz17 => ?_)
        refine h_goto (pc' := 58) rfl rfl ?_
        refine h_ior (pc' := 59) rfl rfl (fun z18 hz18 => ?_)
        refine h_istore_n (pc' := 60) (M := [(1, .int z18), (3, .int z4), (0, .ref 98), (2, .int y2)]) rfl rfl rfl rfl ?_
        refine h_iinc (pc' := 63) (M := fun z19 => [(2, .int z19), (1, .int z18), (3, .int z4), (0, .ref 98)]) rfl rfl rfl rfl hy2 ci_1 rfl (by omega) (by omega) (fun _ => rfl) (fun z19 hz19 => ?_)
        refine h_goto (pc' := 9) rfl rfl ?_
        exact h_wk [(0, .ref 98), (1, .int z18), (2, .int z19)] ⟨rfl, rfl, rfl, trivial⟩ (ih _ Is13 Fs13 z18 _ rfl z19 _ hz19 (by omega) (by omega))
theorem w_203_98 {ns : Nat} (σ : h_S) (hI : h_I σ) {Q : Option Value → h_S → Prop} (kk : ∀ (r : Int32) (b : Int) (hb : r.toInt = b) (τ : h_S), h_I τ → h_F (k_in kf_w_203_98) τ σ → Q (some (.int r)) τ) : h_T g_P (g_Y ns) 203 0 [(0, .ref 98)] [] σ Q := by
  have F00 : h_F (k_in kf_w_203_98) σ σ := h_F.rf
  refine h_aload_n (pc' := 1) rfl rfl rfl ?_
  refine h_iconst (pc' := 2) (x := (Int32.ofInt 0)) rfl rfl rfl ?_
  refine h_call (sp := false) (pc' := 5) (M := [(0, .ref 98), (1, .int (Int32.ofInt 0))]) rfl rfl rfl rfl rfl rfl rfl rfl ?_
  refine w_162_98 _ hI (Int32.ofInt 0) _ ci_0 (by omega) (fun s2 Is2 Gs2 => h_Kn ?_)
  have Fs2 := (Gs2.mono (B := kf_w_203_98) rfl).tr F00
  refine h_iconst (pc' := 6) (x := (Int32.ofInt 0)) rfl rfl rfl ?_
  refine h_istore_n (pc' := 7) (M := [(1, .int (Int32.ofInt 0)), (0, .ref 98)]) rfl rfl rfl rfl ?_
  refine h_iconst (pc' := 8) (x := (Int32.ofInt 0)) rfl rfl rfl ?_
  refine h_istore_n (pc' := 9) (M := [(2, .int (Int32.ofInt 0)), (1, .int (Int32.ofInt 0)), (0, .ref 98)]) rfl rfl rfl rfl ?_
  exact h_wk [(0, .ref 98), (1, .int (Int32.ofInt 0)), (2, .int (Int32.ofInt 0))] ⟨rfl, rfl, rfl, trivial⟩ ((w_203_98_l ns σ hI  kk 1000000000000) _ Is2 Fs2 (Int32.ofInt 0) _ ci_0 (Int32.ofInt 0) _ ci_0 (by omega) (by omega))
def kf_w_204_98 : List Nat := [108543]
theorem w_204_98_l (ns : Nat) (σ : h_S) (hI : h_I σ) (x0 : Int32) (a0 : Int) (hx0 : x0.toInt = a0) {Q : Option Value → h_S → Prop} (kk : ∀ (r : Int32) (b : Int) (hb : r.toInt = b) (τ : h_S), h_I τ → h_F (k_in kf_w_204_98) τ σ → ((-4) ≤ b ∧ b ≤ 1000000) → Q (some (.int r)) τ) : ∀ n : Nat, (∀ (s0 : h_S), h_I s0 → h_F (k_in kf_w_204_98) s0 σ → ∀ (y2 : Int32) (b2 : Int), y2.toInt = b2 → ((-4) ≤ b2 ∧ b2 ≤ 63) → ∀ (y3 : Int32) (b3 : Int), y3.toInt = b3 → ((-1) ≤ b3 ∧ b3 ≤ 1000000) → ∀ (y4 : Int32) (b4 : Int), y4.toInt = b4 → (0 ≤ b4 ∧ b4 ≤ 6) → (6 + 1 - b4) * 1000000 + 1000000000 ≤ (n : Int) → h_T g_P (g_Y ns) 204 25 [(0, .ref 98), (1, .int x0), (2, .int y2), (3, .int y3), (4, .int y4)] [] s0 Q) ∧ (∀ (s0 : h_S), h_I s0 → h_F (k_in kf_w_204_98) s0 σ → ∀ (y2 : Int32) (b2 : Int), y2.toInt = b2 → ((-4) ≤ b2 ∧ b2 ≤ 63) → ∀ (y3 : Int32) (b3 : Int), y3.toInt = b3 → ((-1) ≤ b3 ∧ b3 ≤ 1000000) → ∀ (y4 : Int32) (b4 : Int), y4.toInt = b4 → (0 ≤ b4 ∧ b4 ≤ 5) → ∀ (y5 : Int32) (b5 : Int), y5.toInt = b5 → (1 ≤ b5 ∧ b5 ≤ 6) → ((6 + 1 - b4) - 1) * 1000000 + 1000000000 + (6 + 1 - b5) * 1000 + 100000 ≤ (n : Int) → h_T g_P (g_Y ns) 204 40 [(0, .ref 98), (1, .int x0), (2, .int y2), (3, .int y3), (4, .int y4), (5, .int y5)] [] s0 Q) := by
  intro n
  induction n with
  | zero => exact ⟨by intro s0 I0 F0_ y2 b2 hy2 ry2 y3 b3 hy3 ry3 y4 b4 hy4 ry4 hm; exfalso; omega, by intro s0 I0 F0_ y2 b2 hy2 ry2 y3 b3 hy3 ry3 y4 b4 hy4 ry4 y5 b5 hy5 ry5 hm; exfalso; omega⟩
  | succ n ih =>
    refine ⟨?_, ?_⟩
    · intro s0 I0 F0_ y2 b2 hy2 ry2 y3 b3 hy3 ry3 y4 b4 hy4 ry4 hm
      refine h_iload (pc' := 27) rfl rfl rfl ?_
      refine h_aload_n (pc' := 28) rfl rfl rfl ?_
      refine h_getI (pc' := 31) (v := σ 98 1) rfl rfl rfl rfl rfl (F0_ 98 1 rfl) (fun z1 hz1 => ?_)
      have tz1 := tf_98_1 hI
      refine h_cge (tg := 122) (pc' := 34) rfl rfl rfl hy4 hz1 (fun c2 => ?_) (fun c2 => ?_)
      · refine h_iload_n (pc' := 123) rfl rfl rfl ?_
        refine h_bipush (pc' := 125) (x := (Int32.ofInt (-4))) rfl rfl cb_m4 ?_
        refine h_ceq (tg := 132) (pc' := 128) rfl rfl rfl hy2 ci_m4 (fun c3 => ?_) (fun c3 => ?_)
        · refine h_iload_n (pc' := 133) rfl rfl rfl ?_
          refine h_goto (pc' := 137) rfl rfl ?_
          exact h_iret rfl rfl (kk _ _ hy2 _ I0 F0_ (by omega))
        · refine h_iload_n (pc' := 129) rfl rfl rfl ?_
          refine h_zne (tg := 136) (pc' := 132) rfl rfl rfl hx0 (fun c4 => ?_) (fun c4 => ?_)
          · refine h_iload_n (pc' := 137) rfl rfl rfl ?_
            exact h_iret rfl rfl (kk _ _ hy3 _ I0 F0_ (by omega))
          · refine h_iload_n (pc' := 133) rfl rfl rfl ?_
            refine h_goto (pc' := 137) rfl rfl ?_
            exact h_iret rfl rfl (kk _ _ hy2 _ I0 F0_ (by omega))
      · refine h_iload (pc' := 36) rfl rfl rfl ?_
        refine h_iconst (pc' := 37) (x := (Int32.ofInt 1)) rfl rfl rfl ?_
        refine h_iadd (pc' := 38) rfl rfl hy4 ci_1 rfl (by omega) (by omega) (fun z5 hz5 => ?_)
        refine h_istore (pc' := 40) (M := [(5, .int z5), (0, .ref 98), (1, .int x0), (2, .int y2), (3, .int y3), (4, .int y4)]) rfl rfl rfl rfl ?_
        exact h_wk [(0, .ref 98), (1, .int x0), (2, .int y2), (3, .int y3), (4, .int y4), (5, .int z5)] ⟨rfl, rfl, rfl, rfl, rfl, rfl, trivial⟩ (ih.2 _ I0 F0_ y2 _ hy2 (by omega) y3 _ hy3 (by omega) y4 _ hy4 (by omega) z5 _ hz5 (by omega) (by omega))
    · intro s0 I0 F0_ y2 b2 hy2 ry2 y3 b3 hy3 ry3 y4 b4 hy4 ry4 y5 b5 hy5 ry5 hm
      refine h_iload (pc' := 42) rfl rfl rfl ?_
      refine h_aload_n (pc' := 43) rfl rfl rfl ?_
      refine h_getI (pc' := 46) (v := σ 98 1) rfl rfl rfl rfl rfl (F0_ 98 1 rfl) (fun z1 hz1 => ?_)
      have tz1 := tf_98_1 hI
      refine h_cge (tg := 116) (pc' := 49) rfl rfl rfl hy5 hz1 (fun c2 => ?_) (fun c2 => ?_)
      · refine h_iinc (pc' := 119) (M := fun z3 => [(4, .int z3), (0, .ref 98), (1, .int x0), (2, .int y2), (3, .int y3), (5, .int y5)]) rfl rfl rfl rfl hy4 ci_1 rfl (by omega) (by omega) (fun _ => rfl) (fun z3 hz3 => ?_)
        refine h_goto (pc' := 25) rfl rfl ?_
        exact h_wk [(0, .ref 98), (1, .int x0), (2, .int y2), (3, .int y3), (4, .int z3)] ⟨rfl, rfl, rfl, rfl, rfl, trivial⟩ (ih.1 _ I0 F0_ y2 _ hy2 (by omega) y3 _ hy3 (by omega) z3 _ hz3 (by omega) (by omega))
      · refine h_aload_n (pc' := 50) rfl rfl rfl ?_
        refine h_getR (pc' := 53) rfl rfl rfl rfl rfl ?_
        refine h_bipush (pc' := 55) (x := (Int32.ofInt 6)) rfl rfl cb_6 ?_
        refine h_iload (pc' := 57) rfl rfl rfl ?_
        refine h_imul (pc' := 58) rfl rfl ci_6 hy4 rfl (by omega) (by omega) (fun z4 hz4 => ?_)
        refine h_iload (pc' := 60) rfl rfl rfl ?_
        refine h_iadd (pc' := 61) rfl rfl hz4 hy5 rfl (by omega) (by omega) (fun z5 hz5 => ?_)
        refine h_iald (pc' := 62) (v := s0 105 ((6 * b4) + b5)) rfl rfl rfl hz5 (by omega) (by omega) rfl (fun z6 hz6 => ?_)
        have tz6 := ty_105 I0 ((6 * b4) + b5)
        refine h_istore (pc' := 64) (M := [(6, .int z6), (0, .ref 98), (1, .int x0), (2, .int y2), (3, .int y3), (4, .int y4), (5, .int y5)]) rfl rfl rfl rfl ?_
        refine h_iload (pc' := 66) rfl rfl rfl ?_
        refine h_ldc (pc' := 68) (x := (Int32.ofInt 1000000)) rfl rfl rfl ?_
        refine h_cge (tg := 88) (pc' := 71) rfl rfl rfl hz6 ci_1000000 (fun c7 => ?_) (fun c7 => ?_)
        · refine h_iload_n (pc' := 89) rfl rfl rfl ?_
          refine h_istore_n (pc' := 90) (M := [(2, .int y2), (6, .int z6), (0, .ref 98), (1, .int x0), (3, .int y3), (4, .int y4), (5, .int y5)]) rfl rfl rfl rfl ?_
          refine h_iload (pc' := 92) rfl rfl rfl ?_
          refine h_ldc (pc' := 94) (x := (Int32.ofInt 1000000)) rfl rfl rfl ?_
          refine h_cge (tg := 108) (pc' := 97) rfl rfl rfl hz6 ci_1000000 (fun c8 => ?_) (fun c8 => absurd c8 (by omega))
          refine h_iload_n (pc' := 109) rfl rfl rfl ?_
          refine h_istore_n (pc' := 110) (M := [(3, .int y3), (2, .int y2), (6, .int z6), (0, .ref 98), (1, .int x0), (4, .int y4), (5, .int y5)]) rfl rfl rfl rfl ?_
          refine h_iinc (pc' := 113) (M := fun z9 => [(5, .int z9), (3, .int y3), (2, .int y2), (6, .int z6), (0, .ref 98), (1, .int x0), (4, .int y4)]) rfl rfl rfl rfl hy5 ci_1 rfl (by omega) (by omega) (fun _ => rfl) (fun z9 hz9 => ?_)
          refine h_goto (pc' := 40) rfl rfl ?_
          exact h_wk [(0, .ref 98), (1, .int x0), (2, .int y2), (3, .int y3), (4, .int y4), (5, .int z9)] ⟨rfl, rfl, rfl, rfl, rfl, rfl, trivial⟩ (ih.2 _ I0 F0_ y2 _ hy2 (by omega) y3 _ hy3 (by omega) y4 _ hy4 (by omega) z9 _ hz9 (by omega) (by omega))
        · refine h_iload (pc' := 73) rfl rfl rfl ?_
          refine h_iload_n (pc' := 74) rfl rfl rfl ?_
          refine h_cle (tg := 88) (pc' := 77) rfl rfl rfl hz6 hy3 (fun c10 => ?_) (fun c10 => ?_)
          · refine h_iload_n (pc' := 89) rfl rfl rfl ?_
            refine h_istore_n (pc' := 90) (M := [(2, .int y2), (6, .int z6), (0, .ref 98), (1, .int x0), (3, .int y3), (4, .int y4), (5, .int y5)]) rfl rfl rfl rfl ?_
            refine h_iload (pc' := 92) rfl rfl rfl ?_
            refine h_ldc (pc' := 94) (x := (Int32.ofInt 1000000)) rfl rfl rfl ?_
            refine h_cge (tg := 108) (pc' := 97) rfl rfl rfl hz6 ci_1000000 (fun c11 => absurd c11 (by omega)) (fun c11 => ?_)
            refine h_iload (pc' := 99) rfl rfl rfl ?_
            refine h_iload_n (pc' := 100) rfl rfl rfl ?_
            refine h_cle (tg := 108) (pc' := 103) rfl rfl rfl hz6 hy3 (fun c12 => ?_) (fun c12 => ?_)
            · refine h_iload_n (pc' := 109) rfl rfl rfl ?_
              refine h_istore_n (pc' := 110) (M := [(3, .int y3), (2, .int y2), (6, .int z6), (0, .ref 98), (1, .int x0), (4, .int y4), (5, .int y5)]) rfl rfl rfl rfl ?_
              refine h_iinc (pc' := 113) (M := fun z13 => [(5, .int z13), (3, .int y3), (2, .int y2), (6, .int z6), (0, .ref 98), (1, .int x0), (4, .int y4)]) rfl rfl rfl rfl hy5 ci_1 rfl (by omega) (by omega) (fun _ => rfl) (fun z13 hz13 => ?_)
              refine h_goto (pc' := 40) rfl rfl ?_
              exact h_wk [(0, .ref 98), (1, .int x0), (2, .int y2), (3, .int y3), (4, .int y4), (5, .int z13)] ⟨rfl, rfl, rfl, rfl, rfl, rfl, trivial⟩ (ih.2 _ I0 F0_ y2 _ hy2 (by omega) y3 _ hy3 (by omega) y4 _ hy4 (by omega) z13 _ hz13 (by omega) (by omega))
            · refine h_iload (pc' := 105) rfl rfl rfl ?_
              refine h_goto (pc' := 109) rfl rfl ?_
              refine h_istore_n (pc' := 110) (M := [(3, .int z6), (2, .int y2), (6, .int z6), (0, .ref 98), (1, .int x0), (4, .int y4), (5, .int y5)]) rfl rfl rfl rfl ?_
              refine h_iinc (pc' := 113) (M := fun z14 => [(5, .int z14), (3, .int z6), (2, .int y2), (6, .int z6), (0, .ref 98), (1, .int x0), (4, .int y4)]) rfl rfl rfl rfl hy5 ci_1 rfl (by omega) (by omega) (fun _ => rfl) (fun z14 hz14 => ?_)
              refine h_goto (pc' := 40) rfl rfl ?_
              exact h_wk [(0, .ref 98), (1, .int x0), (2, .int y2), (3, .int z6), (4, .int y4), (5, .int z14)] ⟨rfl, rfl, rfl, rfl, rfl, rfl, trivial⟩ (ih.2 _ I0 F0_ y2 _ hy2 (by omega) z6 _ hz6 (by omega) y4 _ hy4 (by omega) z14 _ hz14 (by omega) (by omega))
          · refine h_bipush (pc' := 79) (x := (Int32.ofInt 10)) rfl rfl cb_10 ?_
            refine h_iload (pc' := 81) rfl rfl rfl ?_
            refine h_imul (pc' := 82) rfl rfl ci_10 hy4 rfl (by omega) (by omega) (fun z15 hz15 => ?_)
            refine h_iload (pc' := 84) rfl rfl rfl ?_
            refine h_iadd (pc' := 85) rfl rfl hz15 hy5 rfl (by omega) (by omega) (fun z16 hz16 => ?_)
            refine h_goto (pc' := 89) rfl rfl ?_
            refine h_istore_n (pc' := 90) (M := [(2, .int z16), (6, .int z6), (0, .ref 98), (1, .int x0), (3, .int y3), (4, .int y4), (5, .int y5)]) rfl rfl rfl rfl ?_
            refine h_iload (pc' := 92) rfl rfl rfl ?_
            refine h_ldc (pc' := 94) (x := (Int32.ofInt 1000000)) rfl rfl rfl ?_
            refine h_cge (tg := 108) (pc' := 97) rfl rfl rfl hz6 ci_1000000 (fun c17 => absurd c17 (by omega)) (fun c17 => ?_)
            refine h_iload (pc' := 99) rfl rfl rfl ?_
            refine h_iload_n (pc' := 100) rfl rfl rfl ?_
            refine h_cle (tg := 108) (pc' := 103) rfl rfl rfl hz6 hy3 (fun c18 => ?_) (fun c18 => ?_)
            · refine h_iload_n (pc' := 109) rfl rfl rfl ?_
              refine h_istore_n (pc' := 110) (M := [(3, .int y3), (2, .int z16), (6, .int z6), (0, .ref 98), (1, .int x0), (4, .int y4), (5, .int y5)]) rfl rfl rfl rfl ?_
              refine h_iinc (pc' := 113) (M := fun z19 => [(5, .int z19), (3, .int y3), (2, .int z16), (6, .int z6), (0, .ref 98), (1, .int x0), (4, .int y4)]) rfl rfl rfl rfl hy5 ci_1 rfl (by omega) (by omega) (fun _ => rfl) (fun z19 hz19 => ?_)
              refine h_goto (pc' := 40) rfl rfl ?_
              exact h_wk [(0, .ref 98), (1, .int x0), (2, .int z16), (3, .int y3), (4, .int y4), (5, .int z19)] ⟨rfl, rfl, rfl, rfl, rfl, rfl, trivial⟩ (ih.2 _ I0 F0_ z16 _ hz16 (by omega) y3 _ hy3 (by omega) y4 _ hy4 (by omega) z19 _ hz19 (by omega) (by omega))
            · refine h_iload (pc' := 105) rfl rfl rfl ?_
              refine h_goto (pc' := 109) rfl rfl ?_
              refine h_istore_n (pc' := 110) (M := [(3, .int z6), (2, .int z16), (6, .int z6), (0, .ref 98), (1, .int x0), (4, .int y4), (5, .int y5)]) rfl rfl rfl rfl ?_
              refine h_iinc (pc' := 113) (M := fun z20 => [(5, .int z20), (3, .int z6), (2, .int z16), (6, .int z6), (0, .ref 98), (1, .int x0), (4, .int y4)]) rfl rfl rfl rfl hy5 ci_1 rfl (by omega) (by omega) (fun _ => rfl) (fun z20 hz20 => ?_)
              refine h_goto (pc' := 40) rfl rfl ?_
              exact h_wk [(0, .ref 98), (1, .int x0), (2, .int z16), (3, .int z6), (4, .int y4), (5, .int z20)] ⟨rfl, rfl, rfl, rfl, rfl, rfl, trivial⟩ (ih.2 _ I0 F0_ z16 _ hz16 (by omega) z6 _ hz6 (by omega) y4 _ hy4 (by omega) z20 _ hz20 (by omega) (by omega))
theorem w_204_98 {ns : Nat} (σ : h_S) (hI : h_I σ) (x0 : Int32) (a0 : Int) (hx0 : x0.toInt = a0) {Q : Option Value → h_S → Prop} (kk : ∀ (r : Int32) (b : Int) (hb : r.toInt = b) (τ : h_S), h_I τ → h_F (k_in kf_w_204_98) τ σ → ((-4) ≤ b ∧ b ≤ 1000000) → Q (some (.int r)) τ) : h_T g_P (g_Y ns) 204 0 [(0, .ref 98), (1, .int x0)] [] σ Q := by
  have F00 : h_F (k_in kf_w_204_98) σ σ := h_F.rf
  refine h_iload_n (pc' := 1) rfl rfl rfl ?_
  refine h_i2l (pc' := 2) rfl rfl hx0 (fun z1 hz1 => ?_)
  refine h_lconst (pc' := 3) (x := (Int64.ofInt 0)) rfl rfl rfl ?_
  refine h_lconst (pc' := 4) (x := (Int64.ofInt 1)) rfl rfl rfl ?_
  refine h_calls (pc' := 7) (M := [(0, .long z1), (2, .long (Int64.ofInt 0)), (4, .long (Int64.ofInt 1))]) rfl rfl rfl rfl rfl rfl ?_
  refine h_lload_n (pc' := 1) rfl rfl rfl ?_
  refine h_lload_n (pc' := 2) rfl rfl rfl ?_
  refine h_lcmp (pc' := 3) rfl rfl hz1 cl_0 (fun z2 hz2 => ?_)
  refine h_zlt (tg := 17) (pc' := 6) rfl rfl rfl rfl (fun c3 => ?_) (fun c3 => ?_)
  · replace c3 := (h_lcr hz2).1 c3
    clear hz2
    refine h_iconst (pc' := 18) (x := (Int32.ofInt 0)) rfl rfl rfl ?_
    refine h_zret rfl rfl ci_0 (by omega) (h_Kv ?_)
    refine h_zne (tg := 12) (pc' := 10) rfl rfl rfl ci_0 (fun c4 => absurd c4 (by omega)) (fun c4 => ?_)
    refine h_iconst (pc' := 11) (x := (Int32.ofInt (-1))) rfl rfl rfl ?_
    exact h_iret rfl rfl (kk _ _ ci_m1 _ hI F00 (by omega))
  · replace c3 := (h_lcr hz2).2.1 c3
    clear hz2
    refine h_lload_n (pc' := 7) rfl rfl rfl ?_
    refine h_lload (pc' := 9) rfl rfl rfl ?_
    refine h_lcmp (pc' := 10) rfl rfl hz1 cl_1 (fun z5 hz5 => ?_)
    refine h_zgt (tg := 17) (pc' := 13) rfl rfl rfl rfl (fun c6 => ?_) (fun c6 => ?_)
    · replace c6 := (h_lcr hz5).2.2.2.1 c6
      clear hz5
      refine h_iconst (pc' := 18) (x := (Int32.ofInt 0)) rfl rfl rfl ?_
      refine h_zret rfl rfl ci_0 (by omega) (h_Kv ?_)
      refine h_zne (tg := 12) (pc' := 10) rfl rfl rfl ci_0 (fun c7 => absurd c7 (by omega)) (fun c7 => ?_)
      refine h_iconst (pc' := 11) (x := (Int32.ofInt (-1))) rfl rfl rfl ?_
      exact h_iret rfl rfl (kk _ _ ci_m1 _ hI F00 (by omega))
    · replace c6 := (h_lcr hz5).2.2.1 c6
      clear hz5
      refine h_iconst (pc' := 14) (x := (Int32.ofInt 1)) rfl rfl rfl ?_
      refine h_goto (pc' := 18) rfl rfl ?_
      refine h_zret rfl rfl ci_1 (by omega) (h_Kv ?_)
      refine h_zne (tg := 12) (pc' := 10) rfl rfl rfl ci_1 (fun c8 => ?_) (fun c8 => absurd c8 (by omega))
      refine h_aload_n (pc' := 13) rfl rfl rfl ?_
      refine h_iconst (pc' := 14) (x := (Int32.ofInt 0)) rfl rfl rfl ?_
      refine h_call (sp := false) (pc' := 17) (M := [(0, .ref 98), (1, .int (Int32.ofInt 0))]) rfl rfl rfl rfl rfl rfl rfl rfl ?_
      refine w_162_98 _ hI (Int32.ofInt 0) _ ci_0 (by omega) (fun s10 Is10 Gs10 => h_Kn ?_)
      have Fs10 := (Gs10.mono (B := kf_w_204_98) rfl).tr F00
      refine h_bipush (pc' := 19) (x := (Int32.ofInt (-4))) rfl rfl cb_m4 ?_
      refine h_istore_n (pc' := 20) (M := [(2, .int (Int32.ofInt (-4))), (0, .ref 98), (1, .int x0)]) rfl rfl rfl rfl ?_
      refine h_iconst (pc' := 21) (x := (Int32.ofInt (-1))) rfl rfl rfl ?_
      refine h_istore_n (pc' := 22) (M := [(3, .int (Int32.ofInt (-1))), (2, .int (Int32.ofInt (-4))), (0, .ref 98), (1, .int x0)]) rfl rfl rfl rfl ?_
      refine h_iconst (pc' := 23) (x := (Int32.ofInt 0)) rfl rfl rfl ?_
      refine h_istore (pc' := 25) (M := [(4, .int (Int32.ofInt 0)), (3, .int (Int32.ofInt (-1))), (2, .int (Int32.ofInt (-4))), (0, .ref 98), (1, .int x0)]) rfl rfl rfl rfl ?_
      exact h_wk [(0, .ref 98), (1, .int x0), (2, .int (Int32.ofInt (-4))), (3, .int (Int32.ofInt (-1))), (4, .int (Int32.ofInt 0))] ⟨rfl, rfl, rfl, rfl, rfl, trivial⟩ ((w_204_98_l ns σ hI x0 a0 hx0 kk 1000000000000).1 _ Is10 Fs10 (Int32.ofInt (-4)) _ ci_m4 (by omega) (Int32.ofInt (-1)) _ ci_m1 (by omega) (Int32.ofInt 0) _ ci_0 (by omega) (by omega))
def kf_w_213_98 : List Nat := [100374, 100375, 101891, 101892, 108543, 112639]
theorem w_213_98 {ns : Nat} (σ : h_S) (hI : h_I σ) (x0 : Int32) (a0 : Int) (hx0 : x0.toInt = a0) {Q : Option Value → h_S → Prop} (kk : ∀ (r : Int32) (b : Int) (hb : r.toInt = b) (τ : h_S), h_I τ → h_F (k_in kf_w_213_98) τ σ → Q (some (.int r)) τ) : h_T g_P (g_Y ns) 213 0 [(0, .ref 98), (1, .int x0)] [] σ Q := by
  have F00 : h_F (k_in kf_w_213_98) σ σ := h_F.rf
  refine h_aload_n (pc' := 1) rfl rfl rfl ?_
  refine h_iload_n (pc' := 2) rfl rfl rfl ?_
  refine h_call (sp := false) (pc' := 5) (M := [(0, .ref 98), (1, .int x0)]) rfl rfl rfl rfl rfl rfl rfl rfl ?_
  refine h_iload_n (pc' := 1) rfl rfl rfl ?_
  refine h_i2l (pc' := 2) rfl rfl hx0 (fun z1 hz1 => ?_)
  refine h_lconst (pc' := 3) (x := (Int64.ofInt 0)) rfl rfl rfl ?_
  refine h_aload_n (pc' := 4) rfl rfl rfl ?_
  refine h_getI (pc' := 7) (v := σ 98 1) rfl rfl rfl rfl rfl rfl (fun z2 hz2 => ?_)
  have tz2 := tf_98_1 hI
  refine h_iconst (pc' := 8) (x := (Int32.ofInt 1)) rfl rfl rfl ?_
  refine h_isub (pc' := 9) rfl rfl hz2 ci_1 rfl (by omega) (by omega) (fun z3 hz3 => ?_)
  refine h_i2l (pc' := 10) rfl rfl hz3 (fun z4 hz4 => ?_)
  refine h_calls (pc' := 13) (M := [(0, .long z1), (2, .long (Int64.ofInt 0)), (4, .long z4)]) rfl rfl rfl rfl rfl rfl ?_
  refine h_lload_n (pc' := 1) rfl rfl rfl ?_
  refine h_lload_n (pc' := 2) rfl rfl rfl ?_
  refine h_lcmp (pc' := 3) rfl rfl hz1 cl_0 (fun z5 hz5 => ?_)
  refine h_zlt (tg := 17) (pc' := 6) rfl rfl rfl rfl (fun c6 => ?_) (fun c6 => ?_)
  · replace c6 := (h_lcr hz5).1 c6
    clear hz5
    refine h_iconst (pc' := 18) (x := (Int32.ofInt 0)) rfl rfl rfl ?_
    refine h_zret rfl rfl ci_0 (by omega) (h_Kv ?_)
    refine h_zret rfl rfl ci_0 (by omega) (h_Kv ?_)
    refine h_zeq (tg := 16) (pc' := 8) rfl rfl rfl ci_0 (fun c7 => ?_) (fun c7 => absurd c7 (by omega))
    refine h_iconst (pc' := 17) (x := (Int32.ofInt (-1))) rfl rfl rfl ?_
    exact h_iret rfl rfl (kk _ _ ci_m1 _ hI F00)
  · replace c6 := (h_lcr hz5).2.1 c6
    clear hz5
    refine h_lload_n (pc' := 7) rfl rfl rfl ?_
    refine h_lload (pc' := 9) rfl rfl rfl ?_
    refine h_lcmp (pc' := 10) rfl rfl hz1 hz4 (fun z8 hz8 => ?_)
    refine h_zgt (tg := 17) (pc' := 13) rfl rfl rfl rfl (fun c9 => ?_) (fun c9 => ?_)
    · replace c9 := (h_lcr hz8).2.2.2.1 c9
      clear hz8
      refine h_iconst (pc' := 18) (x := (Int32.ofInt 0)) rfl rfl rfl ?_
      refine h_zret rfl rfl ci_0 (by omega) (h_Kv ?_)
      refine h_zret rfl rfl ci_0 (by omega) (h_Kv ?_)
      refine h_zeq (tg := 16) (pc' := 8) rfl rfl rfl ci_0 (fun c10 => ?_) (fun c10 => absurd c10 (by omega))
      refine h_iconst (pc' := 17) (x := (Int32.ofInt (-1))) rfl rfl rfl ?_
      exact h_iret rfl rfl (kk _ _ ci_m1 _ hI F00)
    · replace c9 := (h_lcr hz8).2.2.1 c9
      clear hz8
      refine h_iconst (pc' := 14) (x := (Int32.ofInt 1)) rfl rfl rfl ?_
      refine h_goto (pc' := 18) rfl rfl ?_
      refine h_zret rfl rfl ci_1 (by omega) (h_Kv ?_)
      refine h_zret rfl rfl ci_1 (by omega) (h_Kv ?_)
      refine h_zeq (tg := 16) (pc' := 8) rfl rfl rfl ci_1 (fun c11 => absurd c11 (by omega)) (fun c11 => ?_)
      refine h_aload_n (pc' := 9) rfl rfl rfl ?_
      refine h_iload_n (pc' := 10) rfl rfl rfl ?_
      refine h_call (sp := false) (pc' := 13) (M := [(0, .ref 98), (1, .int x0)]) rfl rfl rfl rfl rfl rfl rfl rfl ?_
      refine w_212_98 _ hI x0 _ hx0 (by omega) (fun r12 br12 hr12 s13 Is13 Gs13 => h_Kv ?_)
      have Fs13 := (Gs13.mono (B := kf_w_213_98) rfl).tr F00
      refine h_goto (pc' := 17) rfl rfl ?_
      exact h_iret rfl rfl (kk _ _ hr12 _ Is13 Fs13)
def kf_w_214_98 : List Nat := [100374, 100375, 101891, 101892, 108543]
theorem w_214_98_l (ns : Nat) (σ : h_S) (hI : h_I σ) (x0 : Int32) (a0 : Int) (hx0 : x0.toInt = a0) {Q : Option Value → h_S → Prop} (kk : ∀ (r : Int32) (b : Int) (hb : r.toInt = b) (τ : h_S), h_I τ → h_F (k_in kf_w_214_98) τ σ → Q (some (.int r)) τ) : ∀ n : Nat, (∀ (s0 : h_S), h_I s0 → h_F (k_in kf_w_214_98) s0 σ → ∀ (y2 : Int32) (b2 : Int), y2.toInt = b2 → ∀ (y3 : Int32) (b3 : Int), y3.toInt = b3 → (0 ≤ b3 ∧ b3 ≤ 10) → (0 ≤ a0 ∧ a0 ≤ 2) → (10 + 1 - b3) * 1000000 + 1000000000 ≤ (n : Int) → h_T g_P (g_Y ns) 214 14 [(0, .ref 98), (1, .int x0), (2, .int y2), (3, .int y3)] [] s0 Q) := by
  intro n
  induction n with
  | zero => exact by intro s0 I0 F0_ y2 b2 hy2 y3 b3 hy3 ry3 ex0 hm; exfalso; omega
  | succ n ih =>
    intro s0 I0 F0_ y2 b2 hy2 y3 b3 hy3 ry3 ex0 hm
    refine h_iload_n (pc' := 15) rfl rfl rfl ?_
    refine h_bipush (pc' := 17) (x := (Int32.ofInt 10)) rfl rfl cb_10 ?_
    refine h_cge (tg := 70) (pc' := 20) rfl rfl rfl hy3 ci_10 (fun c1 => ?_) (fun c1 => ?_)
    · refine h_iload_n (pc' := 71) rfl rfl rfl ?_
      exact h_iret rfl rfl (kk _ _ hy2 _ I0 F0_)
    · refine h_aload_n (pc' := 21) rfl rfl rfl ?_
      refine h_iconst (pc' := 22) (x := (Int32.ofInt 0)) rfl rfl rfl ?_
      refine h_sipush (pc' := 25) (x := (Int32.ofInt 176)) rfl rfl cs_176 ?_
      refine h_call (sp := false) (pc' := 28) (M := [(0, .ref 98), (1, .int (Int32.ofInt 0)), (2, .int (Int32.ofInt 176))]) rfl rfl rfl rfl rfl rfl rfl rfl ?_
      refine w_190_98_e176 _ I0 (Int32.ofInt 0) _ ci_0 (by omega)  (fun s3 Is3 Gs3 => h_Kn ?_)
      have Fs3 := (Gs3.mono (B := kf_w_214_98) rfl).tr F0_
      refine h_aload_n (pc' := 29) rfl rfl rfl ?_
      refine h_getR (pc' := 32) rfl rfl rfl rfl rfl ?_
      refine h_sipush (pc' := 35) (x := (Int32.ofInt 202)) rfl rfl cs_202 ?_
      refine h_iload_n (pc' := 36) rfl rfl rfl ?_
      refine h_iadd (pc' := 37) rfl rfl ci_202 hx0 rfl (by have g0 := h_rgv hx0; omega) (by have g0 := h_rgv hx0; omega) (fun z4 hz4 => ?_)
      refine h_iload_n (pc' := 38) rfl rfl rfl ?_
      refine h_iast (pc' := 39) rfl rfl rfl rfl hz4 (by omega) (by omega) hy3 (h_fg _ (ip_99_6 Is3 (by omega) (by omega)) (Fs3.up (k_ipg (p := 4) rfl rfl (by omega))) (fun s5 Is5 Fs5 => ?_))
      refine h_aload_n (pc' := 40) rfl rfl rfl ?_
      refine h_sipush (pc' := 43) (x := (Int32.ofInt 176)) rfl rfl cs_176 ?_
      refine h_iconst (pc' := 44) (x := (Int32.ofInt 0)) rfl rfl rfl ?_
      refine h_call (sp := false) (pc' := 47) (M := [(0, .ref 98), (1, .int (Int32.ofInt 176)), (2, .int (Int32.ofInt 0))]) rfl rfl rfl rfl rfl rfl rfl rfl ?_
      refine w_191_98 _ Is5 (Int32.ofInt 176) _ ci_176 (by omega) (Int32.ofInt 0) _ ci_0 (fun s7 Is7 Gs7 => h_Kn ?_)
      have Fs7 := (Gs7.mono (B := kf_w_214_98) rfl).tr Fs5
      refine h_iload_n (pc' := 48) rfl rfl rfl ?_
      refine h_aload_n (pc' := 49) rfl rfl rfl ?_
      refine h_call (sp := false) (pc' := 52) (M := [(0, .ref 98)]) rfl rfl rfl rfl rfl rfl rfl rfl ?_
      refine w_211_98 _ Is7  (fun r8 br8 hr8 s9 Is9 Gs9 tr8 => h_Kv ?_)
      have Fs9 := (Gs9.mono (B := kf_w_214_98) rfl).tr Fs7
      refine h_zeq (tg := 61) (pc' := 55) rfl rfl rfl hr8 (fun c10 => ?_) (fun c10 => ?_)
      · refine h_iconst (pc' := 62) (x := (Int32.ofInt 0)) rfl rfl rfl ?_
        refine h_ior (pc' := 63) rfl rfl (fun z11 hz11 => ?_)
        refine h_istore_n (pc' := 64) (M := [(2, .int z11), (0, .ref 98), (1, .int x0), (3, .int y3)]) rfl rfl rfl rfl ?_
        refine h_iinc (pc' := 67) (M := fun z12 => [(3, .int z12), (2, .int z11), (0, .ref 98), (1, .int x0)]) rfl rfl rfl rfl hy3 ci_1 rfl (by omega) (by omega) (fun _ => rfl) (fun z12 hz12 => ?_)
        refine h_goto (pc' := 14) rfl rfl ?_
        exact h_wk [(0, .ref 98), (1, .int x0), (2, .int z11), (3, .int z12)] ⟨rfl, rfl, rfl, rfl, trivial⟩ (ih _ Is9 Fs9 z11 _ rfl z12 _ hz12 (by omega) (by omega) (by omega))
      · refine h_iconst (pc' := 56) (x := (Int32.ofInt 1)) rfl rfl rfl ?_
        refine h_iload_n (pc' := 57) rfl rfl rfl ?_
        refine h_ishl (pc' := 58) rfl rfl (fun z13 hz13 => ?_)
        refine h_goto (pc' := 62) rfl rfl ?_
        refine h_ior (pc' := 63) rfl rfl (fun z14 hz14 => ?_)
        refine h_istore_n (pc' := 64) (M := [(2, .int z14), (0, .ref 98), (1, .int x0), (3, .int y3)]) rfl rfl rfl rfl ?_
        refine h_iinc (pc' := 67) (M := fun z15 => [(3, .int z15), (2, .int z14), (0, .ref 98), (1, .int x0)]) rfl rfl rfl rfl hy3 ci_1 rfl (by omega) (by omega) (fun _ => rfl) (fun z15 hz15 => ?_)
        refine h_goto (pc' := 14) rfl rfl ?_
        exact h_wk [(0, .ref 98), (1, .int x0), (2, .int z14), (3, .int z15)] ⟨rfl, rfl, rfl, rfl, trivial⟩ (ih _ Is9 Fs9 z14 _ rfl z15 _ hz15 (by omega) (by omega) (by omega))
theorem w_214_98 {ns : Nat} (σ : h_S) (hI : h_I σ) (x0 : Int32) (a0 : Int) (hx0 : x0.toInt = a0) {Q : Option Value → h_S → Prop} (kk : ∀ (r : Int32) (b : Int) (hb : r.toInt = b) (τ : h_S), h_I τ → h_F (k_in kf_w_214_98) τ σ → Q (some (.int r)) τ) : h_T g_P (g_Y ns) 214 0 [(0, .ref 98), (1, .int x0)] [] σ Q := by
  have F00 : h_F (k_in kf_w_214_98) σ σ := h_F.rf
  refine h_aload_n (pc' := 1) rfl rfl rfl ?_
  refine h_iload_n (pc' := 2) rfl rfl rfl ?_
  refine h_call (sp := false) (pc' := 5) (M := [(0, .ref 98), (1, .int x0)]) rfl rfl rfl rfl rfl rfl rfl rfl ?_
  refine h_iload_n (pc' := 1) rfl rfl rfl ?_
  refine h_i2l (pc' := 2) rfl rfl hx0 (fun z1 hz1 => ?_)
  refine h_lconst (pc' := 3) (x := (Int64.ofInt 0)) rfl rfl rfl ?_
  refine h_aload_n (pc' := 4) rfl rfl rfl ?_
  refine h_getI (pc' := 7) (v := σ 98 2) rfl rfl rfl rfl rfl rfl (fun z2 hz2 => ?_)
  have tz2 := tf_98_2 hI
  refine h_iconst (pc' := 8) (x := (Int32.ofInt 1)) rfl rfl rfl ?_
  refine h_isub (pc' := 9) rfl rfl hz2 ci_1 rfl (by omega) (by omega) (fun z3 hz3 => ?_)
  refine h_i2l (pc' := 10) rfl rfl hz3 (fun z4 hz4 => ?_)
  refine h_calls (pc' := 13) (M := [(0, .long z1), (2, .long (Int64.ofInt 0)), (4, .long z4)]) rfl rfl rfl rfl rfl rfl ?_
  refine h_lload_n (pc' := 1) rfl rfl rfl ?_
  refine h_lload_n (pc' := 2) rfl rfl rfl ?_
  refine h_lcmp (pc' := 3) rfl rfl hz1 cl_0 (fun z5 hz5 => ?_)
  refine h_zlt (tg := 17) (pc' := 6) rfl rfl rfl rfl (fun c6 => ?_) (fun c6 => ?_)
  · replace c6 := (h_lcr hz5).1 c6
    clear hz5
    refine h_iconst (pc' := 18) (x := (Int32.ofInt 0)) rfl rfl rfl ?_
    refine h_zret rfl rfl ci_0 (by omega) (h_Kv ?_)
    refine h_zret rfl rfl ci_0 (by omega) (h_Kv ?_)
    refine h_zne (tg := 10) (pc' := 8) rfl rfl rfl ci_0 (fun c7 => absurd c7 (by omega)) (fun c7 => ?_)
    refine h_iconst (pc' := 9) (x := (Int32.ofInt (-1))) rfl rfl rfl ?_
    exact h_iret rfl rfl (kk _ _ ci_m1 _ hI F00)
  · replace c6 := (h_lcr hz5).2.1 c6
    clear hz5
    refine h_lload_n (pc' := 7) rfl rfl rfl ?_
    refine h_lload (pc' := 9) rfl rfl rfl ?_
    refine h_lcmp (pc' := 10) rfl rfl hz1 hz4 (fun z8 hz8 => ?_)
    refine h_zgt (tg := 17) (pc' := 13) rfl rfl rfl rfl (fun c9 => ?_) (fun c9 => ?_)
    · replace c9 := (h_lcr hz8).2.2.2.1 c9
      clear hz8
      refine h_iconst (pc' := 18) (x := (Int32.ofInt 0)) rfl rfl rfl ?_
      refine h_zret rfl rfl ci_0 (by omega) (h_Kv ?_)
      refine h_zret rfl rfl ci_0 (by omega) (h_Kv ?_)
      refine h_zne (tg := 10) (pc' := 8) rfl rfl rfl ci_0 (fun c10 => absurd c10 (by omega)) (fun c10 => ?_)
      refine h_iconst (pc' := 9) (x := (Int32.ofInt (-1))) rfl rfl rfl ?_
      exact h_iret rfl rfl (kk _ _ ci_m1 _ hI F00)
    · replace c9 := (h_lcr hz8).2.2.1 c9
      clear hz8
      refine h_iconst (pc' := 14) (x := (Int32.ofInt 1)) rfl rfl rfl ?_
      refine h_goto (pc' := 18) rfl rfl ?_
      refine h_zret rfl rfl ci_1 (by omega) (h_Kv ?_)
      refine h_zret rfl rfl ci_1 (by omega) (h_Kv ?_)
      refine h_zne (tg := 10) (pc' := 8) rfl rfl rfl ci_1 (fun c11 => ?_) (fun c11 => absurd c11 (by omega))
      refine h_iconst (pc' := 11) (x := (Int32.ofInt 0)) rfl rfl rfl ?_
      refine h_istore_n (pc' := 12) (M := [(2, .int (Int32.ofInt 0)), (0, .ref 98), (1, .int x0)]) rfl rfl rfl rfl ?_
      refine h_iconst (pc' := 13) (x := (Int32.ofInt 0)) rfl rfl rfl ?_
      refine h_istore_n (pc' := 14) (M := [(3, .int (Int32.ofInt 0)), (2, .int (Int32.ofInt 0)), (0, .ref 98), (1, .int x0)]) rfl rfl rfl rfl ?_
      exact h_wk [(0, .ref 98), (1, .int x0), (2, .int (Int32.ofInt 0)), (3, .int (Int32.ofInt 0))] ⟨rfl, rfl, rfl, rfl, trivial⟩ ((w_214_98_l ns σ hI x0 a0 hx0 kk 1000000000000) _ hI F00 (Int32.ofInt 0) _ ci_0 (Int32.ofInt 0) _ ci_0 (by omega) (by omega) (by omega))
def kf_w_215_98 : List Nat := [100374, 100375, 101891, 101892, 108543, 112639]
theorem w_215_98_l (ns : Nat) (σ : h_S) (hI : h_I σ) (x0 : Int32) (a0 : Int) (hx0 : x0.toInt = a0) (x1 : Int32) (a1 : Int) (hx1 : x1.toInt = a1) {Q : Option Value → h_S → Prop} (kk : ∀ (r : Int32) (b : Int) (hb : r.toInt = b) (τ : h_S), h_I τ → h_F (k_in kf_w_215_98) τ σ → Q (some (.int r)) τ) : ∀ n : Nat, (∀ (s0 : h_S), h_I s0 → h_F (k_in kf_w_215_98) s0 σ → ∀ (y3 : Int32) (b3 : Int), y3.toInt = b3 → ∀ (y4 : Int32) (b4 : Int), y4.toInt = b4 → ∀ (y5 : Int32) (b5 : Int), y5.toInt = b5 → ∀ (y6 : Int32) (b6 : Int), y6.toInt = b6 → ((-4) ≤ b6 ∧ b6 ≤ 7) → ∀ (y7 : Int32) (b7 : Int), y7.toInt = b7 → (0 ≤ b7 ∧ b7 ≤ 8) → (8 + 1 - b7) * 1000000 + 1000000000 ≤ (n : Int) → h_T g_P (g_Y ns) 215 43 [(0, .ref 98), (1, .int x0), (2, .int x1), (3, .int y3), (4, .int y4), (5, .int y5), (6, .int y6), (7, .int y7)] [] s0 Q) ∧ (∀ (s0 : h_S), h_I s0 → h_F (k_in kf_w_215_98) s0 σ → ∀ (y3 : Int32) (b3 : Int), y3.toInt = b3 → ∀ (y4 : Int32) (b4 : Int), y4.toInt = b4 → ∀ (y5 : Int32) (b5 : Int), y5.toInt = b5 → ∀ (y6 : Int32) (b6 : Int), y6.toInt = b6 → ((-4) ≤ b6 ∧ b6 ≤ 7) → ∀ (y7 : Int32) (b7 : Int), y7.toInt = b7 → (0 ≤ b7 ∧ b7 ≤ 7) → ∀ (y8 : Int32) (b8 : Int), y8.toInt = b8 → ∀ (y9 : Int32) (b9 : Int), y9.toInt = b9 → (0 ≤ b9 ∧ b9 ≤ 7) → ((8 + 1 - b7) - 1) * 1000000 + 1000000000 + (7 + 1 - b9) * 1000 + 100000 ≤ (n : Int) → h_T g_P (g_Y ns) 215 61 [(0, .ref 98), (1, .int x0), (2, .int x1), (3, .int y3), (4, .int y4), (5, .int y5), (6, .int y6), (7, .int y7), (8, .int y8), (9, .int y9)] [] s0 Q) := by
  intro n
  induction n with
  | zero => exact ⟨by intro s0 I0 F0_ y3 b3 hy3 y4 b4 hy4 y5 b5 hy5 y6 b6 hy6 ry6 y7 b7 hy7 ry7 hm; exfalso; omega, by intro s0 I0 F0_ y3 b3 hy3 y4 b4 hy4 y5 b5 hy5 y6 b6 hy6 ry6 y7 b7 hy7 ry7 y8 b8 hy8 y9 b9 hy9 ry9 hm; exfalso; omega⟩
  | succ n ih =>
    refine ⟨?_, ?_⟩
    · intro s0 I0 F0_ y3 b3 hy3 y4 b4 hy4 y5 b5 hy5 y6 b6 hy6 ry6 y7 b7 hy7 ry7 hm
      refine h_iload (pc' := 45) rfl rfl rfl ?_
      refine h_aload_n (pc' := 46) rfl rfl rfl ?_
      refine h_getR (pc' := 49) rfl rfl rfl rfl rfl ?_
      refine h_bipush (pc' := 51) (x := (Int32.ofInt 43)) rfl rfl cb_43 ?_
      refine h_iald (pc' := 52) (v := σ 99 43) rfl rfl rfl ci_43 (by omega) (by omega) (F0_ 99 _ (k_no (l := 43) (h := 43) rfl (by omega) (by omega))) (fun z1 hz1 => ?_)
      have tz1 := ty_99_10 hI 43 (by omega)
      refine h_cge (tg := 165) (pc' := 55) rfl rfl rfl hy7 hz1 (fun c2 => ?_) (fun c2 => ?_)
      · refine h_iload (pc' := 167) rfl rfl rfl ?_
        refine h_bipush (pc' := 169) (x := (Int32.ofInt (-4))) rfl rfl cb_m4 ?_
        refine h_ceq (tg := 176) (pc' := 172) rfl rfl rfl hy6 ci_m4 (fun c3 => ?_) (fun c3 => ?_)
        · refine h_iload (pc' := 178) rfl rfl rfl ?_
          refine h_goto (pc' := 183) rfl rfl ?_
          exact h_iret rfl rfl (kk _ _ hy6 _ I0 F0_)
        · refine h_iload_n (pc' := 173) rfl rfl rfl ?_
          refine h_zne (tg := 181) (pc' := 176) rfl rfl rfl hx1 (fun c4 => ?_) (fun c4 => ?_)
          · refine h_iload (pc' := 183) rfl rfl rfl ?_
            exact h_iret rfl rfl (kk _ _ hy5 _ I0 F0_)
          · refine h_iload (pc' := 178) rfl rfl rfl ?_
            refine h_goto (pc' := 183) rfl rfl ?_
            exact h_iret rfl rfl (kk _ _ hy6 _ I0 F0_)
      · refine h_iconst (pc' := 56) (x := (Int32.ofInt 0)) rfl rfl rfl ?_
        refine h_istore (pc' := 58) (M := [(8, .int (Int32.ofInt 0)), (0, .ref 98), (1, .int x0), (2, .int x1), (3, .int y3), (4, .int y4), (5, .int y5), (6, .int y6), (7, .int y7)]) rfl rfl rfl rfl ?_
        refine h_iconst (pc' := 59) (x := (Int32.ofInt 0)) rfl rfl rfl ?_
        refine h_istore (pc' := 61) (M := [(9, .int (Int32.ofInt 0)), (8, .int (Int32.ofInt 0)), (0, .ref 98), (1, .int x0), (2, .int x1), (3, .int y3), (4, .int y4), (5, .int y5), (6, .int y6), (7, .int y7)]) rfl rfl rfl rfl ?_
        exact h_wk [(0, .ref 98), (1, .int x0), (2, .int x1), (3, .int y3), (4, .int y4), (5, .int y5), (6, .int y6), (7, .int y7), (8, .int (Int32.ofInt 0)), (9, .int (Int32.ofInt 0))] ⟨rfl, rfl, rfl, rfl, rfl, rfl, rfl, rfl, rfl, rfl, trivial⟩ (ih.2 _ I0 F0_ y3 _ hy3 y4 _ hy4 y5 _ hy5 y6 _ hy6 (by omega) y7 _ hy7 (by omega) (Int32.ofInt 0) _ ci_0 (Int32.ofInt 0) _ ci_0 (by omega) (by omega))
    · intro s0 I0 F0_ y3 b3 hy3 y4 b4 hy4 y5 b5 hy5 y6 b6 hy6 ry6 y7 b7 hy7 ry7 y8 b8 hy8 y9 b9 hy9 ry9 hm
      refine h_iload (pc' := 63) rfl rfl rfl ?_
      refine h_bipush (pc' := 65) (x := (Int32.ofInt 6)) rfl rfl cb_6 ?_
      refine h_cgt (tg := 105) (pc' := 68) rfl rfl rfl hy9 ci_6 (fun c1 => ?_) (fun c1 => ?_)
      · refine h_iload (pc' := 107) rfl rfl rfl ?_
        refine h_iload (pc' := 109) rfl rfl rfl ?_
        refine h_iload (pc' := 111) rfl rfl rfl ?_
        refine h_isubA (pc' := 112) rfl rfl (fun z2 hz2 => ?_)
        refine h_cle (tg := 120) (pc' := 115) rfl rfl rfl hy8 rfl (fun c3 => ?_) (fun c3 => ?_)
        · refine h_iload (pc' := 122) rfl rfl rfl ?_
          refine h_iload (pc' := 124) rfl rfl rfl ?_
          refine h_isubA (pc' := 125) rfl rfl (fun z4 hz4 => ?_)
          refine h_istore (pc' := 127) (M := [(9, .int z4), (0, .ref 98), (1, .int x0), (2, .int x1), (3, .int y3), (4, .int y4), (5, .int y5), (6, .int y6), (7, .int y7), (8, .int y8)]) rfl rfl rfl rfl ?_
          refine h_iload (pc' := 129) rfl rfl rfl ?_
          refine h_iload (pc' := 131) rfl rfl rfl ?_
          refine h_cge (tg := 139) (pc' := 134) rfl rfl rfl rfl hy5 (fun c5 => ?_) (fun c5 => ?_)
          · refine h_iload (pc' := 141) rfl rfl rfl ?_
            refine h_istore (pc' := 143) (M := [(6, .int y6), (9, .int z4), (0, .ref 98), (1, .int x0), (2, .int x1), (3, .int y3), (4, .int y4), (5, .int y5), (7, .int y7), (8, .int y8)]) rfl rfl rfl rfl ?_
            refine h_iload (pc' := 145) rfl rfl rfl ?_
            refine h_iload (pc' := 147) rfl rfl rfl ?_
            refine h_cge (tg := 155) (pc' := 150) rfl rfl rfl rfl hy5 (fun c6 => ?_) (fun c6 => ?_)
            · refine h_iload (pc' := 157) rfl rfl rfl ?_
              refine h_istore (pc' := 159) (M := [(5, .int y5), (6, .int y6), (9, .int z4), (0, .ref 98), (1, .int x0), (2, .int x1), (3, .int y3), (4, .int y4), (7, .int y7), (8, .int y8)]) rfl rfl rfl rfl ?_
              refine h_iinc (pc' := 162) (M := fun z7 => [(7, .int z7), (5, .int y5), (6, .int y6), (9, .int z4), (0, .ref 98), (1, .int x0), (2, .int x1), (3, .int y3), (4, .int y4), (8, .int y8)]) rfl rfl rfl rfl hy7 ci_1 rfl (by omega) (by omega) (fun _ => rfl) (fun z7 hz7 => ?_)
              refine h_goto (pc' := 43) rfl rfl ?_
              exact h_wk [(0, .ref 98), (1, .int x0), (2, .int x1), (3, .int y3), (4, .int y4), (5, .int y5), (6, .int y6), (7, .int z7)] ⟨rfl, rfl, rfl, rfl, rfl, rfl, rfl, rfl, trivial⟩ (ih.1 _ I0 F0_ y3 _ hy3 y4 _ hy4 y5 _ hy5 y6 _ hy6 (by omega) z7 _ hz7 (by omega) (by omega))
            · refine h_iload (pc' := 152) rfl rfl rfl ?_
              refine h_goto (pc' := 157) rfl rfl ?_
              refine h_istore (pc' := 159) (M := [(5, .int z4), (6, .int y6), (9, .int z4), (0, .ref 98), (1, .int x0), (2, .int x1), (3, .int y3), (4, .int y4), (7, .int y7), (8, .int y8)]) rfl rfl rfl rfl ?_
              refine h_iinc (pc' := 162) (M := fun z8 => [(7, .int z8), (5, .int z4), (6, .int y6), (9, .int z4), (0, .ref 98), (1, .int x0), (2, .int x1), (3, .int y3), (4, .int y4), (8, .int y8)]) rfl rfl rfl rfl hy7 ci_1 rfl (by omega) (by omega) (fun _ => rfl) (fun z8 hz8 => ?_)
              refine h_goto (pc' := 43) rfl rfl ?_
              exact h_wk [(0, .ref 98), (1, .int x0), (2, .int x1), (3, .int y3), (4, .int y4), (5, .int z4), (6, .int y6), (7, .int z8)] ⟨rfl, rfl, rfl, rfl, rfl, rfl, rfl, rfl, trivial⟩ (ih.1 _ I0 F0_ y3 _ hy3 y4 _ hy4 z4 _ rfl y6 _ hy6 (by omega) z8 _ hz8 (by omega) (by omega))
          · refine h_iload (pc' := 136) rfl rfl rfl ?_
            refine h_goto (pc' := 141) rfl rfl ?_
            refine h_istore (pc' := 143) (M := [(6, .int y7), (9, .int z4), (0, .ref 98), (1, .int x0), (2, .int x1), (3, .int y3), (4, .int y4), (5, .int y5), (7, .int y7), (8, .int y8)]) rfl rfl rfl rfl ?_
            refine h_iload (pc' := 145) rfl rfl rfl ?_
            refine h_iload (pc' := 147) rfl rfl rfl ?_
            refine h_cge (tg := 155) (pc' := 150) rfl rfl rfl rfl hy5 (fun c9 => ?_) (fun c9 => ?_)
            · refine h_iload (pc' := 157) rfl rfl rfl ?_
              refine h_istore (pc' := 159) (M := [(5, .int y5), (6, .int y7), (9, .int z4), (0, .ref 98), (1, .int x0), (2, .int x1), (3, .int y3), (4, .int y4), (7, .int y7), (8, .int y8)]) rfl rfl rfl rfl ?_
              refine h_iinc (pc' := 162) (M := fun z10 => [(7, .int z10), (5, .int y5), (6, .int y7), (9, .int z4), (0, .ref 98), (1, .int x0), (2, .int x1), (3, .int y3), (4, .int y4), (8, .int y8)]) rfl rfl rfl rfl hy7 ci_1 rfl (by omega) (by omega) (fun _ => rfl) (fun z10 hz10 => ?_)
              refine h_goto (pc' := 43) rfl rfl ?_
              exact h_wk [(0, .ref 98), (1, .int x0), (2, .int x1), (3, .int y3), (4, .int y4), (5, .int y5), (6, .int y7), (7, .int z10)] ⟨rfl, rfl, rfl, rfl, rfl, rfl, rfl, rfl, trivial⟩ (ih.1 _ I0 F0_ y3 _ hy3 y4 _ hy4 y5 _ hy5 y7 _ hy7 (by omega) z10 _ hz10 (by omega) (by omega))
            · refine h_iload (pc' := 152) rfl rfl rfl ?_
              refine h_goto (pc' := 157) rfl rfl ?_
              refine h_istore (pc' := 159) (M := [(5, .int z4), (6, .int y7), (9, .int z4), (0, .ref 98), (1, .int x0), (2, .int x1), (3, .int y3), (4, .int y4), (7, .int y7), (8, .int y8)]) rfl rfl rfl rfl ?_
              refine h_iinc (pc' := 162) (M := fun z11 => [(7, .int z11), (5, .int z4), (6, .int y7), (9, .int z4), (0, .ref 98), (1, .int x0), (2, .int x1), (3, .int y3), (4, .int y4), (8, .int y8)]) rfl rfl rfl rfl hy7 ci_1 rfl (by omega) (by omega) (fun _ => rfl) (fun z11 hz11 => ?_)
              refine h_goto (pc' := 43) rfl rfl ?_
              exact h_wk [(0, .ref 98), (1, .int x0), (2, .int x1), (3, .int y3), (4, .int y4), (5, .int z4), (6, .int y7), (7, .int z11)] ⟨rfl, rfl, rfl, rfl, rfl, rfl, rfl, rfl, trivial⟩ (ih.1 _ I0 F0_ y3 _ hy3 y4 _ hy4 z4 _ rfl y7 _ hy7 (by omega) z11 _ hz11 (by omega) (by omega))
        · refine h_iload (pc' := 117) rfl rfl rfl ?_
          refine h_goto (pc' := 125) rfl rfl ?_
          refine h_istore (pc' := 127) (M := [(9, .int y8), (0, .ref 98), (1, .int x0), (2, .int x1), (3, .int y3), (4, .int y4), (5, .int y5), (6, .int y6), (7, .int y7), (8, .int y8)]) rfl rfl rfl rfl ?_
          refine h_iload (pc' := 129) rfl rfl rfl ?_
          refine h_iload (pc' := 131) rfl rfl rfl ?_
          refine h_cge (tg := 139) (pc' := 134) rfl rfl rfl hy8 hy5 (fun c12 => ?_) (fun c12 => ?_)
          · refine h_iload (pc' := 141) rfl rfl rfl ?_
            refine h_istore (pc' := 143) (M := [(6, .int y6), (9, .int y8), (0, .ref 98), (1, .int x0), (2, .int x1), (3, .int y3), (4, .int y4), (5, .int y5), (7, .int y7), (8, .int y8)]) rfl rfl rfl rfl ?_
            refine h_iload (pc' := 145) rfl rfl rfl ?_
            refine h_iload (pc' := 147) rfl rfl rfl ?_
            refine h_cge (tg := 155) (pc' := 150) rfl rfl rfl hy8 hy5 (fun c13 => ?_) (fun c13 => ?_)
            · refine h_iload (pc' := 157) rfl rfl rfl ?_
              refine h_istore (pc' := 159) (M := [(5, .int y5), (6, .int y6), (9, .int y8), (0, .ref 98), (1, .int x0), (2, .int x1), (3, .int y3), (4, .int y4), (7, .int y7), (8, .int y8)]) rfl rfl rfl rfl ?_
              refine h_iinc (pc' := 162) (M := fun z14 => [(7, .int z14), (5, .int y5), (6, .int y6), (9, .int y8), (0, .ref 98), (1, .int x0), (2, .int x1), (3, .int y3), (4, .int y4), (8, .int y8)]) rfl rfl rfl rfl hy7 ci_1 rfl (by omega) (by omega) (fun _ => rfl) (fun z14 hz14 => ?_)
              refine h_goto (pc' := 43) rfl rfl ?_
              exact h_wk [(0, .ref 98), (1, .int x0), (2, .int x1), (3, .int y3), (4, .int y4), (5, .int y5), (6, .int y6), (7, .int z14)] ⟨rfl, rfl, rfl, rfl, rfl, rfl, rfl, rfl, trivial⟩ (ih.1 _ I0 F0_ y3 _ hy3 y4 _ hy4 y5 _ hy5 y6 _ hy6 (by omega) z14 _ hz14 (by omega) (by omega))
            · refine h_iload (pc' := 152) rfl rfl rfl ?_
              refine h_goto (pc' := 157) rfl rfl ?_
              refine h_istore (pc' := 159) (M := [(5, .int y8), (6, .int y6), (9, .int y8), (0, .ref 98), (1, .int x0), (2, .int x1), (3, .int y3), (4, .int y4), (7, .int y7), (8, .int y8)]) rfl rfl rfl rfl ?_
              refine h_iinc (pc' := 162) (M := fun z15 => [(7, .int z15), (5, .int y8), (6, .int y6), (9, .int y8), (0, .ref 98), (1, .int x0), (2, .int x1), (3, .int y3), (4, .int y4), (8, .int y8)]) rfl rfl rfl rfl hy7 ci_1 rfl (by omega) (by omega) (fun _ => rfl) (fun z15 hz15 => ?_)
              refine h_goto (pc' := 43) rfl rfl ?_
              exact h_wk [(0, .ref 98), (1, .int x0), (2, .int x1), (3, .int y3), (4, .int y4), (5, .int y8), (6, .int y6), (7, .int z15)] ⟨rfl, rfl, rfl, rfl, rfl, rfl, rfl, rfl, trivial⟩ (ih.1 _ I0 F0_ y3 _ hy3 y4 _ hy4 y8 _ hy8 y6 _ hy6 (by omega) z15 _ hz15 (by omega) (by omega))
          · refine h_iload (pc' := 136) rfl rfl rfl ?_
            refine h_goto (pc' := 141) rfl rfl ?_
            refine h_istore (pc' := 143) (M := [(6, .int y7), (9, .int y8), (0, .ref 98), (1, .int x0), (2, .int x1), (3, .int y3), (4, .int y4), (5, .int y5), (7, .int y7), (8, .int y8)]) rfl rfl rfl rfl ?_
            refine h_iload (pc' := 145) rfl rfl rfl ?_
            refine h_iload (pc' := 147) rfl rfl rfl ?_
            refine h_cge (tg := 155) (pc' := 150) rfl rfl rfl hy8 hy5 (fun c16 => ?_) (fun c16 => ?_)
            · refine h_iload (pc' := 157) rfl rfl rfl ?_
              refine h_istore (pc' := 159) (M := [(5, .int y5), (6, .int y7), (9, .int y8), (0, .ref 98), (1, .int x0), (2, .int x1), (3, .int y3), (4, .int y4), (7, .int y7), (8, .int y8)]) rfl rfl rfl rfl ?_
              refine h_iinc (pc' := 162) (M := fun z17 => [(7, .int z17), (5, .int y5), (6, .int y7), (9, .int y8), (0, .ref 98), (1, .int x0), (2, .int x1), (3, .int y3), (4, .int y4), (8, .int y8)]) rfl rfl rfl rfl hy7 ci_1 rfl (by omega) (by omega) (fun _ => rfl) (fun z17 hz17 => ?_)
              refine h_goto (pc' := 43) rfl rfl ?_
              exact h_wk [(0, .ref 98), (1, .int x0), (2, .int x1), (3, .int y3), (4, .int y4), (5, .int y5), (6, .int y7), (7, .int z17)] ⟨rfl, rfl, rfl, rfl, rfl, rfl, rfl, rfl, trivial⟩ (ih.1 _ I0 F0_ y3 _ hy3 y4 _ hy4 y5 _ hy5 y7 _ hy7 (by omega) z17 _ hz17 (by omega) (by omega))
            · refine h_iload (pc' := 152) rfl rfl rfl ?_
              refine h_goto (pc' := 157) rfl rfl ?_
              refine h_istore (pc' := 159) (M := [(5, .int y8), (6, .int y7), (9, .int y8), (0, .ref 98), (1, .int x0), (2, .int x1), (3, .int y3), (4, .int y4), (7, .int y7), (8, .int y8)]) rfl rfl rfl rfl ?_
              refine h_iinc (pc' := 162) (M := fun z18 => [(7, .int z18), (5, .int y8), (6, .int y7), (9, .int y8), (0, .ref 98), (1, .int x0), (2, .int x1), (3, .int y3), (4, .int y4), (8, .int y8)]) rfl rfl rfl rfl hy7 ci_1 rfl (by omega) (by omega) (fun _ => rfl) (fun z18 hz18 => ?_)
              refine h_goto (pc' := 43) rfl rfl ?_
              exact h_wk [(0, .ref 98), (1, .int x0), (2, .int x1), (3, .int y3), (4, .int y4), (5, .int y8), (6, .int y7), (7, .int z18)] ⟨rfl, rfl, rfl, rfl, rfl, rfl, rfl, rfl, trivial⟩ (ih.1 _ I0 F0_ y3 _ hy3 y4 _ hy4 y8 _ hy8 y7 _ hy7 (by omega) z18 _ hz18 (by omega) (by omega))
      · refine h_iload (pc' := 70) rfl rfl rfl ?_
        refine h_iload_n (pc' := 71) rfl rfl rfl ?_
        refine h_iload (pc' := 73) rfl rfl rfl ?_
        refine h_ishr (pc' := 74) rfl rfl (fun z19 hz19 => ?_)
        refine h_iconst (pc' := 75) (x := (Int32.ofInt 1)) rfl rfl rfl ?_
        refine h_iand (pc' := 76) rfl rfl (fun z20 hz20 uz20 vz20 => ?_)
        clear uz20
        rw [ci_1] at vz20
        have yz20 := vz20 (by omega)
        refine h_iconst (pc' := 77) (x := (Int32.ofInt 1)) rfl rfl rfl ?_
        refine h_cne (tg := 95) (pc' := 80) rfl rfl rfl rfl ci_1 (fun c21 => ?_) (fun c21 => ?_)
        · refine h_iconst (pc' := 96) (x := (Int32.ofInt 0)) rfl rfl rfl ?_
          refine h_iadd (pc' := 97) rfl rfl hy8 ci_0 rfl (by have g0 := h_rgv hy8; omega) (by have g0 := h_rgv hy8; omega) (fun z22 hz22 => ?_)
          refine h_istore (pc' := 99) (M := [(8, .int z22), (0, .ref 98), (1, .int x0), (2, .int x1), (3, .int y3), (4, .int y4), (5, .int y5), (6, .int y6), (7, .int y7), (9, .int y9)]) rfl rfl rfl rfl ?_
          refine h_iinc (pc' := 102) (M := fun z23 => [(9, .int z23), (8, .int z22), (0, .ref 98), (1, .int x0), (2, .int x1), (3, .int y3), (4, .int y4), (5, .int y5), (6, .int y6), (7, .int y7)]) rfl rfl rfl rfl hy9 ci_1 rfl (by omega) (by omega) (fun _ => rfl) (fun z23 hz23 => ?_)
          refine h_goto (pc' := 61) rfl rfl ?_
          exact h_wk [(0, .ref 98), (1, .int x0), (2, .int x1), (3, .int y3), (4, .int y4), (5, .int y5), (6, .int y6), (7, .int y7), (8, .int z22), (9, .int z23)] ⟨rfl, rfl, rfl, rfl, rfl, rfl, rfl, rfl, rfl, rfl, trivial⟩ (ih.2 _ I0 F0_ y3 _ hy3 y4 _ hy4 y5 _ hy5 y6 _ hy6 (by omega) y7 _ hy7 (by omega) z22 _ hz22 z23 _ hz23 (by omega) (by omega))
        · refine h_aload_n (pc' := 81) rfl rfl rfl ?_
          refine h_getR (pc' := 84) rfl rfl rfl rfl rfl ?_
          refine h_iload (pc' := 86) rfl rfl rfl ?_
          refine h_iald (pc' := 87) (v := s0 109 b9) rfl rfl rfl hy9 (by omega) (by omega) rfl (fun z24 hz24 => ?_)
          have tz24 := ty_109 I0 b9
          refine h_iload (pc' := 89) rfl rfl rfl ?_
          refine h_ishr (pc' := 90) rfl rfl (fun z25 hz25 => ?_)
          refine h_iconst (pc' := 91) (x := (Int32.ofInt 1)) rfl rfl rfl ?_
          refine h_iand (pc' := 92) rfl rfl (fun z26 hz26 uz26 vz26 => ?_)
          clear uz26
          rw [ci_1] at vz26
          have yz26 := vz26 (by omega)
          refine h_goto (pc' := 96) rfl rfl ?_
          refine h_iaddA (pc' := 97) rfl rfl (fun z27 hz27 => ?_)
          refine h_istore (pc' := 99) (M := [(8, .int z27), (0, .ref 98), (1, .int x0), (2, .int x1), (3, .int y3), (4, .int y4), (5, .int y5), (6, .int y6), (7, .int y7), (9, .int y9)]) rfl rfl rfl rfl ?_
          refine h_iinc (pc' := 102) (M := fun z28 => [(9, .int z28), (8, .int z27), (0, .ref 98), (1, .int x0), (2, .int x1), (3, .int y3), (4, .int y4), (5, .int y5), (6, .int y6), (7, .int y7)]) rfl rfl rfl rfl hy9 ci_1 rfl (by omega) (by omega) (fun _ => rfl) (fun z28 hz28 => ?_)
          refine h_goto (pc' := 61) rfl rfl ?_
          exact h_wk [(0, .ref 98), (1, .int x0), (2, .int x1), (3, .int y3), (4, .int y4), (5, .int y5), (6, .int y6), (7, .int y7), (8, .int z27), (9, .int z28)] ⟨rfl, rfl, rfl, rfl, rfl, rfl, rfl, rfl, rfl, rfl, trivial⟩ (ih.2 _ I0 F0_ y3 _ hy3 y4 _ hy4 y5 _ hy5 y6 _ hy6 (by omega) y7 _ hy7 (by omega) z27 _ rfl z28 _ hz28 (by omega) (by omega))
theorem w_215_98 {ns : Nat} (σ : h_S) (hI : h_I σ) (x0 : Int32) (a0 : Int) (hx0 : x0.toInt = a0) (x1 : Int32) (a1 : Int) (hx1 : x1.toInt = a1) {Q : Option Value → h_S → Prop} (kk : ∀ (r : Int32) (b : Int) (hb : r.toInt = b) (τ : h_S), h_I τ → h_F (k_in kf_w_215_98) τ σ → Q (some (.int r)) τ) : h_T g_P (g_Y ns) 215 0 [(0, .ref 98), (1, .int x0), (2, .int x1)] [] σ Q := by
  have F00 : h_F (k_in kf_w_215_98) σ σ := h_F.rf
  refine h_aload_n (pc' := 1) rfl rfl rfl ?_
  refine h_iload_n (pc' := 2) rfl rfl rfl ?_
  refine h_call (sp := false) (pc' := 5) (M := [(0, .ref 98), (1, .int x0)]) rfl rfl rfl rfl rfl rfl rfl rfl ?_
  refine h_iload_n (pc' := 1) rfl rfl rfl ?_
  refine h_i2l (pc' := 2) rfl rfl hx0 (fun z1 hz1 => ?_)
  refine h_lconst (pc' := 3) (x := (Int64.ofInt 0)) rfl rfl rfl ?_
  refine h_aload_n (pc' := 4) rfl rfl rfl ?_
  refine h_getI (pc' := 7) (v := σ 98 1) rfl rfl rfl rfl rfl rfl (fun z2 hz2 => ?_)
  have tz2 := tf_98_1 hI
  refine h_iconst (pc' := 8) (x := (Int32.ofInt 1)) rfl rfl rfl ?_
  refine h_isub (pc' := 9) rfl rfl hz2 ci_1 rfl (by omega) (by omega) (fun z3 hz3 => ?_)
  refine h_i2l (pc' := 10) rfl rfl hz3 (fun z4 hz4 => ?_)
  refine h_calls (pc' := 13) (M := [(0, .long z1), (2, .long (Int64.ofInt 0)), (4, .long z4)]) rfl rfl rfl rfl rfl rfl ?_
  refine h_lload_n (pc' := 1) rfl rfl rfl ?_
  refine h_lload_n (pc' := 2) rfl rfl rfl ?_
  refine h_lcmp (pc' := 3) rfl rfl hz1 cl_0 (fun z5 hz5 => ?_)
  refine h_zlt (tg := 17) (pc' := 6) rfl rfl rfl rfl (fun c6 => ?_) (fun c6 => ?_)
  · replace c6 := (h_lcr hz5).1 c6
    clear hz5
    refine h_iconst (pc' := 18) (x := (Int32.ofInt 0)) rfl rfl rfl ?_
    refine h_zret rfl rfl ci_0 (by omega) (h_Kv ?_)
    refine h_zret rfl rfl ci_0 (by omega) (h_Kv ?_)
    refine h_zeq (tg := 18) (pc' := 8) rfl rfl rfl ci_0 (fun c7 => ?_) (fun c7 => absurd c7 (by omega))
    refine h_iconst (pc' := 19) (x := (Int32.ofInt (-1))) rfl rfl rfl ?_
    exact h_iret rfl rfl (kk _ _ ci_m1 _ hI F00)
  · replace c6 := (h_lcr hz5).2.1 c6
    clear hz5
    refine h_lload_n (pc' := 7) rfl rfl rfl ?_
    refine h_lload (pc' := 9) rfl rfl rfl ?_
    refine h_lcmp (pc' := 10) rfl rfl hz1 hz4 (fun z8 hz8 => ?_)
    refine h_zgt (tg := 17) (pc' := 13) rfl rfl rfl rfl (fun c9 => ?_) (fun c9 => ?_)
    · replace c9 := (h_lcr hz8).2.2.2.1 c9
      clear hz8
      refine h_iconst (pc' := 18) (x := (Int32.ofInt 0)) rfl rfl rfl ?_
      refine h_zret rfl rfl ci_0 (by omega) (h_Kv ?_)
      refine h_zret rfl rfl ci_0 (by omega) (h_Kv ?_)
      refine h_zeq (tg := 18) (pc' := 8) rfl rfl rfl ci_0 (fun c10 => ?_) (fun c10 => absurd c10 (by omega))
      refine h_iconst (pc' := 19) (x := (Int32.ofInt (-1))) rfl rfl rfl ?_
      exact h_iret rfl rfl (kk _ _ ci_m1 _ hI F00)
    · replace c9 := (h_lcr hz8).2.2.1 c9
      clear hz8
      refine h_iconst (pc' := 14) (x := (Int32.ofInt 1)) rfl rfl rfl ?_
      refine h_goto (pc' := 18) rfl rfl ?_
      refine h_zret rfl rfl ci_1 (by omega) (h_Kv ?_)
      refine h_zret rfl rfl ci_1 (by omega) (h_Kv ?_)
      refine h_zeq (tg := 18) (pc' := 8) rfl rfl rfl ci_1 (fun c11 => absurd c11 (by omega)) (fun c11 => ?_)
      refine h_iload_n (pc' := 9) rfl rfl rfl ?_
      refine h_i2l (pc' := 10) rfl rfl hx1 (fun z12 hz12 => ?_)
      refine h_lconst (pc' := 11) (x := (Int64.ofInt 0)) rfl rfl rfl ?_
      refine h_lconst (pc' := 12) (x := (Int64.ofInt 1)) rfl rfl rfl ?_
      refine h_calls (pc' := 15) (M := [(0, .long z12), (2, .long (Int64.ofInt 0)), (4, .long (Int64.ofInt 1))]) rfl rfl rfl rfl rfl rfl ?_
      refine h_lload_n (pc' := 1) rfl rfl rfl ?_
      refine h_lload_n (pc' := 2) rfl rfl rfl ?_
      refine h_lcmp (pc' := 3) rfl rfl hz12 cl_0 (fun z13 hz13 => ?_)
      refine h_zlt (tg := 17) (pc' := 6) rfl rfl rfl rfl (fun c14 => ?_) (fun c14 => ?_)
      · replace c14 := (h_lcr hz13).1 c14
        clear hz13
        refine h_iconst (pc' := 18) (x := (Int32.ofInt 0)) rfl rfl rfl ?_
        refine h_zret rfl rfl ci_0 (by omega) (h_Kv ?_)
        refine h_zne (tg := 20) (pc' := 18) rfl rfl rfl ci_0 (fun c15 => absurd c15 (by omega)) (fun c15 => ?_)
        refine h_iconst (pc' := 19) (x := (Int32.ofInt (-1))) rfl rfl rfl ?_
        exact h_iret rfl rfl (kk _ _ ci_m1 _ hI F00)
      · replace c14 := (h_lcr hz13).2.1 c14
        clear hz13
        refine h_lload_n (pc' := 7) rfl rfl rfl ?_
        refine h_lload (pc' := 9) rfl rfl rfl ?_
        refine h_lcmp (pc' := 10) rfl rfl hz12 cl_1 (fun z16 hz16 => ?_)
        refine h_zgt (tg := 17) (pc' := 13) rfl rfl rfl rfl (fun c17 => ?_) (fun c17 => ?_)
        · replace c17 := (h_lcr hz16).2.2.2.1 c17
          clear hz16
          refine h_iconst (pc' := 18) (x := (Int32.ofInt 0)) rfl rfl rfl ?_
          refine h_zret rfl rfl ci_0 (by omega) (h_Kv ?_)
          refine h_zne (tg := 20) (pc' := 18) rfl rfl rfl ci_0 (fun c18 => absurd c18 (by omega)) (fun c18 => ?_)
          refine h_iconst (pc' := 19) (x := (Int32.ofInt (-1))) rfl rfl rfl ?_
          exact h_iret rfl rfl (kk _ _ ci_m1 _ hI F00)
        · replace c17 := (h_lcr hz16).2.2.1 c17
          clear hz16
          refine h_iconst (pc' := 14) (x := (Int32.ofInt 1)) rfl rfl rfl ?_
          refine h_goto (pc' := 18) rfl rfl ?_
          refine h_zret rfl rfl ci_1 (by omega) (h_Kv ?_)
          refine h_zne (tg := 20) (pc' := 18) rfl rfl rfl ci_1 (fun c19 => ?_) (fun c19 => absurd c19 (by omega))
          refine h_aload_n (pc' := 21) rfl rfl rfl ?_
          refine h_iload_n (pc' := 22) rfl rfl rfl ?_
          refine h_call (sp := false) (pc' := 25) (M := [(0, .ref 98), (1, .int x0)]) rfl rfl rfl rfl rfl rfl rfl rfl ?_
          refine w_212_98 _ hI x0 _ hx0 (by omega) (fun r20 br20 hr20 s21 Is21 Gs21 => h_Kv ?_)
          have Fs21 := (Gs21.mono (B := kf_w_215_98) rfl).tr F00
          refine h_istore_n (pc' := 26) (M := [(3, .int r20), (0, .ref 98), (1, .int x0), (2, .int x1)]) rfl rfl rfl rfl ?_
          refine h_iload_n (pc' := 27) rfl rfl rfl ?_
          refine h_calls (pc' := 30) (M := [(0, .int r20)]) rfl rfl rfl rfl rfl rfl ?_
          refine w_192 _ Is21 r20 _ hr20 (fun r22 br22 hr22 s23 Is23 Gs23 => h_Kv ?_)
          have Fs23 := (Gs23.mono (B := kf_w_215_98) rfl).tr Fs21
          refine h_istore (pc' := 32) (M := [(4, .int r22), (3, .int r20), (0, .ref 98), (1, .int x0), (2, .int x1)]) rfl rfl rfl rfl ?_
          refine h_iload (pc' := 34) rfl rfl rfl ?_
          refine h_istore (pc' := 36) (M := [(5, .int r22), (4, .int r22), (3, .int r20), (0, .ref 98), (1, .int x0), (2, .int x1)]) rfl rfl rfl rfl ?_
          refine h_bipush (pc' := 38) (x := (Int32.ofInt (-4))) rfl rfl cb_m4 ?_
          refine h_istore (pc' := 40) (M := [(6, .int (Int32.ofInt (-4))), (5, .int r22), (4, .int r22), (3, .int r20), (0, .ref 98), (1, .int x0), (2, .int x1)]) rfl rfl rfl rfl ?_
          refine h_iconst (pc' := 41) (x := (Int32.ofInt 0)) rfl rfl rfl ?_
          refine h_istore (pc' := 43) (M := [(7, .int (Int32.ofInt 0)), (6, .int (Int32.ofInt (-4))), (5, .int r22), (4, .int r22), (3, .int r20), (0, .ref 98), (1, .int x0), (2, .int x1)]) rfl rfl rfl rfl ?_
          exact h_wk [(0, .ref 98), (1, .int x0), (2, .int x1), (3, .int r20), (4, .int r22), (5, .int r22), (6, .int (Int32.ofInt (-4))), (7, .int (Int32.ofInt 0))] ⟨rfl, rfl, rfl, rfl, rfl, rfl, rfl, rfl, trivial⟩ ((w_215_98_l ns σ hI x0 a0 hx0 x1 a1 hx1 kk 1000000000000).1 _ Is23 Fs23 r20 _ hr20 r22 _ hr22 r22 _ hr22 (Int32.ofInt (-4)) _ ci_m4 (by omega) (Int32.ofInt 0) _ ci_0 (by omega) (by omega))
def kf_w_217_98 : List Nat := [100383, 101891, 108543]
theorem w_217_98_l (ns : Nat) (σ : h_S) (hI : h_I σ) (x0 : Int32) (a0 : Int) (hx0 : x0.toInt = a0) (x1 : Int32) (a1 : Int) (hx1 : x1.toInt = a1) (x2 : Int32) (a2 : Int) (hx2 : x2.toInt = a2) {Q : Option Value → h_S → Prop} (kk : ∀ (r : Int32) (b : Int) (hb : r.toInt = b) (τ : h_S), h_I τ → h_F (k_in kf_w_217_98) τ σ → Q (some (.int r)) τ) : ∀ n : Nat, (∀ (s0 : h_S), h_I s0 → h_F (k_in kf_w_217_98) s0 σ → ∀ (y4 : Int32) (b4 : Int), y4.toInt = b4 → ∀ (y5 : Int32) (b5 : Int), y5.toInt = b5 → (0 ≤ b5 ∧ b5 ≤ 60) → (1 ≤ σ 98 1) → (1 ≤ σ 98 2) → (1 ≤ a1 ∧ a1 ≤ 60) → (60 + 1 - b5) * 1000000 + 1000000000 ≤ (n : Int) → h_T g_P (g_Y ns) 217 65 [(0, .ref 98), (1, .int x0), (2, .int x1), (3, .int x2), (4, .int y4), (5, .int y5)] [] s0 Q) := by
  intro n
  induction n with
  | zero => exact by intro s0 I0 F0_ y4 b4 hy4 y5 b5 hy5 ry5 ex0 ex1 ex2 hm; exfalso; omega
  | succ n ih =>
    intro s0 I0 F0_ y4 b4 hy4 y5 b5 hy5 ry5 ex0 ex1 ex2 hm
    refine h_iload (pc' := 67) rfl rfl rfl ?_
    refine h_iload_n (pc' := 68) rfl rfl rfl ?_
    refine h_cge (tg := 117) (pc' := 71) rfl rfl rfl hy5 hx1 (fun c1 => ?_) (fun c1 => ?_)
    · refine h_iload_n (pc' := 118) rfl rfl rfl ?_
      refine h_zne (tg := 126) (pc' := 121) rfl rfl rfl hx2 (fun c2 => ?_) (fun c2 => ?_)
      · refine h_aload_n (pc' := 127) rfl rfl rfl ?_
        refine h_getR (pc' := 130) rfl rfl rfl rfl rfl ?_
        refine h_sipush (pc' := 133) (x := (Int32.ofInt 161)) rfl rfl cs_161 ?_
        refine h_iald (pc' := 134) (v := s0 99 161) rfl rfl rfl ci_161 (by omega) (by omega) rfl (fun z3 hz3 => ?_)
        have tz3 := ty_99_7 I0 161 (by omega)
        refine h_calls (pc' := 137) (M := [(0, .int z3)]) rfl rfl rfl rfl rfl rfl ?_
        refine h_iload_n (pc' := 1) rfl rfl rfl ?_
        refine h_zne (tg := 9) (pc' := 4) rfl rfl rfl hz3 (fun c4 => ?_) (fun c4 => ?_)
        · refine h_iload_n (pc' := 10) rfl rfl rfl ?_
          refine h_iconst (pc' := 11) (x := (Int32.ofInt 1)) rfl rfl rfl ?_
          refine h_isub (pc' := 12) rfl rfl hz3 ci_1 rfl (by omega) (by omega) (fun z5 hz5 => ?_)
          refine h_iret rfl rfl (h_Kv ?_)
          exact h_iret rfl rfl (kk _ _ hz5 _ I0 F0_)
        · refine h_bipush (pc' := 6) (x := (Int32.ofInt (-4))) rfl rfl cb_m4 ?_
          refine h_goto (pc' := 12) rfl rfl ?_
          refine h_iret rfl rfl (h_Kv ?_)
          exact h_iret rfl rfl (kk _ _ ci_m4 _ I0 F0_)
      · refine h_iload (pc' := 123) rfl rfl rfl ?_
        refine h_goto (pc' := 137) rfl rfl ?_
        exact h_iret rfl rfl (kk _ _ hy4 _ I0 F0_)
    · refine h_aload_n (pc' := 72) rfl rfl rfl ?_
      refine h_aload_n (pc' := 73) rfl rfl rfl ?_
      refine h_getI (pc' := 76) (v := σ 98 1) rfl rfl rfl rfl rfl (F0_ 98 1 rfl) (fun z6 hz6 => ?_)
      have tz6 := tf_98_1 hI
      refine h_call (sp := false) (pc' := 79) (M := [(0, .ref 98), (1, .int z6)]) rfl rfl rfl rfl rfl rfl rfl rfl ?_
      refine h_aload_n (pc' := 1) rfl rfl rfl ?_
      refine h_aload_n (pc' := 2) rfl rfl rfl ?_
      refine h_getI (pc' := 5) (v := s0 98 31) rfl rfl rfl rfl rfl rfl (fun z7 hz7 => ?_)
      have tz7 := tf_98_31 I0
      refine h_ldcw (pc' := 8) (x := (Int32.ofInt 1103515245)) rfl rfl rfl ?_
      refine h_imulA (pc' := 9) rfl rfl (fun z8 hz8 => ?_)
      refine h_sipush (pc' := 12) (x := (Int32.ofInt 12345)) rfl rfl cs_12345 ?_
      refine h_iaddA (pc' := 13) rfl rfl (fun z9 hz9 => ?_)
      refine h_put (pc' := 16) rfl rfl rfl rfl rfl rfl rfl rfl (h_fg _ (if_98_31 I0 (h_rgv rfl)) (F0_.up rfl) (fun s10 Is10 Fs10 => ?_))
      refine h_aload_n (pc' := 17) rfl rfl rfl ?_
      refine h_getI (pc' := 20) (v := s10 98 31) rfl rfl rfl rfl rfl rfl (fun z11 hz11 => ?_)
      have tz11 := tf_98_31 Is10
      refine h_bipush (pc' := 22) (x := (Int32.ofInt 16)) rfl rfl cb_16 ?_
      refine h_ishr (pc' := 23) rfl rfl (fun z12 hz12 => ?_)
      refine h_sipush (pc' := 26) (x := (Int32.ofInt 32767)) rfl rfl cs_32767 ?_
      refine h_iand (pc' := 27) rfl rfl (fun z13 hz13 uz13 vz13 => ?_)
      clear uz13
      rw [ci_32767] at vz13
      have yz13 := vz13 (by omega)
      refine h_iload_n (pc' := 28) rfl rfl rfl ?_
      refine h_irem (pc' := 29) rfl rfl rfl hz6 (by omega) (by omega) (fun z14 hz14 => ?_)
      have g15 := h_remb (b := (σ 98 1)) (a := z13.toInt) (by omega)
      generalize z13.toInt % (σ 98 1) = nz14 at hz14 g15
      refine h_iret rfl rfl (h_Kv ?_)
      refine h_istore (pc' := 81) (M := [(6, .int z14), (0, .ref 98), (1, .int x0), (2, .int x1), (3, .int x2), (4, .int y4), (5, .int y5)]) rfl rfl rfl rfl ?_
      refine h_iload (pc' := 83) rfl rfl rfl ?_
      refine h_aload_n (pc' := 84) rfl rfl rfl ?_
      refine h_sipush (pc' := 87) (x := (Int32.ofInt 132)) rfl rfl cs_132 ?_
      refine h_iload (pc' := 89) rfl rfl rfl ?_
      refine h_aload_n (pc' := 90) rfl rfl rfl ?_
      refine h_aload_n (pc' := 91) rfl rfl rfl ?_
      refine h_getI (pc' := 94) (v := σ 98 2) rfl rfl rfl rfl rfl (Fs10 98 2 rfl) (fun z16 hz16 => ?_)
      have tz16 := tf_98_2 hI
      refine h_call (sp := false) (pc' := 97) (M := [(0, .ref 98), (1, .int z16)]) rfl rfl rfl rfl rfl rfl rfl rfl ?_
      refine h_aload_n (pc' := 1) rfl rfl rfl ?_
      refine h_aload_n (pc' := 2) rfl rfl rfl ?_
      refine h_getI (pc' := 5) (v := s10 98 31) rfl rfl rfl rfl rfl rfl (fun z17 hz17 => ?_)
      have tz17 := tf_98_31 Is10
      refine h_ldcw (pc' := 8) (x := (Int32.ofInt 1103515245)) rfl rfl rfl ?_
      refine h_imulA (pc' := 9) rfl rfl (fun z18 hz18 => ?_)
      refine h_sipush (pc' := 12) (x := (Int32.ofInt 12345)) rfl rfl cs_12345 ?_
      refine h_iaddA (pc' := 13) rfl rfl (fun z19 hz19 => ?_)
      refine h_put (pc' := 16) rfl rfl rfl rfl rfl rfl rfl rfl (h_fg _ (if_98_31 Is10 (h_rgv rfl)) (Fs10.up rfl) (fun s20 Is20 Fs20 => ?_))
      refine h_aload_n (pc' := 17) rfl rfl rfl ?_
      refine h_getI (pc' := 20) (v := s20 98 31) rfl rfl rfl rfl rfl rfl (fun z21 hz21 => ?_)
      have tz21 := tf_98_31 Is20
      refine h_bipush (pc' := 22) (x := (Int32.ofInt 16)) rfl rfl cb_16 ?_
      refine h_ishr (pc' := 23) rfl rfl (fun z22 hz22 => ?_)
      refine h_sipush (pc' := 26) (x := (Int32.ofInt 32767)) rfl rfl cs_32767 ?_
      refine h_iand (pc' := 27) rfl rfl (fun z23 hz23 uz23 vz23 => ?_)
      clear uz23
      rw [ci_32767] at vz23
      have yz23 := vz23 (by omega)
      refine h_iload_n (pc' := 28) rfl rfl rfl ?_
      refine h_irem (pc' := 29) rfl rfl rfl hz16 (by omega) (by omega) (fun z24 hz24 => ?_)
      have g25 := h_remb (b := (σ 98 2)) (a := z23.toInt) (by omega)
      generalize z23.toInt % (σ 98 2) = nz24 at hz24 g25
      refine h_iret rfl rfl (h_Kv ?_)
      refine h_call (sp := false) (pc' := 100) (M := [(0, .ref 98), (1, .int (Int32.ofInt 132)), (2, .int z14), (3, .int z24)]) rfl rfl rfl rfl rfl rfl rfl rfl ?_
      refine w_187_98_e132 _ Is20  z14 _ hz14 (by omega) z24 _ hz24 (by omega) (fun r26 br26 hr26 s27 Is27 Gs27 tr26 => h_Kv ?_)
      have Fs27 := (Gs27.mono (B := kf_w_217_98) rfl).tr Fs20
      refine h_zeq (tg := 107) (pc' := 103) rfl rfl rfl hr26 (fun c28 => ?_) (fun c28 => ?_)
      · refine h_iconst (pc' := 108) (x := (Int32.ofInt 0)) rfl rfl rfl ?_
        refine h_iadd (pc' := 109) rfl rfl hy4 ci_0 rfl (by have g0 := h_rgv hy4; omega) (by have g0 := h_rgv hy4; omega) (fun z29 hz29 => ?_)
        refine h_istore (pc' := 111) (M := [(4, .int z29), (6, .int z14), (0, .ref 98), (1, .int x0), (2, .int x1), (3, .int x2), (5, .int y5)]) rfl rfl rfl rfl ?_
        refine h_iinc (pc' := 114) (M := fun z30 => [(5, .int z30), (4, .int z29), (6, .int z14), (0, .ref 98), (1, .int x0), (2, .int x1), (3, .int x2)]) rfl rfl rfl rfl hy5 ci_1 rfl (by omega) (by omega) (fun _ => rfl) (fun z30 hz30 => ?_)
        refine h_goto (pc' := 65) rfl rfl ?_
        exact h_wk [(0, .ref 98), (1, .int x0), (2, .int x1), (3, .int x2), (4, .int z29), (5, .int z30)] ⟨rfl, rfl, rfl, rfl, rfl, rfl, trivial⟩ (ih _ Is27 Fs27 z29 _ hz29 z30 _ hz30 (by omega) (by omega) (by omega) (by omega) (by omega))
      · refine h_iconst (pc' := 104) (x := (Int32.ofInt 1)) rfl rfl rfl ?_
        refine h_goto (pc' := 108) rfl rfl ?_
        refine h_iaddA (pc' := 109) rfl rfl (fun z31 hz31 => ?_)
        refine h_istore (pc' := 111) (M := [(4, .int z31), (6, .int z14), (0, .ref 98), (1, .int x0), (2, .int x1), (3, .int x2), (5, .int y5)]) rfl rfl rfl rfl ?_
        refine h_iinc (pc' := 114) (M := fun z32 => [(5, .int z32), (4, .int z31), (6, .int z14), (0, .ref 98), (1, .int x0), (2, .int x1), (3, .int x2)]) rfl rfl rfl rfl hy5 ci_1 rfl (by omega) (by omega) (fun _ => rfl) (fun z32 hz32 => ?_)
        refine h_goto (pc' := 65) rfl rfl ?_
        exact h_wk [(0, .ref 98), (1, .int x0), (2, .int x1), (3, .int x2), (4, .int z31), (5, .int z32)] ⟨rfl, rfl, rfl, rfl, rfl, rfl, trivial⟩ (ih _ Is27 Fs27 z31 _ rfl z32 _ hz32 (by omega) (by omega) (by omega) (by omega) (by omega))
theorem w_217_98 {ns : Nat} (σ : h_S) (hI : h_I σ) (x0 : Int32) (a0 : Int) (hx0 : x0.toInt = a0) (x1 : Int32) (a1 : Int) (hx1 : x1.toInt = a1) (x2 : Int32) (a2 : Int) (hx2 : x2.toInt = a2) {Q : Option Value → h_S → Prop} (kk : ∀ (r : Int32) (b : Int) (hb : r.toInt = b) (τ : h_S), h_I τ → h_F (k_in kf_w_217_98) τ σ → Q (some (.int r)) τ) : h_T g_P (g_Y ns) 217 0 [(0, .ref 98), (1, .int x0), (2, .int x1), (3, .int x2)] [] σ Q := by
  have F00 : h_F (k_in kf_w_217_98) σ σ := h_F.rf
  refine h_iload_n (pc' := 1) rfl rfl rfl ?_
  refine h_i2l (pc' := 2) rfl rfl hx1 (fun z1 hz1 => ?_)
  refine h_lconst (pc' := 3) (x := (Int64.ofInt 1)) rfl rfl rfl ?_
  refine h_ldc2 (pc' := 6) (x := (Int64.ofInt 60)) rfl rfl rfl ?_
  refine h_calls (pc' := 9) (M := [(0, .long z1), (2, .long (Int64.ofInt 1)), (4, .long (Int64.ofInt 60))]) rfl rfl rfl rfl rfl rfl ?_
  refine h_lload_n (pc' := 1) rfl rfl rfl ?_
  refine h_lload_n (pc' := 2) rfl rfl rfl ?_
  refine h_lcmp (pc' := 3) rfl rfl hz1 cl_1 (fun z2 hz2 => ?_)
  refine h_zlt (tg := 17) (pc' := 6) rfl rfl rfl rfl (fun c3 => ?_) (fun c3 => ?_)
  · replace c3 := (h_lcr hz2).1 c3
    clear hz2
    refine h_iconst (pc' := 18) (x := (Int32.ofInt 0)) rfl rfl rfl ?_
    refine h_zret rfl rfl ci_0 (by omega) (h_Kv ?_)
    refine h_zeq (tg := 22) (pc' := 12) rfl rfl rfl ci_0 (fun c4 => ?_) (fun c4 => absurd c4 (by omega))
    refine h_iconst (pc' := 23) (x := (Int32.ofInt (-1))) rfl rfl rfl ?_
    exact h_iret rfl rfl (kk _ _ ci_m1 _ hI F00)
  · replace c3 := (h_lcr hz2).2.1 c3
    clear hz2
    refine h_lload_n (pc' := 7) rfl rfl rfl ?_
    refine h_lload (pc' := 9) rfl rfl rfl ?_
    refine h_lcmp (pc' := 10) rfl rfl hz1 cl_60 (fun z5 hz5 => ?_)
    refine h_zgt (tg := 17) (pc' := 13) rfl rfl rfl rfl (fun c6 => ?_) (fun c6 => ?_)
    · replace c6 := (h_lcr hz5).2.2.2.1 c6
      clear hz5
      refine h_iconst (pc' := 18) (x := (Int32.ofInt 0)) rfl rfl rfl ?_
      refine h_zret rfl rfl ci_0 (by omega) (h_Kv ?_)
      refine h_zeq (tg := 22) (pc' := 12) rfl rfl rfl ci_0 (fun c7 => ?_) (fun c7 => absurd c7 (by omega))
      refine h_iconst (pc' := 23) (x := (Int32.ofInt (-1))) rfl rfl rfl ?_
      exact h_iret rfl rfl (kk _ _ ci_m1 _ hI F00)
    · replace c6 := (h_lcr hz5).2.2.1 c6
      clear hz5
      refine h_iconst (pc' := 14) (x := (Int32.ofInt 1)) rfl rfl rfl ?_
      refine h_goto (pc' := 18) rfl rfl ?_
      refine h_zret rfl rfl ci_1 (by omega) (h_Kv ?_)
      refine h_zeq (tg := 22) (pc' := 12) rfl rfl rfl ci_1 (fun c8 => absurd c8 (by omega)) (fun c8 => ?_)
      refine h_iload_n (pc' := 13) rfl rfl rfl ?_
      refine h_i2l (pc' := 14) rfl rfl hx2 (fun z9 hz9 => ?_)
      refine h_lconst (pc' := 15) (x := (Int64.ofInt 0)) rfl rfl rfl ?_
      refine h_lconst (pc' := 16) (x := (Int64.ofInt 1)) rfl rfl rfl ?_
      refine h_calls (pc' := 19) (M := [(0, .long z9), (2, .long (Int64.ofInt 0)), (4, .long (Int64.ofInt 1))]) rfl rfl rfl rfl rfl rfl ?_
      refine h_lload_n (pc' := 1) rfl rfl rfl ?_
      refine h_lload_n (pc' := 2) rfl rfl rfl ?_
      refine h_lcmp (pc' := 3) rfl rfl hz9 cl_0 (fun z10 hz10 => ?_)
      refine h_zlt (tg := 17) (pc' := 6) rfl rfl rfl rfl (fun c11 => ?_) (fun c11 => ?_)
      · replace c11 := (h_lcr hz10).1 c11
        clear hz10
        refine h_iconst (pc' := 18) (x := (Int32.ofInt 0)) rfl rfl rfl ?_
        refine h_zret rfl rfl ci_0 (by omega) (h_Kv ?_)
        refine h_zne (tg := 24) (pc' := 22) rfl rfl rfl ci_0 (fun c12 => absurd c12 (by omega)) (fun c12 => ?_)
        refine h_iconst (pc' := 23) (x := (Int32.ofInt (-1))) rfl rfl rfl ?_
        exact h_iret rfl rfl (kk _ _ ci_m1 _ hI F00)
      · replace c11 := (h_lcr hz10).2.1 c11
        clear hz10
        refine h_lload_n (pc' := 7) rfl rfl rfl ?_
        refine h_lload (pc' := 9) rfl rfl rfl ?_
        refine h_lcmp (pc' := 10) rfl rfl hz9 cl_1 (fun z13 hz13 => ?_)
        refine h_zgt (tg := 17) (pc' := 13) rfl rfl rfl rfl (fun c14 => ?_) (fun c14 => ?_)
        · replace c14 := (h_lcr hz13).2.2.2.1 c14
          clear hz13
          refine h_iconst (pc' := 18) (x := (Int32.ofInt 0)) rfl rfl rfl ?_
          refine h_zret rfl rfl ci_0 (by omega) (h_Kv ?_)
          refine h_zne (tg := 24) (pc' := 22) rfl rfl rfl ci_0 (fun c15 => absurd c15 (by omega)) (fun c15 => ?_)
          refine h_iconst (pc' := 23) (x := (Int32.ofInt (-1))) rfl rfl rfl ?_
          exact h_iret rfl rfl (kk _ _ ci_m1 _ hI F00)
        · replace c14 := (h_lcr hz13).2.2.1 c14
          clear hz13
          refine h_iconst (pc' := 14) (x := (Int32.ofInt 1)) rfl rfl rfl ?_
          refine h_goto (pc' := 18) rfl rfl ?_
          refine h_zret rfl rfl ci_1 (by omega) (h_Kv ?_)
          refine h_zne (tg := 24) (pc' := 22) rfl rfl rfl ci_1 (fun c16 => ?_) (fun c16 => absurd c16 (by omega))
          refine h_aload_n (pc' := 25) rfl rfl rfl ?_
          refine h_getI (pc' := 28) (v := σ 98 1) rfl rfl rfl rfl rfl rfl (fun z17 hz17 => ?_)
          have tz17 := tf_98_1 hI
          refine h_zeq (tg := 38) (pc' := 31) rfl rfl rfl hz17 (fun c18 => ?_) (fun c18 => ?_)
          · refine h_bipush (pc' := 40) (x := (Int32.ofInt (-2))) rfl rfl cb_m2 ?_
            exact h_iret rfl rfl (kk _ _ ci_m2 _ hI F00)
          · refine h_aload_n (pc' := 32) rfl rfl rfl ?_
            refine h_getI (pc' := 35) (v := σ 98 2) rfl rfl rfl rfl rfl rfl (fun z19 hz19 => ?_)
            have tz19 := tf_98_2 hI
            refine h_zne (tg := 41) (pc' := 38) rfl rfl rfl hz19 (fun c20 => ?_) (fun c20 => ?_)
            · refine h_aload_n (pc' := 42) rfl rfl rfl ?_
              refine h_iconst (pc' := 43) (x := (Int32.ofInt 0)) rfl rfl rfl ?_
              refine h_call (sp := false) (pc' := 46) (M := [(0, .ref 98), (1, .int (Int32.ofInt 0))]) rfl rfl rfl rfl rfl rfl rfl rfl ?_
              refine w_162_98 _ hI (Int32.ofInt 0) _ ci_0 (by omega) (fun s22 Is22 Gs22 => h_Kn ?_)
              have Fs22 := (Gs22.mono (B := kf_w_217_98) rfl).tr F00
              refine h_aload_n (pc' := 47) rfl rfl rfl ?_
              refine h_iconst (pc' := 48) (x := (Int32.ofInt 0)) rfl rfl rfl ?_
              refine h_sipush (pc' := 51) (x := (Int32.ofInt 132)) rfl rfl cs_132 ?_
              refine h_call (sp := false) (pc' := 54) (M := [(0, .ref 98), (1, .int (Int32.ofInt 0)), (2, .int (Int32.ofInt 132))]) rfl rfl rfl rfl rfl rfl rfl rfl ?_
              refine w_190_98_e132 _ Is22 (Int32.ofInt 0) _ ci_0 (by omega)  (fun s24 Is24 Gs24 => h_Kn ?_)
              have Fs24 := (Gs24.mono (B := kf_w_217_98) rfl).tr Fs22
              refine h_aload_n (pc' := 55) rfl rfl rfl ?_
              refine h_iload_n (pc' := 56) rfl rfl rfl ?_
              refine h_put (pc' := 59) rfl rfl rfl rfl rfl rfl hx0 rfl (h_fg _ (if_98_31 Is24 (h_rgv hx0)) (Fs24.up rfl) (fun s25 Is25 Fs25 => ?_))
              refine h_iconst (pc' := 60) (x := (Int32.ofInt 0)) rfl rfl rfl ?_
              refine h_istore (pc' := 62) (M := [(4, .int (Int32.ofInt 0)), (0, .ref 98), (1, .int x0), (2, .int x1), (3, .int x2)]) rfl rfl rfl rfl ?_
              refine h_iconst (pc' := 63) (x := (Int32.ofInt 0)) rfl rfl rfl ?_
              refine h_istore (pc' := 65) (M := [(5, .int (Int32.ofInt 0)), (4, .int (Int32.ofInt 0)), (0, .ref 98), (1, .int x0), (2, .int x1), (3, .int x2)]) rfl rfl rfl rfl ?_
              exact h_wk [(0, .ref 98), (1, .int x0), (2, .int x1), (3, .int x2), (4, .int (Int32.ofInt 0)), (5, .int (Int32.ofInt 0))] ⟨rfl, rfl, rfl, rfl, rfl, rfl, trivial⟩ ((w_217_98_l ns σ hI x0 a0 hx0 x1 a1 hx1 x2 a2 hx2 kk 1000000000000) _ Is25 Fs25 (Int32.ofInt 0) _ ci_0 (Int32.ofInt 0) _ ci_0 (by omega) (by omega) (by omega) (by omega) (by omega))
            · refine h_bipush (pc' := 40) (x := (Int32.ofInt (-2))) rfl rfl cb_m2 ?_
              exact h_iret rfl rfl (kk _ _ ci_m2 _ hI F00)
def kf_w_223_98 : List Nat := []
theorem w_223_98 {ns : Nat} (σ : h_S) (hI : h_I σ) {Q : Option Value → h_S → Prop} (kk : ∀ (r : Int32) (b : Int) (hb : r.toInt = b) (τ : h_S), h_I τ → h_F (k_in kf_w_223_98) τ σ → Q (some (.int r)) τ) : h_T g_P (g_Y ns) 223 0 [(0, .ref 98)] [] σ Q := by
  have F00 : h_F (k_in kf_w_223_98) σ σ := h_F.rf
  refine h_aload_n (pc' := 1) rfl rfl rfl ?_
  refine h_getI (pc' := 4) (v := σ 98 36) rfl rfl rfl rfl rfl rfl (fun z1 hz1 => ?_)
  have tz1 := tf_98_36 hI
  exact h_iret rfl rfl (kk _ _ hz1 _ hI F00)
def kf_w_undo_n : List Nat := []
theorem w_undo_n {ns : Nat} (σ : h_S) (hI : h_I σ) (x0 : Int32) (a0 : Int) (hx0 : x0.toInt = a0) (ra0 : -2147483648 ≤ a0 ∧ a0 ≤ -1) (x1 : Int32) (a1 : Int) (hx1 : x1.toInt = a1) {Q : Option Value → h_S → Prop} (kk : ∀ (r : Int32) (b : Int) (hb : r.toInt = b) (τ : h_S), h_I τ → h_F (k_in kf_w_undo_n) τ σ → ((-1) ≤ b ∧ b ≤ (-1)) → Q (some (.int r)) τ) : h_T g_P (g_Y ns) 183 0 [(0, .ref 98), (1, .int x0), (2, .int x1)] [] σ Q := by
  have F00 : h_F (k_in kf_w_undo_n) σ σ := h_F.rf
  refine h_aload_n (pc' := 1) rfl rfl rfl ?_
  refine h_iload_n (pc' := 2) rfl rfl rfl ?_
  refine h_iload_n (pc' := 3) rfl rfl rfl ?_
  refine h_call (sp := false) (pc' := 6) (M := [(0, .ref 98), (1, .int x0), (2, .int x1)]) rfl rfl rfl rfl rfl rfl rfl rfl ?_
  refine h_iload_n (pc' := 1) rfl rfl rfl ?_
  refine h_i2l (pc' := 2) rfl rfl hx0 (fun z1 hz1 => ?_)
  refine h_lconst (pc' := 3) (x := (Int64.ofInt 0)) rfl rfl rfl ?_
  refine h_lconst (pc' := 4) (x := (Int64.ofInt 1)) rfl rfl rfl ?_
  refine h_calls (pc' := 7) (M := [(0, .long z1), (2, .long (Int64.ofInt 0)), (4, .long (Int64.ofInt 1))]) rfl rfl rfl rfl rfl rfl ?_
  refine h_lload_n (pc' := 1) rfl rfl rfl ?_
  refine h_lload_n (pc' := 2) rfl rfl rfl ?_
  refine h_lcmp (pc' := 3) rfl rfl hz1 cl_0 (fun z2 hz2 => ?_)
  refine h_zlt (tg := 17) (pc' := 6) rfl rfl rfl rfl (fun c3 => ?_) (fun c3 => absurd c3 (by omega))
  replace c3 := (h_lcr hz2).1 c3
  clear hz2
  refine h_iconst (pc' := 18) (x := (Int32.ofInt 0)) rfl rfl rfl ?_
  refine h_zret rfl rfl ci_0 (by omega) (h_Kv ?_)
  refine h_zeq (tg := 38) (pc' := 10) rfl rfl rfl ci_0 (fun c4 => ?_) (fun c4 => absurd c4 (by omega))
  refine h_iconst (pc' := 39) (x := (Int32.ofInt 0)) rfl rfl rfl ?_
  refine h_zret rfl rfl ci_0 (by omega) (h_Kv ?_)
  refine h_zne (tg := 11) (pc' := 9) rfl rfl rfl ci_0 (fun c5 => absurd c5 (by omega)) (fun c5 => ?_)
  refine h_iconst (pc' := 10) (x := (Int32.ofInt (-1))) rfl rfl rfl ?_
  exact h_iret rfl rfl (kk _ _ ci_m1 _ hI F00 (by omega))
def kf_w_undo_p : List Nat := []
theorem w_undo_p {ns : Nat} (σ : h_S) (hI : h_I σ) (x0 : Int32) (a0 : Int) (hx0 : x0.toInt = a0) (ra0 : 2 ≤ a0 ∧ a0 ≤ 2147483647) (x1 : Int32) (a1 : Int) (hx1 : x1.toInt = a1) {Q : Option Value → h_S → Prop} (kk : ∀ (r : Int32) (b : Int) (hb : r.toInt = b) (τ : h_S), h_I τ → h_F (k_in kf_w_undo_p) τ σ → ((-1) ≤ b ∧ b ≤ (-1)) → Q (some (.int r)) τ) : h_T g_P (g_Y ns) 183 0 [(0, .ref 98), (1, .int x0), (2, .int x1)] [] σ Q := by
  have F00 : h_F (k_in kf_w_undo_p) σ σ := h_F.rf
  refine h_aload_n (pc' := 1) rfl rfl rfl ?_
  refine h_iload_n (pc' := 2) rfl rfl rfl ?_
  refine h_iload_n (pc' := 3) rfl rfl rfl ?_
  refine h_call (sp := false) (pc' := 6) (M := [(0, .ref 98), (1, .int x0), (2, .int x1)]) rfl rfl rfl rfl rfl rfl rfl rfl ?_
  refine h_iload_n (pc' := 1) rfl rfl rfl ?_
  refine h_i2l (pc' := 2) rfl rfl hx0 (fun z1 hz1 => ?_)
  refine h_lconst (pc' := 3) (x := (Int64.ofInt 0)) rfl rfl rfl ?_
  refine h_lconst (pc' := 4) (x := (Int64.ofInt 1)) rfl rfl rfl ?_
  refine h_calls (pc' := 7) (M := [(0, .long z1), (2, .long (Int64.ofInt 0)), (4, .long (Int64.ofInt 1))]) rfl rfl rfl rfl rfl rfl ?_
  refine h_lload_n (pc' := 1) rfl rfl rfl ?_
  refine h_lload_n (pc' := 2) rfl rfl rfl ?_
  refine h_lcmp (pc' := 3) rfl rfl hz1 cl_0 (fun z2 hz2 => ?_)
  refine h_zlt (tg := 17) (pc' := 6) rfl rfl rfl rfl (fun c3 => absurd c3 (by omega)) (fun c3 => ?_)
  replace c3 := (h_lcr hz2).2.1 c3
  clear hz2
  refine h_lload_n (pc' := 7) rfl rfl rfl ?_
  refine h_lload (pc' := 9) rfl rfl rfl ?_
  refine h_lcmp (pc' := 10) rfl rfl hz1 cl_1 (fun z4 hz4 => ?_)
  refine h_zgt (tg := 17) (pc' := 13) rfl rfl rfl rfl (fun c5 => ?_) (fun c5 => absurd c5 (by omega))
  replace c5 := (h_lcr hz4).2.2.2.1 c5
  clear hz4
  refine h_iconst (pc' := 18) (x := (Int32.ofInt 0)) rfl rfl rfl ?_
  refine h_zret rfl rfl ci_0 (by omega) (h_Kv ?_)
  refine h_zeq (tg := 38) (pc' := 10) rfl rfl rfl ci_0 (fun c6 => ?_) (fun c6 => absurd c6 (by omega))
  refine h_iconst (pc' := 39) (x := (Int32.ofInt 0)) rfl rfl rfl ?_
  refine h_zret rfl rfl ci_0 (by omega) (h_Kv ?_)
  refine h_zne (tg := 11) (pc' := 9) rfl rfl rfl ci_0 (fun c7 => absurd c7 (by omega)) (fun c7 => ?_)
  refine h_iconst (pc' := 10) (x := (Int32.ofInt (-1))) rfl rfl rfl ?_
  exact h_iret rfl rfl (kk _ _ ci_m1 _ hI F00 (by omega))
