def kf_w_85_9 : List Nat := []
theorem w_85_9 {ns : Nat} (σ : h_S) (hI : h_I σ) {Q : Option Value → h_S → Prop} (kk : ∀ (r : Int32) (b : Int) (hb : r.toInt = b) (τ : h_S), h_I τ → h_F (k_in kf_w_85_9) τ σ → (0 ≤ b ∧ b ≤ 6) → Q (some (.int r)) τ) : h_T g_P (g_Y ns) 85 0 [(0, .ref 9)] [] σ Q := by
  have F00 : h_F (k_in kf_w_85_9) σ σ := h_F.rf
  refine h_aload_n (pc' := 1) rfl rfl rfl ?_
  refine h_getR (pc' := 4) rfl rfl rfl rfl rfl ?_
  refine h_getI (pc' := 7) (v := σ 63 2) rfl rfl rfl rfl rfl rfl (fun z1 hz1 => ?_)
  have tz1 := tf_63_2 hI
  exact h_iret rfl rfl (kk _ _ hz1 _ hI F00 (by omega))
def kf_w_86_9 : List Nat := []
theorem w_86_9 {ns : Nat} (σ : h_S) (hI : h_I σ) (x0 : Int32) (a0 : Int) (hx0 : x0.toInt = a0) {Q : Option Value → h_S → Prop} (kk : ∀ (r : Int32) (b : Int) (hb : r.toInt = b) (τ : h_S), h_I τ → h_F (k_in kf_w_86_9) τ σ → Q (some (.int r)) τ) : h_T g_P (g_Y ns) 86 0 [(0, .ref 9), (1, .int x0)] [] σ Q := by
  have F00 : h_F (k_in kf_w_86_9) σ σ := h_F.rf
  refine h_iload_n (pc' := 1) rfl rfl rfl ?_
  refine h_tsw (dt := 94) (ts := [40, 48, 59, 70, 78, 86]) rfl rfl rfl rfl hx0 (fun c1 => ?_) ⟨fun c1 => ?_, fun c1 => ?_, fun c1 => ?_, fun c1 => ?_, fun c1 => ?_, fun c1 => ?_, trivial⟩
  · refine h_iconst (pc' := 95) (x := (Int32.ofInt (-1))) rfl rfl rfl ?_
    exact h_iret rfl rfl (kk _ _ ci_m1 _ hI F00)
  · refine h_aload_n (pc' := 41) rfl rfl rfl ?_
    refine h_getR (pc' := 44) rfl rfl rfl rfl rfl ?_
    refine h_getI (pc' := 47) (v := σ 10 8) rfl rfl rfl rfl rfl rfl (fun z2 hz2 => ?_)
    have tz2 := tf_10_8 hI
    exact h_iret rfl rfl (kk _ _ hz2 _ hI F00)
  · refine h_aload_n (pc' := 49) rfl rfl rfl ?_
    refine h_getR (pc' := 52) rfl rfl rfl rfl rfl ?_
    refine h_getR (pc' := 55) rfl rfl rfl rfl rfl ?_
    refine h_getI (pc' := 58) (v := σ 13 2) rfl rfl rfl rfl rfl rfl (fun z3 hz3 => ?_)
    have tz3 := tf_13_2 hI
    exact h_iret rfl rfl (kk _ _ hz3 _ hI F00)
  · refine h_aload_n (pc' := 60) rfl rfl rfl ?_
    refine h_getR (pc' := 63) rfl rfl rfl rfl rfl ?_
    refine h_getR (pc' := 66) rfl rfl rfl rfl rfl ?_
    refine h_getI (pc' := 69) (v := σ 16 2) rfl rfl rfl rfl rfl rfl (fun z4 hz4 => ?_)
    have tz4 := tf_16_2 hI
    exact h_iret rfl rfl (kk _ _ hz4 _ hI F00)
  · refine h_aload_n (pc' := 71) rfl rfl rfl ?_
    refine h_getR (pc' := 74) rfl rfl rfl rfl rfl ?_
    refine h_getI (pc' := 77) (v := σ 10 9) rfl rfl rfl rfl rfl rfl (fun z5 hz5 => ?_)
    have tz5 := tf_10_9 hI
    exact h_iret rfl rfl (kk _ _ hz5 _ hI F00)
  · refine h_aload_n (pc' := 79) rfl rfl rfl ?_
    refine h_getR (pc' := 82) rfl rfl rfl rfl rfl ?_
    refine h_getI (pc' := 85) (v := σ 10 10) rfl rfl rfl rfl rfl rfl (fun z6 hz6 => ?_)
    have tz6 := tf_10_10 hI
    exact h_iret rfl rfl (kk _ _ hz6 _ hI F00)
  · refine h_aload_n (pc' := 87) rfl rfl rfl ?_
    refine h_getR (pc' := 90) rfl rfl rfl rfl rfl ?_
    refine h_call (sp := false) (pc' := 93) (M := [(0, .ref 10)]) rfl rfl rfl rfl rfl rfl rfl rfl ?_
    refine w_11_10 _ hI  (fun r7 br7 hr7 s8 Is8 Gs8 => h_Kv ?_)
    have Fs8 := (Gs8.mono (B := kf_w_86_9) rfl).tr F00
    exact h_iret rfl rfl (kk _ _ hr7 _ Is8 Fs8)
def kf_w_87_9 : List Nat := [80898, 82943, 83967]
theorem w_87_9 {ns : Nat} (σ : h_S) (hI : h_I σ) (x0 : Int32) (a0 : Int) (hx0 : x0.toInt = a0) (x1 : Int32) (a1 : Int) (hx1 : x1.toInt = a1) {Q : Option Value → h_S → Prop} (kk : ∀ (r : Int32) (b : Int) (hb : r.toInt = b) (τ : h_S), h_I τ → h_F (k_in kf_w_87_9) τ σ → Q (some (.int r)) τ) : h_T g_P (g_Y ns) 87 0 [(0, .ref 9), (1, .int x0), (2, .int x1)] [] σ Q := by
  have F00 : h_F (k_in kf_w_87_9) σ σ := h_F.rf
  refine h_aload_n (pc' := 1) rfl rfl rfl ?_
  refine h_getR (pc' := 4) rfl rfl rfl rfl rfl ?_
  refine h_iload_n (pc' := 5) rfl rfl rfl ?_
  refine h_call (sp := false) (pc' := 8) (M := [(0, .ref 10), (1, .int x0)]) rfl rfl rfl rfl rfl rfl rfl rfl ?_
  refine h_iload_n (pc' := 1) rfl rfl rfl ?_
  refine h_zlt (tg := 16) (pc' := 4) rfl rfl rfl hx0 (fun c1 => ?_) (fun c1 => ?_)
  · refine h_iconst (pc' := 17) (x := (Int32.ofInt 0)) rfl rfl rfl ?_
    refine h_zret rfl rfl ci_0 (by omega) (h_Kv ?_)
    refine h_zne (tg := 13) (pc' := 11) rfl rfl rfl ci_0 (fun c2 => absurd c2 (by omega)) (fun c2 => ?_)
    refine h_iconst (pc' := 12) (x := (Int32.ofInt (-1))) rfl rfl rfl ?_
    exact h_iret rfl rfl (kk _ _ ci_m1 _ hI F00)
  · refine h_iload_n (pc' := 5) rfl rfl rfl ?_
    refine h_aload_n (pc' := 6) rfl rfl rfl ?_
    refine h_getI (pc' := 9) (v := σ 10 8) rfl rfl rfl rfl rfl rfl (fun z3 hz3 => ?_)
    have tz3 := tf_10_8 hI
    refine h_cge (tg := 16) (pc' := 12) rfl rfl rfl hx0 hz3 (fun c4 => ?_) (fun c4 => ?_)
    · refine h_iconst (pc' := 17) (x := (Int32.ofInt 0)) rfl rfl rfl ?_
      refine h_zret rfl rfl ci_0 (by omega) (h_Kv ?_)
      refine h_zne (tg := 13) (pc' := 11) rfl rfl rfl ci_0 (fun c5 => absurd c5 (by omega)) (fun c5 => ?_)
      refine h_iconst (pc' := 12) (x := (Int32.ofInt (-1))) rfl rfl rfl ?_
      exact h_iret rfl rfl (kk _ _ ci_m1 _ hI F00)
    · refine h_iconst (pc' := 13) (x := (Int32.ofInt 1)) rfl rfl rfl ?_
      refine h_goto (pc' := 17) rfl rfl ?_
      refine h_zret rfl rfl ci_1 (by omega) (h_Kv ?_)
      refine h_zne (tg := 13) (pc' := 11) rfl rfl rfl ci_1 (fun c6 => ?_) (fun c6 => absurd c6 (by omega))
      refine h_iload_n (pc' := 14) rfl rfl rfl ?_
      refine h_tsw (dt := 110) (ts := [48, 58, 68, 81, 90]) rfl rfl rfl rfl hx1 (fun c7 => ?_) ⟨fun c7 => ?_, fun c7 => ?_, fun c7 => ?_, fun c7 => ?_, fun c7 => ?_, trivial⟩
      · refine h_iconst (pc' := 111) (x := (Int32.ofInt (-1))) rfl rfl rfl ?_
        exact h_iret rfl rfl (kk _ _ ci_m1 _ hI F00)
      · refine h_aload_n (pc' := 49) rfl rfl rfl ?_
        refine h_getR (pc' := 52) rfl rfl rfl rfl rfl ?_
        refine h_getR (pc' := 55) rfl rfl rfl rfl rfl ?_
        refine h_iload_n (pc' := 56) rfl rfl rfl ?_
        refine h_iald (pc' := 57) (v := σ 11 a0) rfl rfl rfl hx0 (by omega) (by omega) rfl (fun z8 hz8 => ?_)
        have tz8 := ty_11 hI a0
        exact h_iret rfl rfl (kk _ _ hz8 _ hI F00)
      · refine h_aload_n (pc' := 59) rfl rfl rfl ?_
        refine h_getR (pc' := 62) rfl rfl rfl rfl rfl ?_
        refine h_getR (pc' := 65) rfl rfl rfl rfl rfl ?_
        refine h_iload_n (pc' := 66) rfl rfl rfl ?_
        refine h_iald (pc' := 67) (v := σ 12 a0) rfl rfl rfl hx0 (by omega) (by omega) rfl (fun z9 hz9 => ?_)
        have tz9 := ty_12 hI a0
        exact h_iret rfl rfl (kk _ _ hz9 _ hI F00)
      · refine h_aload_n (pc' := 69) rfl rfl rfl ?_
        refine h_getR (pc' := 72) rfl rfl rfl rfl rfl ?_
        refine h_getR (pc' := 75) rfl rfl rfl rfl rfl ?_
        refine h_iload_n (pc' := 76) rfl rfl rfl ?_
        refine h_iald (pc' := 77) (v := σ 11 a0) rfl rfl rfl hx0 (by omega) (by omega) rfl (fun z10 hz10 => ?_)
        have tz10 := ty_11 hI a0
        refine h_calls (pc' := 80) (M := [(0, .int z10)]) rfl rfl rfl rfl rfl rfl ?_
        refine h_iload_n (pc' := 1) rfl rfl rfl ?_
        refine h_tsw (dt := 34) (ts := [28, 30, 32]) rfl rfl rfl rfl hz10 (fun c11 => ?_) ⟨fun c11 => ?_, fun c11 => ?_, fun c11 => ?_, trivial⟩
        · refine h_iconst (pc' := 35) (x := (Int32.ofInt 4)) rfl rfl rfl ?_
          refine h_iret rfl rfl (h_Kv ?_)
          exact h_iret rfl rfl (kk _ _ ci_4 _ hI F00)
        · refine h_iconst (pc' := 29) (x := (Int32.ofInt 1)) rfl rfl rfl ?_
          refine h_iret rfl rfl (h_Kv ?_)
          exact h_iret rfl rfl (kk _ _ ci_1 _ hI F00)
        · refine h_iconst (pc' := 31) (x := (Int32.ofInt 2)) rfl rfl rfl ?_
          refine h_iret rfl rfl (h_Kv ?_)
          exact h_iret rfl rfl (kk _ _ ci_2 _ hI F00)
        · refine h_iconst (pc' := 33) (x := (Int32.ofInt 0)) rfl rfl rfl ?_
          refine h_iret rfl rfl (h_Kv ?_)
          exact h_iret rfl rfl (kk _ _ ci_0 _ hI F00)
      · refine h_aload_n (pc' := 82) rfl rfl rfl ?_
        refine h_getR (pc' := 85) rfl rfl rfl rfl rfl ?_
        refine h_iload_n (pc' := 86) rfl rfl rfl ?_
        refine h_call (sp := false) (pc' := 89) (M := [(0, .ref 10), (1, .int x0)]) rfl rfl rfl rfl rfl rfl rfl rfl ?_
        refine w_13_10 _ hI x0 _ hx0 (by omega) (fun r12 br12 hr12 s13 Is13 Gs13 => h_Kv ?_)
        have Fs13 := (Gs13.mono (B := kf_w_87_9) rfl).tr F00
        exact h_iret rfl rfl (kk _ _ hr12 _ Is13 Fs13)
      · refine h_aload_n (pc' := 91) rfl rfl rfl ?_
        refine h_getR (pc' := 94) rfl rfl rfl rfl rfl ?_
        refine h_aload_n (pc' := 95) rfl rfl rfl ?_
        refine h_getR (pc' := 98) rfl rfl rfl rfl rfl ?_
        refine h_call (sp := false) (pc' := 101) (M := [(0, .ref 79), (1, .ref 10)]) rfl rfl rfl rfl rfl rfl rfl rfl ?_
        refine w_23_79_10 _ hI  (fun s15 Is15 Gs15 => h_Kn ?_)
        have Fs15 := (Gs15.mono (B := kf_w_87_9) rfl).tr F00
        refine h_aload_n (pc' := 102) rfl rfl rfl ?_
        refine h_getR (pc' := 105) rfl rfl rfl rfl rfl ?_
        refine h_iload_n (pc' := 106) rfl rfl rfl ?_
        refine h_call (sp := false) (pc' := 109) (M := [(0, .ref 79), (1, .int x0)]) rfl rfl rfl rfl rfl rfl rfl rfl ?_
        refine h_aload_n (pc' := 1) rfl rfl rfl ?_
        refine h_iload_n (pc' := 2) rfl rfl rfl ?_
        refine h_sipush (pc' := 5) (x := (Int32.ofInt 999)) rfl rfl cs_999 ?_
        refine h_call (sp := false) (pc' := 8) (M := [(0, .ref 79), (1, .int x0), (2, .int (Int32.ofInt 999))]) rfl rfl rfl rfl rfl rfl rfl rfl ?_
        refine w_30_79 _ Is15 x0 _ hx0 (by omega) (Int32.ofInt 999) _ ci_999 (fun r16 br16 hr16 s17 Is17 Gs17 => h_Kv ?_)
        have Fs17 := (Gs17.mono (B := kf_w_87_9) rfl).tr Fs15
        refine h_iret rfl rfl (h_Kv ?_)
        exact h_iret rfl rfl (kk _ _ hr16 _ Is17 Fs17)
def kf_w_88_9 : List Nat := [80898, 82943, 83967]
theorem w_88_9 {ns : Nat} (σ : h_S) (hI : h_I σ) (x0 : Int32) (a0 : Int) (hx0 : x0.toInt = a0) (x1 : Int32) (a1 : Int) (hx1 : x1.toInt = a1) {Q : Option Value → h_S → Prop} (kk : ∀ (r : Int32) (b : Int) (hb : r.toInt = b) (τ : h_S), h_I τ → h_F (k_in kf_w_88_9) τ σ → Q (some (.int r)) τ) : h_T g_P (g_Y ns) 88 0 [(0, .ref 9), (1, .int x0), (2, .int x1)] [] σ Q := by
  have F00 : h_F (k_in kf_w_88_9) σ σ := h_F.rf
  refine h_aload_n (pc' := 1) rfl rfl rfl ?_
  refine h_getR (pc' := 4) rfl rfl rfl rfl rfl ?_
  refine h_iload_n (pc' := 5) rfl rfl rfl ?_
  refine h_call (sp := false) (pc' := 8) (M := [(0, .ref 10), (1, .int x0)]) rfl rfl rfl rfl rfl rfl rfl rfl ?_
  refine h_iload_n (pc' := 1) rfl rfl rfl ?_
  refine h_zlt (tg := 16) (pc' := 4) rfl rfl rfl hx0 (fun c1 => ?_) (fun c1 => ?_)
  · refine h_iconst (pc' := 17) (x := (Int32.ofInt 0)) rfl rfl rfl ?_
    refine h_zret rfl rfl ci_0 (by omega) (h_Kv ?_)
    refine h_zne (tg := 13) (pc' := 11) rfl rfl rfl ci_0 (fun c2 => absurd c2 (by omega)) (fun c2 => ?_)
    refine h_iconst (pc' := 12) (x := (Int32.ofInt (-1))) rfl rfl rfl ?_
    exact h_iret rfl rfl (kk _ _ ci_m1 _ hI F00)
  · refine h_iload_n (pc' := 5) rfl rfl rfl ?_
    refine h_aload_n (pc' := 6) rfl rfl rfl ?_
    refine h_getI (pc' := 9) (v := σ 10 9) rfl rfl rfl rfl rfl rfl (fun z3 hz3 => ?_)
    have tz3 := tf_10_9 hI
    refine h_cge (tg := 16) (pc' := 12) rfl rfl rfl hx0 hz3 (fun c4 => ?_) (fun c4 => ?_)
    · refine h_iconst (pc' := 17) (x := (Int32.ofInt 0)) rfl rfl rfl ?_
      refine h_zret rfl rfl ci_0 (by omega) (h_Kv ?_)
      refine h_zne (tg := 13) (pc' := 11) rfl rfl rfl ci_0 (fun c5 => absurd c5 (by omega)) (fun c5 => ?_)
      refine h_iconst (pc' := 12) (x := (Int32.ofInt (-1))) rfl rfl rfl ?_
      exact h_iret rfl rfl (kk _ _ ci_m1 _ hI F00)
    · refine h_iconst (pc' := 13) (x := (Int32.ofInt 1)) rfl rfl rfl ?_
      refine h_goto (pc' := 17) rfl rfl ?_
      refine h_zret rfl rfl ci_1 (by omega) (h_Kv ?_)
      refine h_zne (tg := 13) (pc' := 11) rfl rfl rfl ci_1 (fun c6 => ?_) (fun c6 => absurd c6 (by omega))
      refine h_iload_n (pc' := 14) rfl rfl rfl ?_
      refine h_tsw (dt := 111) (ts := [44, 54, 64, 74]) rfl rfl rfl rfl hx1 (fun c7 => ?_) ⟨fun c7 => ?_, fun c7 => ?_, fun c7 => ?_, fun c7 => ?_, trivial⟩
      · refine h_iconst (pc' := 112) (x := (Int32.ofInt (-1))) rfl rfl rfl ?_
        exact h_iret rfl rfl (kk _ _ ci_m1 _ hI F00)
      · refine h_aload_n (pc' := 45) rfl rfl rfl ?_
        refine h_getR (pc' := 48) rfl rfl rfl rfl rfl ?_
        refine h_getR (pc' := 51) rfl rfl rfl rfl rfl ?_
        refine h_iload_n (pc' := 52) rfl rfl rfl ?_
        refine h_iald (pc' := 53) (v := σ 19 a0) rfl rfl rfl hx0 (by omega) (by omega) rfl (fun z8 hz8 => ?_)
        have tz8 := ty_19 hI a0
        exact h_iret rfl rfl (kk _ _ hz8 _ hI F00)
      · refine h_aload_n (pc' := 55) rfl rfl rfl ?_
        refine h_getR (pc' := 58) rfl rfl rfl rfl rfl ?_
        refine h_getR (pc' := 61) rfl rfl rfl rfl rfl ?_
        refine h_iload_n (pc' := 62) rfl rfl rfl ?_
        refine h_iald (pc' := 63) (v := σ 20 a0) rfl rfl rfl hx0 (by omega) (by omega) rfl (fun z9 hz9 => ?_)
        have tz9 := ty_20 hI a0
        exact h_iret rfl rfl (kk _ _ hz9 _ hI F00)
      · refine h_aload_n (pc' := 65) rfl rfl rfl ?_
        refine h_getR (pc' := 68) rfl rfl rfl rfl rfl ?_
        refine h_getR (pc' := 71) rfl rfl rfl rfl rfl ?_
        refine h_iload_n (pc' := 72) rfl rfl rfl ?_
        refine h_iald (pc' := 73) (v := σ 21 a0) rfl rfl rfl hx0 (by omega) (by omega) rfl (fun z10 hz10 => ?_)
        have tz10 := ty_21 hI a0
        exact h_iret rfl rfl (kk _ _ hz10 _ hI F00)
      · refine h_aload_n (pc' := 75) rfl rfl rfl ?_
        refine h_getR (pc' := 78) rfl rfl rfl rfl rfl ?_
        refine h_aload_n (pc' := 79) rfl rfl rfl ?_
        refine h_getR (pc' := 82) rfl rfl rfl rfl rfl ?_
        refine h_call (sp := false) (pc' := 85) (M := [(0, .ref 79), (1, .ref 10)]) rfl rfl rfl rfl rfl rfl rfl rfl ?_
        refine w_23_79_10 _ hI  (fun s12 Is12 Gs12 => h_Kn ?_)
        have Fs12 := (Gs12.mono (B := kf_w_88_9) rfl).tr F00
        refine h_aload_n (pc' := 86) rfl rfl rfl ?_
        refine h_getR (pc' := 89) rfl rfl rfl rfl rfl ?_
        refine h_aload_n (pc' := 90) rfl rfl rfl ?_
        refine h_getR (pc' := 93) rfl rfl rfl rfl rfl ?_
        refine h_getR (pc' := 96) rfl rfl rfl rfl rfl ?_
        refine h_iload_n (pc' := 97) rfl rfl rfl ?_
        refine h_iald (pc' := 98) (v := σ 20 a0) rfl rfl rfl hx0 (by omega) (by omega) (Fs12 20 _ rfl) (fun z13 hz13 => ?_)
        have tz13 := ty_20 hI a0
        refine h_aload_n (pc' := 99) rfl rfl rfl ?_
        refine h_getR (pc' := 102) rfl rfl rfl rfl rfl ?_
        refine h_getR (pc' := 105) rfl rfl rfl rfl rfl ?_
        refine h_iload_n (pc' := 106) rfl rfl rfl ?_
        refine h_iald (pc' := 107) (v := σ 19 a0) rfl rfl rfl hx0 (by omega) (by omega) (Fs12 19 _ rfl) (fun z14 hz14 => ?_)
        have tz14 := ty_19 hI a0
        refine h_call (sp := false) (pc' := 110) (M := [(0, .ref 79), (1, .int z13), (2, .int z14)]) rfl rfl rfl rfl rfl rfl rfl rfl ?_
        refine w_29_79 _ Is12 z13 _ hz13 z14 _ hz14 (fun r15 br15 hr15 s16 Is16 Gs16 => h_Kv ?_)
        have Fs16 := (Gs16.mono (B := kf_w_88_9) rfl).tr Fs12
        exact h_iret rfl rfl (kk _ _ hr15 _ Is16 Fs16)
def kf_w_89_9 : List Nat := []
theorem w_89_9 {ns : Nat} (σ : h_S) (hI : h_I σ) (x0 : Int32) (a0 : Int) (hx0 : x0.toInt = a0) (x1 : Int32) (a1 : Int) (hx1 : x1.toInt = a1) {Q : Option Value → h_S → Prop} (kk : ∀ (r : Int32) (b : Int) (hb : r.toInt = b) (τ : h_S), h_I τ → h_F (k_in kf_w_89_9) τ σ → ((-1) ≤ b ∧ b ≤ 55) → Q (some (.int r)) τ) : h_T g_P (g_Y ns) 89 0 [(0, .ref 9), (1, .int x0), (2, .int x1)] [] σ Q := by
  have F00 : h_F (k_in kf_w_89_9) σ σ := h_F.rf
  refine h_iload_n (pc' := 1) rfl rfl rfl ?_
  refine h_calls (pc' := 4) (M := [(0, .int x0)]) rfl rfl rfl rfl rfl rfl ?_
  refine h_iload_n (pc' := 1) rfl rfl rfl ?_
  refine h_zeq (tg := 9) (pc' := 4) rfl rfl rfl hx0 (fun c1 => ?_) (fun c1 => ?_)
  · refine h_iconst (pc' := 10) (x := (Int32.ofInt 1)) rfl rfl rfl ?_
    refine h_goto (pc' := 14) rfl rfl ?_
    refine h_zret rfl rfl ci_1 (by omega) (h_Kv ?_)
    refine h_zne (tg := 9) (pc' := 7) rfl rfl rfl ci_1 (fun c2 => ?_) (fun c2 => absurd c2 (by omega))
    refine h_aload_n (pc' := 10) rfl rfl rfl ?_
    refine h_getR (pc' := 13) rfl rfl rfl rfl rfl ?_
    refine h_iload_n (pc' := 14) rfl rfl rfl ?_
    refine h_call (sp := false) (pc' := 17) (M := [(0, .ref 10), (1, .int x0)]) rfl rfl rfl rfl rfl rfl rfl rfl ?_
    refine h_iload_n (pc' := 1) rfl rfl rfl ?_
    refine h_zne (tg := 11) (pc' := 4) rfl rfl rfl hx0 (fun c3 => absurd c3 (by omega)) (fun c3 => ?_)
    refine h_aload_n (pc' := 5) rfl rfl rfl ?_
    refine h_getR (pc' := 8) rfl rfl rfl rfl rfl ?_
    refine h_goto (pc' := 15) rfl rfl ?_
    refine h_aret rfl rfl (h_Kv ?_)
    refine h_astore_n (pc' := 18) (M := [(3, .ref 13), (0, .ref 9), (1, .int x0), (2, .int x1)]) rfl rfl rfl rfl ?_
    refine h_aload_n (pc' := 19) rfl rfl rfl ?_
    refine h_iload_n (pc' := 20) rfl rfl rfl ?_
    refine h_call (sp := false) (pc' := 23) (M := [(0, .ref 13), (1, .int x1)]) rfl rfl rfl rfl rfl rfl rfl rfl ?_
    refine h_iload_n (pc' := 1) rfl rfl rfl ?_
    refine h_zlt (tg := 16) (pc' := 4) rfl rfl rfl hx1 (fun c4 => ?_) (fun c4 => ?_)
    · refine h_iconst (pc' := 17) (x := (Int32.ofInt 0)) rfl rfl rfl ?_
      refine h_zret rfl rfl ci_0 (by omega) (h_Kv ?_)
      refine h_zeq (tg := 45) (pc' := 26) rfl rfl rfl ci_0 (fun c5 => ?_) (fun c5 => absurd c5 (by omega))
      refine h_iconst (pc' := 46) (x := (Int32.ofInt (-1))) rfl rfl rfl ?_
      exact h_iret rfl rfl (kk _ _ ci_m1 _ hI F00 (by omega))
    · refine h_iload_n (pc' := 5) rfl rfl rfl ?_
      refine h_aload_n (pc' := 6) rfl rfl rfl ?_
      refine h_getI (pc' := 9) (v := σ 13 2) rfl rfl rfl rfl rfl rfl (fun z6 hz6 => ?_)
      have tz6 := tf_13_2 hI
      refine h_cge (tg := 16) (pc' := 12) rfl rfl rfl hx1 hz6 (fun c7 => ?_) (fun c7 => ?_)
      · refine h_iconst (pc' := 17) (x := (Int32.ofInt 0)) rfl rfl rfl ?_
        refine h_zret rfl rfl ci_0 (by omega) (h_Kv ?_)
        refine h_zeq (tg := 45) (pc' := 26) rfl rfl rfl ci_0 (fun c8 => ?_) (fun c8 => absurd c8 (by omega))
        refine h_iconst (pc' := 46) (x := (Int32.ofInt (-1))) rfl rfl rfl ?_
        exact h_iret rfl rfl (kk _ _ ci_m1 _ hI F00 (by omega))
      · refine h_iconst (pc' := 13) (x := (Int32.ofInt 1)) rfl rfl rfl ?_
        refine h_goto (pc' := 17) rfl rfl ?_
        refine h_zret rfl rfl ci_1 (by omega) (h_Kv ?_)
        refine h_zeq (tg := 45) (pc' := 26) rfl rfl rfl ci_1 (fun c9 => absurd c9 (by omega)) (fun c9 => ?_)
        refine h_bipush (pc' := 28) (x := (Int32.ofInt 10)) rfl rfl cb_10 ?_
        refine h_aload_n (pc' := 29) rfl rfl rfl ?_
        refine h_getR (pc' := 32) rfl rfl rfl rfl rfl ?_
        refine h_iload_n (pc' := 33) rfl rfl rfl ?_
        refine h_iald (pc' := 34) (v := σ 14 a1) rfl rfl rfl hx1 (by omega) (by omega) rfl (fun z10 hz10 => ?_)
        have tz10 := ty_14 hI a1
        refine h_imul (pc' := 35) rfl rfl ci_10 hz10 rfl (by omega) (by omega) (fun z11 hz11 => ?_)
        refine h_aload_n (pc' := 36) rfl rfl rfl ?_
        refine h_getR (pc' := 39) rfl rfl rfl rfl rfl ?_
        refine h_iload_n (pc' := 40) rfl rfl rfl ?_
        refine h_iald (pc' := 41) (v := σ 15 a1) rfl rfl rfl hx1 (by omega) (by omega) rfl (fun z12 hz12 => ?_)
        have tz12 := ty_15 hI a1
        refine h_iadd (pc' := 42) rfl rfl hz11 hz12 rfl (by omega) (by omega) (fun z13 hz13 => ?_)
        refine h_goto (pc' := 46) rfl rfl ?_
        exact h_iret rfl rfl (kk _ _ hz13 _ hI F00 (by omega))
  · refine h_iload_n (pc' := 5) rfl rfl rfl ?_
    refine h_iconst (pc' := 6) (x := (Int32.ofInt 1)) rfl rfl rfl ?_
    refine h_cne (tg := 13) (pc' := 9) rfl rfl rfl hx0 ci_1 (fun c14 => ?_) (fun c14 => ?_)
    · refine h_iconst (pc' := 14) (x := (Int32.ofInt 0)) rfl rfl rfl ?_
      refine h_zret rfl rfl ci_0 (by omega) (h_Kv ?_)
      refine h_zne (tg := 9) (pc' := 7) rfl rfl rfl ci_0 (fun c15 => absurd c15 (by omega)) (fun c15 => ?_)
      refine h_iconst (pc' := 8) (x := (Int32.ofInt (-1))) rfl rfl rfl ?_
      exact h_iret rfl rfl (kk _ _ ci_m1 _ hI F00 (by omega))
    · refine h_iconst (pc' := 10) (x := (Int32.ofInt 1)) rfl rfl rfl ?_
      refine h_goto (pc' := 14) rfl rfl ?_
      refine h_zret rfl rfl ci_1 (by omega) (h_Kv ?_)
      refine h_zne (tg := 9) (pc' := 7) rfl rfl rfl ci_1 (fun c16 => ?_) (fun c16 => absurd c16 (by omega))
      refine h_aload_n (pc' := 10) rfl rfl rfl ?_
      refine h_getR (pc' := 13) rfl rfl rfl rfl rfl ?_
      refine h_iload_n (pc' := 14) rfl rfl rfl ?_
      refine h_call (sp := false) (pc' := 17) (M := [(0, .ref 10), (1, .int x0)]) rfl rfl rfl rfl rfl rfl rfl rfl ?_
      refine h_iload_n (pc' := 1) rfl rfl rfl ?_
      refine h_zne (tg := 11) (pc' := 4) rfl rfl rfl hx0 (fun c17 => ?_) (fun c17 => absurd c17 (by omega))
      refine h_aload_n (pc' := 12) rfl rfl rfl ?_
      refine h_getR (pc' := 15) rfl rfl rfl rfl rfl ?_
      refine h_aret rfl rfl (h_Kv ?_)
      refine h_astore_n (pc' := 18) (M := [(3, .ref 16), (0, .ref 9), (1, .int x0), (2, .int x1)]) rfl rfl rfl rfl ?_
      refine h_aload_n (pc' := 19) rfl rfl rfl ?_
      refine h_iload_n (pc' := 20) rfl rfl rfl ?_
      refine h_call (sp := false) (pc' := 23) (M := [(0, .ref 16), (1, .int x1)]) rfl rfl rfl rfl rfl rfl rfl rfl ?_
      refine h_iload_n (pc' := 1) rfl rfl rfl ?_
      refine h_zlt (tg := 16) (pc' := 4) rfl rfl rfl hx1 (fun c18 => ?_) (fun c18 => ?_)
      · refine h_iconst (pc' := 17) (x := (Int32.ofInt 0)) rfl rfl rfl ?_
        refine h_zret rfl rfl ci_0 (by omega) (h_Kv ?_)
        refine h_zeq (tg := 45) (pc' := 26) rfl rfl rfl ci_0 (fun c19 => ?_) (fun c19 => absurd c19 (by omega))
        refine h_iconst (pc' := 46) (x := (Int32.ofInt (-1))) rfl rfl rfl ?_
        exact h_iret rfl rfl (kk _ _ ci_m1 _ hI F00 (by omega))
      · refine h_iload_n (pc' := 5) rfl rfl rfl ?_
        refine h_aload_n (pc' := 6) rfl rfl rfl ?_
        refine h_getI (pc' := 9) (v := σ 16 2) rfl rfl rfl rfl rfl rfl (fun z20 hz20 => ?_)
        have tz20 := tf_16_2 hI
        refine h_cge (tg := 16) (pc' := 12) rfl rfl rfl hx1 hz20 (fun c21 => ?_) (fun c21 => ?_)
        · refine h_iconst (pc' := 17) (x := (Int32.ofInt 0)) rfl rfl rfl ?_
          refine h_zret rfl rfl ci_0 (by omega) (h_Kv ?_)
          refine h_zeq (tg := 45) (pc' := 26) rfl rfl rfl ci_0 (fun c22 => ?_) (fun c22 => absurd c22 (by omega))
          refine h_iconst (pc' := 46) (x := (Int32.ofInt (-1))) rfl rfl rfl ?_
          exact h_iret rfl rfl (kk _ _ ci_m1 _ hI F00 (by omega))
        · refine h_iconst (pc' := 13) (x := (Int32.ofInt 1)) rfl rfl rfl ?_
          refine h_goto (pc' := 17) rfl rfl ?_
          refine h_zret rfl rfl ci_1 (by omega) (h_Kv ?_)
          refine h_zeq (tg := 45) (pc' := 26) rfl rfl rfl ci_1 (fun c23 => absurd c23 (by omega)) (fun c23 => ?_)
          refine h_bipush (pc' := 28) (x := (Int32.ofInt 10)) rfl rfl cb_10 ?_
          refine h_aload_n (pc' := 29) rfl rfl rfl ?_
          refine h_getR (pc' := 32) rfl rfl rfl rfl rfl ?_
          refine h_iload_n (pc' := 33) rfl rfl rfl ?_
          refine h_iald (pc' := 34) (v := σ 17 a1) rfl rfl rfl hx1 (by omega) (by omega) rfl (fun z24 hz24 => ?_)
          have tz24 := ty_17 hI a1
          refine h_imul (pc' := 35) rfl rfl ci_10 hz24 rfl (by omega) (by omega) (fun z25 hz25 => ?_)
          refine h_aload_n (pc' := 36) rfl rfl rfl ?_
          refine h_getR (pc' := 39) rfl rfl rfl rfl rfl ?_
          refine h_iload_n (pc' := 40) rfl rfl rfl ?_
          refine h_iald (pc' := 41) (v := σ 18 a1) rfl rfl rfl hx1 (by omega) (by omega) rfl (fun z26 hz26 => ?_)
          have tz26 := ty_18 hI a1
          refine h_iadd (pc' := 42) rfl rfl hz25 hz26 rfl (by omega) (by omega) (fun z27 hz27 => ?_)
          refine h_goto (pc' := 46) rfl rfl ?_
          exact h_iret rfl rfl (kk _ _ hz27 _ hI F00 (by omega))
def kf_w_90_9 : List Nat := []
theorem w_90_9 {ns : Nat} (σ : h_S) (hI : h_I σ) (x0 : Int32) (a0 : Int) (hx0 : x0.toInt = a0) {Q : Option Value → h_S → Prop} (kk : ∀ (r : Int32) (b : Int) (hb : r.toInt = b) (τ : h_S), h_I τ → h_F (k_in kf_w_90_9) τ σ → ((-1) ≤ b ∧ b ≤ 52) → Q (some (.int r)) τ) : h_T g_P (g_Y ns) 90 0 [(0, .ref 9), (1, .int x0)] [] σ Q := by
  have F00 : h_F (k_in kf_w_90_9) σ σ := h_F.rf
  refine h_iload_n (pc' := 1) rfl rfl rfl ?_
  refine h_zlt (tg := 27) (pc' := 4) rfl rfl rfl hx0 (fun c1 => ?_) (fun c1 => ?_)
  · refine h_iconst (pc' := 28) (x := (Int32.ofInt (-1))) rfl rfl rfl ?_
    exact h_iret rfl rfl (kk _ _ ci_m1 _ hI F00 (by omega))
  · refine h_iload_n (pc' := 5) rfl rfl rfl ?_
    refine h_aload_n (pc' := 6) rfl rfl rfl ?_
    refine h_getR (pc' := 9) rfl rfl rfl rfl rfl ?_
    refine h_getI (pc' := 12) (v := σ 10 10) rfl rfl rfl rfl rfl rfl (fun z2 hz2 => ?_)
    have tz2 := tf_10_10 hI
    refine h_cge (tg := 27) (pc' := 15) rfl rfl rfl hx0 hz2 (fun c3 => ?_) (fun c3 => ?_)
    · refine h_iconst (pc' := 28) (x := (Int32.ofInt (-1))) rfl rfl rfl ?_
      exact h_iret rfl rfl (kk _ _ ci_m1 _ hI F00 (by omega))
    · refine h_aload_n (pc' := 16) rfl rfl rfl ?_
      refine h_getR (pc' := 19) rfl rfl rfl rfl rfl ?_
      refine h_getR (pc' := 22) rfl rfl rfl rfl rfl ?_
      refine h_iload_n (pc' := 23) rfl rfl rfl ?_
      refine h_iald (pc' := 24) (v := σ 22 a0) rfl rfl rfl hx0 (by omega) (by omega) rfl (fun z4 hz4 => ?_)
      have tz4 := ty_22 hI a0
      refine h_goto (pc' := 28) rfl rfl ?_
      exact h_iret rfl rfl (kk _ _ hz4 _ hI F00 (by omega))
def kf_w_91_9 : List Nat := [80898, 82943, 83967]
theorem w_91_9 {ns : Nat} (σ : h_S) (hI : h_I σ) (x0 : Int32) (a0 : Int) (hx0 : x0.toInt = a0) (x1 : Int32) (a1 : Int) (hx1 : x1.toInt = a1) {Q : Option Value → h_S → Prop} (kk : ∀ (r : Int32) (b : Int) (hb : r.toInt = b) (τ : h_S), h_I τ → h_F (k_in kf_w_91_9) τ σ → ((-4) ≤ b ∧ b ≤ 999) → Q (some (.int r)) τ) : h_T g_P (g_Y ns) 91 0 [(0, .ref 9), (1, .int x0), (2, .int x1)] [] σ Q := by
  have F00 : h_F (k_in kf_w_91_9) σ σ := h_F.rf
  refine h_aload_n (pc' := 1) rfl rfl rfl ?_
  refine h_getR (pc' := 4) rfl rfl rfl rfl rfl ?_
  refine h_iload_n (pc' := 5) rfl rfl rfl ?_
  refine h_call (sp := false) (pc' := 8) (M := [(0, .ref 10), (1, .int x0)]) rfl rfl rfl rfl rfl rfl rfl rfl ?_
  refine h_iload_n (pc' := 1) rfl rfl rfl ?_
  refine h_zlt (tg := 16) (pc' := 4) rfl rfl rfl hx0 (fun c1 => ?_) (fun c1 => ?_)
  · refine h_iconst (pc' := 17) (x := (Int32.ofInt 0)) rfl rfl rfl ?_
    refine h_zret rfl rfl ci_0 (by omega) (h_Kv ?_)
    refine h_zeq (tg := 22) (pc' := 11) rfl rfl rfl ci_0 (fun c2 => ?_) (fun c2 => absurd c2 (by omega))
    refine h_iconst (pc' := 23) (x := (Int32.ofInt (-1))) rfl rfl rfl ?_
    exact h_iret rfl rfl (kk _ _ ci_m1 _ hI F00 (by omega))
  · refine h_iload_n (pc' := 5) rfl rfl rfl ?_
    refine h_aload_n (pc' := 6) rfl rfl rfl ?_
    refine h_getI (pc' := 9) (v := σ 10 8) rfl rfl rfl rfl rfl rfl (fun z3 hz3 => ?_)
    have tz3 := tf_10_8 hI
    refine h_cge (tg := 16) (pc' := 12) rfl rfl rfl hx0 hz3 (fun c4 => ?_) (fun c4 => ?_)
    · refine h_iconst (pc' := 17) (x := (Int32.ofInt 0)) rfl rfl rfl ?_
      refine h_zret rfl rfl ci_0 (by omega) (h_Kv ?_)
      refine h_zeq (tg := 22) (pc' := 11) rfl rfl rfl ci_0 (fun c5 => ?_) (fun c5 => absurd c5 (by omega))
      refine h_iconst (pc' := 23) (x := (Int32.ofInt (-1))) rfl rfl rfl ?_
      exact h_iret rfl rfl (kk _ _ ci_m1 _ hI F00 (by omega))
    · refine h_iconst (pc' := 13) (x := (Int32.ofInt 1)) rfl rfl rfl ?_
      refine h_goto (pc' := 17) rfl rfl ?_
      refine h_zret rfl rfl ci_1 (by omega) (h_Kv ?_)
      refine h_zeq (tg := 22) (pc' := 11) rfl rfl rfl ci_1 (fun c6 => absurd c6 (by omega)) (fun c6 => ?_)
      refine h_aload_n (pc' := 12) rfl rfl rfl ?_
      refine h_getR (pc' := 15) rfl rfl rfl rfl rfl ?_
      refine h_iload_n (pc' := 16) rfl rfl rfl ?_
      refine h_call (sp := false) (pc' := 19) (M := [(0, .ref 10), (1, .int x1)]) rfl rfl rfl rfl rfl rfl rfl rfl ?_
      refine h_iload_n (pc' := 1) rfl rfl rfl ?_
      refine h_zlt (tg := 16) (pc' := 4) rfl rfl rfl hx1 (fun c7 => ?_) (fun c7 => ?_)
      · refine h_iconst (pc' := 17) (x := (Int32.ofInt 0)) rfl rfl rfl ?_
        refine h_zret rfl rfl ci_0 (by omega) (h_Kv ?_)
        refine h_zne (tg := 24) (pc' := 22) rfl rfl rfl ci_0 (fun c8 => absurd c8 (by omega)) (fun c8 => ?_)
        refine h_iconst (pc' := 23) (x := (Int32.ofInt (-1))) rfl rfl rfl ?_
        exact h_iret rfl rfl (kk _ _ ci_m1 _ hI F00 (by omega))
      · refine h_iload_n (pc' := 5) rfl rfl rfl ?_
        refine h_aload_n (pc' := 6) rfl rfl rfl ?_
        refine h_getI (pc' := 9) (v := σ 10 8) rfl rfl rfl rfl rfl rfl (fun z9 hz9 => ?_)
        have tz9 := tf_10_8 hI
        refine h_cge (tg := 16) (pc' := 12) rfl rfl rfl hx1 hz9 (fun c10 => ?_) (fun c10 => ?_)
        · refine h_iconst (pc' := 17) (x := (Int32.ofInt 0)) rfl rfl rfl ?_
          refine h_zret rfl rfl ci_0 (by omega) (h_Kv ?_)
          refine h_zne (tg := 24) (pc' := 22) rfl rfl rfl ci_0 (fun c11 => absurd c11 (by omega)) (fun c11 => ?_)
          refine h_iconst (pc' := 23) (x := (Int32.ofInt (-1))) rfl rfl rfl ?_
          exact h_iret rfl rfl (kk _ _ ci_m1 _ hI F00 (by omega))
        · refine h_iconst (pc' := 13) (x := (Int32.ofInt 1)) rfl rfl rfl ?_
          refine h_goto (pc' := 17) rfl rfl ?_
          refine h_zret rfl rfl ci_1 (by omega) (h_Kv ?_)
          refine h_zne (tg := 24) (pc' := 22) rfl rfl rfl ci_1 (fun c12 => ?_) (fun c12 => absurd c12 (by omega))
          refine h_aload_n (pc' := 25) rfl rfl rfl ?_
          refine h_getR (pc' := 28) rfl rfl rfl rfl rfl ?_
          refine h_aload_n (pc' := 29) rfl rfl rfl ?_
          refine h_getR (pc' := 32) rfl rfl rfl rfl rfl ?_
          refine h_call (sp := false) (pc' := 35) (M := [(0, .ref 79), (1, .ref 10)]) rfl rfl rfl rfl rfl rfl rfl rfl ?_
          refine w_23_79_10 _ hI  (fun s14 Is14 Gs14 => h_Kn ?_)
          have Fs14 := (Gs14.mono (B := kf_w_91_9) rfl).tr F00
          refine h_aload_n (pc' := 36) rfl rfl rfl ?_
          refine h_getR (pc' := 39) rfl rfl rfl rfl rfl ?_
          refine h_iload_n (pc' := 40) rfl rfl rfl ?_
          refine h_iload_n (pc' := 41) rfl rfl rfl ?_
          refine h_call (sp := false) (pc' := 44) (M := [(0, .ref 79), (1, .int x0), (2, .int x1)]) rfl rfl rfl rfl rfl rfl rfl rfl ?_
          refine h_aload_n (pc' := 1) rfl rfl rfl ?_
          refine h_getR (pc' := 4) rfl rfl rfl rfl rfl ?_
          refine h_iload_n (pc' := 5) rfl rfl rfl ?_
          refine h_bipush (pc' := 7) (x := (Int32.ofInt 6)) rfl rfl cb_6 ?_
          refine h_imul (pc' := 8) rfl rfl hx0 ci_6 rfl (by have g0 := h_rgv hx0; omega) (by have g0 := h_rgv hx0; omega) (fun z15 hz15 => ?_)
          refine h_iload_n (pc' := 9) rfl rfl rfl ?_
          refine h_iadd (pc' := 10) rfl rfl hz15 hx1 rfl (by have g0 := h_rgv hx1; omega) (by have g0 := h_rgv hx1; omega) (fun z16 hz16 => ?_)
          refine h_iald (pc' := 11) (v := s14 80 ((a0 * 6) + a1)) rfl rfl rfl hz16 (by omega) (by omega) rfl (fun z17 hz17 => ?_)
          have tz17 := ty_80 Is14 ((a0 * 6) + a1)
          refine h_iret rfl rfl (h_Kv ?_)
          refine h_istore_n (pc' := 45) (M := [(3, .int z17), (0, .ref 9), (1, .int x0), (2, .int x1)]) rfl rfl rfl rfl ?_
          refine h_iload_n (pc' := 46) rfl rfl rfl ?_
          refine h_sipush (pc' := 49) (x := (Int32.ofInt 1000)) rfl rfl cs_1000 ?_
          refine h_cge (tg := 56) (pc' := 52) rfl rfl rfl hz17 ci_1000 (fun c18 => ?_) (fun c18 => ?_)
          · refine h_bipush (pc' := 58) (x := (Int32.ofInt (-4))) rfl rfl cb_m4 ?_
            exact h_iret rfl rfl (kk _ _ ci_m4 _ Is14 Fs14 (by omega))
          · refine h_iload_n (pc' := 53) rfl rfl rfl ?_
            refine h_goto (pc' := 58) rfl rfl ?_
            exact h_iret rfl rfl (kk _ _ hz17 _ Is14 Fs14 (by omega))
def kf_w_92_9 : List Nat := []
theorem w_92_9 {ns : Nat} (σ : h_S) (hI : h_I σ) (x0 : Int32) (a0 : Int) (hx0 : x0.toInt = a0) (x1 : Int32) (a1 : Int) (hx1 : x1.toInt = a1) {Q : Option Value → h_S → Prop} (kk : ∀ (r : Int32) (b : Int) (hb : r.toInt = b) (τ : h_S), h_I τ → h_F (k_in kf_w_92_9) τ σ → ((-4) ≤ b ∧ b ≤ 5) → Q (some (.int r)) τ) : h_T g_P (g_Y ns) 92 0 [(0, .ref 9), (1, .int x0), (2, .int x1)] [] σ Q := by
  have F00 : h_F (k_in kf_w_92_9) σ σ := h_F.rf
  refine h_aload_n (pc' := 1) rfl rfl rfl ?_
  refine h_getR (pc' := 4) rfl rfl rfl rfl rfl ?_
  refine h_iload_n (pc' := 5) rfl rfl rfl ?_
  refine h_call (sp := false) (pc' := 8) (M := [(0, .ref 10), (1, .int x0)]) rfl rfl rfl rfl rfl rfl rfl rfl ?_
  refine h_iload_n (pc' := 1) rfl rfl rfl ?_
  refine h_zlt (tg := 16) (pc' := 4) rfl rfl rfl hx0 (fun c1 => ?_) (fun c1 => ?_)
  · refine h_iconst (pc' := 17) (x := (Int32.ofInt 0)) rfl rfl rfl ?_
    refine h_zret rfl rfl ci_0 (by omega) (h_Kv ?_)
    refine h_zeq (tg := 22) (pc' := 11) rfl rfl rfl ci_0 (fun c2 => ?_) (fun c2 => absurd c2 (by omega))
    refine h_iconst (pc' := 23) (x := (Int32.ofInt (-1))) rfl rfl rfl ?_
    exact h_iret rfl rfl (kk _ _ ci_m1 _ hI F00 (by omega))
  · refine h_iload_n (pc' := 5) rfl rfl rfl ?_
    refine h_aload_n (pc' := 6) rfl rfl rfl ?_
    refine h_getI (pc' := 9) (v := σ 10 8) rfl rfl rfl rfl rfl rfl (fun z3 hz3 => ?_)
    have tz3 := tf_10_8 hI
    refine h_cge (tg := 16) (pc' := 12) rfl rfl rfl hx0 hz3 (fun c4 => ?_) (fun c4 => ?_)
    · refine h_iconst (pc' := 17) (x := (Int32.ofInt 0)) rfl rfl rfl ?_
      refine h_zret rfl rfl ci_0 (by omega) (h_Kv ?_)
      refine h_zeq (tg := 22) (pc' := 11) rfl rfl rfl ci_0 (fun c5 => ?_) (fun c5 => absurd c5 (by omega))
      refine h_iconst (pc' := 23) (x := (Int32.ofInt (-1))) rfl rfl rfl ?_
      exact h_iret rfl rfl (kk _ _ ci_m1 _ hI F00 (by omega))
    · refine h_iconst (pc' := 13) (x := (Int32.ofInt 1)) rfl rfl rfl ?_
      refine h_goto (pc' := 17) rfl rfl ?_
      refine h_zret rfl rfl ci_1 (by omega) (h_Kv ?_)
      refine h_zeq (tg := 22) (pc' := 11) rfl rfl rfl ci_1 (fun c6 => absurd c6 (by omega)) (fun c6 => ?_)
      refine h_aload_n (pc' := 12) rfl rfl rfl ?_
      refine h_getR (pc' := 15) rfl rfl rfl rfl rfl ?_
      refine h_iload_n (pc' := 16) rfl rfl rfl ?_
      refine h_call (sp := false) (pc' := 19) (M := [(0, .ref 10), (1, .int x1)]) rfl rfl rfl rfl rfl rfl rfl rfl ?_
      refine h_iload_n (pc' := 1) rfl rfl rfl ?_
      refine h_zlt (tg := 16) (pc' := 4) rfl rfl rfl hx1 (fun c7 => ?_) (fun c7 => ?_)
      · refine h_iconst (pc' := 17) (x := (Int32.ofInt 0)) rfl rfl rfl ?_
        refine h_zret rfl rfl ci_0 (by omega) (h_Kv ?_)
        refine h_zne (tg := 24) (pc' := 22) rfl rfl rfl ci_0 (fun c8 => absurd c8 (by omega)) (fun c8 => ?_)
        refine h_iconst (pc' := 23) (x := (Int32.ofInt (-1))) rfl rfl rfl ?_
        exact h_iret rfl rfl (kk _ _ ci_m1 _ hI F00 (by omega))
      · refine h_iload_n (pc' := 5) rfl rfl rfl ?_
        refine h_aload_n (pc' := 6) rfl rfl rfl ?_
        refine h_getI (pc' := 9) (v := σ 10 8) rfl rfl rfl rfl rfl rfl (fun z9 hz9 => ?_)
        have tz9 := tf_10_8 hI
        refine h_cge (tg := 16) (pc' := 12) rfl rfl rfl hx1 hz9 (fun c10 => ?_) (fun c10 => ?_)
        · refine h_iconst (pc' := 17) (x := (Int32.ofInt 0)) rfl rfl rfl ?_
          refine h_zret rfl rfl ci_0 (by omega) (h_Kv ?_)
          refine h_zne (tg := 24) (pc' := 22) rfl rfl rfl ci_0 (fun c11 => absurd c11 (by omega)) (fun c11 => ?_)
          refine h_iconst (pc' := 23) (x := (Int32.ofInt (-1))) rfl rfl rfl ?_
          exact h_iret rfl rfl (kk _ _ ci_m1 _ hI F00 (by omega))
        · refine h_iconst (pc' := 13) (x := (Int32.ofInt 1)) rfl rfl rfl ?_
          refine h_goto (pc' := 17) rfl rfl ?_
          refine h_zret rfl rfl ci_1 (by omega) (h_Kv ?_)
          refine h_zne (tg := 24) (pc' := 22) rfl rfl rfl ci_1 (fun c12 => ?_) (fun c12 => absurd c12 (by omega))
          refine h_aload_n (pc' := 25) rfl rfl rfl ?_
          refine h_getR (pc' := 28) rfl rfl rfl rfl rfl ?_
          refine h_iload_n (pc' := 29) rfl rfl rfl ?_
          refine h_iload_n (pc' := 30) rfl rfl rfl ?_
          refine h_call (sp := false) (pc' := 33) (M := [(0, .ref 10), (1, .int x0), (2, .int x1)]) rfl rfl rfl rfl rfl rfl rfl rfl ?_
          refine w_14_10 _ hI x0 _ hx0 (by omega) x1 _ hx1 (by omega) (fun r13 br13 hr13 s14 Is14 Gs14 tr13 => h_Kv ?_)
          have Fs14 := (Gs14.mono (B := kf_w_92_9) rfl).tr F00
          exact h_iret rfl rfl (kk _ _ hr13 _ Is14 Fs14 (by omega))
def kf_w_101_9 : List Nat := [80898, 82943, 83967, 83970, 86015, 87039]
theorem w_101_9 {ns : Nat} (σ : h_S) (hI : h_I σ) (x0 : Int32) (a0 : Int) (hx0 : x0.toInt = a0) {Q : Option Value → h_S → Prop} (kk : ∀ (r : Int32) (b : Int) (hb : r.toInt = b) (τ : h_S), h_I τ → h_F (k_in kf_w_101_9) τ σ → Q (some (.int r)) τ) : h_T g_P (g_Y ns) 101 0 [(0, .ref 9), (1, .int x0)] [] σ Q := by
  have F00 : h_F (k_in kf_w_101_9) σ σ := h_F.rf
  refine h_iload_n (pc' := 1) rfl rfl rfl ?_
  refine h_zlt (tg := 9) (pc' := 4) rfl rfl rfl hx0 (fun c1 => ?_) (fun c1 => ?_)
  · refine h_iconst (pc' := 10) (x := (Int32.ofInt (-1))) rfl rfl rfl ?_
    exact h_iret rfl rfl (kk _ _ ci_m1 _ hI F00)
  · refine h_iload_n (pc' := 5) rfl rfl rfl ?_
    refine h_iconst (pc' := 6) (x := (Int32.ofInt 3)) rfl rfl rfl ?_
    refine h_cle (tg := 11) (pc' := 9) rfl rfl rfl hx0 ci_3 (fun c2 => ?_) (fun c2 => ?_)
    · refine h_aload_n (pc' := 12) rfl rfl rfl ?_
      refine h_aload_n (pc' := 13) rfl rfl rfl ?_
      refine h_getR (pc' := 16) rfl rfl rfl rfl rfl ?_
      refine h_call (sp := false) (pc' := 19) (M := [(0, .ref 9), (1, .ref 10)]) rfl rfl rfl rfl rfl rfl rfl rfl ?_
      refine w_127_9_10 _ hI  (fun s4 Is4 Gs4 => h_Kn ?_)
      have Fs4 := (Gs4.mono (B := kf_w_101_9) rfl).tr F00
      refine h_aload_n (pc' := 20) rfl rfl rfl ?_
      refine h_getR (pc' := 23) rfl rfl rfl rfl rfl ?_
      refine h_aload_n (pc' := 24) rfl rfl rfl ?_
      refine h_getR (pc' := 27) rfl rfl rfl rfl rfl ?_
      refine h_iconst (pc' := 28) (x := (Int32.ofInt 0)) rfl rfl rfl ?_
      refine h_call (sp := false) (pc' := 31) (M := [(0, .ref 82), (1, .ref 10), (2, .int (Int32.ofInt 0))]) rfl rfl rfl rfl rfl rfl rfl rfl ?_
      refine w_21_82_10 _ Is4 (Int32.ofInt 0) _ ci_0 (fun r5 br5 hr5 s6 Is6 Gs6 => h_Kv ?_)
      have Fs6 := (Gs6.mono (B := kf_w_101_9) rfl).tr Fs4
      refine h_istore_n (pc' := 32) (M := [(2, .int r5), (0, .ref 9), (1, .int x0)]) rfl rfl rfl rfl ?_
      refine h_iload_n (pc' := 33) rfl rfl rfl ?_
      refine h_tsw (dt := 75) (ts := [60, 62, 67]) rfl rfl rfl rfl hx0 (fun c7 => ?_) ⟨fun c7 => ?_, fun c7 => ?_, fun c7 => ?_, trivial⟩
      · refine h_aload_n (pc' := 76) rfl rfl rfl ?_
        refine h_iload_n (pc' := 77) rfl rfl rfl ?_
        refine h_call (sp := false) (pc' := 80) (M := [(0, .ref 9), (1, .int r5)]) rfl rfl rfl rfl rfl rfl rfl rfl ?_
        refine w_129_9 _ Is6 r5 _ hr5 (fun r8 br8 hr8 s9 Is9 Gs9 tr8 => h_Kv ?_)
        have Fs9 := (Gs9.mono (B := kf_w_101_9) rfl).tr Fs6
        exact h_iret rfl rfl (kk _ _ hr8 _ Is9 Fs9)
      · refine h_iload_n (pc' := 61) rfl rfl rfl ?_
        exact h_iret rfl rfl (kk _ _ hr5 _ Is6 Fs6)
      · refine h_iload_n (pc' := 63) rfl rfl rfl ?_
        refine h_calls (pc' := 66) (M := [(0, .int r5)]) rfl rfl rfl rfl rfl rfl ?_
        refine w_226 _ Is6 r5 _ hr5 (fun r10 br10 hr10 s11 Is11 Gs11 tr10 => h_Kv ?_)
        have Fs11 := (Gs11.mono (B := kf_w_101_9) rfl).tr Fs6
        exact h_iret rfl rfl (kk _ _ hr10 _ Is11 Fs11)
      · refine h_aload_n (pc' := 68) rfl rfl rfl ?_
        refine h_getR (pc' := 71) rfl rfl rfl rfl rfl ?_
        refine h_getI (pc' := 74) (v := s6 82 2) rfl rfl rfl rfl rfl rfl (fun z12 hz12 => ?_)
        have tz12 := tf_82_2 Is6
        exact h_iret rfl rfl (kk _ _ hz12 _ Is6 Fs6)
    · refine h_iconst (pc' := 10) (x := (Int32.ofInt (-1))) rfl rfl rfl ?_
      exact h_iret rfl rfl (kk _ _ ci_m1 _ hI F00)
def kf_w_102_9 : List Nat := [80898, 82943, 83967, 83970, 86015, 87039]
theorem w_102_9 {ns : Nat} (σ : h_S) (hI : h_I σ) (x0 : Int32) (a0 : Int) (hx0 : x0.toInt = a0) {Q : Option Value → h_S → Prop} (kk : ∀ (r : Int32) (b : Int) (hb : r.toInt = b) (τ : h_S), h_I τ → h_F (k_in kf_w_102_9) τ σ → ((-4) ≤ b ∧ b ≤ 5) → Q (some (.int r)) τ) : h_T g_P (g_Y ns) 102 0 [(0, .ref 9), (1, .int x0)] [] σ Q := by
  have F00 : h_F (k_in kf_w_102_9) σ σ := h_F.rf
  refine h_aload_n (pc' := 1) rfl rfl rfl ?_
  refine h_getR (pc' := 4) rfl rfl rfl rfl rfl ?_
  refine h_iload_n (pc' := 5) rfl rfl rfl ?_
  refine h_call (sp := false) (pc' := 8) (M := [(0, .ref 10), (1, .int x0)]) rfl rfl rfl rfl rfl rfl rfl rfl ?_
  refine h_iload_n (pc' := 1) rfl rfl rfl ?_
  refine h_zlt (tg := 16) (pc' := 4) rfl rfl rfl hx0 (fun c1 => ?_) (fun c1 => ?_)
  · refine h_iconst (pc' := 17) (x := (Int32.ofInt 0)) rfl rfl rfl ?_
    refine h_zret rfl rfl ci_0 (by omega) (h_Kv ?_)
    refine h_zne (tg := 13) (pc' := 11) rfl rfl rfl ci_0 (fun c2 => absurd c2 (by omega)) (fun c2 => ?_)
    refine h_iconst (pc' := 12) (x := (Int32.ofInt (-1))) rfl rfl rfl ?_
    exact h_iret rfl rfl (kk _ _ ci_m1 _ hI F00 (by omega))
  · refine h_iload_n (pc' := 5) rfl rfl rfl ?_
    refine h_aload_n (pc' := 6) rfl rfl rfl ?_
    refine h_getI (pc' := 9) (v := σ 10 9) rfl rfl rfl rfl rfl rfl (fun z3 hz3 => ?_)
    have tz3 := tf_10_9 hI
    refine h_cge (tg := 16) (pc' := 12) rfl rfl rfl hx0 hz3 (fun c4 => ?_) (fun c4 => ?_)
    · refine h_iconst (pc' := 17) (x := (Int32.ofInt 0)) rfl rfl rfl ?_
      refine h_zret rfl rfl ci_0 (by omega) (h_Kv ?_)
      refine h_zne (tg := 13) (pc' := 11) rfl rfl rfl ci_0 (fun c5 => absurd c5 (by omega)) (fun c5 => ?_)
      refine h_iconst (pc' := 12) (x := (Int32.ofInt (-1))) rfl rfl rfl ?_
      exact h_iret rfl rfl (kk _ _ ci_m1 _ hI F00 (by omega))
    · refine h_iconst (pc' := 13) (x := (Int32.ofInt 1)) rfl rfl rfl ?_
      refine h_goto (pc' := 17) rfl rfl ?_
      refine h_zret rfl rfl ci_1 (by omega) (h_Kv ?_)
      refine h_zne (tg := 13) (pc' := 11) rfl rfl rfl ci_1 (fun c6 => ?_) (fun c6 => absurd c6 (by omega))
      refine h_aload_n (pc' := 14) rfl rfl rfl ?_
      refine h_aload_n (pc' := 15) rfl rfl rfl ?_
      refine h_getR (pc' := 18) rfl rfl rfl rfl rfl ?_
      refine h_call (sp := false) (pc' := 21) (M := [(0, .ref 9), (1, .ref 10)]) rfl rfl rfl rfl rfl rfl rfl rfl ?_
      refine w_127_9_10 _ hI  (fun s8 Is8 Gs8 => h_Kn ?_)
      have Fs8 := (Gs8.mono (B := kf_w_102_9) rfl).tr F00
      refine h_aload_n (pc' := 22) rfl rfl rfl ?_
      refine h_getR (pc' := 25) rfl rfl rfl rfl rfl ?_
      refine h_aload_n (pc' := 26) rfl rfl rfl ?_
      refine h_getR (pc' := 29) rfl rfl rfl rfl rfl ?_
      refine h_iconst (pc' := 30) (x := (Int32.ofInt 0)) rfl rfl rfl ?_
      refine h_call (sp := false) (pc' := 33) (M := [(0, .ref 82), (1, .ref 10), (2, .int (Int32.ofInt 0))]) rfl rfl rfl rfl rfl rfl rfl rfl ?_
      refine w_21_82_10 _ Is8 (Int32.ofInt 0) _ ci_0 (fun r9 br9 hr9 s10 Is10 Gs10 => h_Kv ?_)
      have Fs10 := (Gs10.mono (B := kf_w_102_9) rfl).tr Fs8
      refine h_pop (pc' := 34) rfl rfl rfl ?_
      refine h_aload_n (pc' := 35) rfl rfl rfl ?_
      refine h_getR (pc' := 38) rfl rfl rfl rfl rfl ?_
      refine h_getR (pc' := 41) rfl rfl rfl rfl rfl ?_
      refine h_iload_n (pc' := 42) rfl rfl rfl ?_
      refine h_iald (pc' := 43) (v := s10 84 a0) rfl rfl rfl hx0 (by omega) (by omega) rfl (fun z11 hz11 => ?_)
      have tz11 := ty_84 Is10 a0
      exact h_iret rfl rfl (kk _ _ hz11 _ Is10 Fs10 (by omega))
def kf_w_103_9 : List Nat := [80898, 82943, 83967, 87044, 89087, 90111, 91135]
theorem w_103_9 {ns : Nat} (σ : h_S) (hI : h_I σ) (x0 : Int32) (a0 : Int) (hx0 : x0.toInt = a0) (x1 : Int32) (a1 : Int) (hx1 : x1.toInt = a1) {Q : Option Value → h_S → Prop} (kk : ∀ (r : Int32) (b : Int) (hb : r.toInt = b) (τ : h_S), h_I τ → h_F (k_in kf_w_103_9) τ σ → Q (some (.int r)) τ) : h_T g_P (g_Y ns) 103 0 [(0, .ref 9), (1, .int x0), (2, .int x1)] [] σ Q := by
  have F00 : h_F (k_in kf_w_103_9) σ σ := h_F.rf
  refine h_aload_n (pc' := 1) rfl rfl rfl ?_
  refine h_getR (pc' := 4) rfl rfl rfl rfl rfl ?_
  refine h_iload_n (pc' := 5) rfl rfl rfl ?_
  refine h_call (sp := false) (pc' := 8) (M := [(0, .ref 10), (1, .int x0)]) rfl rfl rfl rfl rfl rfl rfl rfl ?_
  refine h_iload_n (pc' := 1) rfl rfl rfl ?_
  refine h_zlt (tg := 16) (pc' := 4) rfl rfl rfl hx0 (fun c1 => ?_) (fun c1 => ?_)
  · refine h_iconst (pc' := 17) (x := (Int32.ofInt 0)) rfl rfl rfl ?_
    refine h_zret rfl rfl ci_0 (by omega) (h_Kv ?_)
    refine h_zeq (tg := 24) (pc' := 11) rfl rfl rfl ci_0 (fun c2 => ?_) (fun c2 => absurd c2 (by omega))
    refine h_iconst (pc' := 25) (x := (Int32.ofInt (-1))) rfl rfl rfl ?_
    exact h_iret rfl rfl (kk _ _ ci_m1 _ hI F00)
  · refine h_iload_n (pc' := 5) rfl rfl rfl ?_
    refine h_aload_n (pc' := 6) rfl rfl rfl ?_
    refine h_getI (pc' := 9) (v := σ 10 9) rfl rfl rfl rfl rfl rfl (fun z3 hz3 => ?_)
    have tz3 := tf_10_9 hI
    refine h_cge (tg := 16) (pc' := 12) rfl rfl rfl hx0 hz3 (fun c4 => ?_) (fun c4 => ?_)
    · refine h_iconst (pc' := 17) (x := (Int32.ofInt 0)) rfl rfl rfl ?_
      refine h_zret rfl rfl ci_0 (by omega) (h_Kv ?_)
      refine h_zeq (tg := 24) (pc' := 11) rfl rfl rfl ci_0 (fun c5 => ?_) (fun c5 => absurd c5 (by omega))
      refine h_iconst (pc' := 25) (x := (Int32.ofInt (-1))) rfl rfl rfl ?_
      exact h_iret rfl rfl (kk _ _ ci_m1 _ hI F00)
    · refine h_iconst (pc' := 13) (x := (Int32.ofInt 1)) rfl rfl rfl ?_
      refine h_goto (pc' := 17) rfl rfl ?_
      refine h_zret rfl rfl ci_1 (by omega) (h_Kv ?_)
      refine h_zeq (tg := 24) (pc' := 11) rfl rfl rfl ci_1 (fun c6 => absurd c6 (by omega)) (fun c6 => ?_)
      refine h_iload_n (pc' := 12) rfl rfl rfl ?_
      refine h_calls (pc' := 15) (M := [(0, .int x1)]) rfl rfl rfl rfl rfl rfl ?_
      refine h_iload_n (pc' := 1) rfl rfl rfl ?_
      refine h_zeq (tg := 9) (pc' := 4) rfl rfl rfl hx1 (fun c7 => ?_) (fun c7 => ?_)
      · refine h_iconst (pc' := 10) (x := (Int32.ofInt 1)) rfl rfl rfl ?_
        refine h_goto (pc' := 14) rfl rfl ?_
        refine h_zret rfl rfl ci_1 (by omega) (h_Kv ?_)
        refine h_zne (tg := 26) (pc' := 18) rfl rfl rfl ci_1 (fun c8 => ?_) (fun c8 => absurd c8 (by omega))
        refine h_aload_n (pc' := 27) rfl rfl rfl ?_
        refine h_aload_n (pc' := 28) rfl rfl rfl ?_
        refine h_getR (pc' := 31) rfl rfl rfl rfl rfl ?_
        refine h_iload_n (pc' := 32) rfl rfl rfl ?_
        refine h_call (sp := false) (pc' := 35) (M := [(0, .ref 9), (1, .ref 10), (2, .int x0)]) rfl rfl rfl rfl rfl rfl rfl rfl ?_
        refine w_130_9_10 _ hI x0 _ hx0 (by omega) (fun s10 Is10 Gs10 => h_Kn ?_)
        have Fs10 := (Gs10.mono (B := kf_w_103_9) rfl).tr F00
        refine h_iload_n (pc' := 36) rfl rfl rfl ?_
        refine h_zne (tg := 47) (pc' := 39) rfl rfl rfl hx1 (fun c11 => absurd c11 (by omega)) (fun c11 => ?_)
        refine h_aload_n (pc' := 40) rfl rfl rfl ?_
        refine h_getR (pc' := 43) rfl rfl rfl rfl rfl ?_
        refine h_call (sp := false) (pc' := 46) (M := [(0, .ref 85)]) rfl rfl rfl rfl rfl rfl rfl rfl ?_
        refine h_aload_n (pc' := 1) rfl rfl rfl ?_
        refine h_getR (pc' := 4) rfl rfl rfl rfl rfl ?_
        refine h_aload_n (pc' := 5) rfl rfl rfl ?_
        refine h_call (sp := false) (pc' := 8) (M := [(0, .ref 85)]) rfl rfl rfl rfl rfl rfl rfl rfl ?_
        refine h_iconst (pc' := 1) (x := (Int32.ofInt 1)) rfl rfl rfl ?_
        refine h_aload_n (pc' := 2) rfl rfl rfl ?_
        refine h_getI (pc' := 5) (v := s10 85 4) rfl rfl rfl rfl rfl rfl (fun z12 hz12 => ?_)
        have tz12 := tf_85_4 Is10
        refine h_shl1 (pc' := 6) rfl rfl ci_1 hz12 (by omega) (by omega) (fun z13 hz13 vz13 => ?_)
        refine h_iconst (pc' := 7) (x := (Int32.ofInt 1)) rfl rfl rfl ?_
        refine h_isub (pc' := 8) rfl rfl rfl ci_1 rfl (by omega) (by omega) (fun z14 hz14 => ?_)
        refine h_iret rfl rfl (h_Kv ?_)
        refine h_bipush (pc' := 10) (x := (Int32.ofInt 7)) rfl rfl cb_7 ?_
        refine h_imul (pc' := 11) rfl rfl hz14 ci_7 rfl (by omega) (by omega) (fun z15 hz15 => ?_)
        refine h_bipush (pc' := 13) (x := (Int32.ofInt 6)) rfl rfl cb_6 ?_
        refine h_iadd (pc' := 14) rfl rfl hz15 ci_6 rfl (by omega) (by omega) (fun z16 hz16 => ?_)
        refine h_iald (pc' := 15) (v := s10 87 (((z13.toInt - 1) * 7) + 6)) rfl rfl rfl hz16 (by omega) (by omega) rfl (fun z17 hz17 => ?_)
        have tz17 := ty_87 Is10 (((z13.toInt - 1) * 7) + 6)
        refine h_iret rfl rfl (h_Kv ?_)
        exact h_iret rfl rfl (kk _ _ hz17 _ Is10 Fs10)
      · refine h_iload_n (pc' := 5) rfl rfl rfl ?_
        refine h_iconst (pc' := 6) (x := (Int32.ofInt 1)) rfl rfl rfl ?_
        refine h_cne (tg := 13) (pc' := 9) rfl rfl rfl hx1 ci_1 (fun c18 => ?_) (fun c18 => ?_)
        · refine h_iconst (pc' := 14) (x := (Int32.ofInt 0)) rfl rfl rfl ?_
          refine h_zret rfl rfl ci_0 (by omega) (h_Kv ?_)
          refine h_zne (tg := 26) (pc' := 18) rfl rfl rfl ci_0 (fun c19 => absurd c19 (by omega)) (fun c19 => ?_)
          refine h_iload_n (pc' := 19) rfl rfl rfl ?_
          refine h_bipush (pc' := 21) (x := (Int32.ofInt 10)) rfl rfl cb_10 ?_
          refine h_cge (tg := 26) (pc' := 24) rfl rfl rfl hx1 ci_10 (fun c20 => ?_) (fun c20 => ?_)
          · refine h_aload_n (pc' := 27) rfl rfl rfl ?_
            refine h_aload_n (pc' := 28) rfl rfl rfl ?_
            refine h_getR (pc' := 31) rfl rfl rfl rfl rfl ?_
            refine h_iload_n (pc' := 32) rfl rfl rfl ?_
            refine h_call (sp := false) (pc' := 35) (M := [(0, .ref 9), (1, .ref 10), (2, .int x0)]) rfl rfl rfl rfl rfl rfl rfl rfl ?_
            refine w_130_9_10 _ hI x0 _ hx0 (by omega) (fun s22 Is22 Gs22 => h_Kn ?_)
            have Fs22 := (Gs22.mono (B := kf_w_103_9) rfl).tr F00
            refine h_iload_n (pc' := 36) rfl rfl rfl ?_
            refine h_zne (tg := 47) (pc' := 39) rfl rfl rfl hx1 (fun c23 => ?_) (fun c23 => absurd c23 (by omega))
            refine h_iload_n (pc' := 48) rfl rfl rfl ?_
            refine h_iconst (pc' := 49) (x := (Int32.ofInt 1)) rfl rfl rfl ?_
            refine h_cne (tg := 62) (pc' := 52) rfl rfl rfl hx1 ci_1 (fun c24 => ?_) (fun c24 => absurd c24 (by omega))
            refine h_aload_n (pc' := 63) rfl rfl rfl ?_
            refine h_getR (pc' := 66) rfl rfl rfl rfl rfl ?_
            refine h_iload_n (pc' := 67) rfl rfl rfl ?_
            refine h_bipush (pc' := 69) (x := (Int32.ofInt 10)) rfl rfl cb_10 ?_
            refine h_isub (pc' := 70) rfl rfl hx1 ci_10 rfl (by have g0 := h_rgv hx1; omega) (by have g0 := h_rgv hx1; omega) (fun z25 hz25 => ?_)
            refine h_call (sp := false) (pc' := 73) (M := [(0, .ref 85), (1, .int z25)]) rfl rfl rfl rfl rfl rfl rfl rfl ?_
            refine w_38_85 _ Is22 z25 _ hz25 (fun r26 br26 hr26 s27 Is27 Gs27 tr26 => h_Kv ?_)
            have Fs27 := (Gs27.mono (B := kf_w_103_9) rfl).tr Fs22
            exact h_iret rfl rfl (kk _ _ hr26 _ Is27 Fs27)
          · refine h_iconst (pc' := 25) (x := (Int32.ofInt (-1))) rfl rfl rfl ?_
            exact h_iret rfl rfl (kk _ _ ci_m1 _ hI F00)
        · refine h_iconst (pc' := 10) (x := (Int32.ofInt 1)) rfl rfl rfl ?_
          refine h_goto (pc' := 14) rfl rfl ?_
          refine h_zret rfl rfl ci_1 (by omega) (h_Kv ?_)
          refine h_zne (tg := 26) (pc' := 18) rfl rfl rfl ci_1 (fun c28 => ?_) (fun c28 => absurd c28 (by omega))
          refine h_aload_n (pc' := 27) rfl rfl rfl ?_
          refine h_aload_n (pc' := 28) rfl rfl rfl ?_
          refine h_getR (pc' := 31) rfl rfl rfl rfl rfl ?_
          refine h_iload_n (pc' := 32) rfl rfl rfl ?_
          refine h_call (sp := false) (pc' := 35) (M := [(0, .ref 9), (1, .ref 10), (2, .int x0)]) rfl rfl rfl rfl rfl rfl rfl rfl ?_
          refine w_130_9_10 _ hI x0 _ hx0 (by omega) (fun s30 Is30 Gs30 => h_Kn ?_)
          have Fs30 := (Gs30.mono (B := kf_w_103_9) rfl).tr F00
          refine h_iload_n (pc' := 36) rfl rfl rfl ?_
          refine h_zne (tg := 47) (pc' := 39) rfl rfl rfl hx1 (fun c31 => ?_) (fun c31 => absurd c31 (by omega))
          refine h_iload_n (pc' := 48) rfl rfl rfl ?_
          refine h_iconst (pc' := 49) (x := (Int32.ofInt 1)) rfl rfl rfl ?_
          refine h_cne (tg := 62) (pc' := 52) rfl rfl rfl hx1 ci_1 (fun c32 => absurd c32 (by omega)) (fun c32 => ?_)
          refine h_aload_n (pc' := 53) rfl rfl rfl ?_
          refine h_getR (pc' := 56) rfl rfl rfl rfl rfl ?_
          refine h_call (sp := false) (pc' := 59) (M := [(0, .ref 85)]) rfl rfl rfl rfl rfl rfl rfl rfl ?_
          refine h_aload_n (pc' := 1) rfl rfl rfl ?_
          refine h_getR (pc' := 4) rfl rfl rfl rfl rfl ?_
          refine h_aload_n (pc' := 5) rfl rfl rfl ?_
          refine h_call (sp := false) (pc' := 8) (M := [(0, .ref 85)]) rfl rfl rfl rfl rfl rfl rfl rfl ?_
          refine h_iconst (pc' := 1) (x := (Int32.ofInt 1)) rfl rfl rfl ?_
          refine h_aload_n (pc' := 2) rfl rfl rfl ?_
          refine h_getI (pc' := 5) (v := s30 85 4) rfl rfl rfl rfl rfl rfl (fun z33 hz33 => ?_)
          have tz33 := tf_85_4 Is30
          refine h_shl1 (pc' := 6) rfl rfl ci_1 hz33 (by omega) (by omega) (fun z34 hz34 vz34 => ?_)
          refine h_iconst (pc' := 7) (x := (Int32.ofInt 1)) rfl rfl rfl ?_
          refine h_isub (pc' := 8) rfl rfl rfl ci_1 rfl (by omega) (by omega) (fun z35 hz35 => ?_)
          refine h_iret rfl rfl (h_Kv ?_)
          refine h_bipush (pc' := 10) (x := (Int32.ofInt 7)) rfl rfl cb_7 ?_
          refine h_imul (pc' := 11) rfl rfl hz35 ci_7 rfl (by omega) (by omega) (fun z36 hz36 => ?_)
          refine h_bipush (pc' := 13) (x := (Int32.ofInt 6)) rfl rfl cb_6 ?_
          refine h_iadd (pc' := 14) rfl rfl hz36 ci_6 rfl (by omega) (by omega) (fun z37 hz37 => ?_)
          refine h_iald (pc' := 15) (v := s30 88 (((z34.toInt - 1) * 7) + 6)) rfl rfl rfl hz37 (by omega) (by omega) rfl (fun z38 hz38 => ?_)
          have tz38 := ty_88 Is30 (((z34.toInt - 1) * 7) + 6)
          refine h_iret rfl rfl (h_Kv ?_)
          refine h_goto (pc' := 73) rfl rfl ?_
          exact h_iret rfl rfl (kk _ _ hz38 _ Is30 Fs30)
def kf_w_104_9 : List Nat := [80898, 82943, 83967, 87044, 89087, 92159]
theorem w_104_9 {ns : Nat} (σ : h_S) (hI : h_I σ) (x0 : Int32) (a0 : Int) (hx0 : x0.toInt = a0) (x1 : Int32) (a1 : Int) (hx1 : x1.toInt = a1) (x2 : Int32) (a2 : Int) (hx2 : x2.toInt = a2) {Q : Option Value → h_S → Prop} (kk : ∀ (r : Int32) (b : Int) (hb : r.toInt = b) (τ : h_S), h_I τ → h_F (k_in kf_w_104_9) τ σ → (b ≤ 999) → Q (some (.int r)) τ) : h_T g_P (g_Y ns) 104 0 [(0, .ref 9), (1, .int x0), (2, .int x1), (3, .int x2)] [] σ Q := by
  have F00 : h_F (k_in kf_w_104_9) σ σ := h_F.rf
  refine h_aload_n (pc' := 1) rfl rfl rfl ?_
  refine h_getR (pc' := 4) rfl rfl rfl rfl rfl ?_
  refine h_iload_n (pc' := 5) rfl rfl rfl ?_
  refine h_call (sp := false) (pc' := 8) (M := [(0, .ref 10), (1, .int x0)]) rfl rfl rfl rfl rfl rfl rfl rfl ?_
  refine h_iload_n (pc' := 1) rfl rfl rfl ?_
  refine h_zlt (tg := 16) (pc' := 4) rfl rfl rfl hx0 (fun c1 => ?_) (fun c1 => ?_)
  · refine h_iconst (pc' := 17) (x := (Int32.ofInt 0)) rfl rfl rfl ?_
    refine h_zret rfl rfl ci_0 (by omega) (h_Kv ?_)
    refine h_zeq (tg := 32) (pc' := 11) rfl rfl rfl ci_0 (fun c2 => ?_) (fun c2 => absurd c2 (by omega))
    refine h_iconst (pc' := 33) (x := (Int32.ofInt (-1))) rfl rfl rfl ?_
    exact h_iret rfl rfl (kk _ _ ci_m1 _ hI F00 (by omega))
  · refine h_iload_n (pc' := 5) rfl rfl rfl ?_
    refine h_aload_n (pc' := 6) rfl rfl rfl ?_
    refine h_getI (pc' := 9) (v := σ 10 8) rfl rfl rfl rfl rfl rfl (fun z3 hz3 => ?_)
    have tz3 := tf_10_8 hI
    refine h_cge (tg := 16) (pc' := 12) rfl rfl rfl hx0 hz3 (fun c4 => ?_) (fun c4 => ?_)
    · refine h_iconst (pc' := 17) (x := (Int32.ofInt 0)) rfl rfl rfl ?_
      refine h_zret rfl rfl ci_0 (by omega) (h_Kv ?_)
      refine h_zeq (tg := 32) (pc' := 11) rfl rfl rfl ci_0 (fun c5 => ?_) (fun c5 => absurd c5 (by omega))
      refine h_iconst (pc' := 33) (x := (Int32.ofInt (-1))) rfl rfl rfl ?_
      exact h_iret rfl rfl (kk _ _ ci_m1 _ hI F00 (by omega))
    · refine h_iconst (pc' := 13) (x := (Int32.ofInt 1)) rfl rfl rfl ?_
      refine h_goto (pc' := 17) rfl rfl ?_
      refine h_zret rfl rfl ci_1 (by omega) (h_Kv ?_)
      refine h_zeq (tg := 32) (pc' := 11) rfl rfl rfl ci_1 (fun c6 => absurd c6 (by omega)) (fun c6 => ?_)
      refine h_aload_n (pc' := 12) rfl rfl rfl ?_
      refine h_getR (pc' := 15) rfl rfl rfl rfl rfl ?_
      refine h_iload_n (pc' := 16) rfl rfl rfl ?_
      refine h_call (sp := false) (pc' := 19) (M := [(0, .ref 10), (1, .int x1)]) rfl rfl rfl rfl rfl rfl rfl rfl ?_
      refine h_iload_n (pc' := 1) rfl rfl rfl ?_
      refine h_zlt (tg := 16) (pc' := 4) rfl rfl rfl hx1 (fun c7 => ?_) (fun c7 => ?_)
      · refine h_iconst (pc' := 17) (x := (Int32.ofInt 0)) rfl rfl rfl ?_
        refine h_zret rfl rfl ci_0 (by omega) (h_Kv ?_)
        refine h_zeq (tg := 32) (pc' := 22) rfl rfl rfl ci_0 (fun c8 => ?_) (fun c8 => absurd c8 (by omega))
        refine h_iconst (pc' := 33) (x := (Int32.ofInt (-1))) rfl rfl rfl ?_
        exact h_iret rfl rfl (kk _ _ ci_m1 _ hI F00 (by omega))
      · refine h_iload_n (pc' := 5) rfl rfl rfl ?_
        refine h_aload_n (pc' := 6) rfl rfl rfl ?_
        refine h_getI (pc' := 9) (v := σ 10 9) rfl rfl rfl rfl rfl rfl (fun z9 hz9 => ?_)
        have tz9 := tf_10_9 hI
        refine h_cge (tg := 16) (pc' := 12) rfl rfl rfl hx1 hz9 (fun c10 => ?_) (fun c10 => ?_)
        · refine h_iconst (pc' := 17) (x := (Int32.ofInt 0)) rfl rfl rfl ?_
          refine h_zret rfl rfl ci_0 (by omega) (h_Kv ?_)
          refine h_zeq (tg := 32) (pc' := 22) rfl rfl rfl ci_0 (fun c11 => ?_) (fun c11 => absurd c11 (by omega))
          refine h_iconst (pc' := 33) (x := (Int32.ofInt (-1))) rfl rfl rfl ?_
          exact h_iret rfl rfl (kk _ _ ci_m1 _ hI F00 (by omega))
        · refine h_iconst (pc' := 13) (x := (Int32.ofInt 1)) rfl rfl rfl ?_
          refine h_goto (pc' := 17) rfl rfl ?_
          refine h_zret rfl rfl ci_1 (by omega) (h_Kv ?_)
          refine h_zeq (tg := 32) (pc' := 22) rfl rfl rfl ci_1 (fun c12 => absurd c12 (by omega)) (fun c12 => ?_)
          refine h_iload_n (pc' := 23) rfl rfl rfl ?_
          refine h_zeq (tg := 34) (pc' := 26) rfl rfl rfl hx2 (fun c13 => ?_) (fun c13 => ?_)
          · refine h_aload_n (pc' := 35) rfl rfl rfl ?_
            refine h_getR (pc' := 38) rfl rfl rfl rfl rfl ?_
            refine h_aload_n (pc' := 39) rfl rfl rfl ?_
            refine h_getR (pc' := 42) rfl rfl rfl rfl rfl ?_
            refine h_call (sp := false) (pc' := 45) (M := [(0, .ref 79), (1, .ref 10)]) rfl rfl rfl rfl rfl rfl rfl rfl ?_
            refine w_23_79_10 _ hI  (fun s15 Is15 Gs15 => h_Kn ?_)
            have Fs15 := (Gs15.mono (B := kf_w_104_9) rfl).tr F00
            refine h_aload_n (pc' := 46) rfl rfl rfl ?_
            refine h_getR (pc' := 49) rfl rfl rfl rfl rfl ?_
            refine h_aload_n (pc' := 50) rfl rfl rfl ?_
            refine h_getR (pc' := 53) rfl rfl rfl rfl rfl ?_
            refine h_aload_n (pc' := 54) rfl rfl rfl ?_
            refine h_getR (pc' := 57) rfl rfl rfl rfl rfl ?_
            refine h_iload_n (pc' := 58) rfl rfl rfl ?_
            refine h_call (sp := false) (pc' := 61) (M := [(0, .ref 85), (1, .ref 10), (2, .ref 79), (3, .int x1)]) rfl rfl rfl rfl rfl rfl rfl rfl ?_
            refine w_32_85_10_79 _ Is15 x1 _ hx1 (by omega) (fun s17 Is17 Gs17 => h_Kn ?_)
            have Fs17 := (Gs17.mono (B := kf_w_104_9) rfl).tr Fs15
            refine h_aload_n (pc' := 62) rfl rfl rfl ?_
            refine h_getR (pc' := 65) rfl rfl rfl rfl rfl ?_
            refine h_iload_n (pc' := 66) rfl rfl rfl ?_
            refine h_call (sp := false) (pc' := 69) (M := [(0, .ref 85), (1, .int x0)]) rfl rfl rfl rfl rfl rfl rfl rfl ?_
            refine w_40_85 _ Is17 x0 _ hx0 (by omega) (fun s19 Is19 Gs19 => h_Kn ?_)
            have Fs19 := (Gs19.mono (B := kf_w_104_9) rfl).tr Fs17
            refine h_aload_n (pc' := 70) rfl rfl rfl ?_
            refine h_getR (pc' := 73) rfl rfl rfl rfl rfl ?_
            refine h_getR (pc' := 76) rfl rfl rfl rfl rfl ?_
            refine h_bipush (pc' := 78) (x := (Int32.ofInt 6)) rfl rfl cb_6 ?_
            refine h_iald (pc' := 79) (v := s19 89 6) rfl rfl rfl ci_6 (by omega) (by omega) rfl (fun z20 hz20 => ?_)
            have tz20 := ty_89 Is19 6
            refine h_istore (pc' := 81) (M := [(4, .int z20), (0, .ref 9), (1, .int x0), (2, .int x1), (3, .int x2)]) rfl rfl rfl rfl ?_
            refine h_iload (pc' := 83) rfl rfl rfl ?_
            refine h_sipush (pc' := 86) (x := (Int32.ofInt 1000)) rfl rfl cs_1000 ?_
            refine h_clt (tg := 92) (pc' := 89) rfl rfl rfl hz20 ci_1000 (fun c21 => ?_) (fun c21 => ?_)
            · refine h_iload_n (pc' := 93) rfl rfl rfl ?_
              refine h_zne (tg := 101) (pc' := 96) rfl rfl rfl hx2 (fun c22 => absurd c22 (by omega)) (fun c22 => ?_)
              refine h_iload (pc' := 98) rfl rfl rfl ?_
              refine h_goto (pc' := 113) rfl rfl ?_
              exact h_iret rfl rfl (kk _ _ hz20 _ Is19 Fs19 (by omega))
            · refine h_bipush (pc' := 91) (x := (Int32.ofInt (-4))) rfl rfl cb_m4 ?_
              exact h_iret rfl rfl (kk _ _ ci_m4 _ Is19 Fs19 (by omega))
          · refine h_iload_n (pc' := 27) rfl rfl rfl ?_
            refine h_bipush (pc' := 29) (x := (Int32.ofInt 10)) rfl rfl cb_10 ?_
            refine h_cge (tg := 34) (pc' := 32) rfl rfl rfl hx2 ci_10 (fun c23 => ?_) (fun c23 => ?_)
            · refine h_aload_n (pc' := 35) rfl rfl rfl ?_
              refine h_getR (pc' := 38) rfl rfl rfl rfl rfl ?_
              refine h_aload_n (pc' := 39) rfl rfl rfl ?_
              refine h_getR (pc' := 42) rfl rfl rfl rfl rfl ?_
              refine h_call (sp := false) (pc' := 45) (M := [(0, .ref 79), (1, .ref 10)]) rfl rfl rfl rfl rfl rfl rfl rfl ?_
              refine w_23_79_10 _ hI  (fun s25 Is25 Gs25 => h_Kn ?_)
              have Fs25 := (Gs25.mono (B := kf_w_104_9) rfl).tr F00
              refine h_aload_n (pc' := 46) rfl rfl rfl ?_
              refine h_getR (pc' := 49) rfl rfl rfl rfl rfl ?_
              refine h_aload_n (pc' := 50) rfl rfl rfl ?_
              refine h_getR (pc' := 53) rfl rfl rfl rfl rfl ?_
              refine h_aload_n (pc' := 54) rfl rfl rfl ?_
              refine h_getR (pc' := 57) rfl rfl rfl rfl rfl ?_
              refine h_iload_n (pc' := 58) rfl rfl rfl ?_
              refine h_call (sp := false) (pc' := 61) (M := [(0, .ref 85), (1, .ref 10), (2, .ref 79), (3, .int x1)]) rfl rfl rfl rfl rfl rfl rfl rfl ?_
              refine w_32_85_10_79 _ Is25 x1 _ hx1 (by omega) (fun s27 Is27 Gs27 => h_Kn ?_)
              have Fs27 := (Gs27.mono (B := kf_w_104_9) rfl).tr Fs25
              refine h_aload_n (pc' := 62) rfl rfl rfl ?_
              refine h_getR (pc' := 65) rfl rfl rfl rfl rfl ?_
              refine h_iload_n (pc' := 66) rfl rfl rfl ?_
              refine h_call (sp := false) (pc' := 69) (M := [(0, .ref 85), (1, .int x0)]) rfl rfl rfl rfl rfl rfl rfl rfl ?_
              refine w_40_85 _ Is27 x0 _ hx0 (by omega) (fun s29 Is29 Gs29 => h_Kn ?_)
              have Fs29 := (Gs29.mono (B := kf_w_104_9) rfl).tr Fs27
              refine h_aload_n (pc' := 70) rfl rfl rfl ?_
              refine h_getR (pc' := 73) rfl rfl rfl rfl rfl ?_
              refine h_getR (pc' := 76) rfl rfl rfl rfl rfl ?_
              refine h_bipush (pc' := 78) (x := (Int32.ofInt 6)) rfl rfl cb_6 ?_
              refine h_iald (pc' := 79) (v := s29 89 6) rfl rfl rfl ci_6 (by omega) (by omega) rfl (fun z30 hz30 => ?_)
              have tz30 := ty_89 Is29 6
              refine h_istore (pc' := 81) (M := [(4, .int z30), (0, .ref 9), (1, .int x0), (2, .int x1), (3, .int x2)]) rfl rfl rfl rfl ?_
              refine h_iload (pc' := 83) rfl rfl rfl ?_
              refine h_sipush (pc' := 86) (x := (Int32.ofInt 1000)) rfl rfl cs_1000 ?_
              refine h_clt (tg := 92) (pc' := 89) rfl rfl rfl hz30 ci_1000 (fun c31 => ?_) (fun c31 => ?_)
              · refine h_iload_n (pc' := 93) rfl rfl rfl ?_
                refine h_zne (tg := 101) (pc' := 96) rfl rfl rfl hx2 (fun c32 => ?_) (fun c32 => absurd c32 (by omega))
                refine h_aload_n (pc' := 102) rfl rfl rfl ?_
                refine h_getR (pc' := 105) rfl rfl rfl rfl rfl ?_
                refine h_iload_n (pc' := 106) rfl rfl rfl ?_
                refine h_iload_n (pc' := 107) rfl rfl rfl ?_
                refine h_bipush (pc' := 109) (x := (Int32.ofInt 10)) rfl rfl cb_10 ?_
                refine h_isub (pc' := 110) rfl rfl hx2 ci_10 rfl (by have g0 := h_rgv hx2; omega) (by have g0 := h_rgv hx2; omega) (fun z33 hz33 => ?_)
                refine h_call (sp := false) (pc' := 113) (M := [(0, .ref 85), (1, .int x0), (2, .int z33)]) rfl rfl rfl rfl rfl rfl rfl rfl ?_
                refine w_42_85 _ Is29 x0 _ hx0 (by omega) z33 _ hz33 (fun r34 br34 hr34 s35 Is35 Gs35 tr34 => h_Kv ?_)
                have Fs35 := (Gs35.mono (B := kf_w_104_9) rfl).tr Fs29
                exact h_iret rfl rfl (kk _ _ hr34 _ Is35 Fs35 (by omega))
              · refine h_bipush (pc' := 91) (x := (Int32.ofInt (-4))) rfl rfl cb_m4 ?_
                exact h_iret rfl rfl (kk _ _ ci_m4 _ Is29 Fs29 (by omega))
            · refine h_iconst (pc' := 33) (x := (Int32.ofInt (-1))) rfl rfl rfl ?_
              exact h_iret rfl rfl (kk _ _ ci_m1 _ hI F00 (by omega))
def kf_w_105_9 : List Nat := [23560, 23561, 23562, 25599, 26623, 26626, 28671, 29695, 29698, 31743, 32767, 33791, 34815, 35839, 36863, 80898, 82943, 83967, 87044, 89087, 90111, 91135]
theorem w_105_9_l (ns : Nat) (σ : h_S) (hI : h_I σ) (x0 : Int32) (a0 : Int) (hx0 : x0.toInt = a0) (x1 : Int32) (a1 : Int) (hx1 : x1.toInt = a1) {Q : Option Value → h_S → Prop} (kk : ∀ (r : Int32) (b : Int) (hb : r.toInt = b) (τ : h_S), h_I τ → h_F (k_in kf_w_105_9) τ σ → Q (some (.int r)) τ) : ∀ n : Nat, (∀ (s0 : h_S), h_I s0 → h_F (k_in kf_w_105_9) s0 σ → ∀ (y3 : Int32) (b3 : Int), y3.toInt = b3 → ∀ (y4 : Int32) (b4 : Int), y4.toInt = b4 → ((-4) ≤ b4 ∧ b4 ≤ 63) → ∀ (y5 : Int32) (b5 : Int), y5.toInt = b5 → (0 ≤ b5 ∧ b5 ≤ 6) → (0 ≤ a0 ∧ a0 ≤ 2) → (6 + 1 - b5) * 1000000 + 1000000000 ≤ (n : Int) → h_T g_P (g_Y ns) 105 60 [(0, .ref 9), (1, .int x0), (2, .int x1), (3, .int y3), (4, .int y4), (5, .int y5)] [] s0 Q) ∧ (∀ (s0 : h_S), h_I s0 → h_F (k_in kf_w_105_9) s0 σ → ∀ (y3 : Int32) (b3 : Int), y3.toInt = b3 → ∀ (y4 : Int32) (b4 : Int), y4.toInt = b4 → ((-4) ≤ b4 ∧ b4 ≤ 63) → ∀ (y5 : Int32) (b5 : Int), y5.toInt = b5 → (0 ≤ b5 ∧ b5 ≤ 5) → ∀ (y6 : Int32) (b6 : Int), y6.toInt = b6 → (1 ≤ b6 ∧ b6 ≤ 6) → (0 ≤ a0 ∧ a0 ≤ 2) → ((6 + 1 - b5) - 1) * 1000000 + 1000000000 + (6 + 1 - b6) * 1000 + 100000 ≤ (n : Int) → h_T g_P (g_Y ns) 105 78 [(0, .ref 9), (1, .int x0), (2, .int x1), (3, .int y3), (4, .int y4), (5, .int y5), (6, .int y6)] [] s0 Q) := by
  intro n
  induction n with
  | zero => exact ⟨by intro s0 I0 F0_ y3 b3 hy3 y4 b4 hy4 ry4 y5 b5 hy5 ry5 ex0 hm; exfalso; omega, by intro s0 I0 F0_ y3 b3 hy3 y4 b4 hy4 ry4 y5 b5 hy5 ry5 y6 b6 hy6 ry6 ex0 hm; exfalso; omega⟩
  | succ n ih =>
    refine ⟨?_, ?_⟩
    · intro s0 I0 F0_ y3 b3 hy3 y4 b4 hy4 ry4 y5 b5 hy5 ry5 ex0 hm
      refine h_iload (pc' := 62) rfl rfl rfl ?_
      refine h_aload_n (pc' := 63) rfl rfl rfl ?_
      refine h_getR (pc' := 66) rfl rfl rfl rfl rfl ?_
      refine h_getI (pc' := 69) (v := σ 10 8) rfl rfl rfl rfl rfl (F0_ 10 8 rfl) (fun z1 hz1 => ?_)
      have tz1 := tf_10_8 hI
      refine h_cge (tg := 132) (pc' := 72) rfl rfl rfl hy5 hz1 (fun c2 => ?_) (fun c2 => ?_)
      · refine h_iload_n (pc' := 133) rfl rfl rfl ?_
        refine h_zeq (tg := 143) (pc' := 136) rfl rfl rfl hx1 (fun c3 => ?_) (fun c3 => ?_)
        · refine h_iload (pc' := 145) rfl rfl rfl ?_
          refine h_goto (pc' := 149) rfl rfl ?_
          exact h_iret rfl rfl (kk _ _ hy4 _ I0 F0_)
        · refine h_iload (pc' := 138) rfl rfl rfl ?_
          refine h_bipush (pc' := 140) (x := (Int32.ofInt (-4))) rfl rfl cb_m4 ?_
          refine h_cne (tg := 148) (pc' := 143) rfl rfl rfl hy4 ci_m4 (fun c4 => ?_) (fun c4 => ?_)
          · refine h_iload_n (pc' := 149) rfl rfl rfl ?_
            exact h_iret rfl rfl (kk _ _ hy3 _ I0 F0_)
          · refine h_iload (pc' := 145) rfl rfl rfl ?_
            refine h_goto (pc' := 149) rfl rfl ?_
            exact h_iret rfl rfl (kk _ _ hy4 _ I0 F0_)
      · refine h_iload (pc' := 74) rfl rfl rfl ?_
        refine h_iconst (pc' := 75) (x := (Int32.ofInt 1)) rfl rfl rfl ?_
        refine h_iadd (pc' := 76) rfl rfl hy5 ci_1 rfl (by omega) (by omega) (fun z5 hz5 => ?_)
        refine h_istore (pc' := 78) (M := [(6, .int z5), (0, .ref 9), (1, .int x0), (2, .int x1), (3, .int y3), (4, .int y4), (5, .int y5)]) rfl rfl rfl rfl ?_
        exact h_wk [(0, .ref 9), (1, .int x0), (2, .int x1), (3, .int y3), (4, .int y4), (5, .int y5), (6, .int z5)] ⟨rfl, rfl, rfl, rfl, rfl, rfl, rfl, trivial⟩ (ih.2 _ I0 F0_ y3 _ hy3 y4 _ hy4 (by omega) y5 _ hy5 (by omega) z5 _ hz5 (by omega) (by omega) (by omega))
    · intro s0 I0 F0_ y3 b3 hy3 y4 b4 hy4 ry4 y5 b5 hy5 ry5 y6 b6 hy6 ry6 ex0 hm
      refine h_iload (pc' := 80) rfl rfl rfl ?_
      refine h_aload_n (pc' := 81) rfl rfl rfl ?_
      refine h_getR (pc' := 84) rfl rfl rfl rfl rfl ?_
      refine h_getI (pc' := 87) (v := σ 10 8) rfl rfl rfl rfl rfl (F0_ 10 8 rfl) (fun z1 hz1 => ?_)
      have tz1 := tf_10_8 hI
      refine h_cge (tg := 126) (pc' := 90) rfl rfl rfl hy6 hz1 (fun c2 => ?_) (fun c2 => ?_)
      · refine h_iinc (pc' := 129) (M := fun z3 => [(5, .int z3), (0, .ref 9), (1, .int x0), (2, .int x1), (3, .int y3), (4, .int y4), (6, .int y6)]) rfl rfl rfl rfl hy5 ci_1 rfl (by omega) (by omega) (fun _ => rfl) (fun z3 hz3 => ?_)
        refine h_goto (pc' := 60) rfl rfl ?_
        exact h_wk [(0, .ref 9), (1, .int x0), (2, .int x1), (3, .int y3), (4, .int y4), (5, .int z3)] ⟨rfl, rfl, rfl, rfl, rfl, rfl, trivial⟩ (ih.1 _ I0 F0_ y3 _ hy3 y4 _ hy4 (by omega) z3 _ hz3 (by omega) (by omega) (by omega))
      · refine h_aload_n (pc' := 91) rfl rfl rfl ?_
        refine h_iload (pc' := 93) rfl rfl rfl ?_
        refine h_iload (pc' := 95) rfl rfl rfl ?_
        refine h_iload_n (pc' := 96) rfl rfl rfl ?_
        refine h_call (sp := false) (pc' := 99) (M := [(0, .ref 9), (1, .int y5), (2, .int y6), (3, .int x0)]) rfl rfl rfl rfl rfl rfl rfl rfl ?_
        refine w_131_9 _ I0 y5 _ hy5 (by omega) y6 _ hy6 (by omega) x0 _ hx0 (by omega) (fun r4 br4 hr4 s5 Is5 Gs5 => h_Kv ?_)
        have Fs5 := (Gs5.mono (B := kf_w_105_9) rfl).tr F0_
        refine h_istore (pc' := 101) (M := [(7, .int r4), (0, .ref 9), (1, .int x0), (2, .int x1), (3, .int y3), (4, .int y4), (5, .int y5), (6, .int y6)]) rfl rfl rfl rfl ?_
        refine h_iload (pc' := 103) rfl rfl rfl ?_
        refine h_iload_n (pc' := 104) rfl rfl rfl ?_
        refine h_cle (tg := 120) (pc' := 107) rfl rfl rfl hr4 hy3 (fun c6 => ?_) (fun c6 => ?_)
        · refine h_iinc (pc' := 123) (M := fun z7 => [(6, .int z7), (7, .int r4), (0, .ref 9), (1, .int x0), (2, .int x1), (3, .int y3), (4, .int y4), (5, .int y5)]) rfl rfl rfl rfl hy6 ci_1 rfl (by omega) (by omega) (fun _ => rfl) (fun z7 hz7 => ?_)
          refine h_goto (pc' := 78) rfl rfl ?_
          exact h_wk [(0, .ref 9), (1, .int x0), (2, .int x1), (3, .int y3), (4, .int y4), (5, .int y5), (6, .int z7)] ⟨rfl, rfl, rfl, rfl, rfl, rfl, rfl, trivial⟩ (ih.2 _ Is5 Fs5 y3 _ hy3 y4 _ hy4 (by omega) y5 _ hy5 (by omega) z7 _ hz7 (by omega) (by omega) (by omega))
        · refine h_iload (pc' := 109) rfl rfl rfl ?_
          refine h_istore_n (pc' := 110) (M := [(3, .int r4), (7, .int r4), (0, .ref 9), (1, .int x0), (2, .int x1), (4, .int y4), (5, .int y5), (6, .int y6)]) rfl rfl rfl rfl ?_
          refine h_bipush (pc' := 112) (x := (Int32.ofInt 10)) rfl rfl cb_10 ?_
          refine h_iload (pc' := 114) rfl rfl rfl ?_
          refine h_imul (pc' := 115) rfl rfl ci_10 hy5 rfl (by omega) (by omega) (fun z8 hz8 => ?_)
          refine h_iload (pc' := 117) rfl rfl rfl ?_
          refine h_iadd (pc' := 118) rfl rfl hz8 hy6 rfl (by omega) (by omega) (fun z9 hz9 => ?_)
          refine h_istore (pc' := 120) (M := [(4, .int z9), (3, .int r4), (7, .int r4), (0, .ref 9), (1, .int x0), (2, .int x1), (5, .int y5), (6, .int y6)]) rfl rfl rfl rfl ?_
          refine h_iinc (pc' := 123) (M := fun z10 => [(6, .int z10), (4, .int z9), (3, .int r4), (7, .int r4), (0, .ref 9), (1, .int x0), (2, .int x1), (5, .int y5)]) rfl rfl rfl rfl hy6 ci_1 rfl (by omega) (by omega) (fun _ => rfl) (fun z10 hz10 => ?_)
          refine h_goto (pc' := 78) rfl rfl ?_
          exact h_wk [(0, .ref 9), (1, .int x0), (2, .int x1), (3, .int r4), (4, .int z9), (5, .int y5), (6, .int z10)] ⟨rfl, rfl, rfl, rfl, rfl, rfl, rfl, trivial⟩ (ih.2 _ Is5 Fs5 r4 _ hr4 z9 _ hz9 (by omega) y5 _ hy5 (by omega) z10 _ hz10 (by omega) (by omega) (by omega))
theorem w_105_9 {ns : Nat} (σ : h_S) (hI : h_I σ) (x0 : Int32) (a0 : Int) (hx0 : x0.toInt = a0) (x1 : Int32) (a1 : Int) (hx1 : x1.toInt = a1) {Q : Option Value → h_S → Prop} (kk : ∀ (r : Int32) (b : Int) (hb : r.toInt = b) (τ : h_S), h_I τ → h_F (k_in kf_w_105_9) τ σ → Q (some (.int r)) τ) : h_T g_P (g_Y ns) 105 0 [(0, .ref 9), (1, .int x0), (2, .int x1)] [] σ Q := by
  have F00 : h_F (k_in kf_w_105_9) σ σ := h_F.rf
  refine h_aload_n (pc' := 1) rfl rfl rfl ?_
  refine h_getR (pc' := 4) rfl rfl rfl rfl rfl ?_
  refine h_iload_n (pc' := 5) rfl rfl rfl ?_
  refine h_call (sp := false) (pc' := 8) (M := [(0, .ref 10), (1, .int x0)]) rfl rfl rfl rfl rfl rfl rfl rfl ?_
  refine h_iload_n (pc' := 1) rfl rfl rfl ?_
  refine h_zlt (tg := 16) (pc' := 4) rfl rfl rfl hx0 (fun c1 => ?_) (fun c1 => ?_)
  · refine h_iconst (pc' := 17) (x := (Int32.ofInt 0)) rfl rfl rfl ?_
    refine h_zret rfl rfl ci_0 (by omega) (h_Kv ?_)
    refine h_zeq (tg := 18) (pc' := 11) rfl rfl rfl ci_0 (fun c2 => ?_) (fun c2 => absurd c2 (by omega))
    refine h_iconst (pc' := 19) (x := (Int32.ofInt (-1))) rfl rfl rfl ?_
    exact h_iret rfl rfl (kk _ _ ci_m1 _ hI F00)
  · refine h_iload_n (pc' := 5) rfl rfl rfl ?_
    refine h_aload_n (pc' := 6) rfl rfl rfl ?_
    refine h_getI (pc' := 9) (v := σ 10 9) rfl rfl rfl rfl rfl rfl (fun z3 hz3 => ?_)
    have tz3 := tf_10_9 hI
    refine h_cge (tg := 16) (pc' := 12) rfl rfl rfl hx0 hz3 (fun c4 => ?_) (fun c4 => ?_)
    · refine h_iconst (pc' := 17) (x := (Int32.ofInt 0)) rfl rfl rfl ?_
      refine h_zret rfl rfl ci_0 (by omega) (h_Kv ?_)
      refine h_zeq (tg := 18) (pc' := 11) rfl rfl rfl ci_0 (fun c5 => ?_) (fun c5 => absurd c5 (by omega))
      refine h_iconst (pc' := 19) (x := (Int32.ofInt (-1))) rfl rfl rfl ?_
      exact h_iret rfl rfl (kk _ _ ci_m1 _ hI F00)
    · refine h_iconst (pc' := 13) (x := (Int32.ofInt 1)) rfl rfl rfl ?_
      refine h_goto (pc' := 17) rfl rfl ?_
      refine h_zret rfl rfl ci_1 (by omega) (h_Kv ?_)
      refine h_zeq (tg := 18) (pc' := 11) rfl rfl rfl ci_1 (fun c6 => absurd c6 (by omega)) (fun c6 => ?_)
      refine h_iload_n (pc' := 12) rfl rfl rfl ?_
      refine h_calls (pc' := 15) (M := [(0, .int x1)]) rfl rfl rfl rfl rfl rfl ?_
      refine h_iload_n (pc' := 1) rfl rfl rfl ?_
      refine h_zeq (tg := 9) (pc' := 4) rfl rfl rfl hx1 (fun c7 => ?_) (fun c7 => ?_)
      · refine h_iconst (pc' := 10) (x := (Int32.ofInt 1)) rfl rfl rfl ?_
        refine h_goto (pc' := 14) rfl rfl ?_
        refine h_zret rfl rfl ci_1 (by omega) (h_Kv ?_)
        refine h_zne (tg := 20) (pc' := 18) rfl rfl rfl ci_1 (fun c8 => ?_) (fun c8 => absurd c8 (by omega))
        refine h_aload_n (pc' := 21) rfl rfl rfl ?_
        refine h_getR (pc' := 24) rfl rfl rfl rfl rfl ?_
        refine h_getR (pc' := 27) rfl rfl rfl rfl rfl ?_
        refine h_call (sp := false) (pc' := 30) (M := [(0, .ref 13)]) rfl rfl rfl rfl rfl rfl rfl rfl ?_
        refine h_aload_n (pc' := 1) rfl rfl rfl ?_
        refine h_getI (pc' := 4) (v := σ 13 2) rfl rfl rfl rfl rfl rfl (fun z9 hz9 => ?_)
        have tz9 := tf_13_2 hI
        refine h_iconst (pc' := 5) (x := (Int32.ofInt 3)) rfl rfl rfl ?_
        refine h_clt (tg := 12) (pc' := 8) rfl rfl rfl hz9 ci_3 (fun c10 => ?_) (fun c10 => ?_)
        · refine h_iconst (pc' := 13) (x := (Int32.ofInt 0)) rfl rfl rfl ?_
          refine h_zret rfl rfl ci_0 (by omega) (h_Kv ?_)
          refine h_zeq (tg := 36) (pc' := 33) rfl rfl rfl ci_0 (fun c11 => ?_) (fun c11 => absurd c11 (by omega))
          refine h_aload_n (pc' := 37) rfl rfl rfl ?_
          refine h_aload_n (pc' := 38) rfl rfl rfl ?_
          refine h_getR (pc' := 41) rfl rfl rfl rfl rfl ?_
          refine h_iload_n (pc' := 42) rfl rfl rfl ?_
          refine h_call (sp := false) (pc' := 45) (M := [(0, .ref 9), (1, .ref 10), (2, .int x0)]) rfl rfl rfl rfl rfl rfl rfl rfl ?_
          refine w_130_9_10 _ hI x0 _ hx0 (by omega) (fun s13 Is13 Gs13 => h_Kn ?_)
          have Fs13 := (Gs13.mono (B := kf_w_105_9) rfl).tr F00
          refine h_aload_n (pc' := 46) rfl rfl rfl ?_
          refine h_getR (pc' := 49) rfl rfl rfl rfl rfl ?_
          refine h_call (sp := false) (pc' := 52) (M := [(0, .ref 85)]) rfl rfl rfl rfl rfl rfl rfl rfl ?_
          refine h_aload_n (pc' := 1) rfl rfl rfl ?_
          refine h_getR (pc' := 4) rfl rfl rfl rfl rfl ?_
          refine h_aload_n (pc' := 5) rfl rfl rfl ?_
          refine h_call (sp := false) (pc' := 8) (M := [(0, .ref 85)]) rfl rfl rfl rfl rfl rfl rfl rfl ?_
          refine h_iconst (pc' := 1) (x := (Int32.ofInt 1)) rfl rfl rfl ?_
          refine h_aload_n (pc' := 2) rfl rfl rfl ?_
          refine h_getI (pc' := 5) (v := s13 85 4) rfl rfl rfl rfl rfl rfl (fun z14 hz14 => ?_)
          have tz14 := tf_85_4 Is13
          refine h_shl1 (pc' := 6) rfl rfl ci_1 hz14 (by omega) (by omega) (fun z15 hz15 vz15 => ?_)
          refine h_iconst (pc' := 7) (x := (Int32.ofInt 1)) rfl rfl rfl ?_
          refine h_isub (pc' := 8) rfl rfl rfl ci_1 rfl (by omega) (by omega) (fun z16 hz16 => ?_)
          refine h_iret rfl rfl (h_Kv ?_)
          refine h_bipush (pc' := 10) (x := (Int32.ofInt 7)) rfl rfl cb_7 ?_
          refine h_imul (pc' := 11) rfl rfl hz16 ci_7 rfl (by omega) (by omega) (fun z17 hz17 => ?_)
          refine h_bipush (pc' := 13) (x := (Int32.ofInt 6)) rfl rfl cb_6 ?_
          refine h_iadd (pc' := 14) rfl rfl hz17 ci_6 rfl (by omega) (by omega) (fun z18 hz18 => ?_)
          refine h_iald (pc' := 15) (v := s13 87 (((z15.toInt - 1) * 7) + 6)) rfl rfl rfl hz18 (by omega) (by omega) rfl (fun z19 hz19 => ?_)
          have tz19 := ty_87 Is13 (((z15.toInt - 1) * 7) + 6)
          refine h_iret rfl rfl (h_Kv ?_)
          refine h_istore_n (pc' := 53) (M := [(3, .int z19), (0, .ref 9), (1, .int x0), (2, .int x1)]) rfl rfl rfl rfl ?_
          refine h_bipush (pc' := 55) (x := (Int32.ofInt (-4))) rfl rfl cb_m4 ?_
          refine h_istore (pc' := 57) (M := [(4, .int (Int32.ofInt (-4))), (3, .int z19), (0, .ref 9), (1, .int x0), (2, .int x1)]) rfl rfl rfl rfl ?_
          refine h_iconst (pc' := 58) (x := (Int32.ofInt 0)) rfl rfl rfl ?_
          refine h_istore (pc' := 60) (M := [(5, .int (Int32.ofInt 0)), (4, .int (Int32.ofInt (-4))), (3, .int z19), (0, .ref 9), (1, .int x0), (2, .int x1)]) rfl rfl rfl rfl ?_
          exact h_wk [(0, .ref 9), (1, .int x0), (2, .int x1), (3, .int z19), (4, .int (Int32.ofInt (-4))), (5, .int (Int32.ofInt 0))] ⟨rfl, rfl, rfl, rfl, rfl, rfl, trivial⟩ ((w_105_9_l ns σ hI x0 a0 hx0 x1 a1 hx1 kk 1000000000000).1 _ Is13 Fs13 z19 _ hz19 (Int32.ofInt (-4)) _ ci_m4 (by omega) (Int32.ofInt 0) _ ci_0 (by omega) (by omega) (by omega))
        · refine h_iconst (pc' := 9) (x := (Int32.ofInt 1)) rfl rfl rfl ?_
          refine h_goto (pc' := 13) rfl rfl ?_
          refine h_zret rfl rfl ci_1 (by omega) (h_Kv ?_)
          refine h_zeq (tg := 36) (pc' := 33) rfl rfl rfl ci_1 (fun c20 => absurd c20 (by omega)) (fun c20 => ?_)
          refine h_bipush (pc' := 35) (x := (Int32.ofInt (-3))) rfl rfl cb_m3 ?_
          exact h_iret rfl rfl (kk _ _ ci_m3 _ hI F00)
      · refine h_iload_n (pc' := 5) rfl rfl rfl ?_
        refine h_iconst (pc' := 6) (x := (Int32.ofInt 1)) rfl rfl rfl ?_
        refine h_cne (tg := 13) (pc' := 9) rfl rfl rfl hx1 ci_1 (fun c21 => ?_) (fun c21 => ?_)
        · refine h_iconst (pc' := 14) (x := (Int32.ofInt 0)) rfl rfl rfl ?_
          refine h_zret rfl rfl ci_0 (by omega) (h_Kv ?_)
          refine h_zne (tg := 20) (pc' := 18) rfl rfl rfl ci_0 (fun c22 => absurd c22 (by omega)) (fun c22 => ?_)
          refine h_iconst (pc' := 19) (x := (Int32.ofInt (-1))) rfl rfl rfl ?_
          exact h_iret rfl rfl (kk _ _ ci_m1 _ hI F00)
        · refine h_iconst (pc' := 10) (x := (Int32.ofInt 1)) rfl rfl rfl ?_
          refine h_goto (pc' := 14) rfl rfl ?_
          refine h_zret rfl rfl ci_1 (by omega) (h_Kv ?_)
          refine h_zne (tg := 20) (pc' := 18) rfl rfl rfl ci_1 (fun c23 => ?_) (fun c23 => absurd c23 (by omega))
          refine h_aload_n (pc' := 21) rfl rfl rfl ?_
          refine h_getR (pc' := 24) rfl rfl rfl rfl rfl ?_
          refine h_getR (pc' := 27) rfl rfl rfl rfl rfl ?_
          refine h_call (sp := false) (pc' := 30) (M := [(0, .ref 13)]) rfl rfl rfl rfl rfl rfl rfl rfl ?_
          refine h_aload_n (pc' := 1) rfl rfl rfl ?_
          refine h_getI (pc' := 4) (v := σ 13 2) rfl rfl rfl rfl rfl rfl (fun z24 hz24 => ?_)
          have tz24 := tf_13_2 hI
          refine h_iconst (pc' := 5) (x := (Int32.ofInt 3)) rfl rfl rfl ?_
          refine h_clt (tg := 12) (pc' := 8) rfl rfl rfl hz24 ci_3 (fun c25 => ?_) (fun c25 => ?_)
          · refine h_iconst (pc' := 13) (x := (Int32.ofInt 0)) rfl rfl rfl ?_
            refine h_zret rfl rfl ci_0 (by omega) (h_Kv ?_)
            refine h_zeq (tg := 36) (pc' := 33) rfl rfl rfl ci_0 (fun c26 => ?_) (fun c26 => absurd c26 (by omega))
            refine h_aload_n (pc' := 37) rfl rfl rfl ?_
            refine h_aload_n (pc' := 38) rfl rfl rfl ?_
            refine h_getR (pc' := 41) rfl rfl rfl rfl rfl ?_
            refine h_iload_n (pc' := 42) rfl rfl rfl ?_
            refine h_call (sp := false) (pc' := 45) (M := [(0, .ref 9), (1, .ref 10), (2, .int x0)]) rfl rfl rfl rfl rfl rfl rfl rfl ?_
            refine w_130_9_10 _ hI x0 _ hx0 (by omega) (fun s28 Is28 Gs28 => h_Kn ?_)
            have Fs28 := (Gs28.mono (B := kf_w_105_9) rfl).tr F00
            refine h_aload_n (pc' := 46) rfl rfl rfl ?_
            refine h_getR (pc' := 49) rfl rfl rfl rfl rfl ?_
            refine h_call (sp := false) (pc' := 52) (M := [(0, .ref 85)]) rfl rfl rfl rfl rfl rfl rfl rfl ?_
            refine h_aload_n (pc' := 1) rfl rfl rfl ?_
            refine h_getR (pc' := 4) rfl rfl rfl rfl rfl ?_
            refine h_aload_n (pc' := 5) rfl rfl rfl ?_
            refine h_call (sp := false) (pc' := 8) (M := [(0, .ref 85)]) rfl rfl rfl rfl rfl rfl rfl rfl ?_
            refine h_iconst (pc' := 1) (x := (Int32.ofInt 1)) rfl rfl rfl ?_
            refine h_aload_n (pc' := 2) rfl rfl rfl ?_
            refine h_getI (pc' := 5) (v := s28 85 4) rfl rfl rfl rfl rfl rfl (fun z29 hz29 => ?_)
            have tz29 := tf_85_4 Is28
            refine h_shl1 (pc' := 6) rfl rfl ci_1 hz29 (by omega) (by omega) (fun z30 hz30 vz30 => ?_)
            refine h_iconst (pc' := 7) (x := (Int32.ofInt 1)) rfl rfl rfl ?_
            refine h_isub (pc' := 8) rfl rfl rfl ci_1 rfl (by omega) (by omega) (fun z31 hz31 => ?_)
            refine h_iret rfl rfl (h_Kv ?_)
            refine h_bipush (pc' := 10) (x := (Int32.ofInt 7)) rfl rfl cb_7 ?_
            refine h_imul (pc' := 11) rfl rfl hz31 ci_7 rfl (by omega) (by omega) (fun z32 hz32 => ?_)
            refine h_bipush (pc' := 13) (x := (Int32.ofInt 6)) rfl rfl cb_6 ?_
            refine h_iadd (pc' := 14) rfl rfl hz32 ci_6 rfl (by omega) (by omega) (fun z33 hz33 => ?_)
            refine h_iald (pc' := 15) (v := s28 87 (((z30.toInt - 1) * 7) + 6)) rfl rfl rfl hz33 (by omega) (by omega) rfl (fun z34 hz34 => ?_)
            have tz34 := ty_87 Is28 (((z30.toInt - 1) * 7) + 6)
            refine h_iret rfl rfl (h_Kv ?_)
            refine h_istore_n (pc' := 53) (M := [(3, .int z34), (0, .ref 9), (1, .int x0), (2, .int x1)]) rfl rfl rfl rfl ?_
            refine h_bipush (pc' := 55) (x := (Int32.ofInt (-4))) rfl rfl cb_m4 ?_
            refine h_istore (pc' := 57) (M := [(4, .int (Int32.ofInt (-4))), (3, .int z34), (0, .ref 9), (1, .int x0), (2, .int x1)]) rfl rfl rfl rfl ?_
            refine h_iconst (pc' := 58) (x := (Int32.ofInt 0)) rfl rfl rfl ?_
            refine h_istore (pc' := 60) (M := [(5, .int (Int32.ofInt 0)), (4, .int (Int32.ofInt (-4))), (3, .int z34), (0, .ref 9), (1, .int x0), (2, .int x1)]) rfl rfl rfl rfl ?_
            exact h_wk [(0, .ref 9), (1, .int x0), (2, .int x1), (3, .int z34), (4, .int (Int32.ofInt (-4))), (5, .int (Int32.ofInt 0))] ⟨rfl, rfl, rfl, rfl, rfl, rfl, trivial⟩ ((w_105_9_l ns σ hI x0 a0 hx0 x1 a1 hx1 kk 1000000000000).1 _ Is28 Fs28 z34 _ hz34 (Int32.ofInt (-4)) _ ci_m4 (by omega) (Int32.ofInt 0) _ ci_0 (by omega) (by omega) (by omega))
          · refine h_iconst (pc' := 9) (x := (Int32.ofInt 1)) rfl rfl rfl ?_
            refine h_goto (pc' := 13) rfl rfl ?_
            refine h_zret rfl rfl ci_1 (by omega) (h_Kv ?_)
            refine h_zeq (tg := 36) (pc' := 33) rfl rfl rfl ci_1 (fun c35 => absurd c35 (by omega)) (fun c35 => ?_)
            refine h_bipush (pc' := 35) (x := (Int32.ofInt (-3))) rfl rfl cb_m3 ?_
            exact h_iret rfl rfl (kk _ _ ci_m3 _ hI F00)
def kf_w_106_9 : List Nat := [80898, 82943, 83967]
theorem w_106_9_l (ns : Nat) (σ : h_S) (hI : h_I σ) {Q : Option Value → h_S → Prop} (kk : ∀ (r : Int32) (b : Int) (hb : r.toInt = b) (τ : h_S), h_I τ → h_F (k_in kf_w_106_9) τ σ → Q (some (.int r)) τ) : ∀ n : Nat, (∀ (s0 : h_S), h_I s0 → h_F (k_in kf_w_106_9) s0 σ → ∀ (y1 : Int32) (b1 : Int), y1.toInt = b1 → ∀ (y2 : Int32) (b2 : Int), y2.toInt = b2 → (0 ≤ b2 ∧ b2 ≤ 3) → (3 + 1 - b2) * 1000000 + 1000000000 ≤ (n : Int) → h_T g_P (g_Y ns) 106 15 [(0, .ref 9), (1, .int y1), (2, .int y2)] [] s0 Q) := by
  intro n
  induction n with
  | zero => exact by intro s0 I0 F0_ y1 b1 hy1 y2 b2 hy2 ry2 hm; exfalso; omega
  | succ n ih =>
    intro s0 I0 F0_ y1 b1 hy1 y2 b2 hy2 ry2 hm
    refine h_iload_n (pc' := 16) rfl rfl rfl ?_
    refine h_aload_n (pc' := 17) rfl rfl rfl ?_
    refine h_getR (pc' := 20) rfl rfl rfl rfl rfl ?_
    refine h_getI (pc' := 23) (v := σ 10 9) rfl rfl rfl rfl rfl (F0_ 10 9 rfl) (fun z1 hz1 => ?_)
    have tz1 := tf_10_9 hI
    refine h_cge (tg := 105) (pc' := 26) rfl rfl rfl hy2 hz1 (fun c2 => ?_) (fun c2 => ?_)
    · refine h_iload_n (pc' := 106) rfl rfl rfl ?_
      exact h_iret rfl rfl (kk _ _ hy1 _ I0 F0_)
    · refine h_aload_n (pc' := 27) rfl rfl rfl ?_
      refine h_getR (pc' := 30) rfl rfl rfl rfl rfl ?_
      refine h_aload_n (pc' := 31) rfl rfl rfl ?_
      refine h_getR (pc' := 34) rfl rfl rfl rfl rfl ?_
      refine h_getR (pc' := 37) rfl rfl rfl rfl rfl ?_
      refine h_iload_n (pc' := 38) rfl rfl rfl ?_
      refine h_iald (pc' := 39) (v := σ 20 b2) rfl rfl rfl hy2 (by omega) (by omega) (F0_ 20 _ rfl) (fun z3 hz3 => ?_)
      have tz3 := ty_20 hI b2
      refine h_aload_n (pc' := 40) rfl rfl rfl ?_
      refine h_getR (pc' := 43) rfl rfl rfl rfl rfl ?_
      refine h_getR (pc' := 46) rfl rfl rfl rfl rfl ?_
      refine h_iload_n (pc' := 47) rfl rfl rfl ?_
      refine h_iald (pc' := 48) (v := σ 19 b2) rfl rfl rfl hy2 (by omega) (by omega) (F0_ 19 _ rfl) (fun z4 hz4 => ?_)
      have tz4 := ty_19 hI b2
      refine h_call (sp := false) (pc' := 51) (M := [(0, .ref 79), (1, .int z3), (2, .int z4)]) rfl rfl rfl rfl rfl rfl rfl rfl ?_
      refine w_29_79 _ I0 z3 _ hz3 z4 _ hz4 (fun r5 br5 hr5 s6 Is6 Gs6 => h_Kv ?_)
      have Fs6 := (Gs6.mono (B := kf_w_106_9) rfl).tr F0_
      refine h_istore_n (pc' := 52) (M := [(3, .int r5), (0, .ref 9), (1, .int y1), (2, .int y2)]) rfl rfl rfl rfl ?_
      refine h_aload_n (pc' := 53) rfl rfl rfl ?_
      refine h_getR (pc' := 56) rfl rfl rfl rfl rfl ?_
      refine h_aload_n (pc' := 57) rfl rfl rfl ?_
      refine h_getR (pc' := 60) rfl rfl rfl rfl rfl ?_
      refine h_getR (pc' := 63) rfl rfl rfl rfl rfl ?_
      refine h_iload_n (pc' := 64) rfl rfl rfl ?_
      refine h_iald (pc' := 65) (v := σ 20 b2) rfl rfl rfl hy2 (by omega) (by omega) (Fs6 20 _ rfl) (fun z7 hz7 => ?_)
      have tz7 := ty_20 hI b2
      refine h_aload_n (pc' := 66) rfl rfl rfl ?_
      refine h_getR (pc' := 69) rfl rfl rfl rfl rfl ?_
      refine h_getR (pc' := 72) rfl rfl rfl rfl rfl ?_
      refine h_iload_n (pc' := 73) rfl rfl rfl ?_
      refine h_iald (pc' := 74) (v := σ 19 b2) rfl rfl rfl hy2 (by omega) (by omega) (Fs6 19 _ rfl) (fun z8 hz8 => ?_)
      have tz8 := ty_19 hI b2
      refine h_iconst (pc' := 75) (x := (Int32.ofInt 1)) rfl rfl rfl ?_
      refine h_iadd (pc' := 76) rfl rfl hz8 ci_1 rfl (by omega) (by omega) (fun z9 hz9 => ?_)
      refine h_call (sp := false) (pc' := 79) (M := [(0, .ref 79), (1, .int z7), (2, .int z9)]) rfl rfl rfl rfl rfl rfl rfl rfl ?_
      refine w_29_79 _ Is6 z7 _ hz7 z9 _ hz9 (fun r10 br10 hr10 s11 Is11 Gs11 => h_Kv ?_)
      have Fs11 := (Gs11.mono (B := kf_w_106_9) rfl).tr Fs6
      refine h_istore (pc' := 81) (M := [(4, .int r10), (3, .int r5), (0, .ref 9), (1, .int y1), (2, .int y2)]) rfl rfl rfl rfl ?_
      refine h_iload (pc' := 83) rfl rfl rfl ?_
      refine h_calls (pc' := 86) (M := [(0, .int r10)]) rfl rfl rfl rfl rfl rfl ?_
      refine w_226 _ Is11 r10 _ hr10 (fun r12 br12 hr12 s13 Is13 Gs13 tr12 => h_Kv ?_)
      have Fs13 := (Gs13.mono (B := kf_w_106_9) rfl).tr Fs11
      refine h_iload_n (pc' := 87) rfl rfl rfl ?_
      refine h_calls (pc' := 90) (M := [(0, .int r5)]) rfl rfl rfl rfl rfl rfl ?_
      refine w_226 _ Is13 r5 _ hr5 (fun r14 br14 hr14 s15 Is15 Gs15 tr14 => h_Kv ?_)
      have Fs15 := (Gs15.mono (B := kf_w_106_9) rfl).tr Fs13
      refine h_cle (tg := 99) (pc' := 93) rfl rfl rfl hr12 hr14 (fun c16 => ?_) (fun c16 => ?_)
      · refine h_iinc (pc' := 102) (M := fun z17 => [(2, .int z17), (4, .int r10), (3, .int r5), (0, .ref 9), (1, .int y1)]) rfl rfl rfl rfl hy2 ci_1 rfl (by omega) (by omega) (fun _ => rfl) (fun z17 hz17 => ?_)
        refine h_goto (pc' := 15) rfl rfl ?_
        exact h_wk [(0, .ref 9), (1, .int y1), (2, .int z17)] ⟨rfl, rfl, rfl, trivial⟩ (ih _ Is15 Fs15 y1 _ hy1 z17 _ hz17 (by omega) (by omega))
      · refine h_iload_n (pc' := 94) rfl rfl rfl ?_
        refine h_iconst (pc' := 95) (x := (Int32.ofInt 1)) rfl rfl rfl ?_
        refine h_iload_n (pc' := 96) rfl rfl rfl ?_
        refine h_shl1 (pc' := 97) rfl rfl ci_1 hy2 (by omega) (by omega) (fun z18 hz18 vz18 => ?_)
        refine h_ior (pc' := 98) rfl rfl (fun z19 hz19 => ?_)
        refine h_istore_n (pc' := 99) (M := [(1, .int z19), (4, .int r10), (3, .int r5), (0, .ref 9), (2, .int y2)]) rfl rfl rfl rfl ?_
        refine h_iinc (pc' := 102) (M := fun z20 => [(2, .int z20), (1, .int z19), (4, .int r10), (3, .int r5), (0, .ref 9)]) rfl rfl rfl rfl hy2 ci_1 rfl (by omega) (by omega) (fun _ => rfl) (fun z20 hz20 => ?_)
        refine h_goto (pc' := 15) rfl rfl ?_
        exact h_wk [(0, .ref 9), (1, .int z19), (2, .int z20)] ⟨rfl, rfl, rfl, trivial⟩ (ih _ Is15 Fs15 z19 _ rfl z20 _ hz20 (by omega) (by omega))
theorem w_106_9 {ns : Nat} (σ : h_S) (hI : h_I σ) {Q : Option Value → h_S → Prop} (kk : ∀ (r : Int32) (b : Int) (hb : r.toInt = b) (τ : h_S), h_I τ → h_F (k_in kf_w_106_9) τ σ → Q (some (.int r)) τ) : h_T g_P (g_Y ns) 106 0 [(0, .ref 9)] [] σ Q := by
  have F00 : h_F (k_in kf_w_106_9) σ σ := h_F.rf
  refine h_aload_n (pc' := 1) rfl rfl rfl ?_
  refine h_getR (pc' := 4) rfl rfl rfl rfl rfl ?_
  refine h_aload_n (pc' := 5) rfl rfl rfl ?_
  refine h_getR (pc' := 8) rfl rfl rfl rfl rfl ?_
  refine h_call (sp := false) (pc' := 11) (M := [(0, .ref 79), (1, .ref 10)]) rfl rfl rfl rfl rfl rfl rfl rfl ?_
  refine w_23_79_10 _ hI  (fun s2 Is2 Gs2 => h_Kn ?_)
  have Fs2 := (Gs2.mono (B := kf_w_106_9) rfl).tr F00
  refine h_iconst (pc' := 12) (x := (Int32.ofInt 0)) rfl rfl rfl ?_
  refine h_istore_n (pc' := 13) (M := [(1, .int (Int32.ofInt 0)), (0, .ref 9)]) rfl rfl rfl rfl ?_
  refine h_iconst (pc' := 14) (x := (Int32.ofInt 0)) rfl rfl rfl ?_
  refine h_istore_n (pc' := 15) (M := [(2, .int (Int32.ofInt 0)), (1, .int (Int32.ofInt 0)), (0, .ref 9)]) rfl rfl rfl rfl ?_
  exact h_wk [(0, .ref 9), (1, .int (Int32.ofInt 0)), (2, .int (Int32.ofInt 0))] ⟨rfl, rfl, rfl, trivial⟩ ((w_106_9_l ns σ hI  kk 1000000000000) _ Is2 Fs2 (Int32.ofInt 0) _ ci_0 (Int32.ofInt 0) _ ci_0 (by omega) (by omega))
def kf_w_107_9 : List Nat := [80898, 82943, 83967]
theorem w_107_9_l (ns : Nat) (σ : h_S) (hI : h_I σ) (x0 : Int32) (a0 : Int) (hx0 : x0.toInt = a0) {Q : Option Value → h_S → Prop} (kk : ∀ (r : Int32) (b : Int) (hb : r.toInt = b) (τ : h_S), h_I τ → h_F (k_in kf_w_107_9) τ σ → ((-4) ≤ b ∧ b ≤ 999) → Q (some (.int r)) τ) : ∀ n : Nat, (∀ (s0 : h_S), h_I s0 → h_F (k_in kf_w_107_9) s0 σ → ∀ (y2 : Int32) (b2 : Int), y2.toInt = b2 → ((-1) ≤ b2 ∧ b2 ≤ 999) → ∀ (y3 : Int32) (b3 : Int), y3.toInt = b3 → ((-4) ≤ b3 ∧ b3 ≤ 63) → ∀ (y4 : Int32) (b4 : Int), y4.toInt = b4 → (0 ≤ b4 ∧ b4 ≤ 6) → (6 + 1 - b4) * 1000000 + 1000000000 ≤ (n : Int) → h_T g_P (g_Y ns) 107 28 [(0, .ref 9), (1, .int x0), (2, .int y2), (3, .int y3), (4, .int y4)] [] s0 Q) ∧ (∀ (s0 : h_S), h_I s0 → h_F (k_in kf_w_107_9) s0 σ → ∀ (y2 : Int32) (b2 : Int), y2.toInt = b2 → ((-1) ≤ b2 ∧ b2 ≤ 999) → ∀ (y3 : Int32) (b3 : Int), y3.toInt = b3 → ((-4) ≤ b3 ∧ b3 ≤ 63) → ∀ (y4 : Int32) (b4 : Int), y4.toInt = b4 → (0 ≤ b4 ∧ b4 ≤ 5) → ∀ (y5 : Int32) (b5 : Int), y5.toInt = b5 → (1 ≤ b5 ∧ b5 ≤ 6) → ((6 + 1 - b4) - 1) * 1000000 + 1000000000 + (6 + 1 - b5) * 1000 + 100000 ≤ (n : Int) → h_T g_P (g_Y ns) 107 46 [(0, .ref 9), (1, .int x0), (2, .int y2), (3, .int y3), (4, .int y4), (5, .int y5)] [] s0 Q) := by
  intro n
  induction n with
  | zero => exact ⟨by intro s0 I0 F0_ y2 b2 hy2 ry2 y3 b3 hy3 ry3 y4 b4 hy4 ry4 hm; exfalso; omega, by intro s0 I0 F0_ y2 b2 hy2 ry2 y3 b3 hy3 ry3 y4 b4 hy4 ry4 y5 b5 hy5 ry5 hm; exfalso; omega⟩
  | succ n ih =>
    refine ⟨?_, ?_⟩
    · intro s0 I0 F0_ y2 b2 hy2 ry2 y3 b3 hy3 ry3 y4 b4 hy4 ry4 hm
      refine h_iload (pc' := 30) rfl rfl rfl ?_
      refine h_aload_n (pc' := 31) rfl rfl rfl ?_
      refine h_getR (pc' := 34) rfl rfl rfl rfl rfl ?_
      refine h_getI (pc' := 37) (v := σ 10 8) rfl rfl rfl rfl rfl (F0_ 10 8 rfl) (fun z1 hz1 => ?_)
      have tz1 := tf_10_8 hI
      refine h_cge (tg := 109) (pc' := 40) rfl rfl rfl hy4 hz1 (fun c2 => ?_) (fun c2 => ?_)
      · refine h_iload_n (pc' := 110) rfl rfl rfl ?_
        refine h_zeq (tg := 119) (pc' := 113) rfl rfl rfl hx0 (fun c3 => ?_) (fun c3 => ?_)
        · refine h_iload_n (pc' := 120) rfl rfl rfl ?_
          refine h_goto (pc' := 124) rfl rfl ?_
          exact h_iret rfl rfl (kk _ _ hy3 _ I0 F0_ (by omega))
        · refine h_iload_n (pc' := 114) rfl rfl rfl ?_
          refine h_bipush (pc' := 116) (x := (Int32.ofInt (-4))) rfl rfl cb_m4 ?_
          refine h_cne (tg := 123) (pc' := 119) rfl rfl rfl hy3 ci_m4 (fun c4 => ?_) (fun c4 => ?_)
          · refine h_iload_n (pc' := 124) rfl rfl rfl ?_
            exact h_iret rfl rfl (kk _ _ hy2 _ I0 F0_ (by omega))
          · refine h_iload_n (pc' := 120) rfl rfl rfl ?_
            refine h_goto (pc' := 124) rfl rfl ?_
            exact h_iret rfl rfl (kk _ _ hy3 _ I0 F0_ (by omega))
      · refine h_iload (pc' := 42) rfl rfl rfl ?_
        refine h_iconst (pc' := 43) (x := (Int32.ofInt 1)) rfl rfl rfl ?_
        refine h_iadd (pc' := 44) rfl rfl hy4 ci_1 rfl (by omega) (by omega) (fun z5 hz5 => ?_)
        refine h_istore (pc' := 46) (M := [(5, .int z5), (0, .ref 9), (1, .int x0), (2, .int y2), (3, .int y3), (4, .int y4)]) rfl rfl rfl rfl ?_
        exact h_wk [(0, .ref 9), (1, .int x0), (2, .int y2), (3, .int y3), (4, .int y4), (5, .int z5)] ⟨rfl, rfl, rfl, rfl, rfl, rfl, trivial⟩ (ih.2 _ I0 F0_ y2 _ hy2 (by omega) y3 _ hy3 (by omega) y4 _ hy4 (by omega) z5 _ hz5 (by omega) (by omega))
    · intro s0 I0 F0_ y2 b2 hy2 ry2 y3 b3 hy3 ry3 y4 b4 hy4 ry4 y5 b5 hy5 ry5 hm
      refine h_iload (pc' := 48) rfl rfl rfl ?_
      refine h_aload_n (pc' := 49) rfl rfl rfl ?_
      refine h_getR (pc' := 52) rfl rfl rfl rfl rfl ?_
      refine h_getI (pc' := 55) (v := σ 10 8) rfl rfl rfl rfl rfl (F0_ 10 8 rfl) (fun z1 hz1 => ?_)
      have tz1 := tf_10_8 hI
      refine h_cge (tg := 103) (pc' := 58) rfl rfl rfl hy5 hz1 (fun c2 => ?_) (fun c2 => ?_)
      · refine h_iinc (pc' := 106) (M := fun z3 => [(4, .int z3), (0, .ref 9), (1, .int x0), (2, .int y2), (3, .int y3), (5, .int y5)]) rfl rfl rfl rfl hy4 ci_1 rfl (by omega) (by omega) (fun _ => rfl) (fun z3 hz3 => ?_)
        refine h_goto (pc' := 28) rfl rfl ?_
        exact h_wk [(0, .ref 9), (1, .int x0), (2, .int y2), (3, .int y3), (4, .int z3)] ⟨rfl, rfl, rfl, rfl, rfl, trivial⟩ (ih.1 _ I0 F0_ y2 _ hy2 (by omega) y3 _ hy3 (by omega) z3 _ hz3 (by omega) (by omega))
      · refine h_aload_n (pc' := 59) rfl rfl rfl ?_
        refine h_getR (pc' := 62) rfl rfl rfl rfl rfl ?_
        refine h_iload (pc' := 64) rfl rfl rfl ?_
        refine h_iload (pc' := 66) rfl rfl rfl ?_
        refine h_call (sp := false) (pc' := 69) (M := [(0, .ref 79), (1, .int y4), (2, .int y5)]) rfl rfl rfl rfl rfl rfl rfl rfl ?_
        refine h_aload_n (pc' := 1) rfl rfl rfl ?_
        refine h_getR (pc' := 4) rfl rfl rfl rfl rfl ?_
        refine h_iload_n (pc' := 5) rfl rfl rfl ?_
        refine h_bipush (pc' := 7) (x := (Int32.ofInt 6)) rfl rfl cb_6 ?_
        refine h_imul (pc' := 8) rfl rfl hy4 ci_6 rfl (by omega) (by omega) (fun z4 hz4 => ?_)
        refine h_iload_n (pc' := 9) rfl rfl rfl ?_
        refine h_iadd (pc' := 10) rfl rfl hz4 hy5 rfl (by omega) (by omega) (fun z5 hz5 => ?_)
        refine h_iald (pc' := 11) (v := s0 80 ((b4 * 6) + b5)) rfl rfl rfl hz5 (by omega) (by omega) rfl (fun z6 hz6 => ?_)
        have tz6 := ty_80 I0 ((b4 * 6) + b5)
        refine h_iret rfl rfl (h_Kv ?_)
        refine h_istore (pc' := 71) (M := [(6, .int z6), (0, .ref 9), (1, .int x0), (2, .int y2), (3, .int y3), (4, .int y4), (5, .int y5)]) rfl rfl rfl rfl ?_
        refine h_iload (pc' := 73) rfl rfl rfl ?_
        refine h_sipush (pc' := 76) (x := (Int32.ofInt 1000)) rfl rfl cs_1000 ?_
        refine h_cge (tg := 97) (pc' := 79) rfl rfl rfl hz6 ci_1000 (fun c7 => ?_) (fun c7 => ?_)
        · refine h_iinc (pc' := 100) (M := fun z8 => [(5, .int z8), (6, .int z6), (0, .ref 9), (1, .int x0), (2, .int y2), (3, .int y3), (4, .int y4)]) rfl rfl rfl rfl hy5 ci_1 rfl (by omega) (by omega) (fun _ => rfl) (fun z8 hz8 => ?_)
          refine h_goto (pc' := 46) rfl rfl ?_
          exact h_wk [(0, .ref 9), (1, .int x0), (2, .int y2), (3, .int y3), (4, .int y4), (5, .int z8)] ⟨rfl, rfl, rfl, rfl, rfl, rfl, trivial⟩ (ih.2 _ I0 F0_ y2 _ hy2 (by omega) y3 _ hy3 (by omega) y4 _ hy4 (by omega) z8 _ hz8 (by omega) (by omega))
        · refine h_iload (pc' := 81) rfl rfl rfl ?_
          refine h_iload_n (pc' := 82) rfl rfl rfl ?_
          refine h_cle (tg := 97) (pc' := 85) rfl rfl rfl hz6 hy2 (fun c9 => ?_) (fun c9 => ?_)
          · refine h_iinc (pc' := 100) (M := fun z10 => [(5, .int z10), (6, .int z6), (0, .ref 9), (1, .int x0), (2, .int y2), (3, .int y3), (4, .int y4)]) rfl rfl rfl rfl hy5 ci_1 rfl (by omega) (by omega) (fun _ => rfl) (fun z10 hz10 => ?_)
            refine h_goto (pc' := 46) rfl rfl ?_
            exact h_wk [(0, .ref 9), (1, .int x0), (2, .int y2), (3, .int y3), (4, .int y4), (5, .int z10)] ⟨rfl, rfl, rfl, rfl, rfl, rfl, trivial⟩ (ih.2 _ I0 F0_ y2 _ hy2 (by omega) y3 _ hy3 (by omega) y4 _ hy4 (by omega) z10 _ hz10 (by omega) (by omega))
          · refine h_iload (pc' := 87) rfl rfl rfl ?_
            refine h_istore_n (pc' := 88) (M := [(2, .int z6), (6, .int z6), (0, .ref 9), (1, .int x0), (3, .int y3), (4, .int y4), (5, .int y5)]) rfl rfl rfl rfl ?_
            refine h_bipush (pc' := 90) (x := (Int32.ofInt 10)) rfl rfl cb_10 ?_
            refine h_iload (pc' := 92) rfl rfl rfl ?_
            refine h_imul (pc' := 93) rfl rfl ci_10 hy4 rfl (by omega) (by omega) (fun z11 hz11 => ?_)
            refine h_iload (pc' := 95) rfl rfl rfl ?_
            refine h_iadd (pc' := 96) rfl rfl hz11 hy5 rfl (by omega) (by omega) (fun z12 hz12 => ?_)
            refine h_istore_n (pc' := 97) (M := [(3, .int z12), (2, .int z6), (6, .int z6), (0, .ref 9), (1, .int x0), (4, .int y4), (5, .int y5)]) rfl rfl rfl rfl ?_
            refine h_iinc (pc' := 100) (M := fun z13 => [(5, .int z13), (3, .int z12), (2, .int z6), (6, .int z6), (0, .ref 9), (1, .int x0), (4, .int y4)]) rfl rfl rfl rfl hy5 ci_1 rfl (by omega) (by omega) (fun _ => rfl) (fun z13 hz13 => ?_)
            refine h_goto (pc' := 46) rfl rfl ?_
            exact h_wk [(0, .ref 9), (1, .int x0), (2, .int z6), (3, .int z12), (4, .int y4), (5, .int z13)] ⟨rfl, rfl, rfl, rfl, rfl, rfl, trivial⟩ (ih.2 _ I0 F0_ z6 _ hz6 (by omega) z12 _ hz12 (by omega) y4 _ hy4 (by omega) z13 _ hz13 (by omega) (by omega))
theorem w_107_9 {ns : Nat} (σ : h_S) (hI : h_I σ) (x0 : Int32) (a0 : Int) (hx0 : x0.toInt = a0) {Q : Option Value → h_S → Prop} (kk : ∀ (r : Int32) (b : Int) (hb : r.toInt = b) (τ : h_S), h_I τ → h_F (k_in kf_w_107_9) τ σ → ((-4) ≤ b ∧ b ≤ 999) → Q (some (.int r)) τ) : h_T g_P (g_Y ns) 107 0 [(0, .ref 9), (1, .int x0)] [] σ Q := by
  have F00 : h_F (k_in kf_w_107_9) σ σ := h_F.rf
  refine h_iload_n (pc' := 1) rfl rfl rfl ?_
  refine h_calls (pc' := 4) (M := [(0, .int x0)]) rfl rfl rfl rfl rfl rfl ?_
  refine h_iload_n (pc' := 1) rfl rfl rfl ?_
  refine h_zeq (tg := 9) (pc' := 4) rfl rfl rfl hx0 (fun c1 => ?_) (fun c1 => ?_)
  · refine h_iconst (pc' := 10) (x := (Int32.ofInt 1)) rfl rfl rfl ?_
    refine h_goto (pc' := 14) rfl rfl ?_
    refine h_zret rfl rfl ci_1 (by omega) (h_Kv ?_)
    refine h_zne (tg := 9) (pc' := 7) rfl rfl rfl ci_1 (fun c2 => ?_) (fun c2 => absurd c2 (by omega))
    refine h_aload_n (pc' := 10) rfl rfl rfl ?_
    refine h_getR (pc' := 13) rfl rfl rfl rfl rfl ?_
    refine h_aload_n (pc' := 14) rfl rfl rfl ?_
    refine h_getR (pc' := 17) rfl rfl rfl rfl rfl ?_
    refine h_call (sp := false) (pc' := 20) (M := [(0, .ref 79), (1, .ref 10)]) rfl rfl rfl rfl rfl rfl rfl rfl ?_
    refine w_23_79_10 _ hI  (fun s4 Is4 Gs4 => h_Kn ?_)
    have Fs4 := (Gs4.mono (B := kf_w_107_9) rfl).tr F00
    refine h_iconst (pc' := 21) (x := (Int32.ofInt (-1))) rfl rfl rfl ?_
    refine h_istore_n (pc' := 22) (M := [(2, .int (Int32.ofInt (-1))), (0, .ref 9), (1, .int x0)]) rfl rfl rfl rfl ?_
    refine h_bipush (pc' := 24) (x := (Int32.ofInt (-4))) rfl rfl cb_m4 ?_
    refine h_istore_n (pc' := 25) (M := [(3, .int (Int32.ofInt (-4))), (2, .int (Int32.ofInt (-1))), (0, .ref 9), (1, .int x0)]) rfl rfl rfl rfl ?_
    refine h_iconst (pc' := 26) (x := (Int32.ofInt 0)) rfl rfl rfl ?_
    refine h_istore (pc' := 28) (M := [(4, .int (Int32.ofInt 0)), (3, .int (Int32.ofInt (-4))), (2, .int (Int32.ofInt (-1))), (0, .ref 9), (1, .int x0)]) rfl rfl rfl rfl ?_
    exact h_wk [(0, .ref 9), (1, .int x0), (2, .int (Int32.ofInt (-1))), (3, .int (Int32.ofInt (-4))), (4, .int (Int32.ofInt 0))] ⟨rfl, rfl, rfl, rfl, rfl, trivial⟩ ((w_107_9_l ns σ hI x0 a0 hx0 kk 1000000000000).1 _ Is4 Fs4 (Int32.ofInt (-1)) _ ci_m1 (by omega) (Int32.ofInt (-4)) _ ci_m4 (by omega) (Int32.ofInt 0) _ ci_0 (by omega) (by omega))
  · refine h_iload_n (pc' := 5) rfl rfl rfl ?_
    refine h_iconst (pc' := 6) (x := (Int32.ofInt 1)) rfl rfl rfl ?_
    refine h_cne (tg := 13) (pc' := 9) rfl rfl rfl hx0 ci_1 (fun c5 => ?_) (fun c5 => ?_)
    · refine h_iconst (pc' := 14) (x := (Int32.ofInt 0)) rfl rfl rfl ?_
      refine h_zret rfl rfl ci_0 (by omega) (h_Kv ?_)
      refine h_zne (tg := 9) (pc' := 7) rfl rfl rfl ci_0 (fun c6 => absurd c6 (by omega)) (fun c6 => ?_)
      refine h_iconst (pc' := 8) (x := (Int32.ofInt (-1))) rfl rfl rfl ?_
      exact h_iret rfl rfl (kk _ _ ci_m1 _ hI F00 (by omega))
    · refine h_iconst (pc' := 10) (x := (Int32.ofInt 1)) rfl rfl rfl ?_
      refine h_goto (pc' := 14) rfl rfl ?_
      refine h_zret rfl rfl ci_1 (by omega) (h_Kv ?_)
      refine h_zne (tg := 9) (pc' := 7) rfl rfl rfl ci_1 (fun c7 => ?_) (fun c7 => absurd c7 (by omega))
      refine h_aload_n (pc' := 10) rfl rfl rfl ?_
      refine h_getR (pc' := 13) rfl rfl rfl rfl rfl ?_
      refine h_aload_n (pc' := 14) rfl rfl rfl ?_
      refine h_getR (pc' := 17) rfl rfl rfl rfl rfl ?_
      refine h_call (sp := false) (pc' := 20) (M := [(0, .ref 79), (1, .ref 10)]) rfl rfl rfl rfl rfl rfl rfl rfl ?_
      refine w_23_79_10 _ hI  (fun s9 Is9 Gs9 => h_Kn ?_)
      have Fs9 := (Gs9.mono (B := kf_w_107_9) rfl).tr F00
      refine h_iconst (pc' := 21) (x := (Int32.ofInt (-1))) rfl rfl rfl ?_
      refine h_istore_n (pc' := 22) (M := [(2, .int (Int32.ofInt (-1))), (0, .ref 9), (1, .int x0)]) rfl rfl rfl rfl ?_
      refine h_bipush (pc' := 24) (x := (Int32.ofInt (-4))) rfl rfl cb_m4 ?_
      refine h_istore_n (pc' := 25) (M := [(3, .int (Int32.ofInt (-4))), (2, .int (Int32.ofInt (-1))), (0, .ref 9), (1, .int x0)]) rfl rfl rfl rfl ?_
      refine h_iconst (pc' := 26) (x := (Int32.ofInt 0)) rfl rfl rfl ?_
      refine h_istore (pc' := 28) (M := [(4, .int (Int32.ofInt 0)), (3, .int (Int32.ofInt (-4))), (2, .int (Int32.ofInt (-1))), (0, .ref 9), (1, .int x0)]) rfl rfl rfl rfl ?_
      exact h_wk [(0, .ref 9), (1, .int x0), (2, .int (Int32.ofInt (-1))), (3, .int (Int32.ofInt (-4))), (4, .int (Int32.ofInt 0))] ⟨rfl, rfl, rfl, rfl, rfl, trivial⟩ ((w_107_9_l ns σ hI x0 a0 hx0 kk 1000000000000).1 _ Is9 Fs9 (Int32.ofInt (-1)) _ ci_m1 (by omega) (Int32.ofInt (-4)) _ ci_m4 (by omega) (Int32.ofInt 0) _ ci_0 (by omega) (by omega))
def kf_w_108_9 : List Nat := [80898, 82943, 83967, 83970, 86015, 87039]
theorem w_108_9_l (ns : Nat) (σ : h_S) (hI : h_I σ) (x0 : Int32) (a0 : Int) (hx0 : x0.toInt = a0) (x1 : Int32) (a1 : Int) (hx1 : x1.toInt = a1) {Q : Option Value → h_S → Prop} (kk : ∀ (r : Int64) (τ : h_S), h_I τ → h_F (k_in kf_w_108_9) τ σ → Q (some (.long r)) τ) : ∀ n : Nat, (∀ (s0 : h_S), h_I s0 → h_F (k_in kf_w_108_9) s0 σ → ∀ (y3 : Int64), ∀ (y5 : Int32) (b5 : Int), y5.toInt = b5 → (0 ≤ b5 ∧ b5 ≤ 64) → (64 + 1 - b5) * 1000000 + 1000000000 ≤ (n : Int) → h_T g_P (g_Y ns) 108 34 [(0, .ref 9), (1, .int x0), (2, .int x1), (3, .long y3), (5, .int y5)] [] s0 Q) := by
  intro n
  induction n with
  | zero => exact by intro s0 I0 F0_ y3 y5 b5 hy5 ry5 hm; exfalso; omega
  | succ n ih =>
    intro s0 I0 F0_ y3 y5 b5 hy5 ry5 hm
    refine h_iload (pc' := 36) rfl rfl rfl ?_
    refine h_iconst (pc' := 37) (x := (Int32.ofInt 1)) rfl rfl rfl ?_
    refine h_aload_n (pc' := 38) rfl rfl rfl ?_
    refine h_getR (pc' := 41) rfl rfl rfl rfl rfl ?_
    refine h_getI (pc' := 44) (v := σ 10 8) rfl rfl rfl rfl rfl (F0_ 10 8 rfl) (fun z1 hz1 => ?_)
    have tz1 := tf_10_8 hI
    refine h_shl1 (pc' := 45) rfl rfl ci_1 hz1 (by omega) (by omega) (fun z2 hz2 vz2 => ?_)
    refine h_cge (tg := 86) (pc' := 48) rfl rfl rfl hy5 rfl (fun c3 => ?_) (fun c3 => ?_)
    · refine h_aload_n (pc' := 87) rfl rfl rfl ?_
      refine h_lload_n (pc' := 88) rfl rfl rfl ?_
      refine h_iload_n (pc' := 89) rfl rfl rfl ?_
      refine h_call (sp := false) (pc' := 92) (M := [(0, .ref 9), (1, .long y3), (3, .int x1)]) rfl rfl rfl rfl rfl rfl rfl rfl ?_
      refine w_133_9 _ I0 y3 x1 _ hx1 (fun r4 s5 Is5 Gs5 => h_Kv ?_)
      have Fs5 := (Gs5.mono (B := kf_w_108_9) rfl).tr F0_
      exact h_lret rfl rfl (kk _ _ Is5 Fs5)
    · refine h_aload_n (pc' := 49) rfl rfl rfl ?_
      refine h_getR (pc' := 52) rfl rfl rfl rfl rfl ?_
      refine h_aload_n (pc' := 53) rfl rfl rfl ?_
      refine h_getR (pc' := 56) rfl rfl rfl rfl rfl ?_
      refine h_iload (pc' := 58) rfl rfl rfl ?_
      refine h_call (sp := false) (pc' := 61) (M := [(0, .ref 82), (1, .ref 10), (2, .int y5)]) rfl rfl rfl rfl rfl rfl rfl rfl ?_
      refine w_21_82_10 _ I0 y5 _ hy5 (fun r6 br6 hr6 s7 Is7 Gs7 => h_Kv ?_)
      have Fs7 := (Gs7.mono (B := kf_w_108_9) rfl).tr F0_
      refine h_istore (pc' := 63) (M := [(6, .int r6), (0, .ref 9), (1, .int x0), (2, .int x1), (3, .long y3), (5, .int y5)]) rfl rfl rfl rfl ?_
      refine h_lload_n (pc' := 64) rfl rfl rfl ?_
      refine h_aload_n (pc' := 65) rfl rfl rfl ?_
      refine h_iload (pc' := 67) rfl rfl rfl ?_
      refine h_iload_n (pc' := 68) rfl rfl rfl ?_
      refine h_call (sp := false) (pc' := 71) (M := [(0, .ref 9), (1, .int y5), (2, .int x0)]) rfl rfl rfl rfl rfl rfl rfl rfl ?_
      refine w_132_9 _ Is7 y5 _ hy5 x0 _ hx0 (fun r8 s9 Is9 Gs9 => h_Kv ?_)
      have Fs9 := (Gs9.mono (B := kf_w_108_9) rfl).tr Fs7
      refine h_iload (pc' := 73) rfl rfl rfl ?_
      refine h_calls (pc' := 76) (M := [(0, .int r6)]) rfl rfl rfl rfl rfl rfl ?_
      refine w_226 _ Is9 r6 _ hr6 (fun r10 br10 hr10 s11 Is11 Gs11 tr10 => h_Kv ?_)
      have Fs11 := (Gs11.mono (B := kf_w_108_9) rfl).tr Fs9
      refine h_i2l (pc' := 77) rfl rfl hr10 (fun z12 hz12 => ?_)
      refine h_lmulA (pc' := 78) rfl rfl (fun z13 hz13 => ?_)
      refine h_laddA (pc' := 79) rfl rfl (fun z14 hz14 => ?_)
      refine h_lstore_n (pc' := 80) (M := [(3, .long z14), (6, .int r6), (0, .ref 9), (1, .int x0), (2, .int x1), (5, .int y5)]) rfl rfl rfl rfl ?_
      refine h_iinc (pc' := 83) (M := fun z15 => [(5, .int z15), (3, .long z14), (6, .int r6), (0, .ref 9), (1, .int x0), (2, .int x1)]) rfl rfl rfl rfl hy5 ci_1 rfl (by omega) (by omega) (fun _ => rfl) (fun z15 hz15 => ?_)
      refine h_goto (pc' := 34) rfl rfl ?_
      exact h_wk [(0, .ref 9), (1, .int x0), (2, .int x1), (3, .long z14), (5, .int z15)] ⟨rfl, rfl, rfl, rfl, rfl, trivial⟩ (ih _ Is11 Fs11 z14 z15 _ hz15 (by omega) (by omega))
theorem w_108_9 {ns : Nat} (σ : h_S) (hI : h_I σ) (x0 : Int32) (a0 : Int) (hx0 : x0.toInt = a0) (x1 : Int32) (a1 : Int) (hx1 : x1.toInt = a1) {Q : Option Value → h_S → Prop} (kk : ∀ (r : Int64) (τ : h_S), h_I τ → h_F (k_in kf_w_108_9) τ σ → Q (some (.long r)) τ) : h_T g_P (g_Y ns) 108 0 [(0, .ref 9), (1, .int x0), (2, .int x1)] [] σ Q := by
  have F00 : h_F (k_in kf_w_108_9) σ σ := h_F.rf
  refine h_iload_n (pc' := 1) rfl rfl rfl ?_
  refine h_zlt (tg := 17) (pc' := 4) rfl rfl rfl hx0 (fun c1 => ?_) (fun c1 => ?_)
  · refine h_ldc2 (pc' := 20) (x := (Int64.ofInt (-1))) rfl rfl rfl ?_
    exact h_lret rfl rfl (kk _ _ hI F00)
  · refine h_iload_n (pc' := 5) rfl rfl rfl ?_
    refine h_bipush (pc' := 7) (x := (Int32.ofInt 10)) rfl rfl cb_10 ?_
    refine h_cgt (tg := 17) (pc' := 10) rfl rfl rfl hx0 ci_10 (fun c2 => ?_) (fun c2 => ?_)
    · refine h_ldc2 (pc' := 20) (x := (Int64.ofInt (-1))) rfl rfl rfl ?_
      exact h_lret rfl rfl (kk _ _ hI F00)
    · refine h_iload_n (pc' := 11) rfl rfl rfl ?_
      refine h_calls (pc' := 14) (M := [(0, .int x1)]) rfl rfl rfl rfl rfl rfl ?_
      refine h_iload_n (pc' := 1) rfl rfl rfl ?_
      refine h_zeq (tg := 9) (pc' := 4) rfl rfl rfl hx1 (fun c3 => ?_) (fun c3 => ?_)
      · refine h_iconst (pc' := 10) (x := (Int32.ofInt 1)) rfl rfl rfl ?_
        refine h_goto (pc' := 14) rfl rfl ?_
        refine h_zret rfl rfl ci_1 (by omega) (h_Kv ?_)
        refine h_zne (tg := 21) (pc' := 17) rfl rfl rfl ci_1 (fun c4 => ?_) (fun c4 => absurd c4 (by omega))
        refine h_aload_n (pc' := 22) rfl rfl rfl ?_
        refine h_aload_n (pc' := 23) rfl rfl rfl ?_
        refine h_getR (pc' := 26) rfl rfl rfl rfl rfl ?_
        refine h_call (sp := false) (pc' := 29) (M := [(0, .ref 9), (1, .ref 10)]) rfl rfl rfl rfl rfl rfl rfl rfl ?_
        refine w_127_9_10 _ hI  (fun s6 Is6 Gs6 => h_Kn ?_)
        have Fs6 := (Gs6.mono (B := kf_w_108_9) rfl).tr F00
        refine h_lconst (pc' := 30) (x := (Int64.ofInt 0)) rfl rfl rfl ?_
        refine h_lstore_n (pc' := 31) (M := [(3, .long (Int64.ofInt 0)), (0, .ref 9), (1, .int x0), (2, .int x1)]) rfl rfl rfl rfl ?_
        refine h_iconst (pc' := 32) (x := (Int32.ofInt 0)) rfl rfl rfl ?_
        refine h_istore (pc' := 34) (M := [(5, .int (Int32.ofInt 0)), (3, .long (Int64.ofInt 0)), (0, .ref 9), (1, .int x0), (2, .int x1)]) rfl rfl rfl rfl ?_
        exact h_wk [(0, .ref 9), (1, .int x0), (2, .int x1), (3, .long (Int64.ofInt 0)), (5, .int (Int32.ofInt 0))] ⟨rfl, rfl, rfl, rfl, rfl, trivial⟩ ((w_108_9_l ns σ hI x0 a0 hx0 x1 a1 hx1 kk 1000000000000) _ Is6 Fs6 (Int64.ofInt 0) (Int32.ofInt 0) _ ci_0 (by omega) (by omega))
      · refine h_iload_n (pc' := 5) rfl rfl rfl ?_
        refine h_iconst (pc' := 6) (x := (Int32.ofInt 1)) rfl rfl rfl ?_
        refine h_cne (tg := 13) (pc' := 9) rfl rfl rfl hx1 ci_1 (fun c7 => ?_) (fun c7 => ?_)
        · refine h_iconst (pc' := 14) (x := (Int32.ofInt 0)) rfl rfl rfl ?_
          refine h_zret rfl rfl ci_0 (by omega) (h_Kv ?_)
          refine h_zne (tg := 21) (pc' := 17) rfl rfl rfl ci_0 (fun c8 => absurd c8 (by omega)) (fun c8 => ?_)
          refine h_ldc2 (pc' := 20) (x := (Int64.ofInt (-1))) rfl rfl rfl ?_
          exact h_lret rfl rfl (kk _ _ hI F00)
        · refine h_iconst (pc' := 10) (x := (Int32.ofInt 1)) rfl rfl rfl ?_
          refine h_goto (pc' := 14) rfl rfl ?_
          refine h_zret rfl rfl ci_1 (by omega) (h_Kv ?_)
          refine h_zne (tg := 21) (pc' := 17) rfl rfl rfl ci_1 (fun c9 => ?_) (fun c9 => absurd c9 (by omega))
          refine h_aload_n (pc' := 22) rfl rfl rfl ?_
          refine h_aload_n (pc' := 23) rfl rfl rfl ?_
          refine h_getR (pc' := 26) rfl rfl rfl rfl rfl ?_
          refine h_call (sp := false) (pc' := 29) (M := [(0, .ref 9), (1, .ref 10)]) rfl rfl rfl rfl rfl rfl rfl rfl ?_
          refine w_127_9_10 _ hI  (fun s11 Is11 Gs11 => h_Kn ?_)
          have Fs11 := (Gs11.mono (B := kf_w_108_9) rfl).tr F00
          refine h_lconst (pc' := 30) (x := (Int64.ofInt 0)) rfl rfl rfl ?_
          refine h_lstore_n (pc' := 31) (M := [(3, .long (Int64.ofInt 0)), (0, .ref 9), (1, .int x0), (2, .int x1)]) rfl rfl rfl rfl ?_
          refine h_iconst (pc' := 32) (x := (Int32.ofInt 0)) rfl rfl rfl ?_
          refine h_istore (pc' := 34) (M := [(5, .int (Int32.ofInt 0)), (3, .long (Int64.ofInt 0)), (0, .ref 9), (1, .int x0), (2, .int x1)]) rfl rfl rfl rfl ?_
          exact h_wk [(0, .ref 9), (1, .int x0), (2, .int x1), (3, .long (Int64.ofInt 0)), (5, .int (Int32.ofInt 0))] ⟨rfl, rfl, rfl, rfl, rfl, trivial⟩ ((w_108_9_l ns σ hI x0 a0 hx0 x1 a1 hx1 kk 1000000000000) _ Is11 Fs11 (Int64.ofInt 0) (Int32.ofInt 0) _ ci_0 (by omega) (by omega))
def kf_w_109_9 : List Nat := [80898, 82943, 83967, 83970, 86015, 87039]
theorem w_109_9_l (ns : Nat) (σ : h_S) (hI : h_I σ) (x0 : Int32) (a0 : Int) (hx0 : x0.toInt = a0) (x1 : Int32) (a1 : Int) (hx1 : x1.toInt = a1) (x2 : Int32) (a2 : Int) (hx2 : x2.toInt = a2) {Q : Option Value → h_S → Prop} (kk : ∀ (r : Int64) (τ : h_S), h_I τ → h_F (k_in kf_w_109_9) τ σ → Q (some (.long r)) τ) : ∀ n : Nat, (∀ (s0 : h_S), h_I s0 → h_F (k_in kf_w_109_9) s0 σ → ∀ (y4 : Int64), ∀ (y6 : Int32) (b6 : Int), y6.toInt = b6 → (0 ≤ b6 ∧ b6 ≤ 64) → (64 + 1 - b6) * 1000000 + 1000000000 ≤ (n : Int) → h_T g_P (g_Y ns) 109 46 [(0, .ref 9), (1, .int x0), (2, .int x1), (3, .int x2), (4, .long y4), (6, .int y6)] [] s0 Q) := by
  intro n
  induction n with
  | zero => exact by intro s0 I0 F0_ y4 y6 b6 hy6 ry6 hm; exfalso; omega
  | succ n ih =>
    intro s0 I0 F0_ y4 y6 b6 hy6 ry6 hm
    refine h_iload (pc' := 48) rfl rfl rfl ?_
    refine h_iconst (pc' := 49) (x := (Int32.ofInt 1)) rfl rfl rfl ?_
    refine h_aload_n (pc' := 50) rfl rfl rfl ?_
    refine h_getR (pc' := 53) rfl rfl rfl rfl rfl ?_
    refine h_getI (pc' := 56) (v := σ 10 8) rfl rfl rfl rfl rfl (F0_ 10 8 rfl) (fun z1 hz1 => ?_)
    have tz1 := tf_10_8 hI
    refine h_shl1 (pc' := 57) rfl rfl ci_1 hz1 (by omega) (by omega) (fun z2 hz2 vz2 => ?_)
    refine h_cge (tg := 106) (pc' := 60) rfl rfl rfl hy6 rfl (fun c3 => ?_) (fun c3 => ?_)
    · refine h_aload_n (pc' := 107) rfl rfl rfl ?_
      refine h_lload (pc' := 109) rfl rfl rfl ?_
      refine h_iload_n (pc' := 110) rfl rfl rfl ?_
      refine h_call (sp := false) (pc' := 113) (M := [(0, .ref 9), (1, .long y4), (3, .int x2)]) rfl rfl rfl rfl rfl rfl rfl rfl ?_
      refine w_133_9 _ I0 y4 x2 _ hx2 (fun r4 s5 Is5 Gs5 => h_Kv ?_)
      have Fs5 := (Gs5.mono (B := kf_w_109_9) rfl).tr F0_
      exact h_lret rfl rfl (kk _ _ Is5 Fs5)
    · refine h_aload_n (pc' := 61) rfl rfl rfl ?_
      refine h_getR (pc' := 64) rfl rfl rfl rfl rfl ?_
      refine h_aload_n (pc' := 65) rfl rfl rfl ?_
      refine h_getR (pc' := 68) rfl rfl rfl rfl rfl ?_
      refine h_iload (pc' := 70) rfl rfl rfl ?_
      refine h_call (sp := false) (pc' := 73) (M := [(0, .ref 82), (1, .ref 10), (2, .int y6)]) rfl rfl rfl rfl rfl rfl rfl rfl ?_
      refine w_21_82_10 _ I0 y6 _ hy6 (fun r6 br6 hr6 s7 Is7 Gs7 => h_Kv ?_)
      have Fs7 := (Gs7.mono (B := kf_w_109_9) rfl).tr F0_
      refine h_pop (pc' := 74) rfl rfl rfl ?_
      refine h_aload_n (pc' := 75) rfl rfl rfl ?_
      refine h_getR (pc' := 78) rfl rfl rfl rfl rfl ?_
      refine h_getI (pc' := 81) (v := s7 82 2) rfl rfl rfl rfl rfl rfl (fun z8 hz8 => ?_)
      have tz8 := tf_82_2 Is7
      refine h_iload_n (pc' := 82) rfl rfl rfl ?_
      refine h_calls (pc' := 85) (M := [(0, .int z8), (1, .int x1)]) rfl rfl rfl rfl rfl rfl ?_
      refine h_iload_n (pc' := 1) rfl rfl rfl ?_
      refine h_iload_n (pc' := 2) rfl rfl rfl ?_
      refine h_ishr (pc' := 3) rfl rfl (fun z9 hz9 => ?_)
      refine h_iconst (pc' := 4) (x := (Int32.ofInt 1)) rfl rfl rfl ?_
      refine h_iand (pc' := 5) rfl rfl (fun z10 hz10 uz10 vz10 => ?_)
      clear uz10
      rw [ci_1] at vz10
      have yz10 := vz10 (by omega)
      refine h_zeq (tg := 12) (pc' := 8) rfl rfl rfl rfl (fun c11 => ?_) (fun c11 => ?_)
      · refine h_iconst (pc' := 13) (x := (Int32.ofInt 0)) rfl rfl rfl ?_
        refine h_zret rfl rfl ci_0 (by omega) (h_Kv ?_)
        refine h_zeq (tg := 100) (pc' := 88) rfl rfl rfl ci_0 (fun c12 => ?_) (fun c12 => absurd c12 (by omega))
        refine h_iinc (pc' := 103) (M := fun z13 => [(6, .int z13), (0, .ref 9), (1, .int x0), (2, .int x1), (3, .int x2), (4, .long y4)]) rfl rfl rfl rfl hy6 ci_1 rfl (by omega) (by omega) (fun _ => rfl) (fun z13 hz13 => ?_)
        refine h_goto (pc' := 46) rfl rfl ?_
        exact h_wk [(0, .ref 9), (1, .int x0), (2, .int x1), (3, .int x2), (4, .long y4), (6, .int z13)] ⟨rfl, rfl, rfl, rfl, rfl, rfl, trivial⟩ (ih _ Is7 Fs7 y4 z13 _ hz13 (by omega) (by omega))
      · refine h_iconst (pc' := 9) (x := (Int32.ofInt 1)) rfl rfl rfl ?_
        refine h_goto (pc' := 13) rfl rfl ?_
        refine h_zret rfl rfl ci_1 (by omega) (h_Kv ?_)
        refine h_zeq (tg := 100) (pc' := 88) rfl rfl rfl ci_1 (fun c14 => absurd c14 (by omega)) (fun c14 => ?_)
        refine h_lload (pc' := 90) rfl rfl rfl ?_
        refine h_aload_n (pc' := 91) rfl rfl rfl ?_
        refine h_iload (pc' := 93) rfl rfl rfl ?_
        refine h_iload_n (pc' := 94) rfl rfl rfl ?_
        refine h_call (sp := false) (pc' := 97) (M := [(0, .ref 9), (1, .int y6), (2, .int x0)]) rfl rfl rfl rfl rfl rfl rfl rfl ?_
        refine w_132_9 _ Is7 y6 _ hy6 x0 _ hx0 (fun r15 s16 Is16 Gs16 => h_Kv ?_)
        have Fs16 := (Gs16.mono (B := kf_w_109_9) rfl).tr Fs7
        refine h_laddA (pc' := 98) rfl rfl (fun z17 hz17 => ?_)
        refine h_lstore (pc' := 100) (M := [(4, .long z17), (0, .ref 9), (1, .int x0), (2, .int x1), (3, .int x2), (6, .int y6)]) rfl rfl rfl rfl ?_
        refine h_iinc (pc' := 103) (M := fun z18 => [(6, .int z18), (4, .long z17), (0, .ref 9), (1, .int x0), (2, .int x1), (3, .int x2)]) rfl rfl rfl rfl hy6 ci_1 rfl (by omega) (by omega) (fun _ => rfl) (fun z18 hz18 => ?_)
        refine h_goto (pc' := 46) rfl rfl ?_
        exact h_wk [(0, .ref 9), (1, .int x0), (2, .int x1), (3, .int x2), (4, .long z17), (6, .int z18)] ⟨rfl, rfl, rfl, rfl, rfl, rfl, trivial⟩ (ih _ Is16 Fs16 z17 z18 _ hz18 (by omega) (by omega))
theorem w_109_9 {ns : Nat} (σ : h_S) (hI : h_I σ) (x0 : Int32) (a0 : Int) (hx0 : x0.toInt = a0) (x1 : Int32) (a1 : Int) (hx1 : x1.toInt = a1) (x2 : Int32) (a2 : Int) (hx2 : x2.toInt = a2) {Q : Option Value → h_S → Prop} (kk : ∀ (r : Int64) (τ : h_S), h_I τ → h_F (k_in kf_w_109_9) τ σ → Q (some (.long r)) τ) : h_T g_P (g_Y ns) 109 0 [(0, .ref 9), (1, .int x0), (2, .int x1), (3, .int x2)] [] σ Q := by
  have F00 : h_F (k_in kf_w_109_9) σ σ := h_F.rf
  refine h_iload_n (pc' := 1) rfl rfl rfl ?_
  refine h_zlt (tg := 28) (pc' := 4) rfl rfl rfl hx0 (fun c1 => ?_) (fun c1 => ?_)
  · refine h_ldc2 (pc' := 31) (x := (Int64.ofInt (-1))) rfl rfl rfl ?_
    exact h_lret rfl rfl (kk _ _ hI F00)
  · refine h_iload_n (pc' := 5) rfl rfl rfl ?_
    refine h_bipush (pc' := 7) (x := (Int32.ofInt 10)) rfl rfl cb_10 ?_
    refine h_cgt (tg := 28) (pc' := 10) rfl rfl rfl hx0 ci_10 (fun c2 => ?_) (fun c2 => ?_)
    · refine h_ldc2 (pc' := 31) (x := (Int64.ofInt (-1))) rfl rfl rfl ?_
      exact h_lret rfl rfl (kk _ _ hI F00)
    · refine h_aload_n (pc' := 11) rfl rfl rfl ?_
      refine h_getR (pc' := 14) rfl rfl rfl rfl rfl ?_
      refine h_iload_n (pc' := 15) rfl rfl rfl ?_
      refine h_call (sp := false) (pc' := 18) (M := [(0, .ref 10), (1, .int x1)]) rfl rfl rfl rfl rfl rfl rfl rfl ?_
      refine h_iload_n (pc' := 1) rfl rfl rfl ?_
      refine h_zlt (tg := 16) (pc' := 4) rfl rfl rfl hx1 (fun c3 => ?_) (fun c3 => ?_)
      · refine h_iconst (pc' := 17) (x := (Int32.ofInt 0)) rfl rfl rfl ?_
        refine h_zret rfl rfl ci_0 (by omega) (h_Kv ?_)
        refine h_zeq (tg := 28) (pc' := 21) rfl rfl rfl ci_0 (fun c4 => ?_) (fun c4 => absurd c4 (by omega))
        refine h_ldc2 (pc' := 31) (x := (Int64.ofInt (-1))) rfl rfl rfl ?_
        exact h_lret rfl rfl (kk _ _ hI F00)
      · refine h_iload_n (pc' := 5) rfl rfl rfl ?_
        refine h_aload_n (pc' := 6) rfl rfl rfl ?_
        refine h_getI (pc' := 9) (v := σ 10 8) rfl rfl rfl rfl rfl rfl (fun z5 hz5 => ?_)
        have tz5 := tf_10_8 hI
        refine h_cge (tg := 16) (pc' := 12) rfl rfl rfl hx1 hz5 (fun c6 => ?_) (fun c6 => ?_)
        · refine h_iconst (pc' := 17) (x := (Int32.ofInt 0)) rfl rfl rfl ?_
          refine h_zret rfl rfl ci_0 (by omega) (h_Kv ?_)
          refine h_zeq (tg := 28) (pc' := 21) rfl rfl rfl ci_0 (fun c7 => ?_) (fun c7 => absurd c7 (by omega))
          refine h_ldc2 (pc' := 31) (x := (Int64.ofInt (-1))) rfl rfl rfl ?_
          exact h_lret rfl rfl (kk _ _ hI F00)
        · refine h_iconst (pc' := 13) (x := (Int32.ofInt 1)) rfl rfl rfl ?_
          refine h_goto (pc' := 17) rfl rfl ?_
          refine h_zret rfl rfl ci_1 (by omega) (h_Kv ?_)
          refine h_zeq (tg := 28) (pc' := 21) rfl rfl rfl ci_1 (fun c8 => absurd c8 (by omega)) (fun c8 => ?_)
          refine h_iload_n (pc' := 22) rfl rfl rfl ?_
          refine h_calls (pc' := 25) (M := [(0, .int x2)]) rfl rfl rfl rfl rfl rfl ?_
          refine h_iload_n (pc' := 1) rfl rfl rfl ?_
          refine h_zeq (tg := 9) (pc' := 4) rfl rfl rfl hx2 (fun c9 => ?_) (fun c9 => ?_)
          · refine h_iconst (pc' := 10) (x := (Int32.ofInt 1)) rfl rfl rfl ?_
            refine h_goto (pc' := 14) rfl rfl ?_
            refine h_zret rfl rfl ci_1 (by omega) (h_Kv ?_)
            refine h_zne (tg := 32) (pc' := 28) rfl rfl rfl ci_1 (fun c10 => ?_) (fun c10 => absurd c10 (by omega))
            refine h_aload_n (pc' := 33) rfl rfl rfl ?_
            refine h_aload_n (pc' := 34) rfl rfl rfl ?_
            refine h_getR (pc' := 37) rfl rfl rfl rfl rfl ?_
            refine h_call (sp := false) (pc' := 40) (M := [(0, .ref 9), (1, .ref 10)]) rfl rfl rfl rfl rfl rfl rfl rfl ?_
            refine w_127_9_10 _ hI  (fun s12 Is12 Gs12 => h_Kn ?_)
            have Fs12 := (Gs12.mono (B := kf_w_109_9) rfl).tr F00
            refine h_lconst (pc' := 41) (x := (Int64.ofInt 0)) rfl rfl rfl ?_
            refine h_lstore (pc' := 43) (M := [(4, .long (Int64.ofInt 0)), (0, .ref 9), (1, .int x0), (2, .int x1), (3, .int x2)]) rfl rfl rfl rfl ?_
            refine h_iconst (pc' := 44) (x := (Int32.ofInt 0)) rfl rfl rfl ?_
            refine h_istore (pc' := 46) (M := [(6, .int (Int32.ofInt 0)), (4, .long (Int64.ofInt 0)), (0, .ref 9), (1, .int x0), (2, .int x1), (3, .int x2)]) rfl rfl rfl rfl ?_
            exact h_wk [(0, .ref 9), (1, .int x0), (2, .int x1), (3, .int x2), (4, .long (Int64.ofInt 0)), (6, .int (Int32.ofInt 0))] ⟨rfl, rfl, rfl, rfl, rfl, rfl, trivial⟩ ((w_109_9_l ns σ hI x0 a0 hx0 x1 a1 hx1 x2 a2 hx2 kk 1000000000000) _ Is12 Fs12 (Int64.ofInt 0) (Int32.ofInt 0) _ ci_0 (by omega) (by omega))
          · refine h_iload_n (pc' := 5) rfl rfl rfl ?_
            refine h_iconst (pc' := 6) (x := (Int32.ofInt 1)) rfl rfl rfl ?_
            refine h_cne (tg := 13) (pc' := 9) rfl rfl rfl hx2 ci_1 (fun c13 => ?_) (fun c13 => ?_)
            · refine h_iconst (pc' := 14) (x := (Int32.ofInt 0)) rfl rfl rfl ?_
              refine h_zret rfl rfl ci_0 (by omega) (h_Kv ?_)
              refine h_zne (tg := 32) (pc' := 28) rfl rfl rfl ci_0 (fun c14 => absurd c14 (by omega)) (fun c14 => ?_)
              refine h_ldc2 (pc' := 31) (x := (Int64.ofInt (-1))) rfl rfl rfl ?_
              exact h_lret rfl rfl (kk _ _ hI F00)
            · refine h_iconst (pc' := 10) (x := (Int32.ofInt 1)) rfl rfl rfl ?_
              refine h_goto (pc' := 14) rfl rfl ?_
              refine h_zret rfl rfl ci_1 (by omega) (h_Kv ?_)
              refine h_zne (tg := 32) (pc' := 28) rfl rfl rfl ci_1 (fun c15 => ?_) (fun c15 => absurd c15 (by omega))
              refine h_aload_n (pc' := 33) rfl rfl rfl ?_
              refine h_aload_n (pc' := 34) rfl rfl rfl ?_
              refine h_getR (pc' := 37) rfl rfl rfl rfl rfl ?_
              refine h_call (sp := false) (pc' := 40) (M := [(0, .ref 9), (1, .ref 10)]) rfl rfl rfl rfl rfl rfl rfl rfl ?_
              refine w_127_9_10 _ hI  (fun s17 Is17 Gs17 => h_Kn ?_)
              have Fs17 := (Gs17.mono (B := kf_w_109_9) rfl).tr F00
              refine h_lconst (pc' := 41) (x := (Int64.ofInt 0)) rfl rfl rfl ?_
              refine h_lstore (pc' := 43) (M := [(4, .long (Int64.ofInt 0)), (0, .ref 9), (1, .int x0), (2, .int x1), (3, .int x2)]) rfl rfl rfl rfl ?_
              refine h_iconst (pc' := 44) (x := (Int32.ofInt 0)) rfl rfl rfl ?_
              refine h_istore (pc' := 46) (M := [(6, .int (Int32.ofInt 0)), (4, .long (Int64.ofInt 0)), (0, .ref 9), (1, .int x0), (2, .int x1), (3, .int x2)]) rfl rfl rfl rfl ?_
              exact h_wk [(0, .ref 9), (1, .int x0), (2, .int x1), (3, .int x2), (4, .long (Int64.ofInt 0)), (6, .int (Int32.ofInt 0))] ⟨rfl, rfl, rfl, rfl, rfl, rfl, trivial⟩ ((w_109_9_l ns σ hI x0 a0 hx0 x1 a1 hx1 x2 a2 hx2 kk 1000000000000) _ Is17 Fs17 (Int64.ofInt 0) (Int32.ofInt 0) _ ci_0 (by omega) (by omega))
def kf_w_112_9 : List Nat := [23560, 23561, 23562, 25599, 26623, 26626, 28671, 29695, 29698, 31743, 32767, 33791, 34815, 35839, 36863, 80898, 82943, 83967, 83970, 86015, 87039, 100351]
theorem w_112_9 {ns : Nat} (σ : h_S) (hI : h_I σ) (x0 : Int32) (a0 : Int) (hx0 : x0.toInt = a0) {Q : Option Value → h_S → Prop} (kk : ∀ (r : Int32) (b : Int) (hb : r.toInt = b) (τ : h_S), h_I τ → h_F (k_in kf_w_112_9) τ σ → Q (some (.int r)) τ) : h_T g_P (g_Y ns) 112 0 [(0, .ref 9), (1, .int x0)] [] σ Q := by
  have F00 : h_F (k_in kf_w_112_9) σ σ := h_F.rf
  refine h_aload_n (pc' := 1) rfl rfl rfl ?_
  refine h_getR (pc' := 4) rfl rfl rfl rfl rfl ?_
  refine h_iload_n (pc' := 5) rfl rfl rfl ?_
  refine h_call (sp := false) (pc' := 8) (M := [(0, .ref 10), (1, .int x0)]) rfl rfl rfl rfl rfl rfl rfl rfl ?_
  refine h_iload_n (pc' := 1) rfl rfl rfl ?_
  refine h_zlt (tg := 16) (pc' := 4) rfl rfl rfl hx0 (fun c1 => ?_) (fun c1 => ?_)
  · refine h_iconst (pc' := 17) (x := (Int32.ofInt 0)) rfl rfl rfl ?_
    refine h_zret rfl rfl ci_0 (by omega) (h_Kv ?_)
    refine h_zeq (tg := 19) (pc' := 11) rfl rfl rfl ci_0 (fun c2 => ?_) (fun c2 => absurd c2 (by omega))
    refine h_iconst (pc' := 20) (x := (Int32.ofInt (-1))) rfl rfl rfl ?_
    exact h_iret rfl rfl (kk _ _ ci_m1 _ hI F00)
  · refine h_iload_n (pc' := 5) rfl rfl rfl ?_
    refine h_aload_n (pc' := 6) rfl rfl rfl ?_
    refine h_getI (pc' := 9) (v := σ 10 8) rfl rfl rfl rfl rfl rfl (fun z3 hz3 => ?_)
    have tz3 := tf_10_8 hI
    refine h_cge (tg := 16) (pc' := 12) rfl rfl rfl hx0 hz3 (fun c4 => ?_) (fun c4 => ?_)
    · refine h_iconst (pc' := 17) (x := (Int32.ofInt 0)) rfl rfl rfl ?_
      refine h_zret rfl rfl ci_0 (by omega) (h_Kv ?_)
      refine h_zeq (tg := 19) (pc' := 11) rfl rfl rfl ci_0 (fun c5 => ?_) (fun c5 => absurd c5 (by omega))
      refine h_iconst (pc' := 20) (x := (Int32.ofInt (-1))) rfl rfl rfl ?_
      exact h_iret rfl rfl (kk _ _ ci_m1 _ hI F00)
    · refine h_iconst (pc' := 13) (x := (Int32.ofInt 1)) rfl rfl rfl ?_
      refine h_goto (pc' := 17) rfl rfl ?_
      refine h_zret rfl rfl ci_1 (by omega) (h_Kv ?_)
      refine h_zeq (tg := 19) (pc' := 11) rfl rfl rfl ci_1 (fun c6 => absurd c6 (by omega)) (fun c6 => ?_)
      refine h_aload_n (pc' := 12) rfl rfl rfl ?_
      refine h_iload_n (pc' := 13) rfl rfl rfl ?_
      refine h_call (sp := false) (pc' := 16) (M := [(0, .ref 9), (1, .int x0)]) rfl rfl rfl rfl rfl rfl rfl rfl ?_
      refine w_135_9 _ hI x0 _ hx0 (by omega) (fun r7 br7 hr7 s8 Is8 Gs8 => h_Kv ?_)
      have Fs8 := (Gs8.mono (B := kf_w_112_9) rfl).tr F00
      refine h_goto (pc' := 20) rfl rfl ?_
      exact h_iret rfl rfl (kk _ _ hr7 _ Is8 Fs8)
def kf_w_113_9 : List Nat := [23560, 23561, 23562, 25599, 26623, 26626, 28671, 29695, 29698, 31743, 32767, 33791, 34815, 35839, 36863, 80898, 82943, 83967, 83970, 86015, 87039]
theorem w_113_9_l (ns : Nat) (σ : h_S) (hI : h_I σ) (x0 : Int32) (a0 : Int) (hx0 : x0.toInt = a0) {Q : Option Value → h_S → Prop} (kk : ∀ (r : Int32) (b : Int) (hb : r.toInt = b) (τ : h_S), h_I τ → h_F (k_in kf_w_113_9) τ σ → Q (some (.int r)) τ) : ∀ n : Nat, (∀ (s0 : h_S), h_I s0 → h_F (k_in kf_w_113_9) s0 σ → ∀ (y2 : Int32) (b2 : Int), y2.toInt = b2 → ∀ (y3 : Int32) (b3 : Int), y3.toInt = b3 → (0 ≤ b3 ∧ b3 ≤ 10) → (0 ≤ a0 ∧ a0 ≤ 2) → (10 + 1 - b3) * 1000000 + 1000000000 ≤ (n : Int) → h_T g_P (g_Y ns) 113 39 [(0, .ref 9), (1, .int x0), (2, .int y2), (3, .int y3)] [] s0 Q) := by
  intro n
  induction n with
  | zero => exact by intro s0 I0 F0_ y2 b2 hy2 y3 b3 hy3 ry3 ex0 hm; exfalso; omega
  | succ n ih =>
    intro s0 I0 F0_ y2 b2 hy2 y3 b3 hy3 ry3 ex0 hm
    refine h_iload_n (pc' := 40) rfl rfl rfl ?_
    refine h_bipush (pc' := 42) (x := (Int32.ofInt 9)) rfl rfl cb_9 ?_
    refine h_cgt (tg := 104) (pc' := 45) rfl rfl rfl hy3 ci_9 (fun c1 => ?_) (fun c1 => ?_)
    · refine h_iload_n (pc' := 105) rfl rfl rfl ?_
      exact h_iret rfl rfl (kk _ _ hy2 _ I0 F0_)
    · refine h_aload_n (pc' := 46) rfl rfl rfl ?_
      refine h_getR (pc' := 49) rfl rfl rfl rfl rfl ?_
      refine h_getR (pc' := 52) rfl rfl rfl rfl rfl ?_
      refine h_iload_n (pc' := 53) rfl rfl rfl ?_
      refine h_iload_n (pc' := 54) rfl rfl rfl ?_
      refine h_iast (pc' := 55) rfl rfl rfl rfl hx0 (by omega) (by omega) hy3 (h_fg _ (in_32 I0 (by omega)) (F0_.up rfl) (fun s2 Is2 Fs2 => ?_))
      refine h_aload_n (pc' := 56) rfl rfl rfl ?_
      refine h_getR (pc' := 59) rfl rfl rfl rfl rfl ?_
      refine h_aload_n (pc' := 60) rfl rfl rfl ?_
      refine h_getR (pc' := 63) rfl rfl rfl rfl rfl ?_
      refine h_aload_n (pc' := 64) rfl rfl rfl ?_
      refine h_getR (pc' := 67) rfl rfl rfl rfl rfl ?_
      refine h_call (sp := false) (pc' := 70) (M := [(0, .ref 82), (1, .ref 23), (2, .ref 79)]) rfl rfl rfl rfl rfl rfl rfl rfl ?_
      refine w_18_82_23_79 _ Is2  (fun s4 Is4 Gs4 => h_Kn ?_)
      have Fs4 := (Gs4.mono (B := kf_w_113_9) rfl).tr Fs2
      refine h_aload_n (pc' := 71) rfl rfl rfl ?_
      refine h_getR (pc' := 74) rfl rfl rfl rfl rfl ?_
      refine h_aload_n (pc' := 75) rfl rfl rfl ?_
      refine h_getR (pc' := 78) rfl rfl rfl rfl rfl ?_
      refine h_aload_n (pc' := 79) rfl rfl rfl ?_
      refine h_getR (pc' := 82) rfl rfl rfl rfl rfl ?_
      refine h_iconst (pc' := 83) (x := (Int32.ofInt 0)) rfl rfl rfl ?_
      refine h_call (sp := false) (pc' := 86) (M := [(0, .ref 82), (1, .ref 23), (2, .int (Int32.ofInt 0))]) rfl rfl rfl rfl rfl rfl rfl rfl ?_
      refine w_21_82_23 _ Is4 (Int32.ofInt 0) _ ci_0 (fun r5 br5 hr5 s6 Is6 Gs6 => h_Kv ?_)
      have Fs6 := (Gs6.mono (B := kf_w_113_9) rfl).tr Fs4
      refine h_call (sp := false) (pc' := 89) (M := [(0, .ref 90), (1, .int r5)]) rfl rfl rfl rfl rfl rfl rfl rfl ?_
      refine w_80_90 _ Is6 r5 _ hr5 (fun r7 br7 hr7 s8 Is8 Gs8 tr7 => h_Kv ?_)
      have Fs8 := (Gs8.mono (B := kf_w_113_9) rfl).tr Fs6
      refine h_zeq (tg := 98) (pc' := 92) rfl rfl rfl hr7 (fun c9 => ?_) (fun c9 => ?_)
      · refine h_iinc (pc' := 101) (M := fun z10 => [(3, .int z10), (0, .ref 9), (1, .int x0), (2, .int y2)]) rfl rfl rfl rfl hy3 ci_1 rfl (by omega) (by omega) (fun _ => rfl) (fun z10 hz10 => ?_)
        refine h_goto (pc' := 39) rfl rfl ?_
        exact h_wk [(0, .ref 9), (1, .int x0), (2, .int y2), (3, .int z10)] ⟨rfl, rfl, rfl, rfl, trivial⟩ (ih _ Is8 Fs8 y2 _ hy2 z10 _ hz10 (by omega) (by omega) (by omega))
      · refine h_iload_n (pc' := 93) rfl rfl rfl ?_
        refine h_iconst (pc' := 94) (x := (Int32.ofInt 1)) rfl rfl rfl ?_
        refine h_iload_n (pc' := 95) rfl rfl rfl ?_
        refine h_ishl (pc' := 96) rfl rfl (fun z11 hz11 => ?_)
        refine h_ior (pc' := 97) rfl rfl (fun z12 hz12 => ?_)
        refine h_istore_n (pc' := 98) (M := [(2, .int z12), (0, .ref 9), (1, .int x0), (3, .int y3)]) rfl rfl rfl rfl ?_
        refine h_iinc (pc' := 101) (M := fun z13 => [(3, .int z13), (2, .int z12), (0, .ref 9), (1, .int x0)]) rfl rfl rfl rfl hy3 ci_1 rfl (by omega) (by omega) (fun _ => rfl) (fun z13 hz13 => ?_)
        refine h_goto (pc' := 39) rfl rfl ?_
        exact h_wk [(0, .ref 9), (1, .int x0), (2, .int z12), (3, .int z13)] ⟨rfl, rfl, rfl, rfl, trivial⟩ (ih _ Is8 Fs8 z12 _ rfl z13 _ hz13 (by omega) (by omega) (by omega))
theorem w_113_9 {ns : Nat} (σ : h_S) (hI : h_I σ) (x0 : Int32) (a0 : Int) (hx0 : x0.toInt = a0) {Q : Option Value → h_S → Prop} (kk : ∀ (r : Int32) (b : Int) (hb : r.toInt = b) (τ : h_S), h_I τ → h_F (k_in kf_w_113_9) τ σ → Q (some (.int r)) τ) : h_T g_P (g_Y ns) 113 0 [(0, .ref 9), (1, .int x0)] [] σ Q := by
  have F00 : h_F (k_in kf_w_113_9) σ σ := h_F.rf
  refine h_aload_n (pc' := 1) rfl rfl rfl ?_
  refine h_getR (pc' := 4) rfl rfl rfl rfl rfl ?_
  refine h_iload_n (pc' := 5) rfl rfl rfl ?_
  refine h_call (sp := false) (pc' := 8) (M := [(0, .ref 10), (1, .int x0)]) rfl rfl rfl rfl rfl rfl rfl rfl ?_
  refine h_iload_n (pc' := 1) rfl rfl rfl ?_
  refine h_zlt (tg := 16) (pc' := 4) rfl rfl rfl hx0 (fun c1 => ?_) (fun c1 => ?_)
  · refine h_iconst (pc' := 17) (x := (Int32.ofInt 0)) rfl rfl rfl ?_
    refine h_zret rfl rfl ci_0 (by omega) (h_Kv ?_)
    refine h_zne (tg := 13) (pc' := 11) rfl rfl rfl ci_0 (fun c2 => absurd c2 (by omega)) (fun c2 => ?_)
    refine h_iconst (pc' := 12) (x := (Int32.ofInt (-1))) rfl rfl rfl ?_
    exact h_iret rfl rfl (kk _ _ ci_m1 _ hI F00)
  · refine h_iload_n (pc' := 5) rfl rfl rfl ?_
    refine h_aload_n (pc' := 6) rfl rfl rfl ?_
    refine h_getI (pc' := 9) (v := σ 10 9) rfl rfl rfl rfl rfl rfl (fun z3 hz3 => ?_)
    have tz3 := tf_10_9 hI
    refine h_cge (tg := 16) (pc' := 12) rfl rfl rfl hx0 hz3 (fun c4 => ?_) (fun c4 => ?_)
    · refine h_iconst (pc' := 17) (x := (Int32.ofInt 0)) rfl rfl rfl ?_
      refine h_zret rfl rfl ci_0 (by omega) (h_Kv ?_)
      refine h_zne (tg := 13) (pc' := 11) rfl rfl rfl ci_0 (fun c5 => absurd c5 (by omega)) (fun c5 => ?_)
      refine h_iconst (pc' := 12) (x := (Int32.ofInt (-1))) rfl rfl rfl ?_
      exact h_iret rfl rfl (kk _ _ ci_m1 _ hI F00)
    · refine h_iconst (pc' := 13) (x := (Int32.ofInt 1)) rfl rfl rfl ?_
      refine h_goto (pc' := 17) rfl rfl ?_
      refine h_zret rfl rfl ci_1 (by omega) (h_Kv ?_)
      refine h_zne (tg := 13) (pc' := 11) rfl rfl rfl ci_1 (fun c6 => ?_) (fun c6 => absurd c6 (by omega))
      refine h_aload_n (pc' := 14) rfl rfl rfl ?_
      refine h_getR (pc' := 17) rfl rfl rfl rfl rfl ?_
      refine h_aload_n (pc' := 18) rfl rfl rfl ?_
      refine h_getR (pc' := 21) rfl rfl rfl rfl rfl ?_
      refine h_call (sp := false) (pc' := 24) (M := [(0, .ref 23), (1, .ref 10)]) rfl rfl rfl rfl rfl rfl rfl rfl ?_
      refine w_3_23_10 _ hI  (fun s8 Is8 Gs8 => h_Kn ?_)
      have Fs8 := (Gs8.mono (B := kf_w_113_9) rfl).tr F00
      refine h_aload_n (pc' := 25) rfl rfl rfl ?_
      refine h_getR (pc' := 28) rfl rfl rfl rfl rfl ?_
      refine h_aload_n (pc' := 29) rfl rfl rfl ?_
      refine h_getR (pc' := 32) rfl rfl rfl rfl rfl ?_
      refine h_call (sp := false) (pc' := 35) (M := [(0, .ref 79), (1, .ref 23)]) rfl rfl rfl rfl rfl rfl rfl rfl ?_
      refine w_23_79_23 _ Is8  (fun s10 Is10 Gs10 => h_Kn ?_)
      have Fs10 := (Gs10.mono (B := kf_w_113_9) rfl).tr Fs8
      refine h_iconst (pc' := 36) (x := (Int32.ofInt 0)) rfl rfl rfl ?_
      refine h_istore_n (pc' := 37) (M := [(2, .int (Int32.ofInt 0)), (0, .ref 9), (1, .int x0)]) rfl rfl rfl rfl ?_
      refine h_iconst (pc' := 38) (x := (Int32.ofInt 0)) rfl rfl rfl ?_
      refine h_istore_n (pc' := 39) (M := [(3, .int (Int32.ofInt 0)), (2, .int (Int32.ofInt 0)), (0, .ref 9), (1, .int x0)]) rfl rfl rfl rfl ?_
      exact h_wk [(0, .ref 9), (1, .int x0), (2, .int (Int32.ofInt 0)), (3, .int (Int32.ofInt 0))] ⟨rfl, rfl, rfl, rfl, trivial⟩ ((w_113_9_l ns σ hI x0 a0 hx0 kk 1000000000000) _ Is10 Fs10 (Int32.ofInt 0) _ ci_0 (Int32.ofInt 0) _ ci_0 (by omega) (by omega) (by omega))
def kf_w_114_9 : List Nat := [23560, 23561, 23562, 25599, 26623, 26626, 28671, 29695, 29698, 31743, 32767, 33791, 34815, 35839, 36863, 80898, 82943, 83967, 83970, 86015, 87039, 100351]
theorem w_114_9_l (ns : Nat) (σ : h_S) (hI : h_I σ) (x0 : Int32) (a0 : Int) (hx0 : x0.toInt = a0) (x1 : Int32) (a1 : Int) (hx1 : x1.toInt = a1) {Q : Option Value → h_S → Prop} (kk : ∀ (r : Int32) (b : Int) (hb : r.toInt = b) (τ : h_S), h_I τ → h_F (k_in kf_w_114_9) τ σ → (b ≤ 63) → Q (some (.int r)) τ) : ∀ n : Nat, (∀ (s0 : h_S), h_I s0 → h_F (k_in kf_w_114_9) s0 σ → ∀ (y3 : Int32) (b3 : Int), y3.toInt = b3 → ∀ (y4 : Int32) (b4 : Int), y4.toInt = b4 → (b4 ≤ 63) → ∀ (y5 : Int32) (b5 : Int), y5.toInt = b5 → ((-4) ≤ b5 ∧ b5 ≤ 7) → ∀ (y6 : Int32) (b6 : Int), y6.toInt = b6 → (0 ≤ b6 ∧ b6 ≤ 8) → (8 + 1 - b6) * 1000000 + 1000000000 ≤ (n : Int) → h_T g_P (g_Y ns) 114 39 [(0, .ref 9), (1, .int x0), (2, .int x1), (3, .int y3), (4, .int y4), (5, .int y5), (6, .int y6)] [] s0 Q) := by
  intro n
  induction n with
  | zero => exact by intro s0 I0 F0_ y3 b3 hy3 y4 b4 hy4 ry4 y5 b5 hy5 ry5 y6 b6 hy6 ry6 hm; have gy4 := h_rgv hy4; exfalso; omega
  | succ n ih =>
    intro s0 I0 F0_ y3 b3 hy3 y4 b4 hy4 ry4 y5 b5 hy5 ry5 y6 b6 hy6 ry6 hm; have gy4 := h_rgv hy4
    refine h_iload (pc' := 41) rfl rfl rfl ?_
    refine h_aload_n (pc' := 42) rfl rfl rfl ?_
    refine h_getR (pc' := 45) rfl rfl rfl rfl rfl ?_
    refine h_getI (pc' := 48) (v := σ 10 10) rfl rfl rfl rfl rfl (F0_ 10 10 rfl) (fun z1 hz1 => ?_)
    have tz1 := tf_10_10 hI
    refine h_cge (tg := 81) (pc' := 51) rfl rfl rfl hy6 hz1 (fun c2 => ?_) (fun c2 => ?_)
    · refine h_iload_n (pc' := 82) rfl rfl rfl ?_
      refine h_zeq (tg := 92) (pc' := 85) rfl rfl rfl hx1 (fun c3 => ?_) (fun c3 => ?_)
      · refine h_iload (pc' := 94) rfl rfl rfl ?_
        refine h_goto (pc' := 99) rfl rfl ?_
        exact h_iret rfl rfl (kk _ _ hy5 _ I0 F0_ (by omega))
      · refine h_iload (pc' := 87) rfl rfl rfl ?_
        refine h_bipush (pc' := 89) (x := (Int32.ofInt (-4))) rfl rfl cb_m4 ?_
        refine h_cne (tg := 97) (pc' := 92) rfl rfl rfl hy5 ci_m4 (fun c4 => ?_) (fun c4 => ?_)
        · refine h_iload (pc' := 99) rfl rfl rfl ?_
          exact h_iret rfl rfl (kk _ _ hy4 _ I0 F0_ (by omega))
        · refine h_iload (pc' := 94) rfl rfl rfl ?_
          refine h_goto (pc' := 99) rfl rfl ?_
          exact h_iret rfl rfl (kk _ _ hy5 _ I0 F0_ (by omega))
    · refine h_aload_n (pc' := 52) rfl rfl rfl ?_
      refine h_iload_n (pc' := 53) rfl rfl rfl ?_
      refine h_iload (pc' := 55) rfl rfl rfl ?_
      refine h_call (sp := false) (pc' := 58) (M := [(0, .ref 9), (1, .int y3), (2, .int y6)]) rfl rfl rfl rfl rfl rfl rfl rfl ?_
      refine w_136_9 _ I0 y3 _ hy3 y6 _ hy6 (fun r5 br5 hr5 s6 Is6 Gs6 => h_Kv ?_)
      have Fs6 := (Gs6.mono (B := kf_w_114_9) rfl).tr F0_
      refine h_istore (pc' := 60) (M := [(7, .int r5), (0, .ref 9), (1, .int x0), (2, .int x1), (3, .int y3), (4, .int y4), (5, .int y5), (6, .int y6)]) rfl rfl rfl rfl ?_
      refine h_iload (pc' := 62) rfl rfl rfl ?_
      refine h_iload (pc' := 64) rfl rfl rfl ?_
      refine h_cge (tg := 75) (pc' := 67) rfl rfl rfl hr5 hy4 (fun c7 => ?_) (fun c7 => ?_)
      · refine h_iinc (pc' := 78) (M := fun z8 => [(6, .int z8), (7, .int r5), (0, .ref 9), (1, .int x0), (2, .int x1), (3, .int y3), (4, .int y4), (5, .int y5)]) rfl rfl rfl rfl hy6 ci_1 rfl (by omega) (by omega) (fun _ => rfl) (fun z8 hz8 => ?_)
        refine h_goto (pc' := 39) rfl rfl ?_
        exact h_wk [(0, .ref 9), (1, .int x0), (2, .int x1), (3, .int y3), (4, .int y4), (5, .int y5), (6, .int z8)] ⟨rfl, rfl, rfl, rfl, rfl, rfl, rfl, trivial⟩ (ih _ Is6 Fs6 y3 _ hy3 y4 _ hy4 (by omega) y5 _ hy5 (by omega) z8 _ hz8 (by omega) (by omega))
      · refine h_iload (pc' := 69) rfl rfl rfl ?_
        refine h_istore (pc' := 71) (M := [(4, .int r5), (7, .int r5), (0, .ref 9), (1, .int x0), (2, .int x1), (3, .int y3), (5, .int y5), (6, .int y6)]) rfl rfl rfl rfl ?_
        refine h_iload (pc' := 73) rfl rfl rfl ?_
        refine h_istore (pc' := 75) (M := [(5, .int y6), (4, .int r5), (7, .int r5), (0, .ref 9), (1, .int x0), (2, .int x1), (3, .int y3), (6, .int y6)]) rfl rfl rfl rfl ?_
        refine h_iinc (pc' := 78) (M := fun z9 => [(6, .int z9), (5, .int y6), (4, .int r5), (7, .int r5), (0, .ref 9), (1, .int x0), (2, .int x1), (3, .int y3)]) rfl rfl rfl rfl hy6 ci_1 rfl (by omega) (by omega) (fun _ => rfl) (fun z9 hz9 => ?_)
        refine h_goto (pc' := 39) rfl rfl ?_
        exact h_wk [(0, .ref 9), (1, .int x0), (2, .int x1), (3, .int y3), (4, .int r5), (5, .int y6), (6, .int z9)] ⟨rfl, rfl, rfl, rfl, rfl, rfl, rfl, trivial⟩ (ih _ Is6 Fs6 y3 _ hy3 r5 _ hr5 (by omega) y6 _ hy6 (by omega) z9 _ hz9 (by omega) (by omega))
theorem w_114_9 {ns : Nat} (σ : h_S) (hI : h_I σ) (x0 : Int32) (a0 : Int) (hx0 : x0.toInt = a0) (x1 : Int32) (a1 : Int) (hx1 : x1.toInt = a1) {Q : Option Value → h_S → Prop} (kk : ∀ (r : Int32) (b : Int) (hb : r.toInt = b) (τ : h_S), h_I τ → h_F (k_in kf_w_114_9) τ σ → (b ≤ 63) → Q (some (.int r)) τ) : h_T g_P (g_Y ns) 114 0 [(0, .ref 9), (1, .int x0), (2, .int x1)] [] σ Q := by
  have F00 : h_F (k_in kf_w_114_9) σ σ := h_F.rf
  refine h_aload_n (pc' := 1) rfl rfl rfl ?_
  refine h_getR (pc' := 4) rfl rfl rfl rfl rfl ?_
  refine h_iload_n (pc' := 5) rfl rfl rfl ?_
  refine h_call (sp := false) (pc' := 8) (M := [(0, .ref 10), (1, .int x0)]) rfl rfl rfl rfl rfl rfl rfl rfl ?_
  refine h_iload_n (pc' := 1) rfl rfl rfl ?_
  refine h_zlt (tg := 16) (pc' := 4) rfl rfl rfl hx0 (fun c1 => ?_) (fun c1 => ?_)
  · refine h_iconst (pc' := 17) (x := (Int32.ofInt 0)) rfl rfl rfl ?_
    refine h_zret rfl rfl ci_0 (by omega) (h_Kv ?_)
    refine h_zeq (tg := 18) (pc' := 11) rfl rfl rfl ci_0 (fun c2 => ?_) (fun c2 => absurd c2 (by omega))
    refine h_iconst (pc' := 19) (x := (Int32.ofInt (-1))) rfl rfl rfl ?_
    exact h_iret rfl rfl (kk _ _ ci_m1 _ hI F00 (by omega))
  · refine h_iload_n (pc' := 5) rfl rfl rfl ?_
    refine h_aload_n (pc' := 6) rfl rfl rfl ?_
    refine h_getI (pc' := 9) (v := σ 10 8) rfl rfl rfl rfl rfl rfl (fun z3 hz3 => ?_)
    have tz3 := tf_10_8 hI
    refine h_cge (tg := 16) (pc' := 12) rfl rfl rfl hx0 hz3 (fun c4 => ?_) (fun c4 => ?_)
    · refine h_iconst (pc' := 17) (x := (Int32.ofInt 0)) rfl rfl rfl ?_
      refine h_zret rfl rfl ci_0 (by omega) (h_Kv ?_)
      refine h_zeq (tg := 18) (pc' := 11) rfl rfl rfl ci_0 (fun c5 => ?_) (fun c5 => absurd c5 (by omega))
      refine h_iconst (pc' := 19) (x := (Int32.ofInt (-1))) rfl rfl rfl ?_
      exact h_iret rfl rfl (kk _ _ ci_m1 _ hI F00 (by omega))
    · refine h_iconst (pc' := 13) (x := (Int32.ofInt 1)) rfl rfl rfl ?_
      refine h_goto (pc' := 17) rfl rfl ?_
      refine h_zret rfl rfl ci_1 (by omega) (h_Kv ?_)
      refine h_zeq (tg := 18) (pc' := 11) rfl rfl rfl ci_1 (fun c6 => absurd c6 (by omega)) (fun c6 => ?_)
      refine h_iload_n (pc' := 12) rfl rfl rfl ?_
      refine h_calls (pc' := 15) (M := [(0, .int x1)]) rfl rfl rfl rfl rfl rfl ?_
      refine h_iload_n (pc' := 1) rfl rfl rfl ?_
      refine h_zeq (tg := 9) (pc' := 4) rfl rfl rfl hx1 (fun c7 => ?_) (fun c7 => ?_)
      · refine h_iconst (pc' := 10) (x := (Int32.ofInt 1)) rfl rfl rfl ?_
        refine h_goto (pc' := 14) rfl rfl ?_
        refine h_zret rfl rfl ci_1 (by omega) (h_Kv ?_)
        refine h_zne (tg := 20) (pc' := 18) rfl rfl rfl ci_1 (fun c8 => ?_) (fun c8 => absurd c8 (by omega))
        refine h_aload_n (pc' := 21) rfl rfl rfl ?_
        refine h_iload_n (pc' := 22) rfl rfl rfl ?_
        refine h_call (sp := false) (pc' := 25) (M := [(0, .ref 9), (1, .int x0)]) rfl rfl rfl rfl rfl rfl rfl rfl ?_
        refine w_135_9 _ hI x0 _ hx0 (by omega) (fun r9 br9 hr9 s10 Is10 Gs10 => h_Kv ?_)
        have Fs10 := (Gs10.mono (B := kf_w_114_9) rfl).tr F00
        refine h_istore_n (pc' := 26) (M := [(3, .int r9), (0, .ref 9), (1, .int x0), (2, .int x1)]) rfl rfl rfl rfl ?_
        refine h_iload_n (pc' := 27) rfl rfl rfl ?_
        refine h_calls (pc' := 30) (M := [(0, .int r9)]) rfl rfl rfl rfl rfl rfl ?_
        refine w_226 _ Is10 r9 _ hr9 (fun r11 br11 hr11 s12 Is12 Gs12 tr11 => h_Kv ?_)
        have Fs12 := (Gs12.mono (B := kf_w_114_9) rfl).tr Fs10
        refine h_istore (pc' := 32) (M := [(4, .int r11), (3, .int r9), (0, .ref 9), (1, .int x0), (2, .int x1)]) rfl rfl rfl rfl ?_
        refine h_bipush (pc' := 34) (x := (Int32.ofInt (-4))) rfl rfl cb_m4 ?_
        refine h_istore (pc' := 36) (M := [(5, .int (Int32.ofInt (-4))), (4, .int r11), (3, .int r9), (0, .ref 9), (1, .int x0), (2, .int x1)]) rfl rfl rfl rfl ?_
        refine h_iconst (pc' := 37) (x := (Int32.ofInt 0)) rfl rfl rfl ?_
        refine h_istore (pc' := 39) (M := [(6, .int (Int32.ofInt 0)), (5, .int (Int32.ofInt (-4))), (4, .int r11), (3, .int r9), (0, .ref 9), (1, .int x0), (2, .int x1)]) rfl rfl rfl rfl ?_
        exact h_wk [(0, .ref 9), (1, .int x0), (2, .int x1), (3, .int r9), (4, .int r11), (5, .int (Int32.ofInt (-4))), (6, .int (Int32.ofInt 0))] ⟨rfl, rfl, rfl, rfl, rfl, rfl, rfl, trivial⟩ ((w_114_9_l ns σ hI x0 a0 hx0 x1 a1 hx1 kk 1000000000000) _ Is12 Fs12 r9 _ hr9 r11 _ hr11 (by omega) (Int32.ofInt (-4)) _ ci_m4 (by omega) (Int32.ofInt 0) _ ci_0 (by omega) (by omega))
      · refine h_iload_n (pc' := 5) rfl rfl rfl ?_
        refine h_iconst (pc' := 6) (x := (Int32.ofInt 1)) rfl rfl rfl ?_
        refine h_cne (tg := 13) (pc' := 9) rfl rfl rfl hx1 ci_1 (fun c13 => ?_) (fun c13 => ?_)
        · refine h_iconst (pc' := 14) (x := (Int32.ofInt 0)) rfl rfl rfl ?_
          refine h_zret rfl rfl ci_0 (by omega) (h_Kv ?_)
          refine h_zne (tg := 20) (pc' := 18) rfl rfl rfl ci_0 (fun c14 => absurd c14 (by omega)) (fun c14 => ?_)
          refine h_iconst (pc' := 19) (x := (Int32.ofInt (-1))) rfl rfl rfl ?_
          exact h_iret rfl rfl (kk _ _ ci_m1 _ hI F00 (by omega))
        · refine h_iconst (pc' := 10) (x := (Int32.ofInt 1)) rfl rfl rfl ?_
          refine h_goto (pc' := 14) rfl rfl ?_
          refine h_zret rfl rfl ci_1 (by omega) (h_Kv ?_)
          refine h_zne (tg := 20) (pc' := 18) rfl rfl rfl ci_1 (fun c15 => ?_) (fun c15 => absurd c15 (by omega))
          refine h_aload_n (pc' := 21) rfl rfl rfl ?_
          refine h_iload_n (pc' := 22) rfl rfl rfl ?_
          refine h_call (sp := false) (pc' := 25) (M := [(0, .ref 9), (1, .int x0)]) rfl rfl rfl rfl rfl rfl rfl rfl ?_
          refine w_135_9 _ hI x0 _ hx0 (by omega) (fun r16 br16 hr16 s17 Is17 Gs17 => h_Kv ?_)
          have Fs17 := (Gs17.mono (B := kf_w_114_9) rfl).tr F00
          refine h_istore_n (pc' := 26) (M := [(3, .int r16), (0, .ref 9), (1, .int x0), (2, .int x1)]) rfl rfl rfl rfl ?_
          refine h_iload_n (pc' := 27) rfl rfl rfl ?_
          refine h_calls (pc' := 30) (M := [(0, .int r16)]) rfl rfl rfl rfl rfl rfl ?_
          refine w_226 _ Is17 r16 _ hr16 (fun r18 br18 hr18 s19 Is19 Gs19 tr18 => h_Kv ?_)
          have Fs19 := (Gs19.mono (B := kf_w_114_9) rfl).tr Fs17
          refine h_istore (pc' := 32) (M := [(4, .int r18), (3, .int r16), (0, .ref 9), (1, .int x0), (2, .int x1)]) rfl rfl rfl rfl ?_
          refine h_bipush (pc' := 34) (x := (Int32.ofInt (-4))) rfl rfl cb_m4 ?_
          refine h_istore (pc' := 36) (M := [(5, .int (Int32.ofInt (-4))), (4, .int r18), (3, .int r16), (0, .ref 9), (1, .int x0), (2, .int x1)]) rfl rfl rfl rfl ?_
          refine h_iconst (pc' := 37) (x := (Int32.ofInt 0)) rfl rfl rfl ?_
          refine h_istore (pc' := 39) (M := [(6, .int (Int32.ofInt 0)), (5, .int (Int32.ofInt (-4))), (4, .int r18), (3, .int r16), (0, .ref 9), (1, .int x0), (2, .int x1)]) rfl rfl rfl rfl ?_
          exact h_wk [(0, .ref 9), (1, .int x0), (2, .int x1), (3, .int r16), (4, .int r18), (5, .int (Int32.ofInt (-4))), (6, .int (Int32.ofInt 0))] ⟨rfl, rfl, rfl, rfl, rfl, rfl, rfl, trivial⟩ ((w_114_9_l ns σ hI x0 a0 hx0 x1 a1 hx1 kk 1000000000000) _ Is19 Fs19 r16 _ hr16 r18 _ hr18 (by omega) (Int32.ofInt (-4)) _ ci_m4 (by omega) (Int32.ofInt 0) _ ci_0 (by omega) (by omega))
def kf_w_121_9 : List Nat := []
theorem w_121_9 {ns : Nat} (σ : h_S) (hI : h_I σ) {Q : Option Value → h_S → Prop} (kk : ∀ (r : Int32) (b : Int) (hb : r.toInt = b) (τ : h_S), h_I τ → h_F (k_in kf_w_121_9) τ σ → Q (some (.int r)) τ) : h_T g_P (g_Y ns) 121 0 [(0, .ref 9)] [] σ Q := by
  have F00 : h_F (k_in kf_w_121_9) σ σ := h_F.rf
  refine h_aload_n (pc' := 1) rfl rfl rfl ?_
  refine h_getI (pc' := 4) (v := σ 9 12) rfl rfl rfl rfl rfl rfl (fun z1 hz1 => ?_)
  have tz1 := tf_9_12 hI
  exact h_iret rfl rfl (kk _ _ hz1 _ hI F00)
def kf_w_115_9 : List Nat := [80898, 82943, 83967, 83970, 86015, 87039]
theorem w_115_9_l (ns : Nat) (σ : h_S) (hI : h_I σ) (x0 : Int32) (a0 : Int) (hx0 : x0.toInt = a0) (x1 : Int32) (a1 : Int) (hx1 : x1.toInt = a1) (x2 : Int32) (a2 : Int) (hx2 : x2.toInt = a2) {Q : Option Value → h_S → Prop} (kk : ∀ (r : Int32) (b : Int) (hb : r.toInt = b) (τ : h_S), h_I τ → h_F (k_in kf_w_115_9) τ σ → Q (some (.int r)) τ) : ∀ n : Nat, (∀ (s0 : h_S), h_I s0 → h_F (k_in kf_w_115_9) s0 σ → ∀ (y4 : Int32) (b4 : Int), y4.toInt = b4 → ∀ (y5 : Int32) (b5 : Int), y5.toInt = b5 → ∀ (y6 : Int32) (b6 : Int), y6.toInt = b6 → (0 ≤ b6 ∧ b6 ≤ 60) → (1 ≤ σ 10 8) → (1 ≤ σ 10 9) → (1 ≤ a1 ∧ a1 ≤ 60) → (60 + 1 - b6) * 1000000 + 1000000000 ≤ (n : Int) → h_T g_P (g_Y ns) 115 71 [(0, .ref 9), (1, .int x0), (2, .int x1), (3, .int x2), (4, .int y4), (5, .int y5), (6, .int y6)] [] s0 Q) := by
  intro n
  induction n with
  | zero => exact by intro s0 I0 F0_ y4 b4 hy4 y5 b5 hy5 y6 b6 hy6 ry6 ex0 ex1 ex2 hm; exfalso; omega
  | succ n ih =>
    intro s0 I0 F0_ y4 b4 hy4 y5 b5 hy5 y6 b6 hy6 ry6 ex0 ex1 ex2 hm
    refine h_iload (pc' := 73) rfl rfl rfl ?_
    refine h_iload_n (pc' := 74) rfl rfl rfl ?_
    refine h_cge (tg := 144) (pc' := 77) rfl rfl rfl hy6 hx1 (fun c1 => ?_) (fun c1 => ?_)
    · refine h_iload_n (pc' := 145) rfl rfl rfl ?_
      refine h_zne (tg := 153) (pc' := 148) rfl rfl rfl hx2 (fun c2 => ?_) (fun c2 => ?_)
      · refine h_aload_n (pc' := 154) rfl rfl rfl ?_
        refine h_getR (pc' := 157) rfl rfl rfl rfl rfl ?_
        refine h_getR (pc' := 160) rfl rfl rfl rfl rfl ?_
        refine h_iconst (pc' := 161) (x := (Int32.ofInt 0)) rfl rfl rfl ?_
        refine h_iald (pc' := 162) (v := s0 84 0) rfl rfl rfl ci_0 (by omega) (by omega) rfl (fun z3 hz3 => ?_)
        have tz3 := ty_84 I0 0
        exact h_iret rfl rfl (kk _ _ hz3 _ I0 F0_)
      · refine h_iload (pc' := 150) rfl rfl rfl ?_
        refine h_goto (pc' := 162) rfl rfl ?_
        exact h_iret rfl rfl (kk _ _ hy5 _ I0 F0_)
    · refine h_iload (pc' := 79) rfl rfl rfl ?_
      refine h_calls (pc' := 82) (M := [(0, .int y4)]) rfl rfl rfl rfl rfl rfl ?_
      refine h_iload_n (pc' := 1) rfl rfl rfl ?_
      refine h_ldcw (pc' := 4) (x := (Int32.ofInt 1103515245)) rfl rfl rfl ?_
      refine h_imulA (pc' := 5) rfl rfl (fun z4 hz4 => ?_)
      refine h_sipush (pc' := 8) (x := (Int32.ofInt 12345)) rfl rfl cs_12345 ?_
      refine h_iaddA (pc' := 9) rfl rfl (fun z5 hz5 => ?_)
      refine h_iret rfl rfl (h_Kv ?_)
      refine h_istore (pc' := 84) (M := [(4, .int z5), (0, .ref 9), (1, .int x0), (2, .int x1), (3, .int x2), (5, .int y5), (6, .int y6)]) rfl rfl rfl rfl ?_
      refine h_iload (pc' := 86) rfl rfl rfl ?_
      refine h_calls (pc' := 89) (M := [(0, .int z5)]) rfl rfl rfl rfl rfl rfl ?_
      refine h_iload_n (pc' := 1) rfl rfl rfl ?_
      refine h_bipush (pc' := 3) (x := (Int32.ofInt 16)) rfl rfl cb_16 ?_
      refine h_ishr (pc' := 4) rfl rfl (fun z6 hz6 => ?_)
      refine h_sipush (pc' := 7) (x := (Int32.ofInt 32767)) rfl rfl cs_32767 ?_
      refine h_iand (pc' := 8) rfl rfl (fun z7 hz7 uz7 vz7 => ?_)
      clear uz7
      rw [ci_32767] at vz7
      have yz7 := vz7 (by omega)
      refine h_iret rfl rfl (h_Kv ?_)
      refine h_aload_n (pc' := 90) rfl rfl rfl ?_
      refine h_getR (pc' := 93) rfl rfl rfl rfl rfl ?_
      refine h_getI (pc' := 96) (v := σ 10 8) rfl rfl rfl rfl rfl (F0_ 10 8 rfl) (fun z8 hz8 => ?_)
      have tz8 := tf_10_8 hI
      refine h_irem (pc' := 97) rfl rfl rfl hz8 (by omega) (by omega) (fun z9 hz9 => ?_)
      have g10 := h_remb (b := (σ 10 8)) (a := z7.toInt) (by omega)
      generalize z7.toInt % (σ 10 8) = nz9 at hz9 g10
      refine h_istore (pc' := 99) (M := [(7, .int z9), (4, .int z5), (0, .ref 9), (1, .int x0), (2, .int x1), (3, .int x2), (5, .int y5), (6, .int y6)]) rfl rfl rfl rfl ?_
      refine h_iload (pc' := 101) rfl rfl rfl ?_
      refine h_calls (pc' := 104) (M := [(0, .int z5)]) rfl rfl rfl rfl rfl rfl ?_
      refine h_iload_n (pc' := 1) rfl rfl rfl ?_
      refine h_ldcw (pc' := 4) (x := (Int32.ofInt 1103515245)) rfl rfl rfl ?_
      refine h_imulA (pc' := 5) rfl rfl (fun z11 hz11 => ?_)
      refine h_sipush (pc' := 8) (x := (Int32.ofInt 12345)) rfl rfl cs_12345 ?_
      refine h_iaddA (pc' := 9) rfl rfl (fun z12 hz12 => ?_)
      refine h_iret rfl rfl (h_Kv ?_)
      refine h_istore (pc' := 106) (M := [(4, .int z12), (7, .int z9), (0, .ref 9), (1, .int x0), (2, .int x1), (3, .int x2), (5, .int y5), (6, .int y6)]) rfl rfl rfl rfl ?_
      refine h_iload (pc' := 108) rfl rfl rfl ?_
      refine h_calls (pc' := 111) (M := [(0, .int z12)]) rfl rfl rfl rfl rfl rfl ?_
      refine h_iload_n (pc' := 1) rfl rfl rfl ?_
      refine h_bipush (pc' := 3) (x := (Int32.ofInt 16)) rfl rfl cb_16 ?_
      refine h_ishr (pc' := 4) rfl rfl (fun z13 hz13 => ?_)
      refine h_sipush (pc' := 7) (x := (Int32.ofInt 32767)) rfl rfl cs_32767 ?_
      refine h_iand (pc' := 8) rfl rfl (fun z14 hz14 uz14 vz14 => ?_)
      clear uz14
      rw [ci_32767] at vz14
      have yz14 := vz14 (by omega)
      refine h_iret rfl rfl (h_Kv ?_)
      refine h_aload_n (pc' := 112) rfl rfl rfl ?_
      refine h_getR (pc' := 115) rfl rfl rfl rfl rfl ?_
      refine h_getI (pc' := 118) (v := σ 10 9) rfl rfl rfl rfl rfl (F0_ 10 9 rfl) (fun z15 hz15 => ?_)
      have tz15 := tf_10_9 hI
      refine h_irem (pc' := 119) rfl rfl rfl hz15 (by omega) (by omega) (fun z16 hz16 => ?_)
      have g17 := h_remb (b := (σ 10 9)) (a := z14.toInt) (by omega)
      generalize z14.toInt % (σ 10 9) = nz16 at hz16 g17
      refine h_istore (pc' := 121) (M := [(8, .int z16), (4, .int z12), (7, .int z9), (0, .ref 9), (1, .int x0), (2, .int x1), (3, .int x2), (5, .int y5), (6, .int y6)]) rfl rfl rfl rfl ?_
      refine h_aload_n (pc' := 122) rfl rfl rfl ?_
      refine h_getR (pc' := 125) rfl rfl rfl rfl rfl ?_
      refine h_iload (pc' := 127) rfl rfl rfl ?_
      refine h_iload (pc' := 129) rfl rfl rfl ?_
      refine h_call (sp := false) (pc' := 132) (M := [(0, .ref 82), (1, .int z9), (2, .int z16)]) rfl rfl rfl rfl rfl rfl rfl rfl ?_
      refine w_20_82 _ I0 z9 _ hz9 (by omega) z16 _ hz16 (by omega) (fun r18 br18 hr18 s19 Is19 Gs19 tr18 => h_Kv ?_)
      have Fs19 := (Gs19.mono (B := kf_w_115_9) rfl).tr F0_
      refine h_zeq (tg := 138) (pc' := 135) rfl rfl rfl hr18 (fun c20 => ?_) (fun c20 => ?_)
      · refine h_iinc (pc' := 141) (M := fun z21 => [(6, .int z21), (8, .int z16), (4, .int z12), (7, .int z9), (0, .ref 9), (1, .int x0), (2, .int x1), (3, .int x2), (5, .int y5)]) rfl rfl rfl rfl hy6 ci_1 rfl (by omega) (by omega) (fun _ => rfl) (fun z21 hz21 => ?_)
        refine h_goto (pc' := 71) rfl rfl ?_
        exact h_wk [(0, .ref 9), (1, .int x0), (2, .int x1), (3, .int x2), (4, .int z12), (5, .int y5), (6, .int z21)] ⟨rfl, rfl, rfl, rfl, rfl, rfl, rfl, trivial⟩ (ih _ Is19 Fs19 z12 _ rfl y5 _ hy5 z21 _ hz21 (by omega) (by omega) (by omega) (by omega) (by omega))
      · refine h_iincA (pc' := 138) (M := fun z22 => [(5, .int z22), (8, .int z16), (4, .int z12), (7, .int z9), (0, .ref 9), (1, .int x0), (2, .int x1), (3, .int x2), (6, .int y6)]) rfl rfl rfl rfl (fun _ => rfl) (fun z22 hz22 => ?_)
        refine h_iinc (pc' := 141) (M := fun z23 => [(6, .int z23), (5, .int z22), (8, .int z16), (4, .int z12), (7, .int z9), (0, .ref 9), (1, .int x0), (2, .int x1), (3, .int x2)]) rfl rfl rfl rfl hy6 ci_1 rfl (by omega) (by omega) (fun _ => rfl) (fun z23 hz23 => ?_)
        refine h_goto (pc' := 71) rfl rfl ?_
        exact h_wk [(0, .ref 9), (1, .int x0), (2, .int x1), (3, .int x2), (4, .int z12), (5, .int z22), (6, .int z23)] ⟨rfl, rfl, rfl, rfl, rfl, rfl, rfl, trivial⟩ (ih _ Is19 Fs19 z12 _ rfl z22 _ rfl z23 _ hz23 (by omega) (by omega) (by omega) (by omega) (by omega))
theorem w_115_9 {ns : Nat} (σ : h_S) (hI : h_I σ) (x0 : Int32) (a0 : Int) (hx0 : x0.toInt = a0) (x1 : Int32) (a1 : Int) (hx1 : x1.toInt = a1) (x2 : Int32) (a2 : Int) (hx2 : x2.toInt = a2) {Q : Option Value → h_S → Prop} (kk : ∀ (r : Int32) (b : Int) (hb : r.toInt = b) (τ : h_S), h_I τ → h_F (k_in kf_w_115_9) τ σ → Q (some (.int r)) τ) : h_T g_P (g_Y ns) 115 0 [(0, .ref 9), (1, .int x0), (2, .int x1), (3, .int x2)] [] σ Q := by
  have F00 : h_F (k_in kf_w_115_9) σ σ := h_F.rf
  refine h_iload_n (pc' := 1) rfl rfl rfl ?_
  refine h_iconst (pc' := 2) (x := (Int32.ofInt 1)) rfl rfl rfl ?_
  refine h_clt (tg := 18) (pc' := 5) rfl rfl rfl hx1 ci_1 (fun c1 => ?_) (fun c1 => ?_)
  · refine h_iconst (pc' := 19) (x := (Int32.ofInt (-1))) rfl rfl rfl ?_
    exact h_iret rfl rfl (kk _ _ ci_m1 _ hI F00)
  · refine h_iload_n (pc' := 6) rfl rfl rfl ?_
    refine h_bipush (pc' := 8) (x := (Int32.ofInt 60)) rfl rfl cb_60 ?_
    refine h_cgt (tg := 18) (pc' := 11) rfl rfl rfl hx1 ci_60 (fun c2 => ?_) (fun c2 => ?_)
    · refine h_iconst (pc' := 19) (x := (Int32.ofInt (-1))) rfl rfl rfl ?_
      exact h_iret rfl rfl (kk _ _ ci_m1 _ hI F00)
    · refine h_iload_n (pc' := 12) rfl rfl rfl ?_
      refine h_calls (pc' := 15) (M := [(0, .int x2)]) rfl rfl rfl rfl rfl rfl ?_
      refine h_iload_n (pc' := 1) rfl rfl rfl ?_
      refine h_zeq (tg := 9) (pc' := 4) rfl rfl rfl hx2 (fun c3 => ?_) (fun c3 => ?_)
      · refine h_iconst (pc' := 10) (x := (Int32.ofInt 1)) rfl rfl rfl ?_
        refine h_goto (pc' := 14) rfl rfl ?_
        refine h_zret rfl rfl ci_1 (by omega) (h_Kv ?_)
        refine h_zne (tg := 20) (pc' := 18) rfl rfl rfl ci_1 (fun c4 => ?_) (fun c4 => absurd c4 (by omega))
        refine h_aload_n (pc' := 21) rfl rfl rfl ?_
        refine h_getR (pc' := 24) rfl rfl rfl rfl rfl ?_
        refine h_getI (pc' := 27) (v := σ 10 8) rfl rfl rfl rfl rfl rfl (fun z5 hz5 => ?_)
        have tz5 := tf_10_8 hI
        refine h_zle (tg := 40) (pc' := 30) rfl rfl rfl hz5 (fun c6 => ?_) (fun c6 => ?_)
        · refine h_bipush (pc' := 42) (x := (Int32.ofInt (-2))) rfl rfl cb_m2 ?_
          exact h_iret rfl rfl (kk _ _ ci_m2 _ hI F00)
        · refine h_aload_n (pc' := 31) rfl rfl rfl ?_
          refine h_getR (pc' := 34) rfl rfl rfl rfl rfl ?_
          refine h_getI (pc' := 37) (v := σ 10 9) rfl rfl rfl rfl rfl rfl (fun z7 hz7 => ?_)
          have tz7 := tf_10_9 hI
          refine h_zgt (tg := 43) (pc' := 40) rfl rfl rfl hz7 (fun c8 => ?_) (fun c8 => ?_)
          · refine h_aload_n (pc' := 44) rfl rfl rfl ?_
            refine h_aload_n (pc' := 45) rfl rfl rfl ?_
            refine h_getR (pc' := 48) rfl rfl rfl rfl rfl ?_
            refine h_call (sp := false) (pc' := 51) (M := [(0, .ref 9), (1, .ref 10)]) rfl rfl rfl rfl rfl rfl rfl rfl ?_
            refine w_127_9_10 _ hI  (fun s10 Is10 Gs10 => h_Kn ?_)
            have Fs10 := (Gs10.mono (B := kf_w_115_9) rfl).tr F00
            refine h_aload_n (pc' := 52) rfl rfl rfl ?_
            refine h_getR (pc' := 55) rfl rfl rfl rfl rfl ?_
            refine h_aload_n (pc' := 56) rfl rfl rfl ?_
            refine h_getR (pc' := 59) rfl rfl rfl rfl rfl ?_
            refine h_call (sp := false) (pc' := 62) (M := [(0, .ref 82), (1, .ref 10)]) rfl rfl rfl rfl rfl rfl rfl rfl ?_
            refine w_19_82_10 _ Is10  (fun s12 Is12 Gs12 => h_Kn ?_)
            have Fs12 := (Gs12.mono (B := kf_w_115_9) rfl).tr Fs10
            refine h_iload_n (pc' := 63) rfl rfl rfl ?_
            refine h_istore (pc' := 65) (M := [(4, .int x0), (0, .ref 9), (1, .int x0), (2, .int x1), (3, .int x2)]) rfl rfl rfl rfl ?_
            refine h_iconst (pc' := 66) (x := (Int32.ofInt 0)) rfl rfl rfl ?_
            refine h_istore (pc' := 68) (M := [(5, .int (Int32.ofInt 0)), (4, .int x0), (0, .ref 9), (1, .int x0), (2, .int x1), (3, .int x2)]) rfl rfl rfl rfl ?_
            refine h_iconst (pc' := 69) (x := (Int32.ofInt 0)) rfl rfl rfl ?_
            refine h_istore (pc' := 71) (M := [(6, .int (Int32.ofInt 0)), (5, .int (Int32.ofInt 0)), (4, .int x0), (0, .ref 9), (1, .int x0), (2, .int x1), (3, .int x2)]) rfl rfl rfl rfl ?_
            exact h_wk [(0, .ref 9), (1, .int x0), (2, .int x1), (3, .int x2), (4, .int x0), (5, .int (Int32.ofInt 0)), (6, .int (Int32.ofInt 0))] ⟨rfl, rfl, rfl, rfl, rfl, rfl, rfl, trivial⟩ ((w_115_9_l ns σ hI x0 a0 hx0 x1 a1 hx1 x2 a2 hx2 kk 1000000000000) _ Is12 Fs12 x0 _ hx0 (Int32.ofInt 0) _ ci_0 (Int32.ofInt 0) _ ci_0 (by omega) (by omega) (by omega) (by omega) (by omega))
          · refine h_bipush (pc' := 42) (x := (Int32.ofInt (-2))) rfl rfl cb_m2 ?_
            exact h_iret rfl rfl (kk _ _ ci_m2 _ hI F00)
      · refine h_iload_n (pc' := 5) rfl rfl rfl ?_
        refine h_iconst (pc' := 6) (x := (Int32.ofInt 1)) rfl rfl rfl ?_
        refine h_cne (tg := 13) (pc' := 9) rfl rfl rfl hx2 ci_1 (fun c13 => ?_) (fun c13 => ?_)
        · refine h_iconst (pc' := 14) (x := (Int32.ofInt 0)) rfl rfl rfl ?_
          refine h_zret rfl rfl ci_0 (by omega) (h_Kv ?_)
          refine h_zne (tg := 20) (pc' := 18) rfl rfl rfl ci_0 (fun c14 => absurd c14 (by omega)) (fun c14 => ?_)
          refine h_iconst (pc' := 19) (x := (Int32.ofInt (-1))) rfl rfl rfl ?_
          exact h_iret rfl rfl (kk _ _ ci_m1 _ hI F00)
        · refine h_iconst (pc' := 10) (x := (Int32.ofInt 1)) rfl rfl rfl ?_
          refine h_goto (pc' := 14) rfl rfl ?_
          refine h_zret rfl rfl ci_1 (by omega) (h_Kv ?_)
          refine h_zne (tg := 20) (pc' := 18) rfl rfl rfl ci_1 (fun c15 => ?_) (fun c15 => absurd c15 (by omega))
          refine h_aload_n (pc' := 21) rfl rfl rfl ?_
          refine h_getR (pc' := 24) rfl rfl rfl rfl rfl ?_
          refine h_getI (pc' := 27) (v := σ 10 8) rfl rfl rfl rfl rfl rfl (fun z16 hz16 => ?_)
          have tz16 := tf_10_8 hI
          refine h_zle (tg := 40) (pc' := 30) rfl rfl rfl hz16 (fun c17 => ?_) (fun c17 => ?_)
          · refine h_bipush (pc' := 42) (x := (Int32.ofInt (-2))) rfl rfl cb_m2 ?_
            exact h_iret rfl rfl (kk _ _ ci_m2 _ hI F00)
          · refine h_aload_n (pc' := 31) rfl rfl rfl ?_
            refine h_getR (pc' := 34) rfl rfl rfl rfl rfl ?_
            refine h_getI (pc' := 37) (v := σ 10 9) rfl rfl rfl rfl rfl rfl (fun z18 hz18 => ?_)
            have tz18 := tf_10_9 hI
            refine h_zgt (tg := 43) (pc' := 40) rfl rfl rfl hz18 (fun c19 => ?_) (fun c19 => ?_)
            · refine h_aload_n (pc' := 44) rfl rfl rfl ?_
              refine h_aload_n (pc' := 45) rfl rfl rfl ?_
              refine h_getR (pc' := 48) rfl rfl rfl rfl rfl ?_
              refine h_call (sp := false) (pc' := 51) (M := [(0, .ref 9), (1, .ref 10)]) rfl rfl rfl rfl rfl rfl rfl rfl ?_
              refine w_127_9_10 _ hI  (fun s21 Is21 Gs21 => h_Kn ?_)
              have Fs21 := (Gs21.mono (B := kf_w_115_9) rfl).tr F00
              refine h_aload_n (pc' := 52) rfl rfl rfl ?_
              refine h_getR (pc' := 55) rfl rfl rfl rfl rfl ?_
              refine h_aload_n (pc' := 56) rfl rfl rfl ?_
              refine h_getR (pc' := 59) rfl rfl rfl rfl rfl ?_
              refine h_call (sp := false) (pc' := 62) (M := [(0, .ref 82), (1, .ref 10)]) rfl rfl rfl rfl rfl rfl rfl rfl ?_
              refine w_19_82_10 _ Is21  (fun s23 Is23 Gs23 => h_Kn ?_)
              have Fs23 := (Gs23.mono (B := kf_w_115_9) rfl).tr Fs21
              refine h_iload_n (pc' := 63) rfl rfl rfl ?_
              refine h_istore (pc' := 65) (M := [(4, .int x0), (0, .ref 9), (1, .int x0), (2, .int x1), (3, .int x2)]) rfl rfl rfl rfl ?_
              refine h_iconst (pc' := 66) (x := (Int32.ofInt 0)) rfl rfl rfl ?_
              refine h_istore (pc' := 68) (M := [(5, .int (Int32.ofInt 0)), (4, .int x0), (0, .ref 9), (1, .int x0), (2, .int x1), (3, .int x2)]) rfl rfl rfl rfl ?_
              refine h_iconst (pc' := 69) (x := (Int32.ofInt 0)) rfl rfl rfl ?_
              refine h_istore (pc' := 71) (M := [(6, .int (Int32.ofInt 0)), (5, .int (Int32.ofInt 0)), (4, .int x0), (0, .ref 9), (1, .int x0), (2, .int x1), (3, .int x2)]) rfl rfl rfl rfl ?_
              exact h_wk [(0, .ref 9), (1, .int x0), (2, .int x1), (3, .int x2), (4, .int x0), (5, .int (Int32.ofInt 0)), (6, .int (Int32.ofInt 0))] ⟨rfl, rfl, rfl, rfl, rfl, rfl, rfl, trivial⟩ ((w_115_9_l ns σ hI x0 a0 hx0 x1 a1 hx1 x2 a2 hx2 kk 1000000000000) _ Is23 Fs23 x0 _ hx0 (Int32.ofInt 0) _ ci_0 (Int32.ofInt 0) _ ci_0 (by omega) (by omega) (by omega) (by omega) (by omega))
            · refine h_bipush (pc' := 42) (x := (Int32.ofInt (-2))) rfl rfl cb_m2 ?_
              exact h_iret rfl rfl (kk _ _ ci_m2 _ hI F00)
