theorem lm_hi {ns : Nat} (σ : h_S) (hI : h_I σ) (y1 : Int32) (c1 : Int) (hy1 : y1.toInt = c1) (hp : 0 ≤ c1 ∧ c1 ≤ 5) {Q : Option Value → h_S → Prop} (kk : ∀ H : Int, (σ 98 8 ≤ H ∧ c1 ≤ H ∧ (H = σ 98 8 ∨ H = c1)) → h_T g_P (g_Y ns) 150 27 [(0, .ref 98), (1, .int y1)] [] (h_up σ 98 8 H) Q) : h_T g_P (g_Y ns) 150 7 [(0, .ref 98), (1, .int y1)] [] σ Q := by
  refine h_aload_n (pc' := 8) rfl rfl rfl ?_
  refine h_iload_n (pc' := 9) rfl rfl rfl ?_
  refine h_aload_n (pc' := 10) rfl rfl rfl ?_
  refine h_getI (pc' := 13) (v := σ 98 8) rfl rfl rfl rfl rfl rfl (fun z1 hz1 => ?_)
  have tz1 := tf_98_8 hI
  refine h_cle (tg := 20) (pc' := 16) rfl rfl rfl hy1 hz1 (fun c2 => ?_) (fun c2 => ?_)
  · refine h_aload_n (pc' := 21) rfl rfl rfl ?_
    refine h_getI (pc' := 24) (v := σ 98 8) rfl rfl rfl rfl rfl rfl (fun z3 hz3 => ?_)
    have tz3 := tf_98_8 hI
    exact h_put (pc' := 27) rfl rfl rfl rfl rfl rfl hz3 rfl (kk _ ⟨by omega, by omega, by omega⟩)
  · refine h_iload_n (pc' := 17) rfl rfl rfl ?_
    refine h_goto (pc' := 24) rfl rfl ?_
    exact h_put (pc' := 27) rfl rfl rfl rfl rfl rfl hy1 rfl (kk _ ⟨by omega, by omega, by omega⟩)
theorem lm_ho {ns : Nat} (σ : h_S) (hI : h_I σ) (hp : 0 ≤ σ 98 18 ∧ σ 98 18 ≤ 99 ∧ σ 98 18 / 10 ≤ 5) {Q : Option Value → h_S → Prop} (kk : ∀ H : Int, (σ 98 8 ≤ H ∧ σ 98 18 / 10 ≤ H ∧ (H = σ 98 8 ∨ H = σ 98 18 / 10)) → h_T g_P (g_Y ns) 152 98 [(0, .ref 98)] [] (h_up σ 98 8 H) Q) : h_T g_P (g_Y ns) 152 66 [(0, .ref 98)] [] σ Q := by
  refine h_aload_n (pc' := 67) rfl rfl rfl ?_
  refine h_aload_n (pc' := 68) rfl rfl rfl ?_
  refine h_getI (pc' := 71) (v := σ 98 18) rfl rfl rfl rfl rfl rfl (fun z1 hz1 => ?_)
  have tz1 := tf_98_18 hI
  refine h_bipush (pc' := 73) (x := (Int32.ofInt 10)) rfl rfl cb_10 ?_
  refine h_idiv (pc' := 74) rfl rfl hz1 ci_10 (by omega) (by omega) (fun z2 hz2 => ?_)
  refine h_aload_n (pc' := 75) rfl rfl rfl ?_
  refine h_getI (pc' := 78) (v := σ 98 8) rfl rfl rfl rfl rfl rfl (fun z3 hz3 => ?_)
  have tz3 := tf_98_8 hI
  refine h_cle (tg := 91) (pc' := 81) rfl rfl rfl hz2 hz3 (fun c4 => ?_) (fun c4 => ?_)
  · refine h_aload_n (pc' := 92) rfl rfl rfl ?_
    refine h_getI (pc' := 95) (v := σ 98 8) rfl rfl rfl rfl rfl rfl (fun z5 hz5 => ?_)
    have tz5 := tf_98_8 hI
    exact h_put (pc' := 98) rfl rfl rfl rfl rfl rfl hz5 rfl (kk _ ⟨by omega, by omega, by omega⟩)
  · refine h_aload_n (pc' := 82) rfl rfl rfl ?_
    refine h_getI (pc' := 85) (v := σ 98 18) rfl rfl rfl rfl rfl rfl (fun z6 hz6 => ?_)
    have tz6 := tf_98_18 hI
    refine h_bipush (pc' := 87) (x := (Int32.ofInt 10)) rfl rfl cb_10 ?_
    refine h_idiv (pc' := 88) rfl rfl hz6 ci_10 (by omega) (by omega) (fun z7 hz7 => ?_)
    refine h_goto (pc' := 95) rfl rfl ?_
    exact h_put (pc' := 98) rfl rfl rfl rfl rfl rfl hz7 rfl (kk _ ⟨by omega, by omega, by omega⟩)
theorem lm_hg {ns : Nat} (σ : h_S) (hI : h_I σ) (hp : 0 ≤ σ 98 18 ∧ σ 98 18 ≤ 99 ∧ σ 98 18 % 10 ≤ 2) {Q : Option Value → h_S → Prop} (kk : ∀ H : Int, (σ 98 9 ≤ H ∧ σ 98 18 % 10 ≤ H ∧ (H = σ 98 9 ∨ H = σ 98 18 % 10)) → h_T g_P (g_Y ns) 152 130 [(0, .ref 98)] [] (h_up σ 98 9 H) Q) : h_T g_P (g_Y ns) 152 98 [(0, .ref 98)] [] σ Q := by
  refine h_aload_n (pc' := 99) rfl rfl rfl ?_
  refine h_aload_n (pc' := 100) rfl rfl rfl ?_
  refine h_getI (pc' := 103) (v := σ 98 18) rfl rfl rfl rfl rfl rfl (fun z1 hz1 => ?_)
  have tz1 := tf_98_18 hI
  refine h_bipush (pc' := 105) (x := (Int32.ofInt 10)) rfl rfl cb_10 ?_
  refine h_irem (pc' := 106) rfl rfl hz1 ci_10 (by omega) (by omega) (fun z2 hz2 => ?_)
  refine h_aload_n (pc' := 107) rfl rfl rfl ?_
  refine h_getI (pc' := 110) (v := σ 98 9) rfl rfl rfl rfl rfl rfl (fun z3 hz3 => ?_)
  have tz3 := tf_98_9 hI
  refine h_cle (tg := 123) (pc' := 113) rfl rfl rfl hz2 hz3 (fun c4 => ?_) (fun c4 => ?_)
  · refine h_aload_n (pc' := 124) rfl rfl rfl ?_
    refine h_getI (pc' := 127) (v := σ 98 9) rfl rfl rfl rfl rfl rfl (fun z5 hz5 => ?_)
    have tz5 := tf_98_9 hI
    exact h_put (pc' := 130) rfl rfl rfl rfl rfl rfl hz5 rfl (kk _ ⟨by omega, by omega, by omega⟩)
  · refine h_aload_n (pc' := 114) rfl rfl rfl ?_
    refine h_getI (pc' := 117) (v := σ 98 18) rfl rfl rfl rfl rfl rfl (fun z6 hz6 => ?_)
    have tz6 := tf_98_18 hI
    refine h_bipush (pc' := 119) (x := (Int32.ofInt 10)) rfl rfl cb_10 ?_
    refine h_irem (pc' := 120) rfl rfl hz6 ci_10 (by omega) (by omega) (fun z7 hz7 => ?_)
    refine h_goto (pc' := 127) rfl rfl ?_
    exact h_put (pc' := 130) rfl rfl rfl rfl rfl rfl hz7 rfl (kk _ ⟨by omega, by omega, by omega⟩)
theorem lm_pt {ns : Nat} (σ : h_S) (hI : h_I σ) (y1 : Int32) (c1 : Int) (hy1 : y1.toInt = c1) (hp : c1 ≤ 6) {Q : Option Value → h_S → Prop} (kk : ∀ H : Int, H = σ 98 7 → h_T g_P (g_Y ns) 154 128 [(0, .ref 98), (1, .int y1)] [] (h_up σ 98 7 H) Q) : h_T g_P (g_Y ns) 154 106 [(0, .ref 98), (1, .int y1)] [] σ Q := by
  refine h_aload_n (pc' := 107) rfl rfl rfl ?_
  refine h_aload_n (pc' := 108) rfl rfl rfl ?_
  refine h_getI (pc' := 111) (v := σ 98 7) rfl rfl rfl rfl rfl rfl (fun z1 hz1 => ?_)
  have tz1 := tf_98_7 hI
  refine h_zne (tg := 120) (pc' := 114) rfl rfl rfl hz1 (fun c2 => ?_) (fun c2 => ?_)
  · refine h_iconst (pc' := 121) (x := (Int32.ofInt 1)) rfl rfl rfl ?_
    refine h_goto (pc' := 125) rfl rfl ?_
    exact h_put (pc' := 128) rfl rfl rfl rfl rfl rfl ci_1 (h_fb ci_1 (by omega)) (kk _ (by omega))
  · refine h_iload_n (pc' := 115) rfl rfl rfl ?_
    refine h_bipush (pc' := 117) (x := (Int32.ofInt 7)) rfl rfl cb_7 ?_
    refine h_cne (tg := 124) (pc' := 120) rfl rfl rfl hy1 ci_7 (fun c3 => ?_) (fun c3 => absurd c3 (by omega))
    refine h_iconst (pc' := 125) (x := (Int32.ofInt 0)) rfl rfl rfl ?_
    exact h_put (pc' := 128) rfl rfl rfl rfl rfl rfl ci_0 (h_fb ci_0 (by omega)) (kk _ (by omega))
