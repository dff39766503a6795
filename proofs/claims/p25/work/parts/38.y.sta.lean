set_option maxHeartbeats 100000000 in
theorem n_st0 {ns : Nat} (σ : h_S) (hI : h_I σ) (x0 : Int32) (a0 : Int) (hx0 : x0.toInt = a0) (ra0 : 0 ≤ a0 ∧ a0 ≤ 2) (pr0 : 0 ≤ σ 106 0 ∧ σ 106 0 ≤ 5) {Q : Option Value → h_S → Prop} (kk : ∀ (r : Int32) (b : Int) (hb : r.toInt = b), (0 ≤ b ∧ b ≤ 1) → (b = if (g_nd (σ 106) (σ 106 0) 0 && g_yM (σ 105) (fun i => σ 99 (19 + 2 * i)) (fun i => σ 99 (19 + 2 * i + 1)) (σ 99 25) (σ 106 0) (g_pv (σ 106) (g_orn (σ 99 (29 + a0))) 0) (σ 99 (26 + a0))) = true then 1 else 0) → Q (some (.int r)) σ) : h_T g_P (g_Y ns) 196 0 [(0, .ref 98), (1, .int x0), (2, .int (Int32.ofInt 0))] [] σ Q := by
  refine h_iconst (pc' := 1) (x := (Int32.ofInt 0)) rfl rfl rfl ?_
  refine h_istore_n (pc' := 2) (M := [(3, .int (Int32.ofInt 0)), (0, .ref 98), (1, .int x0), (2, .int (Int32.ofInt 0))]) rfl rfl rfl rfl ?_
  refine h_iload_n (pc' := 3) rfl rfl rfl ?_
  refine h_iload_n (pc' := 4) rfl rfl rfl ?_
  refine h_cge (tg := 30) (pc' := 7) rfl rfl rfl ci_0 ci_0 (fun c1 => ?_) (fun c1 => absurd c1 (by omega))
  refine h_iload_n (pc' := 31) rfl rfl rfl ?_
  refine h_zne (tg := 49) (pc' := 34) rfl rfl rfl ci_0 (fun c2 => absurd c2 (by omega)) (fun c2 => ?_)
  refine h_aload_n (pc' := 35) rfl rfl rfl ?_
  refine h_getR (pc' := 38) rfl rfl rfl rfl rfl ?_
  refine h_bipush (pc' := 40) (x := (Int32.ofInt 29)) rfl rfl cb_29 ?_
  refine h_iload_n (pc' := 41) rfl rfl rfl ?_
  refine h_iadd (pc' := 42) rfl rfl ci_29 hx0 rfl (by omega) (by omega) (fun z3 hz3 => ?_)
  refine h_iald (pc' := 43) (v := σ 99 (29 + a0)) rfl rfl rfl hz3 (by omega) (by omega) rfl (fun z4 hz4 => ?_)
  have tz4 := ty_99_7 hI (29 + a0) (by omega)
  refine h_calls (pc' := 46) (M := [(0, .int z4)]) rfl rfl rfl rfl rfl rfl ?_
  refine h_iload_n (pc' := 1) rfl rfl rfl ?_
  refine h_zne (tg := 9) (pc' := 4) rfl rfl rfl hz4 (fun c5 => ?_) (fun c5 => ?_)
  · refine h_iload_n (pc' := 10) rfl rfl rfl ?_
    refine h_iconst (pc' := 11) (x := (Int32.ofInt 1)) rfl rfl rfl ?_
    refine h_isub (pc' := 12) rfl rfl hz4 ci_1 rfl (by omega) (by omega) (fun z6 hz6 => ?_)
    refine h_iret rfl rfl (h_Kv ?_)
    refine h_goto (pc' := 57) rfl rfl ?_
    refine h_istore_n (pc' := 58) (M := [(3, .int z6), (0, .ref 98), (1, .int x0), (2, .int (Int32.ofInt 0))]) rfl rfl rfl rfl ?_
    refine h_aload_n (pc' := 59) rfl rfl rfl ?_
    refine h_aload_n (pc' := 60) rfl rfl rfl ?_
    refine h_getR (pc' := 63) rfl rfl rfl rfl rfl ?_
    refine h_iload_n (pc' := 64) rfl rfl rfl ?_
    refine h_iald (pc' := 65) (v := σ 106 0) rfl rfl rfl ci_0 (by omega) (by omega) rfl (fun z7 hz7 => ?_)
    have tz7 := ty_106 hI 0
    refine h_iload_n (pc' := 66) rfl rfl rfl ?_
    refine h_aload_n (pc' := 67) rfl rfl rfl ?_
    refine h_getR (pc' := 70) rfl rfl rfl rfl rfl ?_
    refine h_bipush (pc' := 72) (x := (Int32.ofInt 26)) rfl rfl cb_26 ?_
    refine h_iload_n (pc' := 73) rfl rfl rfl ?_
    refine h_iadd (pc' := 74) rfl rfl ci_26 hx0 rfl (by omega) (by omega) (fun z8 hz8 => ?_)
    refine h_iald (pc' := 75) (v := σ 99 (26 + a0)) rfl rfl rfl hz8 (by omega) (by omega) rfl (fun z9 hz9 => ?_)
    have tz9 := ty_99_6 hI (26 + a0) (by omega)
    refine h_call (sp := false) (pc' := 78) (M := [(0, .ref 98), (1, .int z7), (2, .int z6), (3, .int z9)]) rfl rfl rfl rfl rfl rfl rfl rfl ?_
    refine n_may _ hI z7 _ hz7 (by omega) z6 _ hz6 (by omega) z9 _ hz9 (fun r10 br10 hr10 tr10 ps11_0 => h_Kv ?_)
    exact h_zret rfl rfl hr10 (by omega) (kk _ _ hr10 (by omega) (by have gm := ps11_0; (first | rw [show σ 99 (29 + a0) - 1 = g_orn (σ 99 (29 + a0)) from g_orn_of (by omega)] at gm | rw [show (-4 : Int) = g_orn (σ 99 (29 + a0)) from g_orn_of (by omega)] at gm); rw [show g_nd (σ 106) (σ 106 0) 0 = true from g_nd_t 0 (fun k k0 k1 => by omega), Bool.true_and]; exact gm))
  · refine h_bipush (pc' := 6) (x := (Int32.ofInt (-4))) rfl rfl cb_m4 ?_
    refine h_goto (pc' := 12) rfl rfl ?_
    refine h_iret rfl rfl (h_Kv ?_)
    refine h_goto (pc' := 57) rfl rfl ?_
    refine h_istore_n (pc' := 58) (M := [(3, .int (Int32.ofInt (-4))), (0, .ref 98), (1, .int x0), (2, .int (Int32.ofInt 0))]) rfl rfl rfl rfl ?_
    refine h_aload_n (pc' := 59) rfl rfl rfl ?_
    refine h_aload_n (pc' := 60) rfl rfl rfl ?_
    refine h_getR (pc' := 63) rfl rfl rfl rfl rfl ?_
    refine h_iload_n (pc' := 64) rfl rfl rfl ?_
    refine h_iald (pc' := 65) (v := σ 106 0) rfl rfl rfl ci_0 (by omega) (by omega) rfl (fun z12 hz12 => ?_)
    have tz12 := ty_106 hI 0
    refine h_iload_n (pc' := 66) rfl rfl rfl ?_
    refine h_aload_n (pc' := 67) rfl rfl rfl ?_
    refine h_getR (pc' := 70) rfl rfl rfl rfl rfl ?_
    refine h_bipush (pc' := 72) (x := (Int32.ofInt 26)) rfl rfl cb_26 ?_
    refine h_iload_n (pc' := 73) rfl rfl rfl ?_
    refine h_iadd (pc' := 74) rfl rfl ci_26 hx0 rfl (by omega) (by omega) (fun z13 hz13 => ?_)
    refine h_iald (pc' := 75) (v := σ 99 (26 + a0)) rfl rfl rfl hz13 (by omega) (by omega) rfl (fun z14 hz14 => ?_)
    have tz14 := ty_99_6 hI (26 + a0) (by omega)
    refine h_call (sp := false) (pc' := 78) (M := [(0, .ref 98), (1, .int z12), (2, .int (Int32.ofInt (-4))), (3, .int z14)]) rfl rfl rfl rfl rfl rfl rfl rfl ?_
    refine n_may _ hI z12 _ hz12 (by omega) (Int32.ofInt (-4)) _ ci_m4 (by omega) z14 _ hz14 (fun r15 br15 hr15 tr15 ps16_0 => h_Kv ?_)
    exact h_zret rfl rfl hr15 (by omega) (kk _ _ hr15 (by omega) (by have gm := ps16_0; (first | rw [show σ 99 (29 + a0) - 1 = g_orn (σ 99 (29 + a0)) from g_orn_of (by omega)] at gm | rw [show (-4 : Int) = g_orn (σ 99 (29 + a0)) from g_orn_of (by omega)] at gm); rw [show g_nd (σ 106) (σ 106 0) 0 = true from g_nd_t 0 (fun k k0 k1 => by omega), Bool.true_and]; exact gm))
set_option maxHeartbeats 100000000 in
theorem n_st1 {ns : Nat} (σ : h_S) (hI : h_I σ) (x0 : Int32) (a0 : Int) (hx0 : x0.toInt = a0) (ra0 : 0 ≤ a0 ∧ a0 ≤ 2) (pr0 : 0 ≤ σ 106 1 ∧ σ 106 1 ≤ 5) (pr1 : 0 ≤ σ 106 0 ∧ σ 106 0 ≤ 5) {Q : Option Value → h_S → Prop} (kk : ∀ (r : Int32) (b : Int) (hb : r.toInt = b), (0 ≤ b ∧ b ≤ 1) → (b = if (g_nd (σ 106) (σ 106 1) 1 && g_yM (σ 105) (fun i => σ 99 (19 + 2 * i)) (fun i => σ 99 (19 + 2 * i + 1)) (σ 99 25) (σ 106 1) (g_pv (σ 106) (g_orn (σ 99 (29 + a0))) 1) (σ 99 (26 + a0))) = true then 1 else 0) → (b = 1 → ¬ σ 106 0 = σ 106 1) → Q (some (.int r)) σ) : h_T g_P (g_Y ns) 196 0 [(0, .ref 98), (1, .int x0), (2, .int (Int32.ofInt 1))] [] σ Q := by
  refine h_iconst (pc' := 1) (x := (Int32.ofInt 0)) rfl rfl rfl ?_
  refine h_istore_n (pc' := 2) (M := [(3, .int (Int32.ofInt 0)), (0, .ref 98), (1, .int x0), (2, .int (Int32.ofInt 1))]) rfl rfl rfl rfl ?_
  refine h_iload_n (pc' := 3) rfl rfl rfl ?_
  refine h_iload_n (pc' := 4) rfl rfl rfl ?_
  refine h_cge (tg := 30) (pc' := 7) rfl rfl rfl ci_0 ci_1 (fun c1 => absurd c1 (by omega)) (fun c1 => ?_)
  refine h_aload_n (pc' := 8) rfl rfl rfl ?_
  refine h_getR (pc' := 11) rfl rfl rfl rfl rfl ?_
  refine h_iload_n (pc' := 12) rfl rfl rfl ?_
  refine h_iald (pc' := 13) (v := σ 106 0) rfl rfl rfl ci_0 (by omega) (by omega) rfl (fun z2 hz2 => ?_)
  have tz2 := ty_106 hI 0
  refine h_aload_n (pc' := 14) rfl rfl rfl ?_
  refine h_getR (pc' := 17) rfl rfl rfl rfl rfl ?_
  refine h_iload_n (pc' := 18) rfl rfl rfl ?_
  refine h_iald (pc' := 19) (v := σ 106 1) rfl rfl rfl ci_1 (by omega) (by omega) rfl (fun z3 hz3 => ?_)
  have tz3 := ty_106 hI 1
  refine h_cne (tg := 24) (pc' := 22) rfl rfl rfl hz2 hz3 (fun c4 => ?_) (fun c4 => ?_)
  · refine h_iinc (pc' := 27) (b := 1) (M := fun z5 => [(3, .int z5), (0, .ref 98), (1, .int x0), (2, .int (Int32.ofInt 1))]) rfl rfl rfl rfl ci_0 ci_1 rfl (by omega) (by omega) (fun _ => rfl) (fun z5 hz5 => ?_)
    refine h_goto (pc' := 2) rfl rfl ?_
    refine h_iload_n (pc' := 3) rfl rfl rfl ?_
    refine h_iload_n (pc' := 4) rfl rfl rfl ?_
    refine h_cge (tg := 30) (pc' := 7) rfl rfl rfl hz5 ci_1 (fun c6 => ?_) (fun c6 => absurd c6 (by omega))
    refine h_iload_n (pc' := 31) rfl rfl rfl ?_
    refine h_zne (tg := 49) (pc' := 34) rfl rfl rfl ci_1 (fun c7 => ?_) (fun c7 => absurd c7 (by omega))
    refine h_aload_n (pc' := 50) rfl rfl rfl ?_
    refine h_getR (pc' := 53) rfl rfl rfl rfl rfl ?_
    refine h_iload_n (pc' := 54) rfl rfl rfl ?_
    refine h_iconst (pc' := 55) (x := (Int32.ofInt 1)) rfl rfl rfl ?_
    refine h_isub (pc' := 56) (c := 0) rfl rfl ci_1 ci_1 rfl (by omega) (by omega) (fun z8 hz8 => ?_)
    refine h_iald (pc' := 57) (v := σ 106 0) rfl rfl rfl hz8 (by omega) (by omega) rfl (fun z9 hz9 => ?_)
    have tz9 := ty_106 hI 0
    refine h_istore_n (pc' := 58) (M := [(3, .int z9), (0, .ref 98), (1, .int x0), (2, .int (Int32.ofInt 1))]) rfl rfl rfl rfl ?_
    refine h_aload_n (pc' := 59) rfl rfl rfl ?_
    refine h_aload_n (pc' := 60) rfl rfl rfl ?_
    refine h_getR (pc' := 63) rfl rfl rfl rfl rfl ?_
    refine h_iload_n (pc' := 64) rfl rfl rfl ?_
    refine h_iald (pc' := 65) (v := σ 106 1) rfl rfl rfl ci_1 (by omega) (by omega) rfl (fun z10 hz10 => ?_)
    have tz10 := ty_106 hI 1
    refine h_iload_n (pc' := 66) rfl rfl rfl ?_
    refine h_aload_n (pc' := 67) rfl rfl rfl ?_
    refine h_getR (pc' := 70) rfl rfl rfl rfl rfl ?_
    refine h_bipush (pc' := 72) (x := (Int32.ofInt 26)) rfl rfl cb_26 ?_
    refine h_iload_n (pc' := 73) rfl rfl rfl ?_
    refine h_iadd (pc' := 74) rfl rfl ci_26 hx0 rfl (by omega) (by omega) (fun z11 hz11 => ?_)
    refine h_iald (pc' := 75) (v := σ 99 (26 + a0)) rfl rfl rfl hz11 (by omega) (by omega) rfl (fun z12 hz12 => ?_)
    have tz12 := ty_99_6 hI (26 + a0) (by omega)
    refine h_call (sp := false) (pc' := 78) (M := [(0, .ref 98), (1, .int z10), (2, .int z9), (3, .int z12)]) rfl rfl rfl rfl rfl rfl rfl rfl ?_
    refine n_may _ hI z10 _ hz10 (by omega) z9 _ hz9 (by omega) z12 _ hz12 (fun r13 br13 hr13 tr13 ps14_0 => h_Kv ?_)
    exact h_zret rfl rfl hr13 (by omega) (kk _ _ hr13 (by omega) (by have gm := ps14_0; rw [show g_nd (σ 106) (σ 106 1) 1 = true from g_nd_t 1 (fun k k0 k1 => by rcases (show k = 0 by omega) with rfl <;> omega), Bool.true_and]; exact gm) (by omega))
  · refine h_iconst (pc' := 23) (x := (Int32.ofInt 0)) rfl rfl rfl ?_
    exact h_zret rfl rfl ci_0 (by omega) (kk _ _ ci_0 (by omega) (g_if_0 (by rw [show g_nd (σ 106) (σ 106 1) 1 = false by first | exact g_nd_f (k := 0) (by omega) (by omega) 1 (by omega), Bool.false_and]) rfl) (by omega))
set_option maxHeartbeats 100000000 in
theorem n_st2 {ns : Nat} (σ : h_S) (hI : h_I σ) (x0 : Int32) (a0 : Int) (hx0 : x0.toInt = a0) (ra0 : 0 ≤ a0 ∧ a0 ≤ 2) (pr0 : 0 ≤ σ 106 2 ∧ σ 106 2 ≤ 5) (pr1 : 0 ≤ σ 106 1 ∧ σ 106 1 ≤ 5) {Q : Option Value → h_S → Prop} (kk : ∀ (r : Int32) (b : Int) (hb : r.toInt = b), (0 ≤ b ∧ b ≤ 1) → (b = if (g_nd (σ 106) (σ 106 2) 2 && g_yM (σ 105) (fun i => σ 99 (19 + 2 * i)) (fun i => σ 99 (19 + 2 * i + 1)) (σ 99 25) (σ 106 2) (g_pv (σ 106) (g_orn (σ 99 (29 + a0))) 2) (σ 99 (26 + a0))) = true then 1 else 0) → (b = 1 → ¬ σ 106 0 = σ 106 2) → (b = 1 → ¬ σ 106 1 = σ 106 2) → Q (some (.int r)) σ) : h_T g_P (g_Y ns) 196 0 [(0, .ref 98), (1, .int x0), (2, .int (Int32.ofInt 2))] [] σ Q := by
  refine h_iconst (pc' := 1) (x := (Int32.ofInt 0)) rfl rfl rfl ?_
  refine h_istore_n (pc' := 2) (M := [(3, .int (Int32.ofInt 0)), (0, .ref 98), (1, .int x0), (2, .int (Int32.ofInt 2))]) rfl rfl rfl rfl ?_
  refine h_iload_n (pc' := 3) rfl rfl rfl ?_
  refine h_iload_n (pc' := 4) rfl rfl rfl ?_
  refine h_cge (tg := 30) (pc' := 7) rfl rfl rfl ci_0 ci_2 (fun c1 => absurd c1 (by omega)) (fun c1 => ?_)
  refine h_aload_n (pc' := 8) rfl rfl rfl ?_
  refine h_getR (pc' := 11) rfl rfl rfl rfl rfl ?_
  refine h_iload_n (pc' := 12) rfl rfl rfl ?_
  refine h_iald (pc' := 13) (v := σ 106 0) rfl rfl rfl ci_0 (by omega) (by omega) rfl (fun z2 hz2 => ?_)
  have tz2 := ty_106 hI 0
  refine h_aload_n (pc' := 14) rfl rfl rfl ?_
  refine h_getR (pc' := 17) rfl rfl rfl rfl rfl ?_
  refine h_iload_n (pc' := 18) rfl rfl rfl ?_
  refine h_iald (pc' := 19) (v := σ 106 2) rfl rfl rfl ci_2 (by omega) (by omega) rfl (fun z3 hz3 => ?_)
  have tz3 := ty_106 hI 2
  refine h_cne (tg := 24) (pc' := 22) rfl rfl rfl hz2 hz3 (fun c4 => ?_) (fun c4 => ?_)
  · refine h_iinc (pc' := 27) (b := 1) (M := fun z5 => [(3, .int z5), (0, .ref 98), (1, .int x0), (2, .int (Int32.ofInt 2))]) rfl rfl rfl rfl ci_0 ci_1 rfl (by omega) (by omega) (fun _ => rfl) (fun z5 hz5 => ?_)
    refine h_goto (pc' := 2) rfl rfl ?_
    refine h_iload_n (pc' := 3) rfl rfl rfl ?_
    refine h_iload_n (pc' := 4) rfl rfl rfl ?_
    refine h_cge (tg := 30) (pc' := 7) rfl rfl rfl hz5 ci_2 (fun c6 => absurd c6 (by omega)) (fun c6 => ?_)
    refine h_aload_n (pc' := 8) rfl rfl rfl ?_
    refine h_getR (pc' := 11) rfl rfl rfl rfl rfl ?_
    refine h_iload_n (pc' := 12) rfl rfl rfl ?_
    refine h_iald (pc' := 13) (v := σ 106 1) rfl rfl rfl hz5 (by omega) (by omega) rfl (fun z7 hz7 => ?_)
    have tz7 := ty_106 hI 1
    refine h_aload_n (pc' := 14) rfl rfl rfl ?_
    refine h_getR (pc' := 17) rfl rfl rfl rfl rfl ?_
    refine h_iload_n (pc' := 18) rfl rfl rfl ?_
    refine h_iald (pc' := 19) (v := σ 106 2) rfl rfl rfl ci_2 (by omega) (by omega) rfl (fun z8 hz8 => ?_)
    have tz8 := ty_106 hI 2
    refine h_cne (tg := 24) (pc' := 22) rfl rfl rfl hz7 hz8 (fun c9 => ?_) (fun c9 => ?_)
    · refine h_iinc (pc' := 27) (b := 2) (M := fun z10 => [(3, .int z10), (0, .ref 98), (1, .int x0), (2, .int (Int32.ofInt 2))]) rfl rfl rfl rfl hz5 ci_1 rfl (by omega) (by omega) (fun _ => rfl) (fun z10 hz10 => ?_)
      refine h_goto (pc' := 2) rfl rfl ?_
      refine h_iload_n (pc' := 3) rfl rfl rfl ?_
      refine h_iload_n (pc' := 4) rfl rfl rfl ?_
      refine h_cge (tg := 30) (pc' := 7) rfl rfl rfl hz10 ci_2 (fun c11 => ?_) (fun c11 => absurd c11 (by omega))
      refine h_iload_n (pc' := 31) rfl rfl rfl ?_
      refine h_zne (tg := 49) (pc' := 34) rfl rfl rfl ci_2 (fun c12 => ?_) (fun c12 => absurd c12 (by omega))
      refine h_aload_n (pc' := 50) rfl rfl rfl ?_
      refine h_getR (pc' := 53) rfl rfl rfl rfl rfl ?_
      refine h_iload_n (pc' := 54) rfl rfl rfl ?_
      refine h_iconst (pc' := 55) (x := (Int32.ofInt 1)) rfl rfl rfl ?_
      refine h_isub (pc' := 56) (c := 1) rfl rfl ci_2 ci_1 rfl (by omega) (by omega) (fun z13 hz13 => ?_)
      refine h_iald (pc' := 57) (v := σ 106 1) rfl rfl rfl hz13 (by omega) (by omega) rfl (fun z14 hz14 => ?_)
      have tz14 := ty_106 hI 1
      refine h_istore_n (pc' := 58) (M := [(3, .int z14), (0, .ref 98), (1, .int x0), (2, .int (Int32.ofInt 2))]) rfl rfl rfl rfl ?_
      refine h_aload_n (pc' := 59) rfl rfl rfl ?_
      refine h_aload_n (pc' := 60) rfl rfl rfl ?_
      refine h_getR (pc' := 63) rfl rfl rfl rfl rfl ?_
      refine h_iload_n (pc' := 64) rfl rfl rfl ?_
      refine h_iald (pc' := 65) (v := σ 106 2) rfl rfl rfl ci_2 (by omega) (by omega) rfl (fun z15 hz15 => ?_)
      have tz15 := ty_106 hI 2
      refine h_iload_n (pc' := 66) rfl rfl rfl ?_
      refine h_aload_n (pc' := 67) rfl rfl rfl ?_
      refine h_getR (pc' := 70) rfl rfl rfl rfl rfl ?_
      refine h_bipush (pc' := 72) (x := (Int32.ofInt 26)) rfl rfl cb_26 ?_
      refine h_iload_n (pc' := 73) rfl rfl rfl ?_
      refine h_iadd (pc' := 74) rfl rfl ci_26 hx0 rfl (by omega) (by omega) (fun z16 hz16 => ?_)
      refine h_iald (pc' := 75) (v := σ 99 (26 + a0)) rfl rfl rfl hz16 (by omega) (by omega) rfl (fun z17 hz17 => ?_)
      have tz17 := ty_99_6 hI (26 + a0) (by omega)
      refine h_call (sp := false) (pc' := 78) (M := [(0, .ref 98), (1, .int z15), (2, .int z14), (3, .int z17)]) rfl rfl rfl rfl rfl rfl rfl rfl ?_
      refine n_may _ hI z15 _ hz15 (by omega) z14 _ hz14 (by omega) z17 _ hz17 (fun r18 br18 hr18 tr18 ps19_0 => h_Kv ?_)
      exact h_zret rfl rfl hr18 (by omega) (kk _ _ hr18 (by omega) (by have gm := ps19_0; rw [show g_nd (σ 106) (σ 106 2) 2 = true from g_nd_t 2 (fun k k0 k1 => by rcases (show k = 0 ∨ k = 1 by omega) with rfl | rfl <;> omega), Bool.true_and]; exact gm) (by omega) (by omega))
    · refine h_iconst (pc' := 23) (x := (Int32.ofInt 0)) rfl rfl rfl ?_
      exact h_zret rfl rfl ci_0 (by omega) (kk _ _ ci_0 (by omega) (g_if_0 (by rw [show g_nd (σ 106) (σ 106 2) 2 = false by first | exact g_nd_f (k := 0) (by omega) (by omega) 2 (by omega) | exact g_nd_f (k := 1) (by omega) (by omega) 2 (by omega), Bool.false_and]) rfl) (by omega) (by omega))
  · refine h_iconst (pc' := 23) (x := (Int32.ofInt 0)) rfl rfl rfl ?_
    exact h_zret rfl rfl ci_0 (by omega) (kk _ _ ci_0 (by omega) (g_if_0 (by rw [show g_nd (σ 106) (σ 106 2) 2 = false by first | exact g_nd_f (k := 0) (by omega) (by omega) 2 (by omega) | exact g_nd_f (k := 1) (by omega) (by omega) 2 (by omega), Bool.false_and]) rfl) (by omega) (by omega))
set_option maxHeartbeats 100000000 in
theorem n_st3 {ns : Nat} (σ : h_S) (hI : h_I σ) (x0 : Int32) (a0 : Int) (hx0 : x0.toInt = a0) (ra0 : 0 ≤ a0 ∧ a0 ≤ 2) (pr0 : 0 ≤ σ 106 3 ∧ σ 106 3 ≤ 5) (pr1 : 0 ≤ σ 106 2 ∧ σ 106 2 ≤ 5) {Q : Option Value → h_S → Prop} (kk : ∀ (r : Int32) (b : Int) (hb : r.toInt = b), (0 ≤ b ∧ b ≤ 1) → (b = if (g_nd (σ 106) (σ 106 3) 3 && g_yM (σ 105) (fun i => σ 99 (19 + 2 * i)) (fun i => σ 99 (19 + 2 * i + 1)) (σ 99 25) (σ 106 3) (g_pv (σ 106) (g_orn (σ 99 (29 + a0))) 3) (σ 99 (26 + a0))) = true then 1 else 0) → (b = 1 → ¬ σ 106 0 = σ 106 3) → (b = 1 → ¬ σ 106 1 = σ 106 3) → (b = 1 → ¬ σ 106 2 = σ 106 3) → Q (some (.int r)) σ) : h_T g_P (g_Y ns) 196 0 [(0, .ref 98), (1, .int x0), (2, .int (Int32.ofInt 3))] [] σ Q := by
  refine h_iconst (pc' := 1) (x := (Int32.ofInt 0)) rfl rfl rfl ?_
  refine h_istore_n (pc' := 2) (M := [(3, .int (Int32.ofInt 0)), (0, .ref 98), (1, .int x0), (2, .int (Int32.ofInt 3))]) rfl rfl rfl rfl ?_
  refine h_iload_n (pc' := 3) rfl rfl rfl ?_
  refine h_iload_n (pc' := 4) rfl rfl rfl ?_
  refine h_cge (tg := 30) (pc' := 7) rfl rfl rfl ci_0 ci_3 (fun c1 => absurd c1 (by omega)) (fun c1 => ?_)
  refine h_aload_n (pc' := 8) rfl rfl rfl ?_
  refine h_getR (pc' := 11) rfl rfl rfl rfl rfl ?_
  refine h_iload_n (pc' := 12) rfl rfl rfl ?_
  refine h_iald (pc' := 13) (v := σ 106 0) rfl rfl rfl ci_0 (by omega) (by omega) rfl (fun z2 hz2 => ?_)
  have tz2 := ty_106 hI 0
  refine h_aload_n (pc' := 14) rfl rfl rfl ?_
  refine h_getR (pc' := 17) rfl rfl rfl rfl rfl ?_
  refine h_iload_n (pc' := 18) rfl rfl rfl ?_
  refine h_iald (pc' := 19) (v := σ 106 3) rfl rfl rfl ci_3 (by omega) (by omega) rfl (fun z3 hz3 => ?_)
  have tz3 := ty_106 hI 3
  refine h_cne (tg := 24) (pc' := 22) rfl rfl rfl hz2 hz3 (fun c4 => ?_) (fun c4 => ?_)
  · refine h_iinc (pc' := 27) (b := 1) (M := fun z5 => [(3, .int z5), (0, .ref 98), (1, .int x0), (2, .int (Int32.ofInt 3))]) rfl rfl rfl rfl ci_0 ci_1 rfl (by omega) (by omega) (fun _ => rfl) (fun z5 hz5 => ?_)
    refine h_goto (pc' := 2) rfl rfl ?_
    refine h_iload_n (pc' := 3) rfl rfl rfl ?_
    refine h_iload_n (pc' := 4) rfl rfl rfl ?_
    refine h_cge (tg := 30) (pc' := 7) rfl rfl rfl hz5 ci_3 (fun c6 => absurd c6 (by omega)) (fun c6 => ?_)
    refine h_aload_n (pc' := 8) rfl rfl rfl ?_
    refine h_getR (pc' := 11) rfl rfl rfl rfl rfl ?_
    refine h_iload_n (pc' := 12) rfl rfl rfl ?_
    refine h_iald (pc' := 13) (v := σ 106 1) rfl rfl rfl hz5 (by omega) (by omega) rfl (fun z7 hz7 => ?_)
    have tz7 := ty_106 hI 1
    refine h_aload_n (pc' := 14) rfl rfl rfl ?_
    refine h_getR (pc' := 17) rfl rfl rfl rfl rfl ?_
    refine h_iload_n (pc' := 18) rfl rfl rfl ?_
    refine h_iald (pc' := 19) (v := σ 106 3) rfl rfl rfl ci_3 (by omega) (by omega) rfl (fun z8 hz8 => ?_)
    have tz8 := ty_106 hI 3
    refine h_cne (tg := 24) (pc' := 22) rfl rfl rfl hz7 hz8 (fun c9 => ?_) (fun c9 => ?_)
    · refine h_iinc (pc' := 27) (b := 2) (M := fun z10 => [(3, .int z10), (0, .ref 98), (1, .int x0), (2, .int (Int32.ofInt 3))]) rfl rfl rfl rfl hz5 ci_1 rfl (by omega) (by omega) (fun _ => rfl) (fun z10 hz10 => ?_)
      refine h_goto (pc' := 2) rfl rfl ?_
      refine h_iload_n (pc' := 3) rfl rfl rfl ?_
      refine h_iload_n (pc' := 4) rfl rfl rfl ?_
      refine h_cge (tg := 30) (pc' := 7) rfl rfl rfl hz10 ci_3 (fun c11 => absurd c11 (by omega)) (fun c11 => ?_)
      refine h_aload_n (pc' := 8) rfl rfl rfl ?_
      refine h_getR (pc' := 11) rfl rfl rfl rfl rfl ?_
      refine h_iload_n (pc' := 12) rfl rfl rfl ?_
      refine h_iald (pc' := 13) (v := σ 106 2) rfl rfl rfl hz10 (by omega) (by omega) rfl (fun z12 hz12 => ?_)
      have tz12 := ty_106 hI 2
      refine h_aload_n (pc' := 14) rfl rfl rfl ?_
      refine h_getR (pc' := 17) rfl rfl rfl rfl rfl ?_
      refine h_iload_n (pc' := 18) rfl rfl rfl ?_
      refine h_iald (pc' := 19) (v := σ 106 3) rfl rfl rfl ci_3 (by omega) (by omega) rfl (fun z13 hz13 => ?_)
      have tz13 := ty_106 hI 3
      refine h_cne (tg := 24) (pc' := 22) rfl rfl rfl hz12 hz13 (fun c14 => ?_) (fun c14 => ?_)
      · refine h_iinc (pc' := 27) (b := 3) (M := fun z15 => [(3, .int z15), (0, .ref 98), (1, .int x0), (2, .int (Int32.ofInt 3))]) rfl rfl rfl rfl hz10 ci_1 rfl (by omega) (by omega) (fun _ => rfl) (fun z15 hz15 => ?_)
        refine h_goto (pc' := 2) rfl rfl ?_
        refine h_iload_n (pc' := 3) rfl rfl rfl ?_
        refine h_iload_n (pc' := 4) rfl rfl rfl ?_
        refine h_cge (tg := 30) (pc' := 7) rfl rfl rfl hz15 ci_3 (fun c16 => ?_) (fun c16 => absurd c16 (by omega))
        refine h_iload_n (pc' := 31) rfl rfl rfl ?_
        refine h_zne (tg := 49) (pc' := 34) rfl rfl rfl ci_3 (fun c17 => ?_) (fun c17 => absurd c17 (by omega))
        refine h_aload_n (pc' := 50) rfl rfl rfl ?_
        refine h_getR (pc' := 53) rfl rfl rfl rfl rfl ?_
        refine h_iload_n (pc' := 54) rfl rfl rfl ?_
        refine h_iconst (pc' := 55) (x := (Int32.ofInt 1)) rfl rfl rfl ?_
        refine h_isub (pc' := 56) (c := 2) rfl rfl ci_3 ci_1 rfl (by omega) (by omega) (fun z18 hz18 => ?_)
        refine h_iald (pc' := 57) (v := σ 106 2) rfl rfl rfl hz18 (by omega) (by omega) rfl (fun z19 hz19 => ?_)
        have tz19 := ty_106 hI 2
        refine h_istore_n (pc' := 58) (M := [(3, .int z19), (0, .ref 98), (1, .int x0), (2, .int (Int32.ofInt 3))]) rfl rfl rfl rfl ?_
        refine h_aload_n (pc' := 59) rfl rfl rfl ?_
        refine h_aload_n (pc' := 60) rfl rfl rfl ?_
        refine h_getR (pc' := 63) rfl rfl rfl rfl rfl ?_
        refine h_iload_n (pc' := 64) rfl rfl rfl ?_
        refine h_iald (pc' := 65) (v := σ 106 3) rfl rfl rfl ci_3 (by omega) (by omega) rfl (fun z20 hz20 => ?_)
        have tz20 := ty_106 hI 3
        refine h_iload_n (pc' := 66) rfl rfl rfl ?_
        refine h_aload_n (pc' := 67) rfl rfl rfl ?_
        refine h_getR (pc' := 70) rfl rfl rfl rfl rfl ?_
        refine h_bipush (pc' := 72) (x := (Int32.ofInt 26)) rfl rfl cb_26 ?_
        refine h_iload_n (pc' := 73) rfl rfl rfl ?_
        refine h_iadd (pc' := 74) rfl rfl ci_26 hx0 rfl (by omega) (by omega) (fun z21 hz21 => ?_)
        refine h_iald (pc' := 75) (v := σ 99 (26 + a0)) rfl rfl rfl hz21 (by omega) (by omega) rfl (fun z22 hz22 => ?_)
        have tz22 := ty_99_6 hI (26 + a0) (by omega)
        refine h_call (sp := false) (pc' := 78) (M := [(0, .ref 98), (1, .int z20), (2, .int z19), (3, .int z22)]) rfl rfl rfl rfl rfl rfl rfl rfl ?_
        refine n_may _ hI z20 _ hz20 (by omega) z19 _ hz19 (by omega) z22 _ hz22 (fun r23 br23 hr23 tr23 ps24_0 => h_Kv ?_)
        exact h_zret rfl rfl hr23 (by omega) (kk _ _ hr23 (by omega) (by have gm := ps24_0; rw [show g_nd (σ 106) (σ 106 3) 3 = true from g_nd_t 3 (fun k k0 k1 => by rcases (show k = 0 ∨ k = 1 ∨ k = 2 by omega) with rfl | rfl | rfl <;> omega), Bool.true_and]; exact gm) (by omega) (by omega) (by omega))
      · refine h_iconst (pc' := 23) (x := (Int32.ofInt 0)) rfl rfl rfl ?_
        exact h_zret rfl rfl ci_0 (by omega) (kk _ _ ci_0 (by omega) (g_if_0 (by rw [show g_nd (σ 106) (σ 106 3) 3 = false by first | exact g_nd_f (k := 0) (by omega) (by omega) 3 (by omega) | exact g_nd_f (k := 1) (by omega) (by omega) 3 (by omega) | exact g_nd_f (k := 2) (by omega) (by omega) 3 (by omega), Bool.false_and]) rfl) (by omega) (by omega) (by omega))
    · refine h_iconst (pc' := 23) (x := (Int32.ofInt 0)) rfl rfl rfl ?_
      exact h_zret rfl rfl ci_0 (by omega) (kk _ _ ci_0 (by omega) (g_if_0 (by rw [show g_nd (σ 106) (σ 106 3) 3 = false by first | exact g_nd_f (k := 0) (by omega) (by omega) 3 (by omega) | exact g_nd_f (k := 1) (by omega) (by omega) 3 (by omega) | exact g_nd_f (k := 2) (by omega) (by omega) 3 (by omega), Bool.false_and]) rfl) (by omega) (by omega) (by omega))
  · refine h_iconst (pc' := 23) (x := (Int32.ofInt 0)) rfl rfl rfl ?_
    exact h_zret rfl rfl ci_0 (by omega) (kk _ _ ci_0 (by omega) (g_if_0 (by rw [show g_nd (σ 106) (σ 106 3) 3 = false by first | exact g_nd_f (k := 0) (by omega) (by omega) 3 (by omega) | exact g_nd_f (k := 1) (by omega) (by omega) 3 (by omega) | exact g_nd_f (k := 2) (by omega) (by omega) 3 (by omega), Bool.false_and]) rfl) (by omega) (by omega) (by omega))
set_option maxHeartbeats 100000000 in
theorem n_st4 {ns : Nat} (σ : h_S) (hI : h_I σ) (x0 : Int32) (a0 : Int) (hx0 : x0.toInt = a0) (ra0 : 0 ≤ a0 ∧ a0 ≤ 2) (pr0 : 0 ≤ σ 106 4 ∧ σ 106 4 ≤ 5) (pr1 : 0 ≤ σ 106 3 ∧ σ 106 3 ≤ 5) {Q : Option Value → h_S → Prop} (kk : ∀ (r : Int32) (b : Int) (hb : r.toInt = b), (0 ≤ b ∧ b ≤ 1) → (b = if (g_nd (σ 106) (σ 106 4) 4 && g_yM (σ 105) (fun i => σ 99 (19 + 2 * i)) (fun i => σ 99 (19 + 2 * i + 1)) (σ 99 25) (σ 106 4) (g_pv (σ 106) (g_orn (σ 99 (29 + a0))) 4) (σ 99 (26 + a0))) = true then 1 else 0) → (b = 1 → ¬ σ 106 0 = σ 106 4) → (b = 1 → ¬ σ 106 1 = σ 106 4) → (b = 1 → ¬ σ 106 2 = σ 106 4) → (b = 1 → ¬ σ 106 3 = σ 106 4) → Q (some (.int r)) σ) : h_T g_P (g_Y ns) 196 0 [(0, .ref 98), (1, .int x0), (2, .int (Int32.ofInt 4))] [] σ Q := by
  refine h_iconst (pc' := 1) (x := (Int32.ofInt 0)) rfl rfl rfl ?_
  refine h_istore_n (pc' := 2) (M := [(3, .int (Int32.ofInt 0)), (0, .ref 98), (1, .int x0), (2, .int (Int32.ofInt 4))]) rfl rfl rfl rfl ?_
  refine h_iload_n (pc' := 3) rfl rfl rfl ?_
  refine h_iload_n (pc' := 4) rfl rfl rfl ?_
  refine h_cge (tg := 30) (pc' := 7) rfl rfl rfl ci_0 ci_4 (fun c1 => absurd c1 (by omega)) (fun c1 => ?_)
  refine h_aload_n (pc' := 8) rfl rfl rfl ?_
  refine h_getR (pc' := 11) rfl rfl rfl rfl rfl ?_
  refine h_iload_n (pc' := 12) rfl rfl rfl ?_
  refine h_iald (pc' := 13) (v := σ 106 0) rfl rfl rfl ci_0 (by omega) (by omega) rfl (fun z2 hz2 => ?_)
  have tz2 := ty_106 hI 0
  refine h_aload_n (pc' := 14) rfl rfl rfl ?_
  refine h_getR (pc' := 17) rfl rfl rfl rfl rfl ?_
  refine h_iload_n (pc' := 18) rfl rfl rfl ?_
  refine h_iald (pc' := 19) (v := σ 106 4) rfl rfl rfl ci_4 (by omega) (by omega) rfl (fun z3 hz3 => ?_)
  have tz3 := ty_106 hI 4
  refine h_cne (tg := 24) (pc' := 22) rfl rfl rfl hz2 hz3 (fun c4 => ?_) (fun c4 => ?_)
  · refine h_iinc (pc' := 27) (b := 1) (M := fun z5 => [(3, .int z5), (0, .ref 98), (1, .int x0), (2, .int (Int32.ofInt 4))]) rfl rfl rfl rfl ci_0 ci_1 rfl (by omega) (by omega) (fun _ => rfl) (fun z5 hz5 => ?_)
    refine h_goto (pc' := 2) rfl rfl ?_
    refine h_iload_n (pc' := 3) rfl rfl rfl ?_
    refine h_iload_n (pc' := 4) rfl rfl rfl ?_
    refine h_cge (tg := 30) (pc' := 7) rfl rfl rfl hz5 ci_4 (fun c6 => absurd c6 (by omega)) (fun c6 => ?_)
    refine h_aload_n (pc' := 8) rfl rfl rfl ?_
    refine h_getR (pc' := 11) rfl rfl rfl rfl rfl ?_
    refine h_iload_n (pc' := 12) rfl rfl rfl ?_
    refine h_iald (pc' := 13) (v := σ 106 1) rfl rfl rfl hz5 (by omega) (by omega) rfl (fun z7 hz7 => ?_)
    have tz7 := ty_106 hI 1
    refine h_aload_n (pc' := 14) rfl rfl rfl ?_
    refine h_getR (pc' := 17) rfl rfl rfl rfl rfl ?_
    refine h_iload_n (pc' := 18) rfl rfl rfl ?_
    refine h_iald (pc' := 19) (v := σ 106 4) rfl rfl rfl ci_4 (by omega) (by omega) rfl (fun z8 hz8 => ?_)
    have tz8 := ty_106 hI 4
    refine h_cne (tg := 24) (pc' := 22) rfl rfl rfl hz7 hz8 (fun c9 => ?_) (fun c9 => ?_)
    · refine h_iinc (pc' := 27) (b := 2) (M := fun z10 => [(3, .int z10), (0, .ref 98), (1, .int x0), (2, .int (Int32.ofInt 4))]) rfl rfl rfl rfl hz5 ci_1 rfl (by omega) (by omega) (fun _ => rfl) (fun z10 hz10 => ?_)
      refine h_goto (pc' := 2) rfl rfl ?_
      refine h_iload_n (pc' := 3) rfl rfl rfl ?_
      refine h_iload_n (pc' := 4) rfl rfl rfl ?_
      refine h_cge (tg := 30) (pc' := 7) rfl rfl rfl hz10 ci_4 (fun c11 => absurd c11 (by omega)) (fun c11 => ?_)
      refine h_aload_n (pc' := 8) rfl rfl rfl ?_
      refine h_getR (pc' := 11) rfl rfl rfl rfl rfl ?_
      refine h_iload_n (pc' := 12) rfl rfl rfl ?_
      refine h_iald (pc' := 13) (v := σ 106 2) rfl rfl rfl hz10 (by omega) (by omega) rfl (fun z12 hz12 => ?_)
      have tz12 := ty_106 hI 2
      refine h_aload_n (pc' := 14) rfl rfl rfl ?_
      refine h_getR (pc' := 17) rfl rfl rfl rfl rfl ?_
      refine h_iload_n (pc' := 18) rfl rfl rfl ?_
      refine h_iald (pc' := 19) (v := σ 106 4) rfl rfl rfl ci_4 (by omega) (by omega) rfl (fun z13 hz13 => ?_)
      have tz13 := ty_106 hI 4
      refine h_cne (tg := 24) (pc' := 22) rfl rfl rfl hz12 hz13 (fun c14 => ?_) (fun c14 => ?_)
      · refine h_iinc (pc' := 27) (b := 3) (M := fun z15 => [(3, .int z15), (0, .ref 98), (1, .int x0), (2, .int (Int32.ofInt 4))]) rfl rfl rfl rfl hz10 ci_1 rfl (by omega) (by omega) (fun _ => rfl) (fun z15 hz15 => ?_)
        refine h_goto (pc' := 2) rfl rfl ?_
        refine h_iload_n (pc' := 3) rfl rfl rfl ?_
        refine h_iload_n (pc' := 4) rfl rfl rfl ?_
        refine h_cge (tg := 30) (pc' := 7) rfl rfl rfl hz15 ci_4 (fun c16 => absurd c16 (by omega)) (fun c16 => ?_)
        refine h_aload_n (pc' := 8) rfl rfl rfl ?_
        refine h_getR (pc' := 11) rfl rfl rfl rfl rfl ?_
        refine h_iload_n (pc' := 12) rfl rfl rfl ?_
        refine h_iald (pc' := 13) (v := σ 106 3) rfl rfl rfl hz15 (by omega) (by omega) rfl (fun z17 hz17 => ?_)
        have tz17 := ty_106 hI 3
        refine h_aload_n (pc' := 14) rfl rfl rfl ?_
        refine h_getR (pc' := 17) rfl rfl rfl rfl rfl ?_
        refine h_iload_n (pc' := 18) rfl rfl rfl ?_
        refine h_iald (pc' := 19) (v := σ 106 4) rfl rfl rfl ci_4 (by omega) (by omega) rfl (fun z18 hz18 => ?_)
        have tz18 := ty_106 hI 4
        refine h_cne (tg := 24) (pc' := 22) rfl rfl rfl hz17 hz18 (fun c19 => ?_) (fun c19 => ?_)
        · refine h_iinc (pc' := 27) (b := 4) (M := fun z20 => [(3, .int z20), (0, .ref 98), (1, .int x0), (2, .int (Int32.ofInt 4))]) rfl rfl rfl rfl hz15 ci_1 rfl (by omega) (by omega) (fun _ => rfl) (fun z20 hz20 => ?_)
          refine h_goto (pc' := 2) rfl rfl ?_
          refine h_iload_n (pc' := 3) rfl rfl rfl ?_
          refine h_iload_n (pc' := 4) rfl rfl rfl ?_
          refine h_cge (tg := 30) (pc' := 7) rfl rfl rfl hz20 ci_4 (fun c21 => ?_) (fun c21 => absurd c21 (by omega))
          refine h_iload_n (pc' := 31) rfl rfl rfl ?_
          refine h_zne (tg := 49) (pc' := 34) rfl rfl rfl ci_4 (fun c22 => ?_) (fun c22 => absurd c22 (by omega))
          refine h_aload_n (pc' := 50) rfl rfl rfl ?_
          refine h_getR (pc' := 53) rfl rfl rfl rfl rfl ?_
          refine h_iload_n (pc' := 54) rfl rfl rfl ?_
          refine h_iconst (pc' := 55) (x := (Int32.ofInt 1)) rfl rfl rfl ?_
          refine h_isub (pc' := 56) (c := 3) rfl rfl ci_4 ci_1 rfl (by omega) (by omega) (fun z23 hz23 => ?_)
          refine h_iald (pc' := 57) (v := σ 106 3) rfl rfl rfl hz23 (by omega) (by omega) rfl (fun z24 hz24 => ?_)
          have tz24 := ty_106 hI 3
          refine h_istore_n (pc' := 58) (M := [(3, .int z24), (0, .ref 98), (1, .int x0), (2, .int (Int32.ofInt 4))]) rfl rfl rfl rfl ?_
          refine h_aload_n (pc' := 59) rfl rfl rfl ?_
          refine h_aload_n (pc' := 60) rfl rfl rfl ?_
          refine h_getR (pc' := 63) rfl rfl rfl rfl rfl ?_
          refine h_iload_n (pc' := 64) rfl rfl rfl ?_
          refine h_iald (pc' := 65) (v := σ 106 4) rfl rfl rfl ci_4 (by omega) (by omega) rfl (fun z25 hz25 => ?_)
          have tz25 := ty_106 hI 4
          refine h_iload_n (pc' := 66) rfl rfl rfl ?_
          refine h_aload_n (pc' := 67) rfl rfl rfl ?_
          refine h_getR (pc' := 70) rfl rfl rfl rfl rfl ?_
          refine h_bipush (pc' := 72) (x := (Int32.ofInt 26)) rfl rfl cb_26 ?_
          refine h_iload_n (pc' := 73) rfl rfl rfl ?_
          refine h_iadd (pc' := 74) rfl rfl ci_26 hx0 rfl (by omega) (by omega) (fun z26 hz26 => ?_)
          refine h_iald (pc' := 75) (v := σ 99 (26 + a0)) rfl rfl rfl hz26 (by omega) (by omega) rfl (fun z27 hz27 => ?_)
          have tz27 := ty_99_6 hI (26 + a0) (by omega)
          refine h_call (sp := false) (pc' := 78) (M := [(0, .ref 98), (1, .int z25), (2, .int z24), (3, .int z27)]) rfl rfl rfl rfl rfl rfl rfl rfl ?_
          refine n_may _ hI z25 _ hz25 (by omega) z24 _ hz24 (by omega) z27 _ hz27 (fun r28 br28 hr28 tr28 ps29_0 => h_Kv ?_)
          exact h_zret rfl rfl hr28 (by omega) (kk _ _ hr28 (by omega) (by have gm := ps29_0; rw [show g_nd (σ 106) (σ 106 4) 4 = true from g_nd_t 4 (fun k k0 k1 => by rcases (show k = 0 ∨ k = 1 ∨ k = 2 ∨ k = 3 by omega) with rfl | rfl | rfl | rfl <;> omega), Bool.true_and]; exact gm) (by omega) (by omega) (by omega) (by omega))
        · refine h_iconst (pc' := 23) (x := (Int32.ofInt 0)) rfl rfl rfl ?_
          exact h_zret rfl rfl ci_0 (by omega) (kk _ _ ci_0 (by omega) (g_if_0 (by rw [show g_nd (σ 106) (σ 106 4) 4 = false by first | exact g_nd_f (k := 0) (by omega) (by omega) 4 (by omega) | exact g_nd_f (k := 1) (by omega) (by omega) 4 (by omega) | exact g_nd_f (k := 2) (by omega) (by omega) 4 (by omega) | exact g_nd_f (k := 3) (by omega) (by omega) 4 (by omega), Bool.false_and]) rfl) (by omega) (by omega) (by omega) (by omega))
      · refine h_iconst (pc' := 23) (x := (Int32.ofInt 0)) rfl rfl rfl ?_
        exact h_zret rfl rfl ci_0 (by omega) (kk _ _ ci_0 (by omega) (g_if_0 (by rw [show g_nd (σ 106) (σ 106 4) 4 = false by first | exact g_nd_f (k := 0) (by omega) (by omega) 4 (by omega) | exact g_nd_f (k := 1) (by omega) (by omega) 4 (by omega) | exact g_nd_f (k := 2) (by omega) (by omega) 4 (by omega) | exact g_nd_f (k := 3) (by omega) (by omega) 4 (by omega), Bool.false_and]) rfl) (by omega) (by omega) (by omega) (by omega))
    · refine h_iconst (pc' := 23) (x := (Int32.ofInt 0)) rfl rfl rfl ?_
      exact h_zret rfl rfl ci_0 (by omega) (kk _ _ ci_0 (by omega) (g_if_0 (by rw [show g_nd (σ 106) (σ 106 4) 4 = false by first | exact g_nd_f (k := 0) (by omega) (by omega) 4 (by omega) | exact g_nd_f (k := 1) (by omega) (by omega) 4 (by omega) | exact g_nd_f (k := 2) (by omega) (by omega) 4 (by omega) | exact g_nd_f (k := 3) (by omega) (by omega) 4 (by omega), Bool.false_and]) rfl) (by omega) (by omega) (by omega) (by omega))
  · refine h_iconst (pc' := 23) (x := (Int32.ofInt 0)) rfl rfl rfl ?_
    exact h_zret rfl rfl ci_0 (by omega) (kk _ _ ci_0 (by omega) (g_if_0 (by rw [show g_nd (σ 106) (σ 106 4) 4 = false by first | exact g_nd_f (k := 0) (by omega) (by omega) 4 (by omega) | exact g_nd_f (k := 1) (by omega) (by omega) 4 (by omega) | exact g_nd_f (k := 2) (by omega) (by omega) 4 (by omega) | exact g_nd_f (k := 3) (by omega) (by omega) 4 (by omega), Bool.false_and]) rfl) (by omega) (by omega) (by omega) (by omega))
set_option maxHeartbeats 100000000 in
theorem n_st5 {ns : Nat} (σ : h_S) (hI : h_I σ) (x0 : Int32) (a0 : Int) (hx0 : x0.toInt = a0) (ra0 : 0 ≤ a0 ∧ a0 ≤ 2) (pr0 : 0 ≤ σ 106 5 ∧ σ 106 5 ≤ 5) (pr1 : 0 ≤ σ 106 4 ∧ σ 106 4 ≤ 5) {Q : Option Value → h_S → Prop} (kk : ∀ (r : Int32) (b : Int) (hb : r.toInt = b), (0 ≤ b ∧ b ≤ 1) → (b = if (g_nd (σ 106) (σ 106 5) 5 && g_yM (σ 105) (fun i => σ 99 (19 + 2 * i)) (fun i => σ 99 (19 + 2 * i + 1)) (σ 99 25) (σ 106 5) (g_pv (σ 106) (g_orn (σ 99 (29 + a0))) 5) (σ 99 (26 + a0))) = true then 1 else 0) → (b = 1 → ¬ σ 106 0 = σ 106 5) → (b = 1 → ¬ σ 106 1 = σ 106 5) → (b = 1 → ¬ σ 106 2 = σ 106 5) → (b = 1 → ¬ σ 106 3 = σ 106 5) → (b = 1 → ¬ σ 106 4 = σ 106 5) → Q (some (.int r)) σ) : h_T g_P (g_Y ns) 196 0 [(0, .ref 98), (1, .int x0), (2, .int (Int32.ofInt 5))] [] σ Q := by
  refine h_iconst (pc' := 1) (x := (Int32.ofInt 0)) rfl rfl rfl ?_
  refine h_istore_n (pc' := 2) (M := [(3, .int (Int32.ofInt 0)), (0, .ref 98), (1, .int x0), (2, .int (Int32.ofInt 5))]) rfl rfl rfl rfl ?_
  refine h_iload_n (pc' := 3) rfl rfl rfl ?_
  refine h_iload_n (pc' := 4) rfl rfl rfl ?_
  refine h_cge (tg := 30) (pc' := 7) rfl rfl rfl ci_0 ci_5 (fun c1 => absurd c1 (by omega)) (fun c1 => ?_)
  refine h_aload_n (pc' := 8) rfl rfl rfl ?_
  refine h_getR (pc' := 11) rfl rfl rfl rfl rfl ?_
  refine h_iload_n (pc' := 12) rfl rfl rfl ?_
  refine h_iald (pc' := 13) (v := σ 106 0) rfl rfl rfl ci_0 (by omega) (by omega) rfl (fun z2 hz2 => ?_)
  have tz2 := ty_106 hI 0
  refine h_aload_n (pc' := 14) rfl rfl rfl ?_
  refine h_getR (pc' := 17) rfl rfl rfl rfl rfl ?_
  refine h_iload_n (pc' := 18) rfl rfl rfl ?_
  refine h_iald (pc' := 19) (v := σ 106 5) rfl rfl rfl ci_5 (by omega) (by omega) rfl (fun z3 hz3 => ?_)
  have tz3 := ty_106 hI 5
  refine h_cne (tg := 24) (pc' := 22) rfl rfl rfl hz2 hz3 (fun c4 => ?_) (fun c4 => ?_)
  · refine h_iinc (pc' := 27) (b := 1) (M := fun z5 => [(3, .int z5), (0, .ref 98), (1, .int x0), (2, .int (Int32.ofInt 5))]) rfl rfl rfl rfl ci_0 ci_1 rfl (by omega) (by omega) (fun _ => rfl) (fun z5 hz5 => ?_)
    refine h_goto (pc' := 2) rfl rfl ?_
    refine h_iload_n (pc' := 3) rfl rfl rfl ?_
    refine h_iload_n (pc' := 4) rfl rfl rfl ?_
    refine h_cge (tg := 30) (pc' := 7) rfl rfl rfl hz5 ci_5 (fun c6 => absurd c6 (by omega)) (fun c6 => ?_)
    refine h_aload_n (pc' := 8) rfl rfl rfl ?_
    refine h_getR (pc' := 11) rfl rfl rfl rfl rfl ?_
    refine h_iload_n (pc' := 12) rfl rfl rfl ?_
    refine h_iald (pc' := 13) (v := σ 106 1) rfl rfl rfl hz5 (by omega) (by omega) rfl (fun z7 hz7 => ?_)
    have tz7 := ty_106 hI 1
    refine h_aload_n (pc' := 14) rfl rfl rfl ?_
    refine h_getR (pc' := 17) rfl rfl rfl rfl rfl ?_
    refine h_iload_n (pc' := 18) rfl rfl rfl ?_
    refine h_iald (pc' := 19) (v := σ 106 5) rfl rfl rfl ci_5 (by omega) (by omega) rfl (fun z8 hz8 => ?_)
    have tz8 := ty_106 hI 5
    refine h_cne (tg := 24) (pc' := 22) rfl rfl rfl hz7 hz8 (fun c9 => ?_) (fun c9 => ?_)
    · refine h_iinc (pc' := 27) (b := 2) (M := fun z10 => [(3, .int z10), (0, .ref 98), (1, .int x0), (2, .int (Int32.ofInt 5))]) rfl rfl rfl rfl hz5 ci_1 rfl (by omega) (by omega) (fun _ => rfl) (fun z10 hz10 => ?_)
      refine h_goto (pc' := 2) rfl rfl ?_
      refine h_iload_n (pc' := 3) rfl rfl rfl ?_
      refine h_iload_n (pc' := 4) rfl rfl rfl ?_
      refine h_cge (tg := 30) (pc' := 7) rfl rfl rfl hz10 ci_5 (fun c11 => absurd c11 (by omega)) (fun c11 => ?_)
      refine h_aload_n (pc' := 8) rfl rfl rfl ?_
      refine h_getR (pc' := 11) rfl rfl rfl rfl rfl ?_
      refine h_iload_n (pc' := 12) rfl rfl rfl ?_
      refine h_iald (pc' := 13) (v := σ 106 2) rfl rfl rfl hz10 (by omega) (by omega) rfl (fun z12 hz12 => ?_)
      have tz12 := ty_106 hI 2
      refine h_aload_n (pc' := 14) rfl rfl rfl ?_
      refine h_getR (pc' := 17) rfl rfl rfl rfl rfl ?_
      refine h_iload_n (pc' := 18) rfl rfl rfl ?_
      refine h_iald (pc' := 19) (v := σ 106 5) rfl rfl rfl ci_5 (by omega) (by omega) rfl (fun z13 hz13 => ?_)
      have tz13 := ty_106 hI 5
      refine h_cne (tg := 24) (pc' := 22) rfl rfl rfl hz12 hz13 (fun c14 => ?_) (fun c14 => ?_)
      · refine h_iinc (pc' := 27) (b := 3) (M := fun z15 => [(3, .int z15), (0, .ref 98), (1, .int x0), (2, .int (Int32.ofInt 5))]) rfl rfl rfl rfl hz10 ci_1 rfl (by omega) (by omega) (fun _ => rfl) (fun z15 hz15 => ?_)
        refine h_goto (pc' := 2) rfl rfl ?_
        refine h_iload_n (pc' := 3) rfl rfl rfl ?_
        refine h_iload_n (pc' := 4) rfl rfl rfl ?_
        refine h_cge (tg := 30) (pc' := 7) rfl rfl rfl hz15 ci_5 (fun c16 => absurd c16 (by omega)) (fun c16 => ?_)
        refine h_aload_n (pc' := 8) rfl rfl rfl ?_
        refine h_getR (pc' := 11) rfl rfl rfl rfl rfl ?_
        refine h_iload_n (pc' := 12) rfl rfl rfl ?_
        refine h_iald (pc' := 13) (v := σ 106 3) rfl rfl rfl hz15 (by omega) (by omega) rfl (fun z17 hz17 => ?_)
        have tz17 := ty_106 hI 3
        refine h_aload_n (pc' := 14) rfl rfl rfl ?_
        refine h_getR (pc' := 17) rfl rfl rfl rfl rfl ?_
        refine h_iload_n (pc' := 18) rfl rfl rfl ?_
        refine h_iald (pc' := 19) (v := σ 106 5) rfl rfl rfl ci_5 (by omega) (by omega) rfl (fun z18 hz18 => ?_)
        have tz18 := ty_106 hI 5
        refine h_cne (tg := 24) (pc' := 22) rfl rfl rfl hz17 hz18 (fun c19 => ?_) (fun c19 => ?_)
        · refine h_iinc (pc' := 27) (b := 4) (M := fun z20 => [(3, .int z20), (0, .ref 98), (1, .int x0), (2, .int (Int32.ofInt 5))]) rfl rfl rfl rfl hz15 ci_1 rfl (by omega) (by omega) (fun _ => rfl) (fun z20 hz20 => ?_)
          refine h_goto (pc' := 2) rfl rfl ?_
          refine h_iload_n (pc' := 3) rfl rfl rfl ?_
          refine h_iload_n (pc' := 4) rfl rfl rfl ?_
          refine h_cge (tg := 30) (pc' := 7) rfl rfl rfl hz20 ci_5 (fun c21 => absurd c21 (by omega)) (fun c21 => ?_)
          refine h_aload_n (pc' := 8) rfl rfl rfl ?_
          refine h_getR (pc' := 11) rfl rfl rfl rfl rfl ?_
          refine h_iload_n (pc' := 12) rfl rfl rfl ?_
          refine h_iald (pc' := 13) (v := σ 106 4) rfl rfl rfl hz20 (by omega) (by omega) rfl (fun z22 hz22 => ?_)
          have tz22 := ty_106 hI 4
          refine h_aload_n (pc' := 14) rfl rfl rfl ?_
          refine h_getR (pc' := 17) rfl rfl rfl rfl rfl ?_
          refine h_iload_n (pc' := 18) rfl rfl rfl ?_
          refine h_iald (pc' := 19) (v := σ 106 5) rfl rfl rfl ci_5 (by omega) (by omega) rfl (fun z23 hz23 => ?_)
          have tz23 := ty_106 hI 5
          refine h_cne (tg := 24) (pc' := 22) rfl rfl rfl hz22 hz23 (fun c24 => ?_) (fun c24 => ?_)
          · refine h_iinc (pc' := 27) (b := 5) (M := fun z25 => [(3, .int z25), (0, .ref 98), (1, .int x0), (2, .int (Int32.ofInt 5))]) rfl rfl rfl rfl hz20 ci_1 rfl (by omega) (by omega) (fun _ => rfl) (fun z25 hz25 => ?_)
            refine h_goto (pc' := 2) rfl rfl ?_
            refine h_iload_n (pc' := 3) rfl rfl rfl ?_
            refine h_iload_n (pc' := 4) rfl rfl rfl ?_
            refine h_cge (tg := 30) (pc' := 7) rfl rfl rfl hz25 ci_5 (fun c26 => ?_) (fun c26 => absurd c26 (by omega))
            refine h_iload_n (pc' := 31) rfl rfl rfl ?_
            refine h_zne (tg := 49) (pc' := 34) rfl rfl rfl ci_5 (fun c27 => ?_) (fun c27 => absurd c27 (by omega))
            refine h_aload_n (pc' := 50) rfl rfl rfl ?_
            refine h_getR (pc' := 53) rfl rfl rfl rfl rfl ?_
            refine h_iload_n (pc' := 54) rfl rfl rfl ?_
            refine h_iconst (pc' := 55) (x := (Int32.ofInt 1)) rfl rfl rfl ?_
            refine h_isub (pc' := 56) (c := 4) rfl rfl ci_5 ci_1 rfl (by omega) (by omega) (fun z28 hz28 => ?_)
            refine h_iald (pc' := 57) (v := σ 106 4) rfl rfl rfl hz28 (by omega) (by omega) rfl (fun z29 hz29 => ?_)
            have tz29 := ty_106 hI 4
            refine h_istore_n (pc' := 58) (M := [(3, .int z29), (0, .ref 98), (1, .int x0), (2, .int (Int32.ofInt 5))]) rfl rfl rfl rfl ?_
            refine h_aload_n (pc' := 59) rfl rfl rfl ?_
            refine h_aload_n (pc' := 60) rfl rfl rfl ?_
            refine h_getR (pc' := 63) rfl rfl rfl rfl rfl ?_
            refine h_iload_n (pc' := 64) rfl rfl rfl ?_
            refine h_iald (pc' := 65) (v := σ 106 5) rfl rfl rfl ci_5 (by omega) (by omega) rfl (fun z30 hz30 => ?_)
            have tz30 := ty_106 hI 5
            refine h_iload_n (pc' := 66) rfl rfl rfl ?_
            refine h_aload_n (pc' := 67) rfl rfl rfl ?_
            refine h_getR (pc' := 70) rfl rfl rfl rfl rfl ?_
            refine h_bipush (pc' := 72) (x := (Int32.ofInt 26)) rfl rfl cb_26 ?_
            refine h_iload_n (pc' := 73) rfl rfl rfl ?_
            refine h_iadd (pc' := 74) rfl rfl ci_26 hx0 rfl (by omega) (by omega) (fun z31 hz31 => ?_)
            refine h_iald (pc' := 75) (v := σ 99 (26 + a0)) rfl rfl rfl hz31 (by omega) (by omega) rfl (fun z32 hz32 => ?_)
            have tz32 := ty_99_6 hI (26 + a0) (by omega)
            refine h_call (sp := false) (pc' := 78) (M := [(0, .ref 98), (1, .int z30), (2, .int z29), (3, .int z32)]) rfl rfl rfl rfl rfl rfl rfl rfl ?_
            refine n_may _ hI z30 _ hz30 (by omega) z29 _ hz29 (by omega) z32 _ hz32 (fun r33 br33 hr33 tr33 ps34_0 => h_Kv ?_)
            exact h_zret rfl rfl hr33 (by omega) (kk _ _ hr33 (by omega) (by have gm := ps34_0; rw [show g_nd (σ 106) (σ 106 5) 5 = true from g_nd_t 5 (fun k k0 k1 => by rcases (show k = 0 ∨ k = 1 ∨ k = 2 ∨ k = 3 ∨ k = 4 by omega) with rfl | rfl | rfl | rfl | rfl <;> omega), Bool.true_and]; exact gm) (by omega) (by omega) (by omega) (by omega) (by omega))
          · refine h_iconst (pc' := 23) (x := (Int32.ofInt 0)) rfl rfl rfl ?_
            exact h_zret rfl rfl ci_0 (by omega) (kk _ _ ci_0 (by omega) (g_if_0 (by rw [show g_nd (σ 106) (σ 106 5) 5 = false by first | exact g_nd_f (k := 0) (by omega) (by omega) 5 (by omega) | exact g_nd_f (k := 1) (by omega) (by omega) 5 (by omega) | exact g_nd_f (k := 2) (by omega) (by omega) 5 (by omega) | exact g_nd_f (k := 3) (by omega) (by omega) 5 (by omega) | exact g_nd_f (k := 4) (by omega) (by omega) 5 (by omega), Bool.false_and]) rfl) (by omega) (by omega) (by omega) (by omega) (by omega))
        · refine h_iconst (pc' := 23) (x := (Int32.ofInt 0)) rfl rfl rfl ?_
          exact h_zret rfl rfl ci_0 (by omega) (kk _ _ ci_0 (by omega) (g_if_0 (by rw [show g_nd (σ 106) (σ 106 5) 5 = false by first | exact g_nd_f (k := 0) (by omega) (by omega) 5 (by omega) | exact g_nd_f (k := 1) (by omega) (by omega) 5 (by omega) | exact g_nd_f (k := 2) (by omega) (by omega) 5 (by omega) | exact g_nd_f (k := 3) (by omega) (by omega) 5 (by omega) | exact g_nd_f (k := 4) (by omega) (by omega) 5 (by omega), Bool.false_and]) rfl) (by omega) (by omega) (by omega) (by omega) (by omega))
      · refine h_iconst (pc' := 23) (x := (Int32.ofInt 0)) rfl rfl rfl ?_
        exact h_zret rfl rfl ci_0 (by omega) (kk _ _ ci_0 (by omega) (g_if_0 (by rw [show g_nd (σ 106) (σ 106 5) 5 = false by first | exact g_nd_f (k := 0) (by omega) (by omega) 5 (by omega) | exact g_nd_f (k := 1) (by omega) (by omega) 5 (by omega) | exact g_nd_f (k := 2) (by omega) (by omega) 5 (by omega) | exact g_nd_f (k := 3) (by omega) (by omega) 5 (by omega) | exact g_nd_f (k := 4) (by omega) (by omega) 5 (by omega), Bool.false_and]) rfl) (by omega) (by omega) (by omega) (by omega) (by omega))
    · refine h_iconst (pc' := 23) (x := (Int32.ofInt 0)) rfl rfl rfl ?_
      exact h_zret rfl rfl ci_0 (by omega) (kk _ _ ci_0 (by omega) (g_if_0 (by rw [show g_nd (σ 106) (σ 106 5) 5 = false by first | exact g_nd_f (k := 0) (by omega) (by omega) 5 (by omega) | exact g_nd_f (k := 1) (by omega) (by omega) 5 (by omega) | exact g_nd_f (k := 2) (by omega) (by omega) 5 (by omega) | exact g_nd_f (k := 3) (by omega) (by omega) 5 (by omega) | exact g_nd_f (k := 4) (by omega) (by omega) 5 (by omega), Bool.false_and]) rfl) (by omega) (by omega) (by omega) (by omega) (by omega))
  · refine h_iconst (pc' := 23) (x := (Int32.ofInt 0)) rfl rfl rfl ?_
    exact h_zret rfl rfl ci_0 (by omega) (kk _ _ ci_0 (by omega) (g_if_0 (by rw [show g_nd (σ 106) (σ 106 5) 5 = false by first | exact g_nd_f (k := 0) (by omega) (by omega) 5 (by omega) | exact g_nd_f (k := 1) (by omega) (by omega) 5 (by omega) | exact g_nd_f (k := 2) (by omega) (by omega) 5 (by omega) | exact g_nd_f (k := 3) (by omega) (by omega) 5 (by omega) | exact g_nd_f (k := 4) (by omega) (by omega) 5 (by omega), Bool.false_and]) rfl) (by omega) (by omega) (by omega) (by omega) (by omega))
set_option maxHeartbeats 100000000 in
theorem n_st6 {ns : Nat} (σ : h_S) (hI : h_I σ) (x0 : Int32) (a0 : Int) (hx0 : x0.toInt = a0) (ra0 : 0 ≤ a0 ∧ a0 ≤ 2) (pr0 : 0 ≤ σ 106 6 ∧ σ 106 6 ≤ 5) (pr1 : 0 ≤ σ 106 5 ∧ σ 106 5 ≤ 5) {Q : Option Value → h_S → Prop} (kk : ∀ (r : Int32) (b : Int) (hb : r.toInt = b), (0 ≤ b ∧ b ≤ 1) → (b = if (g_nd (σ 106) (σ 106 6) 6 && g_yM (σ 105) (fun i => σ 99 (19 + 2 * i)) (fun i => σ 99 (19 + 2 * i + 1)) (σ 99 25) (σ 106 6) (g_pv (σ 106) (g_orn (σ 99 (29 + a0))) 6) (σ 99 (26 + a0))) = true then 1 else 0) → (b = 1 → ¬ σ 106 0 = σ 106 6) → (b = 1 → ¬ σ 106 1 = σ 106 6) → (b = 1 → ¬ σ 106 2 = σ 106 6) → (b = 1 → ¬ σ 106 3 = σ 106 6) → (b = 1 → ¬ σ 106 4 = σ 106 6) → (b = 1 → ¬ σ 106 5 = σ 106 6) → Q (some (.int r)) σ) : h_T g_P (g_Y ns) 196 0 [(0, .ref 98), (1, .int x0), (2, .int (Int32.ofInt 6))] [] σ Q := by
  refine h_iconst (pc' := 1) (x := (Int32.ofInt 0)) rfl rfl rfl ?_
  refine h_istore_n (pc' := 2) (M := [(3, .int (Int32.ofInt 0)), (0, .ref 98), (1, .int x0), (2, .int (Int32.ofInt 6))]) rfl rfl rfl rfl ?_
  refine h_iload_n (pc' := 3) rfl rfl rfl ?_
  refine h_iload_n (pc' := 4) rfl rfl rfl ?_
  refine h_cge (tg := 30) (pc' := 7) rfl rfl rfl ci_0 ci_6 (fun c1 => absurd c1 (by omega)) (fun c1 => ?_)
  refine h_aload_n (pc' := 8) rfl rfl rfl ?_
  refine h_getR (pc' := 11) rfl rfl rfl rfl rfl ?_
  refine h_iload_n (pc' := 12) rfl rfl rfl ?_
  refine h_iald (pc' := 13) (v := σ 106 0) rfl rfl rfl ci_0 (by omega) (by omega) rfl (fun z2 hz2 => ?_)
  have tz2 := ty_106 hI 0
  refine h_aload_n (pc' := 14) rfl rfl rfl ?_
  refine h_getR (pc' := 17) rfl rfl rfl rfl rfl ?_
  refine h_iload_n (pc' := 18) rfl rfl rfl ?_
  refine h_iald (pc' := 19) (v := σ 106 6) rfl rfl rfl ci_6 (by omega) (by omega) rfl (fun z3 hz3 => ?_)
  have tz3 := ty_106 hI 6
  refine h_cne (tg := 24) (pc' := 22) rfl rfl rfl hz2 hz3 (fun c4 => ?_) (fun c4 => ?_)
  · refine h_iinc (pc' := 27) (b := 1) (M := fun z5 => [(3, .int z5), (0, .ref 98), (1, .int x0), (2, .int (Int32.ofInt 6))]) rfl rfl rfl rfl ci_0 ci_1 rfl (by omega) (by omega) (fun _ => rfl) (fun z5 hz5 => ?_)
    refine h_goto (pc' := 2) rfl rfl ?_
    refine h_iload_n (pc' := 3) rfl rfl rfl ?_
    refine h_iload_n (pc' := 4) rfl rfl rfl ?_
    refine h_cge (tg := 30) (pc' := 7) rfl rfl rfl hz5 ci_6 (fun c6 => absurd c6 (by omega)) (fun c6 => ?_)
    refine h_aload_n (pc' := 8) rfl rfl rfl ?_
    refine h_getR (pc' := 11) rfl rfl rfl rfl rfl ?_
    refine h_iload_n (pc' := 12) rfl rfl rfl ?_
    refine h_iald (pc' := 13) (v := σ 106 1) rfl rfl rfl hz5 (by omega) (by omega) rfl (fun z7 hz7 => ?_)
    have tz7 := ty_106 hI 1
    refine h_aload_n (pc' := 14) rfl rfl rfl ?_
    refine h_getR (pc' := 17) rfl rfl rfl rfl rfl ?_
    refine h_iload_n (pc' := 18) rfl rfl rfl ?_
    refine h_iald (pc' := 19) (v := σ 106 6) rfl rfl rfl ci_6 (by omega) (by omega) rfl (fun z8 hz8 => ?_)
    have tz8 := ty_106 hI 6
    refine h_cne (tg := 24) (pc' := 22) rfl rfl rfl hz7 hz8 (fun c9 => ?_) (fun c9 => ?_)
    · refine h_iinc (pc' := 27) (b := 2) (M := fun z10 => [(3, .int z10), (0, .ref 98), (1, .int x0), (2, .int (Int32.ofInt 6))]) rfl rfl rfl rfl hz5 ci_1 rfl (by omega) (by omega) (fun _ => rfl) (fun z10 hz10 => ?_)
      refine h_goto (pc' := 2) rfl rfl ?_
      refine h_iload_n (pc' := 3) rfl rfl rfl ?_
      refine h_iload_n (pc' := 4) rfl rfl rfl ?_
      refine h_cge (tg := 30) (pc' := 7) rfl rfl rfl hz10 ci_6 (fun c11 => absurd c11 (by omega)) (fun c11 => ?_)
      refine h_aload_n (pc' := 8) rfl rfl rfl ?_
      refine h_getR (pc' := 11) rfl rfl rfl rfl rfl ?_
      refine h_iload_n (pc' := 12) rfl rfl rfl ?_
      refine h_iald (pc' := 13) (v := σ 106 2) rfl rfl rfl hz10 (by omega) (by omega) rfl (fun z12 hz12 => ?_)
      have tz12 := ty_106 hI 2
      refine h_aload_n (pc' := 14) rfl rfl rfl ?_
      refine h_getR (pc' := 17) rfl rfl rfl rfl rfl ?_
      refine h_iload_n (pc' := 18) rfl rfl rfl ?_
      refine h_iald (pc' := 19) (v := σ 106 6) rfl rfl rfl ci_6 (by omega) (by omega) rfl (fun z13 hz13 => ?_)
      have tz13 := ty_106 hI 6
      refine h_cne (tg := 24) (pc' := 22) rfl rfl rfl hz12 hz13 (fun c14 => ?_) (fun c14 => ?_)
      · refine h_iinc (pc' := 27) (b := 3) (M := fun z15 => [(3, .int z15), (0, .ref 98), (1, .int x0), (2, .int (Int32.ofInt 6))]) rfl rfl rfl rfl hz10 ci_1 rfl (by omega) (by omega) (fun _ => rfl) (fun z15 hz15 => ?_)
        refine h_goto (pc' := 2) rfl rfl ?_
        refine h_iload_n (pc' := 3) rfl rfl rfl ?_
        refine h_iload_n (pc' := 4) rfl rfl rfl ?_
        refine h_cge (tg := 30) (pc' := 7) rfl rfl rfl hz15 ci_6 (fun c16 => absurd c16 (by omega)) (fun c16 => ?_)
        refine h_aload_n (pc' := 8) rfl rfl rfl ?_
        refine h_getR (pc' := 11) rfl rfl rfl rfl rfl ?_
        refine h_iload_n (pc' := 12) rfl rfl rfl ?_
        refine h_iald (pc' := 13) (v := σ 106 3) rfl rfl rfl hz15 (by omega) (by omega) rfl (fun z17 hz17 => ?_)
        have tz17 := ty_106 hI 3
        refine h_aload_n (pc' := 14) rfl rfl rfl ?_
        refine h_getR (pc' := 17) rfl rfl rfl rfl rfl ?_
        refine h_iload_n (pc' := 18) rfl rfl rfl ?_
        refine h_iald (pc' := 19) (v := σ 106 6) rfl rfl rfl ci_6 (by omega) (by omega) rfl (fun z18 hz18 => ?_)
        have tz18 := ty_106 hI 6
        refine h_cne (tg := 24) (pc' := 22) rfl rfl rfl hz17 hz18 (fun c19 => ?_) (fun c19 => ?_)
        · refine h_iinc (pc' := 27) (b := 4) (M := fun z20 => [(3, .int z20), (0, .ref 98), (1, .int x0), (2, .int (Int32.ofInt 6))]) rfl rfl rfl rfl hz15 ci_1 rfl (by omega) (by omega) (fun _ => rfl) (fun z20 hz20 => ?_)
          refine h_goto (pc' := 2) rfl rfl ?_
          refine h_iload_n (pc' := 3) rfl rfl rfl ?_
          refine h_iload_n (pc' := 4) rfl rfl rfl ?_
          refine h_cge (tg := 30) (pc' := 7) rfl rfl rfl hz20 ci_6 (fun c21 => absurd c21 (by omega)) (fun c21 => ?_)
          refine h_aload_n (pc' := 8) rfl rfl rfl ?_
          refine h_getR (pc' := 11) rfl rfl rfl rfl rfl ?_
          refine h_iload_n (pc' := 12) rfl rfl rfl ?_
          refine h_iald (pc' := 13) (v := σ 106 4) rfl rfl rfl hz20 (by omega) (by omega) rfl (fun z22 hz22 => ?_)
          have tz22 := ty_106 hI 4
          refine h_aload_n (pc' := 14) rfl rfl rfl ?_
          refine h_getR (pc' := 17) rfl rfl rfl rfl rfl ?_
          refine h_iload_n (pc' := 18) rfl rfl rfl ?_
          refine h_iald (pc' := 19) (v := σ 106 6) rfl rfl rfl ci_6 (by omega) (by omega) rfl (fun z23 hz23 => ?_)
          have tz23 := ty_106 hI 6
          refine h_cne (tg := 24) (pc' := 22) rfl rfl rfl hz22 hz23 (fun c24 => ?_) (fun c24 => ?_)
          · refine h_iinc (pc' := 27) (b := 5) (M := fun z25 => [(3, .int z25), (0, .ref 98), (1, .int x0), (2, .int (Int32.ofInt 6))]) rfl rfl rfl rfl hz20 ci_1 rfl (by omega) (by omega) (fun _ => rfl) (fun z25 hz25 => ?_)
            refine h_goto (pc' := 2) rfl rfl ?_
            refine h_iload_n (pc' := 3) rfl rfl rfl ?_
            refine h_iload_n (pc' := 4) rfl rfl rfl ?_
            refine h_cge (tg := 30) (pc' := 7) rfl rfl rfl hz25 ci_6 (fun c26 => absurd c26 (by omega)) (fun c26 => ?_)
            refine h_aload_n (pc' := 8) rfl rfl rfl ?_
            refine h_getR (pc' := 11) rfl rfl rfl rfl rfl ?_
            refine h_iload_n (pc' := 12) rfl rfl rfl ?_
            refine h_iald (pc' := 13) (v := σ 106 5) rfl rfl rfl hz25 (by omega) (by omega) rfl (fun z27 hz27 => ?_)
            have tz27 := ty_106 hI 5
            refine h_aload_n (pc' := 14) rfl rfl rfl ?_
            refine h_getR (pc' := 17) rfl rfl rfl rfl rfl ?_
            refine h_iload_n (pc' := 18) rfl rfl rfl ?_
            refine h_iald (pc' := 19) (v := σ 106 6) rfl rfl rfl ci_6 (by omega) (by omega) rfl (fun z28 hz28 => ?_)
            have tz28 := ty_106 hI 6
            refine h_cne (tg := 24) (pc' := 22) rfl rfl rfl hz27 hz28 (fun c29 => ?_) (fun c29 => ?_)
            · refine h_iinc (pc' := 27) (b := 6) (M := fun z30 => [(3, .int z30), (0, .ref 98), (1, .int x0), (2, .int (Int32.ofInt 6))]) rfl rfl rfl rfl hz25 ci_1 rfl (by omega) (by omega) (fun _ => rfl) (fun z30 hz30 => ?_)
              refine h_goto (pc' := 2) rfl rfl ?_
              refine h_iload_n (pc' := 3) rfl rfl rfl ?_
              refine h_iload_n (pc' := 4) rfl rfl rfl ?_
              refine h_cge (tg := 30) (pc' := 7) rfl rfl rfl hz30 ci_6 (fun c31 => ?_) (fun c31 => absurd c31 (by omega))
              refine h_iload_n (pc' := 31) rfl rfl rfl ?_
              refine h_zne (tg := 49) (pc' := 34) rfl rfl rfl ci_6 (fun c32 => ?_) (fun c32 => absurd c32 (by omega))
              refine h_aload_n (pc' := 50) rfl rfl rfl ?_
              refine h_getR (pc' := 53) rfl rfl rfl rfl rfl ?_
              refine h_iload_n (pc' := 54) rfl rfl rfl ?_
              refine h_iconst (pc' := 55) (x := (Int32.ofInt 1)) rfl rfl rfl ?_
              refine h_isub (pc' := 56) (c := 5) rfl rfl ci_6 ci_1 rfl (by omega) (by omega) (fun z33 hz33 => ?_)
              refine h_iald (pc' := 57) (v := σ 106 5) rfl rfl rfl hz33 (by omega) (by omega) rfl (fun z34 hz34 => ?_)
              have tz34 := ty_106 hI 5
              refine h_istore_n (pc' := 58) (M := [(3, .int z34), (0, .ref 98), (1, .int x0), (2, .int (Int32.ofInt 6))]) rfl rfl rfl rfl ?_
              refine h_aload_n (pc' := 59) rfl rfl rfl ?_
              refine h_aload_n (pc' := 60) rfl rfl rfl ?_
              refine h_getR (pc' := 63) rfl rfl rfl rfl rfl ?_
              refine h_iload_n (pc' := 64) rfl rfl rfl ?_
              refine h_iald (pc' := 65) (v := σ 106 6) rfl rfl rfl ci_6 (by omega) (by omega) rfl (fun z35 hz35 => ?_)
              have tz35 := ty_106 hI 6
              refine h_iload_n (pc' := 66) rfl rfl rfl ?_
              refine h_aload_n (pc' := 67) rfl rfl rfl ?_
              refine h_getR (pc' := 70) rfl rfl rfl rfl rfl ?_
              refine h_bipush (pc' := 72) (x := (Int32.ofInt 26)) rfl rfl cb_26 ?_
              refine h_iload_n (pc' := 73) rfl rfl rfl ?_
              refine h_iadd (pc' := 74) rfl rfl ci_26 hx0 rfl (by omega) (by omega) (fun z36 hz36 => ?_)
              refine h_iald (pc' := 75) (v := σ 99 (26 + a0)) rfl rfl rfl hz36 (by omega) (by omega) rfl (fun z37 hz37 => ?_)
              have tz37 := ty_99_6 hI (26 + a0) (by omega)
              refine h_call (sp := false) (pc' := 78) (M := [(0, .ref 98), (1, .int z35), (2, .int z34), (3, .int z37)]) rfl rfl rfl rfl rfl rfl rfl rfl ?_
              refine n_may _ hI z35 _ hz35 (by omega) z34 _ hz34 (by omega) z37 _ hz37 (fun r38 br38 hr38 tr38 ps39_0 => h_Kv ?_)
              exact h_zret rfl rfl hr38 (by omega) (kk _ _ hr38 (by omega) (by have gm := ps39_0; rw [show g_nd (σ 106) (σ 106 6) 6 = true from g_nd_t 6 (fun k k0 k1 => by rcases (show k = 0 ∨ k = 1 ∨ k = 2 ∨ k = 3 ∨ k = 4 ∨ k = 5 by omega) with rfl | rfl | rfl | rfl | rfl | rfl <;> omega), Bool.true_and]; exact gm) (by omega) (by omega) (by omega) (by omega) (by omega) (by omega))
            · refine h_iconst (pc' := 23) (x := (Int32.ofInt 0)) rfl rfl rfl ?_
              exact h_zret rfl rfl ci_0 (by omega) (kk _ _ ci_0 (by omega) (g_if_0 (by rw [show g_nd (σ 106) (σ 106 6) 6 = false by first | exact g_nd_f (k := 0) (by omega) (by omega) 6 (by omega) | exact g_nd_f (k := 1) (by omega) (by omega) 6 (by omega) | exact g_nd_f (k := 2) (by omega) (by omega) 6 (by omega) | exact g_nd_f (k := 3) (by omega) (by omega) 6 (by omega) | exact g_nd_f (k := 4) (by omega) (by omega) 6 (by omega) | exact g_nd_f (k := 5) (by omega) (by omega) 6 (by omega), Bool.false_and]) rfl) (by omega) (by omega) (by omega) (by omega) (by omega) (by omega))
          · refine h_iconst (pc' := 23) (x := (Int32.ofInt 0)) rfl rfl rfl ?_
            exact h_zret rfl rfl ci_0 (by omega) (kk _ _ ci_0 (by omega) (g_if_0 (by rw [show g_nd (σ 106) (σ 106 6) 6 = false by first | exact g_nd_f (k := 0) (by omega) (by omega) 6 (by omega) | exact g_nd_f (k := 1) (by omega) (by omega) 6 (by omega) | exact g_nd_f (k := 2) (by omega) (by omega) 6 (by omega) | exact g_nd_f (k := 3) (by omega) (by omega) 6 (by omega) | exact g_nd_f (k := 4) (by omega) (by omega) 6 (by omega) | exact g_nd_f (k := 5) (by omega) (by omega) 6 (by omega), Bool.false_and]) rfl) (by omega) (by omega) (by omega) (by omega) (by omega) (by omega))
        · refine h_iconst (pc' := 23) (x := (Int32.ofInt 0)) rfl rfl rfl ?_
          exact h_zret rfl rfl ci_0 (by omega) (kk _ _ ci_0 (by omega) (g_if_0 (by rw [show g_nd (σ 106) (σ 106 6) 6 = false by first | exact g_nd_f (k := 0) (by omega) (by omega) 6 (by omega) | exact g_nd_f (k := 1) (by omega) (by omega) 6 (by omega) | exact g_nd_f (k := 2) (by omega) (by omega) 6 (by omega) | exact g_nd_f (k := 3) (by omega) (by omega) 6 (by omega) | exact g_nd_f (k := 4) (by omega) (by omega) 6 (by omega) | exact g_nd_f (k := 5) (by omega) (by omega) 6 (by omega), Bool.false_and]) rfl) (by omega) (by omega) (by omega) (by omega) (by omega) (by omega))
      · refine h_iconst (pc' := 23) (x := (Int32.ofInt 0)) rfl rfl rfl ?_
        exact h_zret rfl rfl ci_0 (by omega) (kk _ _ ci_0 (by omega) (g_if_0 (by rw [show g_nd (σ 106) (σ 106 6) 6 = false by first | exact g_nd_f (k := 0) (by omega) (by omega) 6 (by omega) | exact g_nd_f (k := 1) (by omega) (by omega) 6 (by omega) | exact g_nd_f (k := 2) (by omega) (by omega) 6 (by omega) | exact g_nd_f (k := 3) (by omega) (by omega) 6 (by omega) | exact g_nd_f (k := 4) (by omega) (by omega) 6 (by omega) | exact g_nd_f (k := 5) (by omega) (by omega) 6 (by omega), Bool.false_and]) rfl) (by omega) (by omega) (by omega) (by omega) (by omega) (by omega))
    · refine h_iconst (pc' := 23) (x := (Int32.ofInt 0)) rfl rfl rfl ?_
      exact h_zret rfl rfl ci_0 (by omega) (kk _ _ ci_0 (by omega) (g_if_0 (by rw [show g_nd (σ 106) (σ 106 6) 6 = false by first | exact g_nd_f (k := 0) (by omega) (by omega) 6 (by omega) | exact g_nd_f (k := 1) (by omega) (by omega) 6 (by omega) | exact g_nd_f (k := 2) (by omega) (by omega) 6 (by omega) | exact g_nd_f (k := 3) (by omega) (by omega) 6 (by omega) | exact g_nd_f (k := 4) (by omega) (by omega) 6 (by omega) | exact g_nd_f (k := 5) (by omega) (by omega) 6 (by omega), Bool.false_and]) rfl) (by omega) (by omega) (by omega) (by omega) (by omega) (by omega))
  · refine h_iconst (pc' := 23) (x := (Int32.ofInt 0)) rfl rfl rfl ?_
    exact h_zret rfl rfl ci_0 (by omega) (kk _ _ ci_0 (by omega) (g_if_0 (by rw [show g_nd (σ 106) (σ 106 6) 6 = false by first | exact g_nd_f (k := 0) (by omega) (by omega) 6 (by omega) | exact g_nd_f (k := 1) (by omega) (by omega) 6 (by omega) | exact g_nd_f (k := 2) (by omega) (by omega) 6 (by omega) | exact g_nd_f (k := 3) (by omega) (by omega) 6 (by omega) | exact g_nd_f (k := 4) (by omega) (by omega) 6 (by omega) | exact g_nd_f (k := 5) (by omega) (by omega) 6 (by omega), Bool.false_and]) rfl) (by omega) (by omega) (by omega) (by omega) (by omega) (by omega))
def kf_n_keeps : List Nat := [100378, 110591]
set_option maxHeartbeats 100000000 in
set_option maxHeartbeats 100000000 in
theorem n_keeps_l (ns : Nat) (σ : h_S) (hI : h_I σ) (x0 : Int32) (a0 : Int) (hx0 : x0.toInt = a0) (ra0 : 0 ≤ a0 ∧ a0 ≤ 6) {Q : Option Value → h_S → Prop} (kk : ∀ (τ : h_S), h_I τ → h_F (k_in kf_n_keeps) τ σ → (τ 106 0 = σ 106 0) → (τ 106 1 = σ 106 1) → (τ 106 2 = σ 106 2) → (τ 106 3 = σ 106 3) → (τ 106 4 = σ 106 4) → (τ 106 5 = σ 106 5) → (τ 106 6 = σ 106 6) → (τ 98 26 = a0) → Q none τ) : ∀ n : Nat, (∀ (s0 : h_S), h_I s0 → h_F (k_in kf_n_keeps) s0 σ → ∀ (y2 : Int32) (b2 : Int), y2.toInt = b2 → (0 ≤ b2 ∧ b2 ≤ 6) → (s0 106 0 = σ 106 0) → (s0 106 1 = σ 106 1) → (s0 106 2 = σ 106 2) → (s0 106 3 = σ 106 3) → (s0 106 4 = σ 106 4) → (s0 106 5 = σ 106 5) → (s0 106 6 = σ 106 6) → (s0 98 26 = a0) → (6 + 1 - b2) * 1000000 + 1000000000 ≤ (n : Int) → h_T g_P (g_Y ns) 197 7 [(0, .ref 98), (1, .int x0), (2, .int y2)] [] s0 Q) := by
  intro n
  induction n with
  | zero => exact by intro s0 I0 F0_ y2 b2 hy2 ry2 ex0 ex1 ex2 ex3 ex4 ex5 ex6 ex7 hm; exfalso; omega
  | succ n ih =>
    intro s0 I0 F0_ y2 b2 hy2 ry2 ex0 ex1 ex2 ex3 ex4 ex5 ex6 ex7 hm
    refine h_iload_n (pc' := 8) rfl rfl rfl ?_
    refine h_iload_n (pc' := 9) rfl rfl rfl ?_
    refine h_cge (tg := 30) (pc' := 12) rfl rfl rfl hy2 hx0 (fun c1 => ?_) (fun c1 => ?_)
    · exact h_vret rfl rfl (kk _ I0 F0_ (by omega) (by omega) (by omega) (by omega) (by omega) (by omega) (by omega) (by omega))
    · refine h_aload_n (pc' := 13) rfl rfl rfl ?_
      refine h_getR (pc' := 16) rfl rfl rfl rfl rfl ?_
      refine h_iload_n (pc' := 17) rfl rfl rfl ?_
      refine h_aload_n (pc' := 18) rfl rfl rfl ?_
      refine h_getR (pc' := 21) rfl rfl rfl rfl rfl ?_
      refine h_iload_n (pc' := 22) rfl rfl rfl ?_
      refine h_iald (pc' := 23) (v := σ 106 b2) rfl rfl rfl hy2 (by omega) (by omega) (F0_ 106 _ rfl) (fun z2 hz2 => ?_)
      have tz2 := ty_106 hI b2
      refine h_iast (pc' := 24) rfl rfl rfl rfl hy2 (by omega) (by omega) hz2 (h_fgt (E := fun s => s 106 0 = s0 106 0 ∧ s 106 1 = s0 106 1 ∧ s 106 2 = s0 106 2 ∧ s 106 3 = s0 106 3 ∧ s 106 4 = s0 106 4 ∧ s 106 5 = s0 106 5 ∧ s 106 6 = s0 106 6 ∧ s 98 26 = s0 98 26) _ (in_107 I0 (h_rgv hz2)) (F0_.up rfl) ⟨rfl, rfl, rfl, rfl, rfl, rfl, rfl, rfl⟩ (fun s3 Is3 Fs3 (es3 : s3 106 0 = s0 106 0 ∧ s3 106 1 = s0 106 1 ∧ s3 106 2 = s0 106 2 ∧ s3 106 3 = s0 106 3 ∧ s3 106 4 = s0 106 4 ∧ s3 106 5 = s0 106 5 ∧ s3 106 6 = s0 106 6 ∧ s3 98 26 = s0 98 26) => ?_))
      refine h_iinc (pc' := 27) (M := fun z4 => [(2, .int z4), (0, .ref 98), (1, .int x0)]) rfl rfl rfl rfl hy2 ci_1 rfl (by omega) (by omega) (fun _ => rfl) (fun z4 hz4 => ?_)
      refine h_goto (pc' := 7) rfl rfl ?_
      exact h_wk [(0, .ref 98), (1, .int x0), (2, .int z4)] ⟨rfl, rfl, rfl, trivial⟩ (ih _ Is3 Fs3 z4 _ hz4 (by omega) (by omega) (by omega) (by omega) (by omega) (by omega) (by omega) (by omega) (by omega) (by omega))
set_option maxHeartbeats 100000000 in
set_option maxHeartbeats 100000000 in
theorem n_keeps {ns : Nat} (σ : h_S) (hI : h_I σ) (x0 : Int32) (a0 : Int) (hx0 : x0.toInt = a0) (ra0 : 0 ≤ a0 ∧ a0 ≤ 6) {Q : Option Value → h_S → Prop} (kk : ∀ (τ : h_S), h_I τ → h_F (k_in kf_n_keeps) τ σ → (τ 106 0 = σ 106 0) → (τ 106 1 = σ 106 1) → (τ 106 2 = σ 106 2) → (τ 106 3 = σ 106 3) → (τ 106 4 = σ 106 4) → (τ 106 5 = σ 106 5) → (τ 106 6 = σ 106 6) → (τ 98 26 = a0) → Q none τ) : h_T g_P (g_Y ns) 197 0 [(0, .ref 98), (1, .int x0)] [] σ Q := by
  have F00 : h_F (k_in kf_n_keeps) σ σ := h_F.rf
  refine h_aload_n (pc' := 1) rfl rfl rfl ?_
  refine h_iload_n (pc' := 2) rfl rfl rfl ?_
  refine h_put (pc' := 5) rfl rfl rfl rfl rfl rfl hx0 rfl (h_fgt (E := fun s => s 106 0 = σ 106 0 ∧ s 106 1 = σ 106 1 ∧ s 106 2 = σ 106 2 ∧ s 106 3 = σ 106 3 ∧ s 106 4 = σ 106 4 ∧ s 106 5 = σ 106 5 ∧ s 106 6 = σ 106 6 ∧ s 98 26 = a0) _ (if_98_26 hI (by omega)) (F00.up rfl) ⟨rfl, rfl, rfl, rfl, rfl, rfl, rfl, rfl⟩ (fun s1 Is1 Fs1 (es1 : s1 106 0 = σ 106 0 ∧ s1 106 1 = σ 106 1 ∧ s1 106 2 = σ 106 2 ∧ s1 106 3 = σ 106 3 ∧ s1 106 4 = σ 106 4 ∧ s1 106 5 = σ 106 5 ∧ s1 106 6 = σ 106 6 ∧ s1 98 26 = a0) => ?_))
  refine h_iconst (pc' := 6) (x := (Int32.ofInt 0)) rfl rfl rfl ?_
  refine h_istore_n (pc' := 7) (M := [(2, .int (Int32.ofInt 0)), (0, .ref 98), (1, .int x0)]) rfl rfl rfl rfl ?_
  exact h_wk [(0, .ref 98), (1, .int x0), (2, .int (Int32.ofInt 0))] ⟨rfl, rfl, rfl, trivial⟩ ((n_keeps_l ns σ hI x0 a0 hx0 ra0 kk 1000000000000) _ Is1 Fs1 (Int32.ofInt 0) _ ci_0 (by omega) (by omega) (by omega) (by omega) (by omega) (by omega) (by omega) (by omega) (by omega) (by omega))
