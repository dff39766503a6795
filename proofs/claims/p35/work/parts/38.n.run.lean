def kf_n_admit_10 : List Nat := [83970, 87039]
set_option maxHeartbeats 100000000 in
set_option maxHeartbeats 100000000 in
theorem n_admit_10 {ns : Nat} (σ : h_S) (hI : h_I σ) (x0 : Int32) (a0 : Int) (hx0 : x0.toInt = a0) (ra0 : 0 ≤ a0 ∧ a0 ≤ 5) (x1 : Int32) (a1 : Int) (hx1 : x1.toInt = a1) (ra1 : 0 ≤ a1 ∧ a1 ≤ 2) (pr0 : g_op (σ 10 8) (σ 80) (σ 81) (σ 19) (σ 10 9) 0 (σ 83)) (pr1 : a0 < σ 10 8) (pr2 : a1 < σ 10 9) (pr3 : σ 84 a1 = -4 ∨ (0 ≤ σ 84 a1 ∧ σ 84 a1 < σ 10 8)) {Q : Option Value → h_S → Prop} (kk : ∀ (r : Int32) (b : Int) (hb : r.toInt = b) (τ : h_S), h_I τ → h_F (k_in kf_n_admit_10) τ σ → (0 ≤ b ∧ b ≤ 1) → ((b = 1 ∧ g_yX (σ 10 8) (σ 80) (σ 81) a0 (σ 84 a1) (σ 19 a1) = true ∧ τ 84 = g_set (σ 84) a1 a0 ∧ Int32.ofInt (τ 82 2) = g_or (Int32.ofInt (σ 82 2)) a0) ∨ (b = 0 ∧ g_yX (σ 10 8) (σ 80) (σ 81) a0 (σ 84 a1) (σ 19 a1) = false ∧ τ 84 = σ 84 ∧ τ 82 2 = σ 82 2)) → Q (some (.int r)) τ) : h_T g_P (g_Y ns) 20 0 [(0, .ref 82), (1, .int x0), (2, .int x1)] [] σ Q := by
  have F00 : h_F (k_in kf_n_admit_10) σ σ := h_F.rf
  have ge0 := tf_10_8 hI
  have ge1 := tf_10_9 hI
  refine h_aload_n (pc' := 1) rfl rfl rfl ?_
  refine h_getR (pc' := 4) rfl rfl rfl rfl rfl ?_
  refine h_iload_n (pc' := 5) rfl rfl rfl ?_
  refine h_iald (pc' := 6) (v := σ 84 a1) rfl rfl rfl hx1 (by omega) (by omega) rfl (fun z1 hz1 => ?_)
  have tz1 := ty_84 hI a1
  refine h_bipush (pc' := 8) (x := (Int32.ofInt (-4))) rfl rfl cb_m4 ?_
  refine h_cne (tg := 16) (pc' := 11) rfl rfl rfl hz1 ci_m4 (fun c2 => ?_) (fun c2 => ?_)
  · refine h_aload_n (pc' := 17) rfl rfl rfl ?_
    refine h_getR (pc' := 20) rfl rfl rfl rfl rfl ?_
    refine h_iload_n (pc' := 21) rfl rfl rfl ?_
    refine h_iald (pc' := 22) (v := σ 84 a1) rfl rfl rfl hx1 (by omega) (by omega) rfl (fun z3 hz3 => ?_)
    have tz3 := ty_84 hI a1
    refine h_istore_n (pc' := 23) (M := [(3, .int z3), (0, .ref 82), (1, .int x0), (2, .int x1)]) rfl rfl rfl rfl ?_
    refine h_aload_n (pc' := 24) rfl rfl rfl ?_
    refine h_getR (pc' := 27) rfl rfl rfl rfl rfl ?_
    refine h_iload_n (pc' := 28) rfl rfl rfl ?_
    refine h_bipush (pc' := 30) (x := (Int32.ofInt 7)) rfl rfl cb_7 ?_
    refine h_imul (pc' := 31) rfl rfl hx1 ci_7 rfl (by omega) (by omega) (fun z4 hz4 => ?_)
    refine h_iload_n (pc' := 32) rfl rfl rfl ?_
    refine h_iadd (pc' := 33) rfl rfl hz4 hz3 rfl (by omega) (by omega) (fun z5 hz5 => ?_)
    refine h_iald (pc' := 34) (v := σ 83 ((a1 * 7) + (σ 84 a1))) rfl rfl rfl hz5 (by omega) (by omega) rfl (fun z6 hz6 => ?_)
    have tz6 := ty_83 hI ((a1 * 7) + (σ 84 a1))
    refine h_iload_n (pc' := 35) rfl rfl rfl ?_
    refine h_calls (pc' := 38) (M := [(0, .int z6), (1, .int x0)]) rfl rfl rfl rfl rfl rfl ?_
    refine h_iload_n (pc' := 1) rfl rfl rfl ?_
    refine h_iload_n (pc' := 2) rfl rfl rfl ?_
    refine h_ishr (pc' := 3) rfl rfl (fun z7 hz7 => ?_)
    refine h_iconst (pc' := 4) (x := (Int32.ofInt 1)) rfl rfl rfl ?_
    refine h_iand (pc' := 5) rfl rfl (fun z8 hz8 uz8 vz8 => ?_)
    clear uz8
    rw [ci_1] at vz8
    have yz8 := vz8 (by omega)
    refine h_zeq (tg := 12) (pc' := 8) rfl rfl rfl rfl (fun c9 => ?_) (fun c9 => ?_)
    · refine h_iconst (pc' := 13) (x := (Int32.ofInt 0)) rfl rfl rfl ?_
      refine h_zret rfl rfl ci_0 (by omega) (h_Kv ?_)
      refine h_zne (tg := 43) (pc' := 41) rfl rfl rfl ci_0 (fun c10 => absurd c10 (by omega)) (fun c10 => ?_)
      refine h_iconst (pc' := 42) (x := (Int32.ofInt 0)) rfl rfl rfl ?_
      exact h_zret rfl rfl ci_0 (by omega) (kk _ _ ci_0 _ hI F00 (by omega) (by have gh := g_adm (p := a0) (g := a1) (l := σ 84 a1) pr0 (by omega) (by omega) (by omega) (by omega) (by omega) (by omega) (by omega) hz6; have gz := g_hb_of hz8 hz7 hx0; exact Or.inr ⟨rfl, g_go_n gh gz (by omega), rfl, rfl⟩))
    · refine h_iconst (pc' := 9) (x := (Int32.ofInt 1)) rfl rfl rfl ?_
      refine h_goto (pc' := 13) rfl rfl ?_
      refine h_zret rfl rfl ci_1 (by omega) (h_Kv ?_)
      refine h_zne (tg := 43) (pc' := 41) rfl rfl rfl ci_1 (fun c11 => ?_) (fun c11 => absurd c11 (by omega))
      refine h_aload_n (pc' := 44) rfl rfl rfl ?_
      refine h_getR (pc' := 47) rfl rfl rfl rfl rfl ?_
      refine h_iload_n (pc' := 48) rfl rfl rfl ?_
      refine h_iload_n (pc' := 49) rfl rfl rfl ?_
      refine h_iast (pc' := 50) rfl rfl rfl rfl hx1 (by omega) (by omega) hx0 (h_fgt (E := fun s => s 98 13 = σ 98 13 ∧ s = h_up σ 84 a1 a0) _ (in_84 hI (by omega)) (F00.up rfl) ⟨rfl, rfl⟩ (fun s12 Is12 Fs12 (es12 : s12 98 13 = σ 98 13 ∧ s12 = h_up σ 84 a1 a0) => ?_))
      have us12 := es12.2
      refine h_aload_n (pc' := 51) rfl rfl rfl ?_
      refine h_dup (pc' := 52) rfl rfl rfl ?_
      refine h_getI (pc' := 55) (v := s12 82 2) rfl rfl rfl rfl rfl rfl (fun z13 hz13 => ?_)
      have tz13 := tf_82_2 Is12
      refine h_iconst (pc' := 56) (x := (Int32.ofInt 1)) rfl rfl rfl ?_
      refine h_iload_n (pc' := 57) rfl rfl rfl ?_
      refine h_shl1 (pc' := 58) rfl rfl ci_1 hx0 (by omega) (by omega) (fun z14 hz14 vz14 => ?_)
      refine h_ior (pc' := 59) rfl rfl (fun z15 hz15 => ?_)
      refine h_put (pc' := 62) rfl rfl rfl rfl rfl rfl rfl rfl (h_fgt (E := fun s => s 98 13 = σ 98 13 ∧ s = h_up s12 82 2 z15.toInt) _ (if_82_2 Is12 (h_rgv rfl)) (Fs12.up rfl) ⟨es12.1, rfl⟩ (fun s16 Is16 Fs16 (es16 : s16 98 13 = σ 98 13 ∧ s16 = h_up s12 82 2 z15.toInt) => ?_))
      clear es12
      have us16 := es16.2
      refine h_iconst (pc' := 63) (x := (Int32.ofInt 1)) rfl rfl rfl ?_
      exact h_zret rfl rfl ci_1 (by omega) (kk _ _ ci_1 _ Is16 Fs16 (by omega) (by have gh := g_adm (p := a0) (g := a1) (l := σ 84 a1) pr0 (by omega) (by omega) (by omega) (by omega) (by omega) (by omega) (by omega) hz6; have gz := g_hb_of hz8 hz7 hx0; exact Or.inl ⟨rfl, g_go_y gh gz (by omega), ((h_upg us16 rfl).trans (h_upf us12)), (congrArg Int32.ofInt (h_upv us16)).trans (g_came hz15 hz14 hx0 (hz13.trans (h_upo us12 rfl 2)))⟩))
  · refine h_bipush (pc' := 13) (x := (Int32.ofInt 6)) rfl rfl cb_6 ?_
    refine h_goto (pc' := 22) rfl rfl ?_
    refine h_istore_n (pc' := 23) (M := [(3, .int (Int32.ofInt 6)), (0, .ref 82), (1, .int x0), (2, .int x1)]) rfl rfl rfl rfl ?_
    refine h_aload_n (pc' := 24) rfl rfl rfl ?_
    refine h_getR (pc' := 27) rfl rfl rfl rfl rfl ?_
    refine h_iload_n (pc' := 28) rfl rfl rfl ?_
    refine h_bipush (pc' := 30) (x := (Int32.ofInt 7)) rfl rfl cb_7 ?_
    refine h_imul (pc' := 31) rfl rfl hx1 ci_7 rfl (by omega) (by omega) (fun z17 hz17 => ?_)
    refine h_iload_n (pc' := 32) rfl rfl rfl ?_
    refine h_iadd (pc' := 33) rfl rfl hz17 ci_6 rfl (by omega) (by omega) (fun z18 hz18 => ?_)
    refine h_iald (pc' := 34) (v := σ 83 ((a1 * 7) + 6)) rfl rfl rfl hz18 (by omega) (by omega) rfl (fun z19 hz19 => ?_)
    have tz19 := ty_83 hI ((a1 * 7) + 6)
    refine h_iload_n (pc' := 35) rfl rfl rfl ?_
    refine h_calls (pc' := 38) (M := [(0, .int z19), (1, .int x0)]) rfl rfl rfl rfl rfl rfl ?_
    refine h_iload_n (pc' := 1) rfl rfl rfl ?_
    refine h_iload_n (pc' := 2) rfl rfl rfl ?_
    refine h_ishr (pc' := 3) rfl rfl (fun z20 hz20 => ?_)
    refine h_iconst (pc' := 4) (x := (Int32.ofInt 1)) rfl rfl rfl ?_
    refine h_iand (pc' := 5) rfl rfl (fun z21 hz21 uz21 vz21 => ?_)
    clear uz21
    rw [ci_1] at vz21
    have yz21 := vz21 (by omega)
    refine h_zeq (tg := 12) (pc' := 8) rfl rfl rfl rfl (fun c22 => ?_) (fun c22 => ?_)
    · refine h_iconst (pc' := 13) (x := (Int32.ofInt 0)) rfl rfl rfl ?_
      refine h_zret rfl rfl ci_0 (by omega) (h_Kv ?_)
      refine h_zne (tg := 43) (pc' := 41) rfl rfl rfl ci_0 (fun c23 => absurd c23 (by omega)) (fun c23 => ?_)
      refine h_iconst (pc' := 42) (x := (Int32.ofInt 0)) rfl rfl rfl ?_
      exact h_zret rfl rfl ci_0 (by omega) (kk _ _ ci_0 _ hI F00 (by omega) (by have gh := g_adm (p := a0) (g := a1) (l := σ 84 a1) pr0 (by omega) (by omega) (by omega) (by omega) (by omega) (by omega) (by omega) hz19; have gz := g_hb_of hz21 hz20 hx0; exact Or.inr ⟨rfl, g_go_n gh gz (by omega), rfl, rfl⟩))
    · refine h_iconst (pc' := 9) (x := (Int32.ofInt 1)) rfl rfl rfl ?_
      refine h_goto (pc' := 13) rfl rfl ?_
      refine h_zret rfl rfl ci_1 (by omega) (h_Kv ?_)
      refine h_zne (tg := 43) (pc' := 41) rfl rfl rfl ci_1 (fun c24 => ?_) (fun c24 => absurd c24 (by omega))
      refine h_aload_n (pc' := 44) rfl rfl rfl ?_
      refine h_getR (pc' := 47) rfl rfl rfl rfl rfl ?_
      refine h_iload_n (pc' := 48) rfl rfl rfl ?_
      refine h_iload_n (pc' := 49) rfl rfl rfl ?_
      refine h_iast (pc' := 50) rfl rfl rfl rfl hx1 (by omega) (by omega) hx0 (h_fgt (E := fun s => s 98 13 = σ 98 13 ∧ s = h_up σ 84 a1 a0) _ (in_84 hI (by omega)) (F00.up rfl) ⟨rfl, rfl⟩ (fun s25 Is25 Fs25 (es25 : s25 98 13 = σ 98 13 ∧ s25 = h_up σ 84 a1 a0) => ?_))
      have us25 := es25.2
      refine h_aload_n (pc' := 51) rfl rfl rfl ?_
      refine h_dup (pc' := 52) rfl rfl rfl ?_
      refine h_getI (pc' := 55) (v := s25 82 2) rfl rfl rfl rfl rfl rfl (fun z26 hz26 => ?_)
      have tz26 := tf_82_2 Is25
      refine h_iconst (pc' := 56) (x := (Int32.ofInt 1)) rfl rfl rfl ?_
      refine h_iload_n (pc' := 57) rfl rfl rfl ?_
      refine h_shl1 (pc' := 58) rfl rfl ci_1 hx0 (by omega) (by omega) (fun z27 hz27 vz27 => ?_)
      refine h_ior (pc' := 59) rfl rfl (fun z28 hz28 => ?_)
      refine h_put (pc' := 62) rfl rfl rfl rfl rfl rfl rfl rfl (h_fgt (E := fun s => s 98 13 = σ 98 13 ∧ s = h_up s25 82 2 z28.toInt) _ (if_82_2 Is25 (h_rgv rfl)) (Fs25.up rfl) ⟨es25.1, rfl⟩ (fun s29 Is29 Fs29 (es29 : s29 98 13 = σ 98 13 ∧ s29 = h_up s25 82 2 z28.toInt) => ?_))
      clear es25
      have us29 := es29.2
      refine h_iconst (pc' := 63) (x := (Int32.ofInt 1)) rfl rfl rfl ?_
      exact h_zret rfl rfl ci_1 (by omega) (kk _ _ ci_1 _ Is29 Fs29 (by omega) (by have gh := g_adm (p := a0) (g := a1) (l := σ 84 a1) pr0 (by omega) (by omega) (by omega) (by omega) (by omega) (by omega) (by omega) hz19; have gz := g_hb_of hz21 hz20 hx0; exact Or.inl ⟨rfl, g_go_y gh gz (by omega), ((h_upg us29 rfl).trans (h_upf us25)), (congrArg Int32.ofInt (h_upv us29)).trans (g_came hz28 hz27 hx0 (hz26.trans (h_upo us25 rfl 2)))⟩))
