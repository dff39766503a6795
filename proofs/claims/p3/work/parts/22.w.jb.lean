set_option maxHeartbeats 100000000 in
theorem v_readOne {ns : Nat} (σ : h_S) (hI : h_I σ) (x0 : Int32) (a0 : Int) (hx0 : x0.toInt = a0) (ra0 : 0 ≤ a0 ∧ a0 ≤ 3) (pr0 : (¬ σ 63 2 = 0 ∨ ¬ σ 64 3 = 2 ∨ (0 ≤ σ 64 5 ∧ σ 64 5 ≤ 99))) {Q : Option Value → h_S → Prop} (kk : ∀ (τ : h_S), h_I τ → h_F k_nt τ σ → (((1 ≤ σ 63 2 ∧ σ 63 2 ≤ 6) ∧ (1 ≤ τ 63 2 ∧ τ 63 2 ≤ 6)) ∨ ((σ 63 2 = 0) ∧ (1 ≤ τ 63 2 ∧ τ 63 2 ≤ 6)) ∨ ((σ 63 2 = 0) ∧ (τ 63 2 = 0) ∧ (¬ τ 64 3 = 2 ∨ (0 ≤ τ 64 5 ∧ τ 64 5 ≤ 99)))) → Q none τ) : h_T g_P (g_Y ns) 59 0 [(0, .ref 63), (1, .int x0)] [] σ Q := by
  have F00 : h_F k_nt σ σ := h_F.rf
  refine h_aload_n (pc' := 1) rfl rfl rfl ?_
  refine h_aload_n (pc' := 2) rfl rfl rfl ?_
  refine h_getR (pc' := 5) rfl rfl rfl rfl rfl ?_
  refine h_getI (pc' := 8) (v := σ 66 8) rfl rfl rfl rfl rfl rfl (fun z1 hz1 => ?_)
  have tz1 := tf_66_8 hI
  refine h_bipush (pc' := 10) (x := (Int32.ofInt 6)) rfl rfl cb_6 ?_
  refine h_clt (tg := 17) (pc' := 13) rfl rfl rfl hz1 ci_6 (fun c2 => ?_) (fun c2 => ?_)
  · refine h_iconst (pc' := 18) (x := (Int32.ofInt 0)) rfl rfl rfl ?_
    refine h_call (sp := false) (pc' := 21) (M := [(0, .ref 63), (1, .int (Int32.ofInt 0))]) rfl rfl rfl rfl rfl rfl rfl rfl ?_
    refine v_takeName _ hI (Int32.ofInt 0) _ ci_0 (by omega) (fun s4 Is4 Gs4 pcs4 => h_Kn ?_)
    have Fs4 := (Gs4.l1).tr F00
    rcases pcs4 with pcs4 | pcs4 | pcs4
    · refine h_aload_n (pc' := 22) rfl rfl rfl ?_
      refine h_call (sp := false) (pc' := 25) (M := [(0, .ref 63)]) rfl rfl rfl rfl rfl rfl rfl rfl ?_
      refine h_aload_n (pc' := 1) rfl rfl rfl ?_
      refine h_getI (pc' := 4) (v := s4 63 2) rfl rfl rfl rfl rfl rfl (fun z5 hz5 => ?_)
      have tz5 := tf_63_2 Is4
      refine h_zne (tg := 22) (pc' := 7) rfl rfl rfl hz5 (fun c6 => ?_) (fun c6 => absurd c6 (by omega))
      refine h_iconst (pc' := 23) (x := (Int32.ofInt 0)) rfl rfl rfl ?_
      refine h_zret rfl rfl ci_0 (by omega) (h_Kv ?_)
      refine h_zeq (tg := 44) (pc' := 28) rfl rfl rfl ci_0 (fun c7 => ?_) (fun c7 => absurd c7 (by omega))
      refine h_bipush (pc' := 46) (x := (Int32.ofInt (-4))) rfl rfl cb_m4 ?_
      refine h_istore_n (pc' := 47) (M := [(2, .int (Int32.ofInt (-4))), (0, .ref 63), (1, .int x0)]) rfl rfl rfl rfl ?_
      refine h_aload_n (pc' := 48) rfl rfl rfl ?_
      refine h_getI (pc' := 51) (v := s4 63 2) rfl rfl rfl rfl rfl rfl (fun z8 hz8 => ?_)
      have tz8 := tf_63_2 Is4
      refine h_zne (tg := 63) (pc' := 54) rfl rfl rfl hz8 (fun c9 => ?_) (fun c9 => absurd c9 (by omega))
      exact h_vret rfl rfl (kk _ Is4 Fs4 (Or.inl ⟨by omega, by omega⟩))
    · refine h_aload_n (pc' := 22) rfl rfl rfl ?_
      refine h_call (sp := false) (pc' := 25) (M := [(0, .ref 63)]) rfl rfl rfl rfl rfl rfl rfl rfl ?_
      refine h_aload_n (pc' := 1) rfl rfl rfl ?_
      refine h_getI (pc' := 4) (v := s4 63 2) rfl rfl rfl rfl rfl rfl (fun z10 hz10 => ?_)
      have tz10 := tf_63_2 Is4
      refine h_zne (tg := 22) (pc' := 7) rfl rfl rfl hz10 (fun c11 => ?_) (fun c11 => absurd c11 (by omega))
      refine h_iconst (pc' := 23) (x := (Int32.ofInt 0)) rfl rfl rfl ?_
      refine h_zret rfl rfl ci_0 (by omega) (h_Kv ?_)
      refine h_zeq (tg := 44) (pc' := 28) rfl rfl rfl ci_0 (fun c12 => ?_) (fun c12 => absurd c12 (by omega))
      refine h_bipush (pc' := 46) (x := (Int32.ofInt (-4))) rfl rfl cb_m4 ?_
      refine h_istore_n (pc' := 47) (M := [(2, .int (Int32.ofInt (-4))), (0, .ref 63), (1, .int x0)]) rfl rfl rfl rfl ?_
      refine h_aload_n (pc' := 48) rfl rfl rfl ?_
      refine h_getI (pc' := 51) (v := s4 63 2) rfl rfl rfl rfl rfl rfl (fun z13 hz13 => ?_)
      have tz13 := tf_63_2 Is4
      refine h_zne (tg := 63) (pc' := 54) rfl rfl rfl hz13 (fun c14 => ?_) (fun c14 => absurd c14 (by omega))
      exact h_vret rfl rfl (kk _ Is4 Fs4 (Or.inr (Or.inl ⟨by omega, by omega⟩)))
    · refine h_aload_n (pc' := 22) rfl rfl rfl ?_
      refine h_call (sp := false) (pc' := 25) (M := [(0, .ref 63)]) rfl rfl rfl rfl rfl rfl rfl rfl ?_
      refine h_aload_n (pc' := 1) rfl rfl rfl ?_
      refine h_getI (pc' := 4) (v := s4 63 2) rfl rfl rfl rfl rfl rfl (fun z15 hz15 => ?_)
      have tz15 := tf_63_2 Is4
      refine h_zne (tg := 22) (pc' := 7) rfl rfl rfl hz15 (fun c16 => absurd c16 (by omega)) (fun c16 => ?_)
      refine h_aload_n (pc' := 8) rfl rfl rfl ?_
      refine h_getR (pc' := 11) rfl rfl rfl rfl rfl ?_
      refine h_getI (pc' := 14) (v := s4 64 3) rfl rfl rfl rfl rfl rfl (fun z17 hz17 => ?_)
      have tz17 := tf_64_3 Is4
      refine h_iconst (pc' := 15) (x := (Int32.ofInt 2)) rfl rfl rfl ?_
      refine h_cne (tg := 22) (pc' := 18) rfl rfl rfl hz17 ci_2 (fun c18 => ?_) (fun c18 => ?_)
      · refine h_iconst (pc' := 23) (x := (Int32.ofInt 0)) rfl rfl rfl ?_
        refine h_zret rfl rfl ci_0 (by omega) (h_Kv ?_)
        refine h_zeq (tg := 44) (pc' := 28) rfl rfl rfl ci_0 (fun c19 => ?_) (fun c19 => absurd c19 (by omega))
        refine h_bipush (pc' := 46) (x := (Int32.ofInt (-4))) rfl rfl cb_m4 ?_
        refine h_istore_n (pc' := 47) (M := [(2, .int (Int32.ofInt (-4))), (0, .ref 63), (1, .int x0)]) rfl rfl rfl rfl ?_
        refine h_aload_n (pc' := 48) rfl rfl rfl ?_
        refine h_getI (pc' := 51) (v := s4 63 2) rfl rfl rfl rfl rfl rfl (fun z20 hz20 => ?_)
        have tz20 := tf_63_2 Is4
        refine h_zne (tg := 63) (pc' := 54) rfl rfl rfl hz20 (fun c21 => absurd c21 (by omega)) (fun c21 => ?_)
        refine h_aload_n (pc' := 55) rfl rfl rfl ?_
        refine h_getR (pc' := 58) rfl rfl rfl rfl rfl ?_
        refine h_iload_n (pc' := 59) rfl rfl rfl ?_
        refine h_iload_n (pc' := 60) rfl rfl rfl ?_
        refine h_call (sp := false) (pc' := 63) (M := [(0, .ref 66), (1, .int x0), (2, .int (Int32.ofInt (-4)))]) rfl rfl rfl rfl rfl rfl rfl rfl ?_
        refine h_aload_n (pc' := 1) rfl rfl rfl ?_
        refine h_getI (pc' := 4) (v := s4 66 8) rfl rfl rfl rfl rfl rfl (fun z22 hz22 => ?_)
        have tz22 := tf_66_8 Is4
        refine h_bipush (pc' := 6) (x := (Int32.ofInt 6)) rfl rfl cb_6 ?_
        refine h_cge (tg := 39) (pc' := 9) rfl rfl rfl hz22 ci_6 (fun c23 => ?_) (fun c23 => ?_)
        · refine h_vret rfl rfl (h_Kn ?_)
          exact h_vret rfl rfl (kk _ Is4 Fs4 (Or.inr (Or.inr ⟨by omega, by omega, by omega⟩)))
        · refine h_aload_n (pc' := 10) rfl rfl rfl ?_
          refine h_getR (pc' := 13) rfl rfl rfl rfl rfl ?_
          refine h_aload_n (pc' := 14) rfl rfl rfl ?_
          refine h_getI (pc' := 17) (v := s4 66 8) rfl rfl rfl rfl rfl rfl (fun z24 hz24 => ?_)
          have tz24 := tf_66_8 Is4
          refine h_iload_n (pc' := 18) rfl rfl rfl ?_
          refine h_iast (pc' := 19) rfl rfl rfl rfl hz24 (by omega) (by omega) hx0 (h_fgt (E := fun s => s 63 2 = s4 63 2 ∧ s 64 3 = s4 64 3 ∧ s 64 5 = s4 64 5) _ (in_67 Is4 (by omega)) (Fs4.up rfl) ⟨rfl, rfl, rfl⟩ (fun s25 Is25 Fs25 (es25 : s25 63 2 = s4 63 2 ∧ s25 64 3 = s4 64 3 ∧ s25 64 5 = s4 64 5) => ?_))
          refine h_aload_n (pc' := 20) rfl rfl rfl ?_
          refine h_getR (pc' := 23) rfl rfl rfl rfl rfl ?_
          refine h_aload_n (pc' := 24) rfl rfl rfl ?_
          refine h_getI (pc' := 27) (v := s25 66 8) rfl rfl rfl rfl rfl rfl (fun z26 hz26 => ?_)
          have tz26 := tf_66_8 Is25
          refine h_iload_n (pc' := 28) rfl rfl rfl ?_
          refine h_iast (pc' := 29) rfl rfl rfl rfl hz26 (by omega) (by omega) ci_m4 (h_fgt (E := fun s => s 63 2 = s4 63 2 ∧ s 64 3 = s4 64 3 ∧ s 64 5 = s4 64 5) _ (in_68 Is25 (by omega)) (Fs25.up rfl) ⟨es25.1, es25.2.1, es25.2.2⟩ (fun s27 Is27 Fs27 (es27 : s27 63 2 = s4 63 2 ∧ s27 64 3 = s4 64 3 ∧ s27 64 5 = s4 64 5) => ?_))
          clear es25
          refine h_aload_n (pc' := 30) rfl rfl rfl ?_
          refine h_dup (pc' := 31) rfl rfl rfl ?_
          refine h_getI (pc' := 34) (v := s27 66 8) rfl rfl rfl rfl rfl rfl (fun z28 hz28 => ?_)
          have tz28 := tf_66_8 Is27
          refine h_iconst (pc' := 35) (x := (Int32.ofInt 1)) rfl rfl rfl ?_
          refine h_iadd (pc' := 36) rfl rfl hz28 ci_1 rfl (by omega) (by omega) (fun z29 hz29 => ?_)
          refine h_put (pc' := 39) rfl rfl rfl rfl rfl rfl hz29 rfl (h_fgt (E := fun s => s 63 2 = s4 63 2 ∧ s 64 3 = s4 64 3 ∧ s 64 5 = s4 64 5) _ (if_66_8 Is27 (by omega)) (Fs27.up rfl) ⟨es27.1, es27.2.1, es27.2.2⟩ (fun s30 Is30 Fs30 (es30 : s30 63 2 = s4 63 2 ∧ s30 64 3 = s4 64 3 ∧ s30 64 5 = s4 64 5) => ?_))
          clear es27
          refine h_vret rfl rfl (h_Kn ?_)
          exact h_vret rfl rfl (kk _ Is30 Fs30 (Or.inr (Or.inr ⟨by omega, by omega, by omega⟩)))
      · refine h_iconst (pc' := 19) (x := (Int32.ofInt 1)) rfl rfl rfl ?_
        refine h_goto (pc' := 23) rfl rfl ?_
        refine h_zret rfl rfl ci_1 (by omega) (h_Kv ?_)
        refine h_zeq (tg := 44) (pc' := 28) rfl rfl rfl ci_1 (fun c31 => absurd c31 (by omega)) (fun c31 => ?_)
        refine h_aload_n (pc' := 29) rfl rfl rfl ?_
        refine h_aload_n (pc' := 30) rfl rfl rfl ?_
        refine h_getR (pc' := 33) rfl rfl rfl rfl rfl ?_
        refine h_getI (pc' := 36) (v := s4 66 8) rfl rfl rfl rfl rfl rfl (fun z32 hz32 => ?_)
        have tz32 := tf_66_8 Is4
        refine h_iconst (pc' := 37) (x := (Int32.ofInt 1)) rfl rfl rfl ?_
        refine h_isub (pc' := 38) rfl rfl hz32 ci_1 rfl (by omega) (by omega) (fun z33 hz33 => ?_)
        refine h_call (sp := false) (pc' := 41) (M := [(0, .ref 63), (1, .int z33)]) rfl rfl rfl rfl rfl rfl rfl rfl ?_
        refine v_takeNumber _ Is4 z33 _ hz33 (by omega) (fun r34 br34 hr34 s35 Is35 Gs35 pcs35 => h_Kv ?_)
        have Fs35 := (Gs35.l1).tr Fs4
        rcases pcs35 with pcs35 | pcs35 | pcs35
        · exfalso; omega
        · refine h_goto (pc' := 46) rfl rfl ?_
          refine h_istore_n (pc' := 47) (M := [(2, .int r34), (0, .ref 63), (1, .int x0)]) rfl rfl rfl rfl ?_
          refine h_aload_n (pc' := 48) rfl rfl rfl ?_
          refine h_getI (pc' := 51) (v := s35 63 2) rfl rfl rfl rfl rfl rfl (fun z36 hz36 => ?_)
          have tz36 := tf_63_2 Is35
          refine h_zne (tg := 63) (pc' := 54) rfl rfl rfl hz36 (fun c37 => ?_) (fun c37 => absurd c37 (by omega))
          exact h_vret rfl rfl (kk _ Is35 Fs35 (Or.inr (Or.inl ⟨by omega, by omega⟩)))
        · refine h_goto (pc' := 46) rfl rfl ?_
          refine h_istore_n (pc' := 47) (M := [(2, .int r34), (0, .ref 63), (1, .int x0)]) rfl rfl rfl rfl ?_
          refine h_aload_n (pc' := 48) rfl rfl rfl ?_
          refine h_getI (pc' := 51) (v := s35 63 2) rfl rfl rfl rfl rfl rfl (fun z38 hz38 => ?_)
          have tz38 := tf_63_2 Is35
          refine h_zne (tg := 63) (pc' := 54) rfl rfl rfl hz38 (fun c39 => absurd c39 (by omega)) (fun c39 => ?_)
          refine h_aload_n (pc' := 55) rfl rfl rfl ?_
          refine h_getR (pc' := 58) rfl rfl rfl rfl rfl ?_
          refine h_iload_n (pc' := 59) rfl rfl rfl ?_
          refine h_iload_n (pc' := 60) rfl rfl rfl ?_
          refine h_call (sp := false) (pc' := 63) (M := [(0, .ref 66), (1, .int x0), (2, .int r34)]) rfl rfl rfl rfl rfl rfl rfl rfl ?_
          refine h_aload_n (pc' := 1) rfl rfl rfl ?_
          refine h_getI (pc' := 4) (v := s35 66 8) rfl rfl rfl rfl rfl rfl (fun z40 hz40 => ?_)
          have tz40 := tf_66_8 Is35
          refine h_bipush (pc' := 6) (x := (Int32.ofInt 6)) rfl rfl cb_6 ?_
          refine h_cge (tg := 39) (pc' := 9) rfl rfl rfl hz40 ci_6 (fun c41 => ?_) (fun c41 => ?_)
          · refine h_vret rfl rfl (h_Kn ?_)
            exact h_vret rfl rfl (kk _ Is35 Fs35 (Or.inr (Or.inr ⟨by omega, by omega, by omega⟩)))
          · refine h_aload_n (pc' := 10) rfl rfl rfl ?_
            refine h_getR (pc' := 13) rfl rfl rfl rfl rfl ?_
            refine h_aload_n (pc' := 14) rfl rfl rfl ?_
            refine h_getI (pc' := 17) (v := s35 66 8) rfl rfl rfl rfl rfl rfl (fun z42 hz42 => ?_)
            have tz42 := tf_66_8 Is35
            refine h_iload_n (pc' := 18) rfl rfl rfl ?_
            refine h_iast (pc' := 19) rfl rfl rfl rfl hz42 (by omega) (by omega) hx0 (h_fgt (E := fun s => s 63 2 = s35 63 2 ∧ s 64 3 = s35 64 3 ∧ s 64 5 = s35 64 5) _ (in_67 Is35 (by omega)) (Fs35.up rfl) ⟨rfl, rfl, rfl⟩ (fun s43 Is43 Fs43 (es43 : s43 63 2 = s35 63 2 ∧ s43 64 3 = s35 64 3 ∧ s43 64 5 = s35 64 5) => ?_))
            refine h_aload_n (pc' := 20) rfl rfl rfl ?_
            refine h_getR (pc' := 23) rfl rfl rfl rfl rfl ?_
            refine h_aload_n (pc' := 24) rfl rfl rfl ?_
            refine h_getI (pc' := 27) (v := s43 66 8) rfl rfl rfl rfl rfl rfl (fun z44 hz44 => ?_)
            have tz44 := tf_66_8 Is43
            refine h_iload_n (pc' := 28) rfl rfl rfl ?_
            refine h_iast (pc' := 29) rfl rfl rfl rfl hz44 (by omega) (by omega) hr34 (h_fgt (E := fun s => s 63 2 = s35 63 2 ∧ s 64 3 = s35 64 3 ∧ s 64 5 = s35 64 5) _ (in_68 Is43 (by omega)) (Fs43.up rfl) ⟨es43.1, es43.2.1, es43.2.2⟩ (fun s45 Is45 Fs45 (es45 : s45 63 2 = s35 63 2 ∧ s45 64 3 = s35 64 3 ∧ s45 64 5 = s35 64 5) => ?_))
            clear es43
            refine h_aload_n (pc' := 30) rfl rfl rfl ?_
            refine h_dup (pc' := 31) rfl rfl rfl ?_
            refine h_getI (pc' := 34) (v := s45 66 8) rfl rfl rfl rfl rfl rfl (fun z46 hz46 => ?_)
            have tz46 := tf_66_8 Is45
            refine h_iconst (pc' := 35) (x := (Int32.ofInt 1)) rfl rfl rfl ?_
            refine h_iadd (pc' := 36) rfl rfl hz46 ci_1 rfl (by omega) (by omega) (fun z47 hz47 => ?_)
            refine h_put (pc' := 39) rfl rfl rfl rfl rfl rfl hz47 rfl (h_fgt (E := fun s => s 63 2 = s35 63 2 ∧ s 64 3 = s35 64 3 ∧ s 64 5 = s35 64 5) _ (if_66_8 Is45 (by omega)) (Fs45.up rfl) ⟨es45.1, es45.2.1, es45.2.2⟩ (fun s48 Is48 Fs48 (es48 : s48 63 2 = s35 63 2 ∧ s48 64 3 = s35 64 3 ∧ s48 64 5 = s35 64 5) => ?_))
            clear es45
            refine h_vret rfl rfl (h_Kn ?_)
            exact h_vret rfl rfl (kk _ Is48 Fs48 (Or.inr (Or.inr ⟨by omega, by omega, by omega⟩)))
  · refine h_iconst (pc' := 14) (x := (Int32.ofInt 1)) rfl rfl rfl ?_
    refine h_goto (pc' := 18) rfl rfl ?_
    refine h_call (sp := false) (pc' := 21) (M := [(0, .ref 63), (1, .int (Int32.ofInt 1))]) rfl rfl rfl rfl rfl rfl rfl rfl ?_
    refine v_takeName _ hI (Int32.ofInt 1) _ ci_1 (by omega) (fun s50 Is50 Gs50 pcs50 => h_Kn ?_)
    have Fs50 := (Gs50.l1).tr F00
    rcases pcs50 with pcs50 | pcs50 | pcs50
    · refine h_aload_n (pc' := 22) rfl rfl rfl ?_
      refine h_call (sp := false) (pc' := 25) (M := [(0, .ref 63)]) rfl rfl rfl rfl rfl rfl rfl rfl ?_
      refine h_aload_n (pc' := 1) rfl rfl rfl ?_
      refine h_getI (pc' := 4) (v := s50 63 2) rfl rfl rfl rfl rfl rfl (fun z51 hz51 => ?_)
      have tz51 := tf_63_2 Is50
      refine h_zne (tg := 22) (pc' := 7) rfl rfl rfl hz51 (fun c52 => ?_) (fun c52 => absurd c52 (by omega))
      refine h_iconst (pc' := 23) (x := (Int32.ofInt 0)) rfl rfl rfl ?_
      refine h_zret rfl rfl ci_0 (by omega) (h_Kv ?_)
      refine h_zeq (tg := 44) (pc' := 28) rfl rfl rfl ci_0 (fun c53 => ?_) (fun c53 => absurd c53 (by omega))
      refine h_bipush (pc' := 46) (x := (Int32.ofInt (-4))) rfl rfl cb_m4 ?_
      refine h_istore_n (pc' := 47) (M := [(2, .int (Int32.ofInt (-4))), (0, .ref 63), (1, .int x0)]) rfl rfl rfl rfl ?_
      refine h_aload_n (pc' := 48) rfl rfl rfl ?_
      refine h_getI (pc' := 51) (v := s50 63 2) rfl rfl rfl rfl rfl rfl (fun z54 hz54 => ?_)
      have tz54 := tf_63_2 Is50
      refine h_zne (tg := 63) (pc' := 54) rfl rfl rfl hz54 (fun c55 => ?_) (fun c55 => absurd c55 (by omega))
      exact h_vret rfl rfl (kk _ Is50 Fs50 (Or.inl ⟨by omega, by omega⟩))
    · refine h_aload_n (pc' := 22) rfl rfl rfl ?_
      refine h_call (sp := false) (pc' := 25) (M := [(0, .ref 63)]) rfl rfl rfl rfl rfl rfl rfl rfl ?_
      refine h_aload_n (pc' := 1) rfl rfl rfl ?_
      refine h_getI (pc' := 4) (v := s50 63 2) rfl rfl rfl rfl rfl rfl (fun z56 hz56 => ?_)
      have tz56 := tf_63_2 Is50
      refine h_zne (tg := 22) (pc' := 7) rfl rfl rfl hz56 (fun c57 => ?_) (fun c57 => absurd c57 (by omega))
      refine h_iconst (pc' := 23) (x := (Int32.ofInt 0)) rfl rfl rfl ?_
      refine h_zret rfl rfl ci_0 (by omega) (h_Kv ?_)
      refine h_zeq (tg := 44) (pc' := 28) rfl rfl rfl ci_0 (fun c58 => ?_) (fun c58 => absurd c58 (by omega))
      refine h_bipush (pc' := 46) (x := (Int32.ofInt (-4))) rfl rfl cb_m4 ?_
      refine h_istore_n (pc' := 47) (M := [(2, .int (Int32.ofInt (-4))), (0, .ref 63), (1, .int x0)]) rfl rfl rfl rfl ?_
      refine h_aload_n (pc' := 48) rfl rfl rfl ?_
      refine h_getI (pc' := 51) (v := s50 63 2) rfl rfl rfl rfl rfl rfl (fun z59 hz59 => ?_)
      have tz59 := tf_63_2 Is50
      refine h_zne (tg := 63) (pc' := 54) rfl rfl rfl hz59 (fun c60 => ?_) (fun c60 => absurd c60 (by omega))
      exact h_vret rfl rfl (kk _ Is50 Fs50 (Or.inr (Or.inl ⟨by omega, by omega⟩)))
    · refine h_aload_n (pc' := 22) rfl rfl rfl ?_
      refine h_call (sp := false) (pc' := 25) (M := [(0, .ref 63)]) rfl rfl rfl rfl rfl rfl rfl rfl ?_
      refine h_aload_n (pc' := 1) rfl rfl rfl ?_
      refine h_getI (pc' := 4) (v := s50 63 2) rfl rfl rfl rfl rfl rfl (fun z61 hz61 => ?_)
      have tz61 := tf_63_2 Is50
      refine h_zne (tg := 22) (pc' := 7) rfl rfl rfl hz61 (fun c62 => absurd c62 (by omega)) (fun c62 => ?_)
      refine h_aload_n (pc' := 8) rfl rfl rfl ?_
      refine h_getR (pc' := 11) rfl rfl rfl rfl rfl ?_
      refine h_getI (pc' := 14) (v := s50 64 3) rfl rfl rfl rfl rfl rfl (fun z63 hz63 => ?_)
      have tz63 := tf_64_3 Is50
      refine h_iconst (pc' := 15) (x := (Int32.ofInt 2)) rfl rfl rfl ?_
      refine h_cne (tg := 22) (pc' := 18) rfl rfl rfl hz63 ci_2 (fun c64 => ?_) (fun c64 => ?_)
      · refine h_iconst (pc' := 23) (x := (Int32.ofInt 0)) rfl rfl rfl ?_
        refine h_zret rfl rfl ci_0 (by omega) (h_Kv ?_)
        refine h_zeq (tg := 44) (pc' := 28) rfl rfl rfl ci_0 (fun c65 => ?_) (fun c65 => absurd c65 (by omega))
        refine h_bipush (pc' := 46) (x := (Int32.ofInt (-4))) rfl rfl cb_m4 ?_
        refine h_istore_n (pc' := 47) (M := [(2, .int (Int32.ofInt (-4))), (0, .ref 63), (1, .int x0)]) rfl rfl rfl rfl ?_
        refine h_aload_n (pc' := 48) rfl rfl rfl ?_
        refine h_getI (pc' := 51) (v := s50 63 2) rfl rfl rfl rfl rfl rfl (fun z66 hz66 => ?_)
        have tz66 := tf_63_2 Is50
        refine h_zne (tg := 63) (pc' := 54) rfl rfl rfl hz66 (fun c67 => absurd c67 (by omega)) (fun c67 => ?_)
        refine h_aload_n (pc' := 55) rfl rfl rfl ?_
        refine h_getR (pc' := 58) rfl rfl rfl rfl rfl ?_
        refine h_iload_n (pc' := 59) rfl rfl rfl ?_
        refine h_iload_n (pc' := 60) rfl rfl rfl ?_
        refine h_call (sp := false) (pc' := 63) (M := [(0, .ref 66), (1, .int x0), (2, .int (Int32.ofInt (-4)))]) rfl rfl rfl rfl rfl rfl rfl rfl ?_
        refine h_aload_n (pc' := 1) rfl rfl rfl ?_
        refine h_getI (pc' := 4) (v := s50 66 8) rfl rfl rfl rfl rfl rfl (fun z68 hz68 => ?_)
        have tz68 := tf_66_8 Is50
        refine h_bipush (pc' := 6) (x := (Int32.ofInt 6)) rfl rfl cb_6 ?_
        refine h_cge (tg := 39) (pc' := 9) rfl rfl rfl hz68 ci_6 (fun c69 => ?_) (fun c69 => ?_)
        · refine h_vret rfl rfl (h_Kn ?_)
          exact h_vret rfl rfl (kk _ Is50 Fs50 (Or.inr (Or.inr ⟨by omega, by omega, by omega⟩)))
        · refine h_aload_n (pc' := 10) rfl rfl rfl ?_
          refine h_getR (pc' := 13) rfl rfl rfl rfl rfl ?_
          refine h_aload_n (pc' := 14) rfl rfl rfl ?_
          refine h_getI (pc' := 17) (v := s50 66 8) rfl rfl rfl rfl rfl rfl (fun z70 hz70 => ?_)
          have tz70 := tf_66_8 Is50
          refine h_iload_n (pc' := 18) rfl rfl rfl ?_
          refine h_iast (pc' := 19) rfl rfl rfl rfl hz70 (by omega) (by omega) hx0 (h_fgt (E := fun s => s 63 2 = s50 63 2 ∧ s 64 3 = s50 64 3 ∧ s 64 5 = s50 64 5) _ (in_67 Is50 (by omega)) (Fs50.up rfl) ⟨rfl, rfl, rfl⟩ (fun s71 Is71 Fs71 (es71 : s71 63 2 = s50 63 2 ∧ s71 64 3 = s50 64 3 ∧ s71 64 5 = s50 64 5) => ?_))
          refine h_aload_n (pc' := 20) rfl rfl rfl ?_
          refine h_getR (pc' := 23) rfl rfl rfl rfl rfl ?_
          refine h_aload_n (pc' := 24) rfl rfl rfl ?_
          refine h_getI (pc' := 27) (v := s71 66 8) rfl rfl rfl rfl rfl rfl (fun z72 hz72 => ?_)
          have tz72 := tf_66_8 Is71
          refine h_iload_n (pc' := 28) rfl rfl rfl ?_
          refine h_iast (pc' := 29) rfl rfl rfl rfl hz72 (by omega) (by omega) ci_m4 (h_fgt (E := fun s => s 63 2 = s50 63 2 ∧ s 64 3 = s50 64 3 ∧ s 64 5 = s50 64 5) _ (in_68 Is71 (by omega)) (Fs71.up rfl) ⟨es71.1, es71.2.1, es71.2.2⟩ (fun s73 Is73 Fs73 (es73 : s73 63 2 = s50 63 2 ∧ s73 64 3 = s50 64 3 ∧ s73 64 5 = s50 64 5) => ?_))
          clear es71
          refine h_aload_n (pc' := 30) rfl rfl rfl ?_
          refine h_dup (pc' := 31) rfl rfl rfl ?_
          refine h_getI (pc' := 34) (v := s73 66 8) rfl rfl rfl rfl rfl rfl (fun z74 hz74 => ?_)
          have tz74 := tf_66_8 Is73
          refine h_iconst (pc' := 35) (x := (Int32.ofInt 1)) rfl rfl rfl ?_
          refine h_iadd (pc' := 36) rfl rfl hz74 ci_1 rfl (by omega) (by omega) (fun z75 hz75 => ?_)
          refine h_put (pc' := 39) rfl rfl rfl rfl rfl rfl hz75 rfl (h_fgt (E := fun s => s 63 2 = s50 63 2 ∧ s 64 3 = s50 64 3 ∧ s 64 5 = s50 64 5) _ (if_66_8 Is73 (by omega)) (Fs73.up rfl) ⟨es73.1, es73.2.1, es73.2.2⟩ (fun s76 Is76 Fs76 (es76 : s76 63 2 = s50 63 2 ∧ s76 64 3 = s50 64 3 ∧ s76 64 5 = s50 64 5) => ?_))
          clear es73
          refine h_vret rfl rfl (h_Kn ?_)
          exact h_vret rfl rfl (kk _ Is76 Fs76 (Or.inr (Or.inr ⟨by omega, by omega, by omega⟩)))
      · refine h_iconst (pc' := 19) (x := (Int32.ofInt 1)) rfl rfl rfl ?_
        refine h_goto (pc' := 23) rfl rfl ?_
        refine h_zret rfl rfl ci_1 (by omega) (h_Kv ?_)
        refine h_zeq (tg := 44) (pc' := 28) rfl rfl rfl ci_1 (fun c77 => absurd c77 (by omega)) (fun c77 => ?_)
        refine h_aload_n (pc' := 29) rfl rfl rfl ?_
        refine h_aload_n (pc' := 30) rfl rfl rfl ?_
        refine h_getR (pc' := 33) rfl rfl rfl rfl rfl ?_
        refine h_getI (pc' := 36) (v := s50 66 8) rfl rfl rfl rfl rfl rfl (fun z78 hz78 => ?_)
        have tz78 := tf_66_8 Is50
        refine h_iconst (pc' := 37) (x := (Int32.ofInt 1)) rfl rfl rfl ?_
        refine h_isub (pc' := 38) rfl rfl hz78 ci_1 rfl (by omega) (by omega) (fun z79 hz79 => ?_)
        refine h_call (sp := false) (pc' := 41) (M := [(0, .ref 63), (1, .int z79)]) rfl rfl rfl rfl rfl rfl rfl rfl ?_
        refine v_takeNumber _ Is50 z79 _ hz79 (by omega) (fun r80 br80 hr80 s81 Is81 Gs81 pcs81 => h_Kv ?_)
        have Fs81 := (Gs81.l1).tr Fs50
        rcases pcs81 with pcs81 | pcs81 | pcs81
        · exfalso; omega
        · refine h_goto (pc' := 46) rfl rfl ?_
          refine h_istore_n (pc' := 47) (M := [(2, .int r80), (0, .ref 63), (1, .int x0)]) rfl rfl rfl rfl ?_
          refine h_aload_n (pc' := 48) rfl rfl rfl ?_
          refine h_getI (pc' := 51) (v := s81 63 2) rfl rfl rfl rfl rfl rfl (fun z82 hz82 => ?_)
          have tz82 := tf_63_2 Is81
          refine h_zne (tg := 63) (pc' := 54) rfl rfl rfl hz82 (fun c83 => ?_) (fun c83 => absurd c83 (by omega))
          exact h_vret rfl rfl (kk _ Is81 Fs81 (Or.inr (Or.inl ⟨by omega, by omega⟩)))
        · refine h_goto (pc' := 46) rfl rfl ?_
          refine h_istore_n (pc' := 47) (M := [(2, .int r80), (0, .ref 63), (1, .int x0)]) rfl rfl rfl rfl ?_
          refine h_aload_n (pc' := 48) rfl rfl rfl ?_
          refine h_getI (pc' := 51) (v := s81 63 2) rfl rfl rfl rfl rfl rfl (fun z84 hz84 => ?_)
          have tz84 := tf_63_2 Is81
          refine h_zne (tg := 63) (pc' := 54) rfl rfl rfl hz84 (fun c85 => absurd c85 (by omega)) (fun c85 => ?_)
          refine h_aload_n (pc' := 55) rfl rfl rfl ?_
          refine h_getR (pc' := 58) rfl rfl rfl rfl rfl ?_
          refine h_iload_n (pc' := 59) rfl rfl rfl ?_
          refine h_iload_n (pc' := 60) rfl rfl rfl ?_
          refine h_call (sp := false) (pc' := 63) (M := [(0, .ref 66), (1, .int x0), (2, .int r80)]) rfl rfl rfl rfl rfl rfl rfl rfl ?_
          refine h_aload_n (pc' := 1) rfl rfl rfl ?_
          refine h_getI (pc' := 4) (v := s81 66 8) rfl rfl rfl rfl rfl rfl (fun z86 hz86 => ?_)
          have tz86 := tf_66_8 Is81
          refine h_bipush (pc' := 6) (x := (Int32.ofInt 6)) rfl rfl cb_6 ?_
          refine h_cge (tg := 39) (pc' := 9) rfl rfl rfl hz86 ci_6 (fun c87 => ?_) (fun c87 => ?_)
          · refine h_vret rfl rfl (h_Kn ?_)
            exact h_vret rfl rfl (kk _ Is81 Fs81 (Or.inr (Or.inr ⟨by omega, by omega, by omega⟩)))
          · refine h_aload_n (pc' := 10) rfl rfl rfl ?_
            refine h_getR (pc' := 13) rfl rfl rfl rfl rfl ?_
            refine h_aload_n (pc' := 14) rfl rfl rfl ?_
            refine h_getI (pc' := 17) (v := s81 66 8) rfl rfl rfl rfl rfl rfl (fun z88 hz88 => ?_)
            have tz88 := tf_66_8 Is81
            refine h_iload_n (pc' := 18) rfl rfl rfl ?_
            refine h_iast (pc' := 19) rfl rfl rfl rfl hz88 (by omega) (by omega) hx0 (h_fgt (E := fun s => s 63 2 = s81 63 2 ∧ s 64 3 = s81 64 3 ∧ s 64 5 = s81 64 5) _ (in_67 Is81 (by omega)) (Fs81.up rfl) ⟨rfl, rfl, rfl⟩ (fun s89 Is89 Fs89 (es89 : s89 63 2 = s81 63 2 ∧ s89 64 3 = s81 64 3 ∧ s89 64 5 = s81 64 5) => ?_))
            refine h_aload_n (pc' := 20) rfl rfl rfl ?_
            refine h_getR (pc' := 23) rfl rfl rfl rfl rfl ?_
            refine h_aload_n (pc' := 24) rfl rfl rfl ?_
            refine h_getI (pc' := 27) (v := s89 66 8) rfl rfl rfl rfl rfl rfl (fun z90 hz90 => ?_)
            have tz90 := tf_66_8 Is89
            refine h_iload_n (pc' := 28) rfl rfl rfl ?_
            refine h_iast (pc' := 29) rfl rfl rfl rfl hz90 (by omega) (by omega) hr80 (h_fgt (E := fun s => s 63 2 = s81 63 2 ∧ s 64 3 = s81 64 3 ∧ s 64 5 = s81 64 5) _ (in_68 Is89 (by omega)) (Fs89.up rfl) ⟨es89.1, es89.2.1, es89.2.2⟩ (fun s91 Is91 Fs91 (es91 : s91 63 2 = s81 63 2 ∧ s91 64 3 = s81 64 3 ∧ s91 64 5 = s81 64 5) => ?_))
            clear es89
            refine h_aload_n (pc' := 30) rfl rfl rfl ?_
            refine h_dup (pc' := 31) rfl rfl rfl ?_
            refine h_getI (pc' := 34) (v := s91 66 8) rfl rfl rfl rfl rfl rfl (fun z92 hz92 => ?_)
            have tz92 := tf_66_8 Is91
            refine h_iconst (pc' := 35) (x := (Int32.ofInt 1)) rfl rfl rfl ?_
            refine h_iadd (pc' := 36) rfl rfl hz92 ci_1 rfl (by omega) (by omega) (fun z93 hz93 => ?_)
            refine h_put (pc' := 39) rfl rfl rfl rfl rfl rfl hz93 rfl (h_fgt (E := fun s => s 63 2 = s81 63 2 ∧ s 64 3 = s81 64 3 ∧ s 64 5 = s81 64 5) _ (if_66_8 Is91 (by omega)) (Fs91.up rfl) ⟨es91.1, es91.2.1, es91.2.2⟩ (fun s94 Is94 Fs94 (es94 : s94 63 2 = s81 63 2 ∧ s94 64 3 = s81 64 3 ∧ s94 64 5 = s81 64 5) => ?_))
            clear es91
            refine h_vret rfl rfl (h_Kn ?_)
            exact h_vret rfl rfl (kk _ Is94 Fs94 (Or.inr (Or.inr ⟨by omega, by omega, by omega⟩)))
set_option maxHeartbeats 100000000 in
theorem v_readPairX69 {ns : Nat} (σ : h_S) (hI : h_I σ) (pr0 : (¬ σ 63 2 = 0 ∨ ¬ σ 64 3 = 2 ∨ (0 ≤ σ 64 5 ∧ σ 64 5 ≤ 99))) {Q : Option Value → h_S → Prop} (kk : ∀ (τ : h_S), h_I τ → h_F k_nt τ σ → (((1 ≤ σ 63 2 ∧ σ 63 2 ≤ 6) ∧ (1 ≤ τ 63 2 ∧ τ 63 2 ≤ 6)) ∨ ((σ 63 2 = 0) ∧ (1 ≤ τ 63 2 ∧ τ 63 2 ≤ 6)) ∨ ((σ 63 2 = 0) ∧ (τ 63 2 = 0) ∧ (¬ τ 64 3 = 2 ∨ (0 ≤ τ 64 5 ∧ τ 64 5 ≤ 99)))) → Q none τ) : h_T g_P (g_Y ns) 60 0 [(0, .ref 63), (1, .ref 69)] [] σ Q := by
  have F00 : h_F k_nt σ σ := h_F.rf
  refine h_aload_n (pc' := 1) rfl rfl rfl ?_
  refine h_aload_n (pc' := 2) rfl rfl rfl ?_
  refine h_call (sp := false) (pc' := 5) (M := [(0, .ref 69)]) rfl rfl rfl rfl rfl rfl rfl rfl ?_
  refine h_aload_n (pc' := 1) rfl rfl rfl ?_
  refine h_getI (pc' := 4) (v := σ 69 2) rfl rfl rfl rfl rfl rfl (fun z1 hz1 => ?_)
  have tz1 := tf_69_2 hI
  refine h_iconst (pc' := 5) (x := (Int32.ofInt 3)) rfl rfl rfl ?_
  refine h_clt (tg := 12) (pc' := 8) rfl rfl rfl hz1 ci_3 (fun c2 => ?_) (fun c2 => ?_)
  · refine h_iconst (pc' := 13) (x := (Int32.ofInt 0)) rfl rfl rfl ?_
    refine h_zret rfl rfl ci_0 (by omega) (h_Kv ?_)
    refine h_call (sp := false) (pc' := 8) (M := [(0, .ref 63), (1, .int (Int32.ofInt 0))]) rfl rfl rfl rfl rfl rfl rfl rfl ?_
    refine v_takeName _ hI (Int32.ofInt 0) _ ci_0 (by omega) (fun s4 Is4 Gs4 pcs4 => h_Kn ?_)
    have Fs4 := (Gs4.l1).tr F00
    rcases pcs4 with pcs4 | pcs4 | pcs4
    · refine h_aload_n (pc' := 9) rfl rfl rfl ?_
      refine h_iconst (pc' := 10) (x := (Int32.ofInt 5)) rfl rfl rfl ?_
      refine h_call (sp := false) (pc' := 13) (M := [(0, .ref 63), (1, .int (Int32.ofInt 5))]) rfl rfl rfl rfl rfl rfl rfl rfl ?_
      refine v_takeNumber _ Is4 (Int32.ofInt 5) _ ci_5 (by omega) (fun r5 br5 hr5 s6 Is6 Gs6 pcs6 => h_Kv ?_)
      have Fs6 := (Gs6.l1).tr Fs4
      rcases pcs6 with pcs6 | pcs6 | pcs6
      · refine h_istore_n (pc' := 14) (M := [(2, .int r5), (0, .ref 63), (1, .ref 69)]) rfl rfl rfl rfl ?_
        refine h_aload_n (pc' := 15) rfl rfl rfl ?_
        refine h_call (sp := false) (pc' := 18) (M := [(0, .ref 63)]) rfl rfl rfl rfl rfl rfl rfl rfl ?_
        refine h_aload_n (pc' := 1) rfl rfl rfl ?_
        refine h_getI (pc' := 4) (v := s6 63 2) rfl rfl rfl rfl rfl rfl (fun z7 hz7 => ?_)
        have tz7 := tf_63_2 Is6
        refine h_zne (tg := 22) (pc' := 7) rfl rfl rfl hz7 (fun c8 => ?_) (fun c8 => absurd c8 (by omega))
        refine h_iconst (pc' := 23) (x := (Int32.ofInt 0)) rfl rfl rfl ?_
        refine h_zret rfl rfl ci_0 (by omega) (h_Kv ?_)
        refine h_zeq (tg := 44) (pc' := 21) rfl rfl rfl ci_0 (fun c9 => ?_) (fun c9 => absurd c9 (by omega))
        refine h_aload_n (pc' := 45) rfl rfl rfl ?_
        refine h_iconst (pc' := 46) (x := (Int32.ofInt 5)) rfl rfl rfl ?_
        refine h_call (sp := false) (pc' := 49) (M := [(0, .ref 63), (1, .int (Int32.ofInt 5))]) rfl rfl rfl rfl rfl rfl rfl rfl ?_
        refine v_takeNumber _ Is6 (Int32.ofInt 5) _ ci_5 (by omega) (fun r10 br10 hr10 s11 Is11 Gs11 pcs11 => h_Kv ?_)
        have Fs11 := (Gs11.l1).tr Fs6
        rcases pcs11 with pcs11 | pcs11 | pcs11
        · refine h_istore_n (pc' := 50) (M := [(3, .int r10), (2, .int r5), (0, .ref 63), (1, .ref 69)]) rfl rfl rfl rfl ?_
          refine h_aload_n (pc' := 51) rfl rfl rfl ?_
          refine h_getI (pc' := 54) (v := s11 63 2) rfl rfl rfl rfl rfl rfl (fun z12 hz12 => ?_)
          have tz12 := tf_63_2 Is11
          refine h_zne (tg := 64) (pc' := 57) rfl rfl rfl hz12 (fun c13 => ?_) (fun c13 => absurd c13 (by omega))
          exact h_vret rfl rfl (kk _ Is11 Fs11 (Or.inl ⟨by omega, by omega⟩))
        · exfalso; omega
        · exfalso; omega
      · exfalso; omega
      · exfalso; omega
    · refine h_aload_n (pc' := 9) rfl rfl rfl ?_
      refine h_iconst (pc' := 10) (x := (Int32.ofInt 5)) rfl rfl rfl ?_
      refine h_call (sp := false) (pc' := 13) (M := [(0, .ref 63), (1, .int (Int32.ofInt 5))]) rfl rfl rfl rfl rfl rfl rfl rfl ?_
      refine v_takeNumber _ Is4 (Int32.ofInt 5) _ ci_5 (by omega) (fun r14 br14 hr14 s15 Is15 Gs15 pcs15 => h_Kv ?_)
      have Fs15 := (Gs15.l1).tr Fs4
      rcases pcs15 with pcs15 | pcs15 | pcs15
      · refine h_istore_n (pc' := 14) (M := [(2, .int r14), (0, .ref 63), (1, .ref 69)]) rfl rfl rfl rfl ?_
        refine h_aload_n (pc' := 15) rfl rfl rfl ?_
        refine h_call (sp := false) (pc' := 18) (M := [(0, .ref 63)]) rfl rfl rfl rfl rfl rfl rfl rfl ?_
        refine h_aload_n (pc' := 1) rfl rfl rfl ?_
        refine h_getI (pc' := 4) (v := s15 63 2) rfl rfl rfl rfl rfl rfl (fun z16 hz16 => ?_)
        have tz16 := tf_63_2 Is15
        refine h_zne (tg := 22) (pc' := 7) rfl rfl rfl hz16 (fun c17 => ?_) (fun c17 => absurd c17 (by omega))
        refine h_iconst (pc' := 23) (x := (Int32.ofInt 0)) rfl rfl rfl ?_
        refine h_zret rfl rfl ci_0 (by omega) (h_Kv ?_)
        refine h_zeq (tg := 44) (pc' := 21) rfl rfl rfl ci_0 (fun c18 => ?_) (fun c18 => absurd c18 (by omega))
        refine h_aload_n (pc' := 45) rfl rfl rfl ?_
        refine h_iconst (pc' := 46) (x := (Int32.ofInt 5)) rfl rfl rfl ?_
        refine h_call (sp := false) (pc' := 49) (M := [(0, .ref 63), (1, .int (Int32.ofInt 5))]) rfl rfl rfl rfl rfl rfl rfl rfl ?_
        refine v_takeNumber _ Is15 (Int32.ofInt 5) _ ci_5 (by omega) (fun r19 br19 hr19 s20 Is20 Gs20 pcs20 => h_Kv ?_)
        have Fs20 := (Gs20.l1).tr Fs15
        rcases pcs20 with pcs20 | pcs20 | pcs20
        · refine h_istore_n (pc' := 50) (M := [(3, .int r19), (2, .int r14), (0, .ref 63), (1, .ref 69)]) rfl rfl rfl rfl ?_
          refine h_aload_n (pc' := 51) rfl rfl rfl ?_
          refine h_getI (pc' := 54) (v := s20 63 2) rfl rfl rfl rfl rfl rfl (fun z21 hz21 => ?_)
          have tz21 := tf_63_2 Is20
          refine h_zne (tg := 64) (pc' := 57) rfl rfl rfl hz21 (fun c22 => ?_) (fun c22 => absurd c22 (by omega))
          exact h_vret rfl rfl (kk _ Is20 Fs20 (Or.inr (Or.inl ⟨by omega, by omega⟩)))
        · exfalso; omega
        · exfalso; omega
      · exfalso; omega
      · exfalso; omega
    · refine h_aload_n (pc' := 9) rfl rfl rfl ?_
      refine h_iconst (pc' := 10) (x := (Int32.ofInt 5)) rfl rfl rfl ?_
      refine h_call (sp := false) (pc' := 13) (M := [(0, .ref 63), (1, .int (Int32.ofInt 5))]) rfl rfl rfl rfl rfl rfl rfl rfl ?_
      refine v_takeNumber _ Is4 (Int32.ofInt 5) _ ci_5 (by omega) (fun r23 br23 hr23 s24 Is24 Gs24 pcs24 => h_Kv ?_)
      have Fs24 := (Gs24.l1).tr Fs4
      rcases pcs24 with pcs24 | pcs24 | pcs24
      · exfalso; omega
      · refine h_istore_n (pc' := 14) (M := [(2, .int r23), (0, .ref 63), (1, .ref 69)]) rfl rfl rfl rfl ?_
        refine h_aload_n (pc' := 15) rfl rfl rfl ?_
        refine h_call (sp := false) (pc' := 18) (M := [(0, .ref 63)]) rfl rfl rfl rfl rfl rfl rfl rfl ?_
        refine h_aload_n (pc' := 1) rfl rfl rfl ?_
        refine h_getI (pc' := 4) (v := s24 63 2) rfl rfl rfl rfl rfl rfl (fun z25 hz25 => ?_)
        have tz25 := tf_63_2 Is24
        refine h_zne (tg := 22) (pc' := 7) rfl rfl rfl hz25 (fun c26 => ?_) (fun c26 => absurd c26 (by omega))
        refine h_iconst (pc' := 23) (x := (Int32.ofInt 0)) rfl rfl rfl ?_
        refine h_zret rfl rfl ci_0 (by omega) (h_Kv ?_)
        refine h_zeq (tg := 44) (pc' := 21) rfl rfl rfl ci_0 (fun c27 => ?_) (fun c27 => absurd c27 (by omega))
        refine h_aload_n (pc' := 45) rfl rfl rfl ?_
        refine h_iconst (pc' := 46) (x := (Int32.ofInt 5)) rfl rfl rfl ?_
        refine h_call (sp := false) (pc' := 49) (M := [(0, .ref 63), (1, .int (Int32.ofInt 5))]) rfl rfl rfl rfl rfl rfl rfl rfl ?_
        refine v_takeNumber _ Is24 (Int32.ofInt 5) _ ci_5 (by omega) (fun r28 br28 hr28 s29 Is29 Gs29 pcs29 => h_Kv ?_)
        have Fs29 := (Gs29.l1).tr Fs24
        rcases pcs29 with pcs29 | pcs29 | pcs29
        · refine h_istore_n (pc' := 50) (M := [(3, .int r28), (2, .int r23), (0, .ref 63), (1, .ref 69)]) rfl rfl rfl rfl ?_
          refine h_aload_n (pc' := 51) rfl rfl rfl ?_
          refine h_getI (pc' := 54) (v := s29 63 2) rfl rfl rfl rfl rfl rfl (fun z30 hz30 => ?_)
          have tz30 := tf_63_2 Is29
          refine h_zne (tg := 64) (pc' := 57) rfl rfl rfl hz30 (fun c31 => ?_) (fun c31 => absurd c31 (by omega))
          exact h_vret rfl rfl (kk _ Is29 Fs29 (Or.inr (Or.inl ⟨by omega, by omega⟩)))
        · exfalso; omega
        · exfalso; omega
      · refine h_istore_n (pc' := 14) (M := [(2, .int r23), (0, .ref 63), (1, .ref 69)]) rfl rfl rfl rfl ?_
        refine h_aload_n (pc' := 15) rfl rfl rfl ?_
        refine h_call (sp := false) (pc' := 18) (M := [(0, .ref 63)]) rfl rfl rfl rfl rfl rfl rfl rfl ?_
        refine h_aload_n (pc' := 1) rfl rfl rfl ?_
        refine h_getI (pc' := 4) (v := s24 63 2) rfl rfl rfl rfl rfl rfl (fun z32 hz32 => ?_)
        have tz32 := tf_63_2 Is24
        refine h_zne (tg := 22) (pc' := 7) rfl rfl rfl hz32 (fun c33 => absurd c33 (by omega)) (fun c33 => ?_)
        refine h_aload_n (pc' := 8) rfl rfl rfl ?_
        refine h_getR (pc' := 11) rfl rfl rfl rfl rfl ?_
        refine h_getI (pc' := 14) (v := s24 64 3) rfl rfl rfl rfl rfl rfl (fun z34 hz34 => ?_)
        have tz34 := tf_64_3 Is24
        refine h_iconst (pc' := 15) (x := (Int32.ofInt 2)) rfl rfl rfl ?_
        refine h_cne (tg := 22) (pc' := 18) rfl rfl rfl hz34 ci_2 (fun c35 => ?_) (fun c35 => ?_)
        · refine h_iconst (pc' := 23) (x := (Int32.ofInt 0)) rfl rfl rfl ?_
          refine h_zret rfl rfl ci_0 (by omega) (h_Kv ?_)
          refine h_zeq (tg := 44) (pc' := 21) rfl rfl rfl ci_0 (fun c36 => ?_) (fun c36 => absurd c36 (by omega))
          refine h_aload_n (pc' := 45) rfl rfl rfl ?_
          refine h_iconst (pc' := 46) (x := (Int32.ofInt 5)) rfl rfl rfl ?_
          refine h_call (sp := false) (pc' := 49) (M := [(0, .ref 63), (1, .int (Int32.ofInt 5))]) rfl rfl rfl rfl rfl rfl rfl rfl ?_
          refine v_takeNumber _ Is24 (Int32.ofInt 5) _ ci_5 (by omega) (fun r37 br37 hr37 s38 Is38 Gs38 pcs38 => h_Kv ?_)
          have Fs38 := (Gs38.l1).tr Fs24
          rcases pcs38 with pcs38 | pcs38 | pcs38
          · exfalso; omega
          · refine h_istore_n (pc' := 50) (M := [(3, .int r37), (2, .int r23), (0, .ref 63), (1, .ref 69)]) rfl rfl rfl rfl ?_
            refine h_aload_n (pc' := 51) rfl rfl rfl ?_
            refine h_getI (pc' := 54) (v := s38 63 2) rfl rfl rfl rfl rfl rfl (fun z39 hz39 => ?_)
            have tz39 := tf_63_2 Is38
            refine h_zne (tg := 64) (pc' := 57) rfl rfl rfl hz39 (fun c40 => ?_) (fun c40 => absurd c40 (by omega))
            exact h_vret rfl rfl (kk _ Is38 Fs38 (Or.inr (Or.inl ⟨by omega, by omega⟩)))
          · refine h_istore_n (pc' := 50) (M := [(3, .int r37), (2, .int r23), (0, .ref 63), (1, .ref 69)]) rfl rfl rfl rfl ?_
            refine h_aload_n (pc' := 51) rfl rfl rfl ?_
            refine h_getI (pc' := 54) (v := s38 63 2) rfl rfl rfl rfl rfl rfl (fun z41 hz41 => ?_)
            have tz41 := tf_63_2 Is38
            refine h_zne (tg := 64) (pc' := 57) rfl rfl rfl hz41 (fun c42 => absurd c42 (by omega)) (fun c42 => ?_)
            refine h_aload_n (pc' := 58) rfl rfl rfl ?_
            refine h_iload_n (pc' := 59) rfl rfl rfl ?_
            refine h_iload_n (pc' := 60) rfl rfl rfl ?_
            refine h_call (sp := false) (pc' := 63) (M := [(0, .ref 69), (1, .int r23), (2, .int r37)]) rfl rfl rfl rfl rfl rfl rfl rfl ?_
            refine h_aload_n (pc' := 1) rfl rfl rfl ?_
            refine h_call (sp := false) (pc' := 4) (M := [(0, .ref 69)]) rfl rfl rfl rfl rfl rfl rfl rfl ?_
            refine h_aload_n (pc' := 1) rfl rfl rfl ?_
            refine h_getI (pc' := 4) (v := s38 69 2) rfl rfl rfl rfl rfl rfl (fun z43 hz43 => ?_)
            have tz43 := tf_69_2 Is38
            refine h_iconst (pc' := 5) (x := (Int32.ofInt 3)) rfl rfl rfl ?_
            refine h_clt (tg := 12) (pc' := 8) rfl rfl rfl hz43 ci_3 (fun c44 => ?_) (fun c44 => ?_)
            · refine h_iconst (pc' := 13) (x := (Int32.ofInt 0)) rfl rfl rfl ?_
              refine h_zret rfl rfl ci_0 (by omega) (h_Kv ?_)
              refine h_zeq (tg := 9) (pc' := 7) rfl rfl rfl ci_0 (fun c45 => ?_) (fun c45 => absurd c45 (by omega))
              refine h_aload_n (pc' := 10) rfl rfl rfl ?_
              refine h_getR (pc' := 13) rfl rfl rfl rfl rfl ?_
              refine h_aload_n (pc' := 14) rfl rfl rfl ?_
              refine h_getI (pc' := 17) (v := s38 69 2) rfl rfl rfl rfl rfl rfl (fun z46 hz46 => ?_)
              have tz46 := tf_69_2 Is38
              refine h_iload_n (pc' := 18) rfl rfl rfl ?_
              refine h_iast (pc' := 19) rfl rfl rfl rfl hz46 (by omega) (by omega) hr23 (h_fgt (E := fun s => s 63 2 = s38 63 2 ∧ s 64 3 = s38 64 3 ∧ s 64 5 = s38 64 5) _ (in_70 Is38 (by omega)) (Fs38.up rfl) ⟨rfl, rfl, rfl⟩ (fun s47 Is47 Fs47 (es47 : s47 63 2 = s38 63 2 ∧ s47 64 3 = s38 64 3 ∧ s47 64 5 = s38 64 5) => ?_))
              refine h_aload_n (pc' := 20) rfl rfl rfl ?_
              refine h_getR (pc' := 23) rfl rfl rfl rfl rfl ?_
              refine h_aload_n (pc' := 24) rfl rfl rfl ?_
              refine h_getI (pc' := 27) (v := s47 69 2) rfl rfl rfl rfl rfl rfl (fun z48 hz48 => ?_)
              have tz48 := tf_69_2 Is47
              refine h_iload_n (pc' := 28) rfl rfl rfl ?_
              refine h_iast (pc' := 29) rfl rfl rfl rfl hz48 (by omega) (by omega) hr37 (h_fgt (E := fun s => s 63 2 = s38 63 2 ∧ s 64 3 = s38 64 3 ∧ s 64 5 = s38 64 5) _ (in_71 Is47 (by omega)) (Fs47.up rfl) ⟨es47.1, es47.2.1, es47.2.2⟩ (fun s49 Is49 Fs49 (es49 : s49 63 2 = s38 63 2 ∧ s49 64 3 = s38 64 3 ∧ s49 64 5 = s38 64 5) => ?_))
              clear es47
              refine h_aload_n (pc' := 30) rfl rfl rfl ?_
              refine h_dup (pc' := 31) rfl rfl rfl ?_
              refine h_getI (pc' := 34) (v := s49 69 2) rfl rfl rfl rfl rfl rfl (fun z50 hz50 => ?_)
              have tz50 := tf_69_2 Is49
              refine h_iconst (pc' := 35) (x := (Int32.ofInt 1)) rfl rfl rfl ?_
              refine h_iadd (pc' := 36) rfl rfl hz50 ci_1 rfl (by omega) (by omega) (fun z51 hz51 => ?_)
              refine h_put (pc' := 39) rfl rfl rfl rfl rfl rfl hz51 rfl (h_fgt (E := fun s => s 63 2 = s38 63 2 ∧ s 64 3 = s38 64 3 ∧ s 64 5 = s38 64 5) _ (if_69_2 Is49 (by omega)) (Fs49.up rfl) ⟨es49.1, es49.2.1, es49.2.2⟩ (fun s52 Is52 Fs52 (es52 : s52 63 2 = s38 63 2 ∧ s52 64 3 = s38 64 3 ∧ s52 64 5 = s38 64 5) => ?_))
              clear es49
              refine h_iconst (pc' := 40) (x := (Int32.ofInt 1)) rfl rfl rfl ?_
              refine h_zret rfl rfl ci_1 (by omega) (h_Kv ?_)
              refine h_pop (pc' := 64) rfl rfl rfl ?_
              exact h_vret rfl rfl (kk _ Is52 Fs52 (Or.inr (Or.inr ⟨by omega, by omega, by omega⟩)))
            · refine h_iconst (pc' := 9) (x := (Int32.ofInt 1)) rfl rfl rfl ?_
              refine h_goto (pc' := 13) rfl rfl ?_
              refine h_zret rfl rfl ci_1 (by omega) (h_Kv ?_)
              refine h_zeq (tg := 9) (pc' := 7) rfl rfl rfl ci_1 (fun c53 => absurd c53 (by omega)) (fun c53 => ?_)
              refine h_iconst (pc' := 8) (x := (Int32.ofInt 0)) rfl rfl rfl ?_
              refine h_zret rfl rfl ci_0 (by omega) (h_Kv ?_)
              refine h_pop (pc' := 64) rfl rfl rfl ?_
              exact h_vret rfl rfl (kk _ Is38 Fs38 (Or.inr (Or.inr ⟨by omega, by omega, by omega⟩)))
        · refine h_iconst (pc' := 19) (x := (Int32.ofInt 1)) rfl rfl rfl ?_
          refine h_goto (pc' := 23) rfl rfl ?_
          refine h_zret rfl rfl ci_1 (by omega) (h_Kv ?_)
          refine h_zeq (tg := 44) (pc' := 21) rfl rfl rfl ci_1 (fun c54 => absurd c54 (by omega)) (fun c54 => ?_)
          refine h_aload_n (pc' := 22) rfl rfl rfl ?_
          refine h_getR (pc' := 25) rfl rfl rfl rfl rfl ?_
          refine h_getI (pc' := 28) (v := s24 64 5) rfl rfl rfl rfl rfl rfl (fun z55 hz55 => ?_)
          have tz55 := tf_64_5 Is24
          refine h_iload_n (pc' := 29) rfl rfl rfl ?_
          refine h_cne (tg := 44) (pc' := 32) rfl rfl rfl hz55 hr23 (fun c56 => ?_) (fun c56 => ?_)
          · refine h_aload_n (pc' := 45) rfl rfl rfl ?_
            refine h_iconst (pc' := 46) (x := (Int32.ofInt 5)) rfl rfl rfl ?_
            refine h_call (sp := false) (pc' := 49) (M := [(0, .ref 63), (1, .int (Int32.ofInt 5))]) rfl rfl rfl rfl rfl rfl rfl rfl ?_
            refine v_takeNumber _ Is24 (Int32.ofInt 5) _ ci_5 (by omega) (fun r57 br57 hr57 s58 Is58 Gs58 pcs58 => h_Kv ?_)
            have Fs58 := (Gs58.l1).tr Fs24
            rcases pcs58 with pcs58 | pcs58 | pcs58
            · exfalso; omega
            · refine h_istore_n (pc' := 50) (M := [(3, .int r57), (2, .int r23), (0, .ref 63), (1, .ref 69)]) rfl rfl rfl rfl ?_
              refine h_aload_n (pc' := 51) rfl rfl rfl ?_
              refine h_getI (pc' := 54) (v := s58 63 2) rfl rfl rfl rfl rfl rfl (fun z59 hz59 => ?_)
              have tz59 := tf_63_2 Is58
              refine h_zne (tg := 64) (pc' := 57) rfl rfl rfl hz59 (fun c60 => ?_) (fun c60 => absurd c60 (by omega))
              exact h_vret rfl rfl (kk _ Is58 Fs58 (Or.inr (Or.inl ⟨by omega, by omega⟩)))
            · refine h_istore_n (pc' := 50) (M := [(3, .int r57), (2, .int r23), (0, .ref 63), (1, .ref 69)]) rfl rfl rfl rfl ?_
              refine h_aload_n (pc' := 51) rfl rfl rfl ?_
              refine h_getI (pc' := 54) (v := s58 63 2) rfl rfl rfl rfl rfl rfl (fun z61 hz61 => ?_)
              have tz61 := tf_63_2 Is58
              refine h_zne (tg := 64) (pc' := 57) rfl rfl rfl hz61 (fun c62 => absurd c62 (by omega)) (fun c62 => ?_)
              refine h_aload_n (pc' := 58) rfl rfl rfl ?_
              refine h_iload_n (pc' := 59) rfl rfl rfl ?_
              refine h_iload_n (pc' := 60) rfl rfl rfl ?_
              refine h_call (sp := false) (pc' := 63) (M := [(0, .ref 69), (1, .int r23), (2, .int r57)]) rfl rfl rfl rfl rfl rfl rfl rfl ?_
              refine h_aload_n (pc' := 1) rfl rfl rfl ?_
              refine h_call (sp := false) (pc' := 4) (M := [(0, .ref 69)]) rfl rfl rfl rfl rfl rfl rfl rfl ?_
              refine h_aload_n (pc' := 1) rfl rfl rfl ?_
              refine h_getI (pc' := 4) (v := s58 69 2) rfl rfl rfl rfl rfl rfl (fun z63 hz63 => ?_)
              have tz63 := tf_69_2 Is58
              refine h_iconst (pc' := 5) (x := (Int32.ofInt 3)) rfl rfl rfl ?_
              refine h_clt (tg := 12) (pc' := 8) rfl rfl rfl hz63 ci_3 (fun c64 => ?_) (fun c64 => ?_)
              · refine h_iconst (pc' := 13) (x := (Int32.ofInt 0)) rfl rfl rfl ?_
                refine h_zret rfl rfl ci_0 (by omega) (h_Kv ?_)
                refine h_zeq (tg := 9) (pc' := 7) rfl rfl rfl ci_0 (fun c65 => ?_) (fun c65 => absurd c65 (by omega))
                refine h_aload_n (pc' := 10) rfl rfl rfl ?_
                refine h_getR (pc' := 13) rfl rfl rfl rfl rfl ?_
                refine h_aload_n (pc' := 14) rfl rfl rfl ?_
                refine h_getI (pc' := 17) (v := s58 69 2) rfl rfl rfl rfl rfl rfl (fun z66 hz66 => ?_)
                have tz66 := tf_69_2 Is58
                refine h_iload_n (pc' := 18) rfl rfl rfl ?_
                refine h_iast (pc' := 19) rfl rfl rfl rfl hz66 (by omega) (by omega) hr23 (h_fgt (E := fun s => s 63 2 = s58 63 2 ∧ s 64 3 = s58 64 3 ∧ s 64 5 = s58 64 5) _ (in_70 Is58 (by omega)) (Fs58.up rfl) ⟨rfl, rfl, rfl⟩ (fun s67 Is67 Fs67 (es67 : s67 63 2 = s58 63 2 ∧ s67 64 3 = s58 64 3 ∧ s67 64 5 = s58 64 5) => ?_))
                refine h_aload_n (pc' := 20) rfl rfl rfl ?_
                refine h_getR (pc' := 23) rfl rfl rfl rfl rfl ?_
                refine h_aload_n (pc' := 24) rfl rfl rfl ?_
                refine h_getI (pc' := 27) (v := s67 69 2) rfl rfl rfl rfl rfl rfl (fun z68 hz68 => ?_)
                have tz68 := tf_69_2 Is67
                refine h_iload_n (pc' := 28) rfl rfl rfl ?_
                refine h_iast (pc' := 29) rfl rfl rfl rfl hz68 (by omega) (by omega) hr57 (h_fgt (E := fun s => s 63 2 = s58 63 2 ∧ s 64 3 = s58 64 3 ∧ s 64 5 = s58 64 5) _ (in_71 Is67 (by omega)) (Fs67.up rfl) ⟨es67.1, es67.2.1, es67.2.2⟩ (fun s69 Is69 Fs69 (es69 : s69 63 2 = s58 63 2 ∧ s69 64 3 = s58 64 3 ∧ s69 64 5 = s58 64 5) => ?_))
                clear es67
                refine h_aload_n (pc' := 30) rfl rfl rfl ?_
                refine h_dup (pc' := 31) rfl rfl rfl ?_
                refine h_getI (pc' := 34) (v := s69 69 2) rfl rfl rfl rfl rfl rfl (fun z70 hz70 => ?_)
                have tz70 := tf_69_2 Is69
                refine h_iconst (pc' := 35) (x := (Int32.ofInt 1)) rfl rfl rfl ?_
                refine h_iadd (pc' := 36) rfl rfl hz70 ci_1 rfl (by omega) (by omega) (fun z71 hz71 => ?_)
                refine h_put (pc' := 39) rfl rfl rfl rfl rfl rfl hz71 rfl (h_fgt (E := fun s => s 63 2 = s58 63 2 ∧ s 64 3 = s58 64 3 ∧ s 64 5 = s58 64 5) _ (if_69_2 Is69 (by omega)) (Fs69.up rfl) ⟨es69.1, es69.2.1, es69.2.2⟩ (fun s72 Is72 Fs72 (es72 : s72 63 2 = s58 63 2 ∧ s72 64 3 = s58 64 3 ∧ s72 64 5 = s58 64 5) => ?_))
                clear es69
                refine h_iconst (pc' := 40) (x := (Int32.ofInt 1)) rfl rfl rfl ?_
                refine h_zret rfl rfl ci_1 (by omega) (h_Kv ?_)
                refine h_pop (pc' := 64) rfl rfl rfl ?_
                exact h_vret rfl rfl (kk _ Is72 Fs72 (Or.inr (Or.inr ⟨by omega, by omega, by omega⟩)))
              · refine h_iconst (pc' := 9) (x := (Int32.ofInt 1)) rfl rfl rfl ?_
                refine h_goto (pc' := 13) rfl rfl ?_
                refine h_zret rfl rfl ci_1 (by omega) (h_Kv ?_)
                refine h_zeq (tg := 9) (pc' := 7) rfl rfl rfl ci_1 (fun c73 => absurd c73 (by omega)) (fun c73 => ?_)
                refine h_iconst (pc' := 8) (x := (Int32.ofInt 0)) rfl rfl rfl ?_
                refine h_zret rfl rfl ci_0 (by omega) (h_Kv ?_)
                refine h_pop (pc' := 64) rfl rfl rfl ?_
                exact h_vret rfl rfl (kk _ Is58 Fs58 (Or.inr (Or.inr ⟨by omega, by omega, by omega⟩)))
          · refine h_aload_n (pc' := 33) rfl rfl rfl ?_
            refine h_iconst (pc' := 34) (x := (Int32.ofInt 3)) rfl rfl rfl ?_
            refine h_aload_n (pc' := 35) rfl rfl rfl ?_
            refine h_getR (pc' := 38) rfl rfl rfl rfl rfl ?_
            refine h_getI (pc' := 41) (v := s24 64 4) rfl rfl rfl rfl rfl rfl (fun z74 hz74 => ?_)
            have tz74 := tf_64_4 Is24
            refine h_call (sp := false) (pc' := 44) (M := [(0, .ref 63), (1, .int (Int32.ofInt 3)), (2, .int z74)]) rfl rfl rfl rfl rfl rfl rfl rfl ?_
            refine h_aload_n (pc' := 1) rfl rfl rfl ?_
            refine h_getI (pc' := 4) (v := s24 63 2) rfl rfl rfl rfl rfl rfl (fun z75 hz75 => ?_)
            have tz75 := tf_63_2 Is24
            refine h_zne (tg := 17) (pc' := 7) rfl rfl rfl hz75 (fun c76 => absurd c76 (by omega)) (fun c76 => ?_)
            refine h_aload_n (pc' := 8) rfl rfl rfl ?_
            refine h_iload_n (pc' := 9) rfl rfl rfl ?_
            refine h_put (pc' := 12) rfl rfl rfl rfl rfl rfl ci_3 rfl (h_fgt (E := fun s => s 63 2 = 3 ∧ s 64 3 = s24 64 3 ∧ s 64 5 = s24 64 5) _ (if_63_2 Is24 (by omega)) (Fs24.up rfl) ⟨rfl, rfl, rfl⟩ (fun s77 Is77 Fs77 (es77 : s77 63 2 = 3 ∧ s77 64 3 = s24 64 3 ∧ s77 64 5 = s24 64 5) => ?_))
            refine h_aload_n (pc' := 13) rfl rfl rfl ?_
            refine h_iload_n (pc' := 14) rfl rfl rfl ?_
            refine h_put (pc' := 17) rfl rfl rfl rfl rfl rfl hz74 rfl (h_fgt (E := fun s => s 63 2 = 3 ∧ s 64 3 = s24 64 3 ∧ s 64 5 = s24 64 5) _ (if_63_3 Is77 (h_rgv hz74)) (Fs77.up rfl) ⟨es77.1, es77.2.1, es77.2.2⟩ (fun s78 Is78 Fs78 (es78 : s78 63 2 = 3 ∧ s78 64 3 = s24 64 3 ∧ s78 64 5 = s24 64 5) => ?_))
            clear es77
            refine h_vret rfl rfl (h_Kn ?_)
            refine h_aload_n (pc' := 45) rfl rfl rfl ?_
            refine h_iconst (pc' := 46) (x := (Int32.ofInt 5)) rfl rfl rfl ?_
            refine h_call (sp := false) (pc' := 49) (M := [(0, .ref 63), (1, .int (Int32.ofInt 5))]) rfl rfl rfl rfl rfl rfl rfl rfl ?_
            refine v_takeNumber _ Is78 (Int32.ofInt 5) _ ci_5 (by omega) (fun r79 br79 hr79 s80 Is80 Gs80 pcs80 => h_Kv ?_)
            have Fs80 := (Gs80.l1).tr Fs78
            rcases pcs80 with pcs80 | pcs80 | pcs80
            · refine h_istore_n (pc' := 50) (M := [(3, .int r79), (2, .int r23), (0, .ref 63), (1, .ref 69)]) rfl rfl rfl rfl ?_
              refine h_aload_n (pc' := 51) rfl rfl rfl ?_
              refine h_getI (pc' := 54) (v := s80 63 2) rfl rfl rfl rfl rfl rfl (fun z81 hz81 => ?_)
              have tz81 := tf_63_2 Is80
              refine h_zne (tg := 64) (pc' := 57) rfl rfl rfl hz81 (fun c82 => ?_) (fun c82 => absurd c82 (by omega))
              exact h_vret rfl rfl (kk _ Is80 Fs80 (Or.inr (Or.inl ⟨by omega, by omega⟩)))
            · exfalso; omega
            · exfalso; omega
  · refine h_iconst (pc' := 9) (x := (Int32.ofInt 1)) rfl rfl rfl ?_
    refine h_goto (pc' := 13) rfl rfl ?_
    refine h_zret rfl rfl ci_1 (by omega) (h_Kv ?_)
    refine h_call (sp := false) (pc' := 8) (M := [(0, .ref 63), (1, .int (Int32.ofInt 1))]) rfl rfl rfl rfl rfl rfl rfl rfl ?_
    refine v_takeName _ hI (Int32.ofInt 1) _ ci_1 (by omega) (fun s84 Is84 Gs84 pcs84 => h_Kn ?_)
    have Fs84 := (Gs84.l1).tr F00
    rcases pcs84 with pcs84 | pcs84 | pcs84
    · refine h_aload_n (pc' := 9) rfl rfl rfl ?_
      refine h_iconst (pc' := 10) (x := (Int32.ofInt 5)) rfl rfl rfl ?_
      refine h_call (sp := false) (pc' := 13) (M := [(0, .ref 63), (1, .int (Int32.ofInt 5))]) rfl rfl rfl rfl rfl rfl rfl rfl ?_
      refine v_takeNumber _ Is84 (Int32.ofInt 5) _ ci_5 (by omega) (fun r85 br85 hr85 s86 Is86 Gs86 pcs86 => h_Kv ?_)
      have Fs86 := (Gs86.l1).tr Fs84
      rcases pcs86 with pcs86 | pcs86 | pcs86
      · refine h_istore_n (pc' := 14) (M := [(2, .int r85), (0, .ref 63), (1, .ref 69)]) rfl rfl rfl rfl ?_
        refine h_aload_n (pc' := 15) rfl rfl rfl ?_
        refine h_call (sp := false) (pc' := 18) (M := [(0, .ref 63)]) rfl rfl rfl rfl rfl rfl rfl rfl ?_
        refine h_aload_n (pc' := 1) rfl rfl rfl ?_
        refine h_getI (pc' := 4) (v := s86 63 2) rfl rfl rfl rfl rfl rfl (fun z87 hz87 => ?_)
        have tz87 := tf_63_2 Is86
        refine h_zne (tg := 22) (pc' := 7) rfl rfl rfl hz87 (fun c88 => ?_) (fun c88 => absurd c88 (by omega))
        refine h_iconst (pc' := 23) (x := (Int32.ofInt 0)) rfl rfl rfl ?_
        refine h_zret rfl rfl ci_0 (by omega) (h_Kv ?_)
        refine h_zeq (tg := 44) (pc' := 21) rfl rfl rfl ci_0 (fun c89 => ?_) (fun c89 => absurd c89 (by omega))
        refine h_aload_n (pc' := 45) rfl rfl rfl ?_
        refine h_iconst (pc' := 46) (x := (Int32.ofInt 5)) rfl rfl rfl ?_
        refine h_call (sp := false) (pc' := 49) (M := [(0, .ref 63), (1, .int (Int32.ofInt 5))]) rfl rfl rfl rfl rfl rfl rfl rfl ?_
        refine v_takeNumber _ Is86 (Int32.ofInt 5) _ ci_5 (by omega) (fun r90 br90 hr90 s91 Is91 Gs91 pcs91 => h_Kv ?_)
        have Fs91 := (Gs91.l1).tr Fs86
        rcases pcs91 with pcs91 | pcs91 | pcs91
        · refine h_istore_n (pc' := 50) (M := [(3, .int r90), (2, .int r85), (0, .ref 63), (1, .ref 69)]) rfl rfl rfl rfl ?_
          refine h_aload_n (pc' := 51) rfl rfl rfl ?_
          refine h_getI (pc' := 54) (v := s91 63 2) rfl rfl rfl rfl rfl rfl (fun z92 hz92 => ?_)
          have tz92 := tf_63_2 Is91
          refine h_zne (tg := 64) (pc' := 57) rfl rfl rfl hz92 (fun c93 => ?_) (fun c93 => absurd c93 (by omega))
          exact h_vret rfl rfl (kk _ Is91 Fs91 (Or.inl ⟨by omega, by omega⟩))
        · exfalso; omega
        · exfalso; omega
      · exfalso; omega
      · exfalso; omega
    · refine h_aload_n (pc' := 9) rfl rfl rfl ?_
      refine h_iconst (pc' := 10) (x := (Int32.ofInt 5)) rfl rfl rfl ?_
      refine h_call (sp := false) (pc' := 13) (M := [(0, .ref 63), (1, .int (Int32.ofInt 5))]) rfl rfl rfl rfl rfl rfl rfl rfl ?_
      refine v_takeNumber _ Is84 (Int32.ofInt 5) _ ci_5 (by omega) (fun r94 br94 hr94 s95 Is95 Gs95 pcs95 => h_Kv ?_)
      have Fs95 := (Gs95.l1).tr Fs84
      rcases pcs95 with pcs95 | pcs95 | pcs95
      · refine h_istore_n (pc' := 14) (M := [(2, .int r94), (0, .ref 63), (1, .ref 69)]) rfl rfl rfl rfl ?_
        refine h_aload_n (pc' := 15) rfl rfl rfl ?_
        refine h_call (sp := false) (pc' := 18) (M := [(0, .ref 63)]) rfl rfl rfl rfl rfl rfl rfl rfl ?_
        refine h_aload_n (pc' := 1) rfl rfl rfl ?_
        refine h_getI (pc' := 4) (v := s95 63 2) rfl rfl rfl rfl rfl rfl (fun z96 hz96 => ?_)
        have tz96 := tf_63_2 Is95
        refine h_zne (tg := 22) (pc' := 7) rfl rfl rfl hz96 (fun c97 => ?_) (fun c97 => absurd c97 (by omega))
        refine h_iconst (pc' := 23) (x := (Int32.ofInt 0)) rfl rfl rfl ?_
        refine h_zret rfl rfl ci_0 (by omega) (h_Kv ?_)
        refine h_zeq (tg := 44) (pc' := 21) rfl rfl rfl ci_0 (fun c98 => ?_) (fun c98 => absurd c98 (by omega))
        refine h_aload_n (pc' := 45) rfl rfl rfl ?_
        refine h_iconst (pc' := 46) (x := (Int32.ofInt 5)) rfl rfl rfl ?_
        refine h_call (sp := false) (pc' := 49) (M := [(0, .ref 63), (1, .int (Int32.ofInt 5))]) rfl rfl rfl rfl rfl rfl rfl rfl ?_
        refine v_takeNumber _ Is95 (Int32.ofInt 5) _ ci_5 (by omega) (fun r99 br99 hr99 s100 Is100 Gs100 pcs100 => h_Kv ?_)
        have Fs100 := (Gs100.l1).tr Fs95
        rcases pcs100 with pcs100 | pcs100 | pcs100
        · refine h_istore_n (pc' := 50) (M := [(3, .int r99), (2, .int r94), (0, .ref 63), (1, .ref 69)]) rfl rfl rfl rfl ?_
          refine h_aload_n (pc' := 51) rfl rfl rfl ?_
          refine h_getI (pc' := 54) (v := s100 63 2) rfl rfl rfl rfl rfl rfl (fun z101 hz101 => ?_)
          have tz101 := tf_63_2 Is100
          refine h_zne (tg := 64) (pc' := 57) rfl rfl rfl hz101 (fun c102 => ?_) (fun c102 => absurd c102 (by omega))
          exact h_vret rfl rfl (kk _ Is100 Fs100 (Or.inr (Or.inl ⟨by omega, by omega⟩)))
        · exfalso; omega
        · exfalso; omega
      · exfalso; omega
      · exfalso; omega
    · refine h_aload_n (pc' := 9) rfl rfl rfl ?_
      refine h_iconst (pc' := 10) (x := (Int32.ofInt 5)) rfl rfl rfl ?_
      refine h_call (sp := false) (pc' := 13) (M := [(0, .ref 63), (1, .int (Int32.ofInt 5))]) rfl rfl rfl rfl rfl rfl rfl rfl ?_
      refine v_takeNumber _ Is84 (Int32.ofInt 5) _ ci_5 (by omega) (fun r103 br103 hr103 s104 Is104 Gs104 pcs104 => h_Kv ?_)
      have Fs104 := (Gs104.l1).tr Fs84
      rcases pcs104 with pcs104 | pcs104 | pcs104
      · exfalso; omega
      · refine h_istore_n (pc' := 14) (M := [(2, .int r103), (0, .ref 63), (1, .ref 69)]) rfl rfl rfl rfl ?_
        refine h_aload_n (pc' := 15) rfl rfl rfl ?_
        refine h_call (sp := false) (pc' := 18) (M := [(0, .ref 63)]) rfl rfl rfl rfl rfl rfl rfl rfl ?_
        refine h_aload_n (pc' := 1) rfl rfl rfl ?_
        refine h_getI (pc' := 4) (v := s104 63 2) rfl rfl rfl rfl rfl rfl (fun z105 hz105 => ?_)
        have tz105 := tf_63_2 Is104
        refine h_zne (tg := 22) (pc' := 7) rfl rfl rfl hz105 (fun c106 => ?_) (fun c106 => absurd c106 (by omega))
        refine h_iconst (pc' := 23) (x := (Int32.ofInt 0)) rfl rfl rfl ?_
        refine h_zret rfl rfl ci_0 (by omega) (h_Kv ?_)
        refine h_zeq (tg := 44) (pc' := 21) rfl rfl rfl ci_0 (fun c107 => ?_) (fun c107 => absurd c107 (by omega))
        refine h_aload_n (pc' := 45) rfl rfl rfl ?_
        refine h_iconst (pc' := 46) (x := (Int32.ofInt 5)) rfl rfl rfl ?_
        refine h_call (sp := false) (pc' := 49) (M := [(0, .ref 63), (1, .int (Int32.ofInt 5))]) rfl rfl rfl rfl rfl rfl rfl rfl ?_
        refine v_takeNumber _ Is104 (Int32.ofInt 5) _ ci_5 (by omega) (fun r108 br108 hr108 s109 Is109 Gs109 pcs109 => h_Kv ?_)
        have Fs109 := (Gs109.l1).tr Fs104
        rcases pcs109 with pcs109 | pcs109 | pcs109
        · refine h_istore_n (pc' := 50) (M := [(3, .int r108), (2, .int r103), (0, .ref 63), (1, .ref 69)]) rfl rfl rfl rfl ?_
          refine h_aload_n (pc' := 51) rfl rfl rfl ?_
          refine h_getI (pc' := 54) (v := s109 63 2) rfl rfl rfl rfl rfl rfl (fun z110 hz110 => ?_)
          have tz110 := tf_63_2 Is109
          refine h_zne (tg := 64) (pc' := 57) rfl rfl rfl hz110 (fun c111 => ?_) (fun c111 => absurd c111 (by omega))
          exact h_vret rfl rfl (kk _ Is109 Fs109 (Or.inr (Or.inl ⟨by omega, by omega⟩)))
        · exfalso; omega
        · exfalso; omega
      · refine h_istore_n (pc' := 14) (M := [(2, .int r103), (0, .ref 63), (1, .ref 69)]) rfl rfl rfl rfl ?_
        refine h_aload_n (pc' := 15) rfl rfl rfl ?_
        refine h_call (sp := false) (pc' := 18) (M := [(0, .ref 63)]) rfl rfl rfl rfl rfl rfl rfl rfl ?_
        refine h_aload_n (pc' := 1) rfl rfl rfl ?_
        refine h_getI (pc' := 4) (v := s104 63 2) rfl rfl rfl rfl rfl rfl (fun z112 hz112 => ?_)
        have tz112 := tf_63_2 Is104
        refine h_zne (tg := 22) (pc' := 7) rfl rfl rfl hz112 (fun c113 => absurd c113 (by omega)) (fun c113 => ?_)
        refine h_aload_n (pc' := 8) rfl rfl rfl ?_
        refine h_getR (pc' := 11) rfl rfl rfl rfl rfl ?_
        refine h_getI (pc' := 14) (v := s104 64 3) rfl rfl rfl rfl rfl rfl (fun z114 hz114 => ?_)
        have tz114 := tf_64_3 Is104
        refine h_iconst (pc' := 15) (x := (Int32.ofInt 2)) rfl rfl rfl ?_
        refine h_cne (tg := 22) (pc' := 18) rfl rfl rfl hz114 ci_2 (fun c115 => ?_) (fun c115 => ?_)
        · refine h_iconst (pc' := 23) (x := (Int32.ofInt 0)) rfl rfl rfl ?_
          refine h_zret rfl rfl ci_0 (by omega) (h_Kv ?_)
          refine h_zeq (tg := 44) (pc' := 21) rfl rfl rfl ci_0 (fun c116 => ?_) (fun c116 => absurd c116 (by omega))
          refine h_aload_n (pc' := 45) rfl rfl rfl ?_
          refine h_iconst (pc' := 46) (x := (Int32.ofInt 5)) rfl rfl rfl ?_
          refine h_call (sp := false) (pc' := 49) (M := [(0, .ref 63), (1, .int (Int32.ofInt 5))]) rfl rfl rfl rfl rfl rfl rfl rfl ?_
          refine v_takeNumber _ Is104 (Int32.ofInt 5) _ ci_5 (by omega) (fun r117 br117 hr117 s118 Is118 Gs118 pcs118 => h_Kv ?_)
          have Fs118 := (Gs118.l1).tr Fs104
          rcases pcs118 with pcs118 | pcs118 | pcs118
          · exfalso; omega
          · refine h_istore_n (pc' := 50) (M := [(3, .int r117), (2, .int r103), (0, .ref 63), (1, .ref 69)]) rfl rfl rfl rfl ?_
            refine h_aload_n (pc' := 51) rfl rfl rfl ?_
            refine h_getI (pc' := 54) (v := s118 63 2) rfl rfl rfl rfl rfl rfl (fun z119 hz119 => ?_)
            have tz119 := tf_63_2 Is118
            refine h_zne (tg := 64) (pc' := 57) rfl rfl rfl hz119 (fun c120 => ?_) (fun c120 => absurd c120 (by omega))
            exact h_vret rfl rfl (kk _ Is118 Fs118 (Or.inr (Or.inl ⟨by omega, by omega⟩)))
          · refine h_istore_n (pc' := 50) (M := [(3, .int r117), (2, .int r103), (0, .ref 63), (1, .ref 69)]) rfl rfl rfl rfl ?_
            refine h_aload_n (pc' := 51) rfl rfl rfl ?_
            refine h_getI (pc' := 54) (v := s118 63 2) rfl rfl rfl rfl rfl rfl (fun z121 hz121 => ?_)
            have tz121 := tf_63_2 Is118
            refine h_zne (tg := 64) (pc' := 57) rfl rfl rfl hz121 (fun c122 => absurd c122 (by omega)) (fun c122 => ?_)
            refine h_aload_n (pc' := 58) rfl rfl rfl ?_
            refine h_iload_n (pc' := 59) rfl rfl rfl ?_
            refine h_iload_n (pc' := 60) rfl rfl rfl ?_
            refine h_call (sp := false) (pc' := 63) (M := [(0, .ref 69), (1, .int r103), (2, .int r117)]) rfl rfl rfl rfl rfl rfl rfl rfl ?_
            refine h_aload_n (pc' := 1) rfl rfl rfl ?_
            refine h_call (sp := false) (pc' := 4) (M := [(0, .ref 69)]) rfl rfl rfl rfl rfl rfl rfl rfl ?_
            refine h_aload_n (pc' := 1) rfl rfl rfl ?_
            refine h_getI (pc' := 4) (v := s118 69 2) rfl rfl rfl rfl rfl rfl (fun z123 hz123 => ?_)
            have tz123 := tf_69_2 Is118
            refine h_iconst (pc' := 5) (x := (Int32.ofInt 3)) rfl rfl rfl ?_
            refine h_clt (tg := 12) (pc' := 8) rfl rfl rfl hz123 ci_3 (fun c124 => ?_) (fun c124 => ?_)
            · refine h_iconst (pc' := 13) (x := (Int32.ofInt 0)) rfl rfl rfl ?_
              refine h_zret rfl rfl ci_0 (by omega) (h_Kv ?_)
              refine h_zeq (tg := 9) (pc' := 7) rfl rfl rfl ci_0 (fun c125 => ?_) (fun c125 => absurd c125 (by omega))
              refine h_aload_n (pc' := 10) rfl rfl rfl ?_
              refine h_getR (pc' := 13) rfl rfl rfl rfl rfl ?_
              refine h_aload_n (pc' := 14) rfl rfl rfl ?_
              refine h_getI (pc' := 17) (v := s118 69 2) rfl rfl rfl rfl rfl rfl (fun z126 hz126 => ?_)
              have tz126 := tf_69_2 Is118
              refine h_iload_n (pc' := 18) rfl rfl rfl ?_
              refine h_iast (pc' := 19) rfl rfl rfl rfl hz126 (by omega) (by omega) hr103 (h_fgt (E := fun s => s 63 2 = s118 63 2 ∧ s 64 3 = s118 64 3 ∧ s 64 5 = s118 64 5) _ (in_70 Is118 (by omega)) (Fs118.up rfl) ⟨rfl, rfl, rfl⟩ (fun s127 Is127 Fs127 (es127 : s127 63 2 = s118 63 2 ∧ s127 64 3 = s118 64 3 ∧ s127 64 5 = s118 64 5) => ?_))
              refine h_aload_n (pc' := 20) rfl rfl rfl ?_
              refine h_getR (pc' := 23) rfl rfl rfl rfl rfl ?_
              refine h_aload_n (pc' := 24) rfl rfl rfl ?_
              refine h_getI (pc' := 27) (v := s127 69 2) rfl rfl rfl rfl rfl rfl (fun z128 hz128 => ?_)
              have tz128 := tf_69_2 Is127
              refine h_iload_n (pc' := 28) rfl rfl rfl ?_
              refine h_iast (pc' := 29) rfl rfl rfl rfl hz128 (by omega) (by omega) hr117 (h_fgt (E := fun s => s 63 2 = s118 63 2 ∧ s 64 3 = s118 64 3 ∧ s 64 5 = s118 64 5) _ (in_71 Is127 (by omega)) (Fs127.up rfl) ⟨es127.1, es127.2.1, es127.2.2⟩ (fun s129 Is129 Fs129 (es129 : s129 63 2 = s118 63 2 ∧ s129 64 3 = s118 64 3 ∧ s129 64 5 = s118 64 5) => ?_))
              clear es127
              refine h_aload_n (pc' := 30) rfl rfl rfl ?_
              refine h_dup (pc' := 31) rfl rfl rfl ?_
              refine h_getI (pc' := 34) (v := s129 69 2) rfl rfl rfl rfl rfl rfl (fun z130 hz130 => ?_)
              have tz130 := tf_69_2 Is129
              refine h_iconst (pc' := 35) (x := (Int32.ofInt 1)) rfl rfl rfl ?_
              refine h_iadd (pc' := 36) rfl rfl hz130 ci_1 rfl (by omega) (by omega) (fun z131 hz131 => ?_)
              refine h_put (pc' := 39) rfl rfl rfl rfl rfl rfl hz131 rfl (h_fgt (E := fun s => s 63 2 = s118 63 2 ∧ s 64 3 = s118 64 3 ∧ s 64 5 = s118 64 5) _ (if_69_2 Is129 (by omega)) (Fs129.up rfl) ⟨es129.1, es129.2.1, es129.2.2⟩ (fun s132 Is132 Fs132 (es132 : s132 63 2 = s118 63 2 ∧ s132 64 3 = s118 64 3 ∧ s132 64 5 = s118 64 5) => ?_))
              clear es129
              refine h_iconst (pc' := 40) (x := (Int32.ofInt 1)) rfl rfl rfl ?_
              refine h_zret rfl rfl ci_1 (by omega) (h_Kv ?_)
              refine h_pop (pc' := 64) rfl rfl rfl ?_
              exact h_vret rfl rfl (kk _ Is132 Fs132 (Or.inr (Or.inr ⟨by omega, by omega, by omega⟩)))
            · refine h_iconst (pc' := 9) (x := (Int32.ofInt 1)) rfl rfl rfl ?_
              refine h_goto (pc' := 13) rfl rfl ?_
              refine h_zret rfl rfl ci_1 (by omega) (h_Kv ?_)
              refine h_zeq (tg := 9) (pc' := 7) rfl rfl rfl ci_1 (fun c133 => absurd c133 (by omega)) (fun c133 => ?_)
              refine h_iconst (pc' := 8) (x := (Int32.ofInt 0)) rfl rfl rfl ?_
              refine h_zret rfl rfl ci_0 (by omega) (h_Kv ?_)
              refine h_pop (pc' := 64) rfl rfl rfl ?_
              exact h_vret rfl rfl (kk _ Is118 Fs118 (Or.inr (Or.inr ⟨by omega, by omega, by omega⟩)))
        · refine h_iconst (pc' := 19) (x := (Int32.ofInt 1)) rfl rfl rfl ?_
          refine h_goto (pc' := 23) rfl rfl ?_
          refine h_zret rfl rfl ci_1 (by omega) (h_Kv ?_)
          refine h_zeq (tg := 44) (pc' := 21) rfl rfl rfl ci_1 (fun c134 => absurd c134 (by omega)) (fun c134 => ?_)
          refine h_aload_n (pc' := 22) rfl rfl rfl ?_
          refine h_getR (pc' := 25) rfl rfl rfl rfl rfl ?_
          refine h_getI (pc' := 28) (v := s104 64 5) rfl rfl rfl rfl rfl rfl (fun z135 hz135 => ?_)
          have tz135 := tf_64_5 Is104
          refine h_iload_n (pc' := 29) rfl rfl rfl ?_
          refine h_cne (tg := 44) (pc' := 32) rfl rfl rfl hz135 hr103 (fun c136 => ?_) (fun c136 => ?_)
          · refine h_aload_n (pc' := 45) rfl rfl rfl ?_
            refine h_iconst (pc' := 46) (x := (Int32.ofInt 5)) rfl rfl rfl ?_
            refine h_call (sp := false) (pc' := 49) (M := [(0, .ref 63), (1, .int (Int32.ofInt 5))]) rfl rfl rfl rfl rfl rfl rfl rfl ?_
            refine v_takeNumber _ Is104 (Int32.ofInt 5) _ ci_5 (by omega) (fun r137 br137 hr137 s138 Is138 Gs138 pcs138 => h_Kv ?_)
            have Fs138 := (Gs138.l1).tr Fs104
            rcases pcs138 with pcs138 | pcs138 | pcs138
            · exfalso; omega
            · refine h_istore_n (pc' := 50) (M := [(3, .int r137), (2, .int r103), (0, .ref 63), (1, .ref 69)]) rfl rfl rfl rfl ?_
              refine h_aload_n (pc' := 51) rfl rfl rfl ?_
              refine h_getI (pc' := 54) (v := s138 63 2) rfl rfl rfl rfl rfl rfl (fun z139 hz139 => ?_)
              have tz139 := tf_63_2 Is138
              refine h_zne (tg := 64) (pc' := 57) rfl rfl rfl hz139 (fun c140 => ?_) (fun c140 => absurd c140 (by omega))
              exact h_vret rfl rfl (kk _ Is138 Fs138 (Or.inr (Or.inl ⟨by omega, by omega⟩)))
            · refine h_istore_n (pc' := 50) (M := [(3, .int r137), (2, .int r103), (0, .ref 63), (1, .ref 69)]) rfl rfl rfl rfl ?_
              refine h_aload_n (pc' := 51) rfl rfl rfl ?_
              refine h_getI (pc' := 54) (v := s138 63 2) rfl rfl rfl rfl rfl rfl (fun z141 hz141 => ?_)
              have tz141 := tf_63_2 Is138
              refine h_zne (tg := 64) (pc' := 57) rfl rfl rfl hz141 (fun c142 => absurd c142 (by omega)) (fun c142 => ?_)
              refine h_aload_n (pc' := 58) rfl rfl rfl ?_
              refine h_iload_n (pc' := 59) rfl rfl rfl ?_
              refine h_iload_n (pc' := 60) rfl rfl rfl ?_
              refine h_call (sp := false) (pc' := 63) (M := [(0, .ref 69), (1, .int r103), (2, .int r137)]) rfl rfl rfl rfl rfl rfl rfl rfl ?_
              refine h_aload_n (pc' := 1) rfl rfl rfl ?_
              refine h_call (sp := false) (pc' := 4) (M := [(0, .ref 69)]) rfl rfl rfl rfl rfl rfl rfl rfl ?_
              refine h_aload_n (pc' := 1) rfl rfl rfl ?_
              refine h_getI (pc' := 4) (v := s138 69 2) rfl rfl rfl rfl rfl rfl (fun z143 hz143 => ?_)
              have tz143 := tf_69_2 Is138
              refine h_iconst (pc' := 5) (x := (Int32.ofInt 3)) rfl rfl rfl ?_
              refine h_clt (tg := 12) (pc' := 8) rfl rfl rfl hz143 ci_3 (fun c144 => ?_) (fun c144 => ?_)
              · refine h_iconst (pc' := 13) (x := (Int32.ofInt 0)) rfl rfl rfl ?_
                refine h_zret rfl rfl ci_0 (by omega) (h_Kv ?_)
                refine h_zeq (tg := 9) (pc' := 7) rfl rfl rfl ci_0 (fun c145 => ?_) (fun c145 => absurd c145 (by omega))
                refine h_aload_n (pc' := 10) rfl rfl rfl ?_
                refine h_getR (pc' := 13) rfl rfl rfl rfl rfl ?_
                refine h_aload_n (pc' := 14) rfl rfl rfl ?_
                refine h_getI (pc' := 17) (v := s138 69 2) rfl rfl rfl rfl rfl rfl (fun z146 hz146 => ?_)
                have tz146 := tf_69_2 Is138
                refine h_iload_n (pc' := 18) rfl rfl rfl ?_
                refine h_iast (pc' := 19) rfl rfl rfl rfl hz146 (by omega) (by omega) hr103 (h_fgt (E := fun s => s 63 2 = s138 63 2 ∧ s 64 3 = s138 64 3 ∧ s 64 5 = s138 64 5) _ (in_70 Is138 (by omega)) (Fs138.up rfl) ⟨rfl, rfl, rfl⟩ (fun s147 Is147 Fs147 (es147 : s147 63 2 = s138 63 2 ∧ s147 64 3 = s138 64 3 ∧ s147 64 5 = s138 64 5) => ?_))
                refine h_aload_n (pc' := 20) rfl rfl rfl ?_
                refine h_getR (pc' := 23) rfl rfl rfl rfl rfl ?_
                refine h_aload_n (pc' := 24) rfl rfl rfl ?_
                refine h_getI (pc' := 27) (v := s147 69 2) rfl rfl rfl rfl rfl rfl (fun z148 hz148 => ?_)
                have tz148 := tf_69_2 Is147
                refine h_iload_n (pc' := 28) rfl rfl rfl ?_
                refine h_iast (pc' := 29) rfl rfl rfl rfl hz148 (by omega) (by omega) hr137 (h_fgt (E := fun s => s 63 2 = s138 63 2 ∧ s 64 3 = s138 64 3 ∧ s 64 5 = s138 64 5) _ (in_71 Is147 (by omega)) (Fs147.up rfl) ⟨es147.1, es147.2.1, es147.2.2⟩ (fun s149 Is149 Fs149 (es149 : s149 63 2 = s138 63 2 ∧ s149 64 3 = s138 64 3 ∧ s149 64 5 = s138 64 5) => ?_))
                clear es147
                refine h_aload_n (pc' := 30) rfl rfl rfl ?_
                refine h_dup (pc' := 31) rfl rfl rfl ?_
                refine h_getI (pc' := 34) (v := s149 69 2) rfl rfl rfl rfl rfl rfl (fun z150 hz150 => ?_)
                have tz150 := tf_69_2 Is149
                refine h_iconst (pc' := 35) (x := (Int32.ofInt 1)) rfl rfl rfl ?_
                refine h_iadd (pc' := 36) rfl rfl hz150 ci_1 rfl (by omega) (by omega) (fun z151 hz151 => ?_)
                refine h_put (pc' := 39) rfl rfl rfl rfl rfl rfl hz151 rfl (h_fgt (E := fun s => s 63 2 = s138 63 2 ∧ s 64 3 = s138 64 3 ∧ s 64 5 = s138 64 5) _ (if_69_2 Is149 (by omega)) (Fs149.up rfl) ⟨es149.1, es149.2.1, es149.2.2⟩ (fun s152 Is152 Fs152 (es152 : s152 63 2 = s138 63 2 ∧ s152 64 3 = s138 64 3 ∧ s152 64 5 = s138 64 5) => ?_))
                clear es149
                refine h_iconst (pc' := 40) (x := (Int32.ofInt 1)) rfl rfl rfl ?_
                refine h_zret rfl rfl ci_1 (by omega) (h_Kv ?_)
                refine h_pop (pc' := 64) rfl rfl rfl ?_
                exact h_vret rfl rfl (kk _ Is152 Fs152 (Or.inr (Or.inr ⟨by omega, by omega, by omega⟩)))
              · refine h_iconst (pc' := 9) (x := (Int32.ofInt 1)) rfl rfl rfl ?_
                refine h_goto (pc' := 13) rfl rfl ?_
                refine h_zret rfl rfl ci_1 (by omega) (h_Kv ?_)
                refine h_zeq (tg := 9) (pc' := 7) rfl rfl rfl ci_1 (fun c153 => absurd c153 (by omega)) (fun c153 => ?_)
                refine h_iconst (pc' := 8) (x := (Int32.ofInt 0)) rfl rfl rfl ?_
                refine h_zret rfl rfl ci_0 (by omega) (h_Kv ?_)
                refine h_pop (pc' := 64) rfl rfl rfl ?_
                exact h_vret rfl rfl (kk _ Is138 Fs138 (Or.inr (Or.inr ⟨by omega, by omega, by omega⟩)))
          · refine h_aload_n (pc' := 33) rfl rfl rfl ?_
            refine h_iconst (pc' := 34) (x := (Int32.ofInt 3)) rfl rfl rfl ?_
            refine h_aload_n (pc' := 35) rfl rfl rfl ?_
            refine h_getR (pc' := 38) rfl rfl rfl rfl rfl ?_
            refine h_getI (pc' := 41) (v := s104 64 4) rfl rfl rfl rfl rfl rfl (fun z154 hz154 => ?_)
            have tz154 := tf_64_4 Is104
            refine h_call (sp := false) (pc' := 44) (M := [(0, .ref 63), (1, .int (Int32.ofInt 3)), (2, .int z154)]) rfl rfl rfl rfl rfl rfl rfl rfl ?_
            refine h_aload_n (pc' := 1) rfl rfl rfl ?_
            refine h_getI (pc' := 4) (v := s104 63 2) rfl rfl rfl rfl rfl rfl (fun z155 hz155 => ?_)
            have tz155 := tf_63_2 Is104
            refine h_zne (tg := 17) (pc' := 7) rfl rfl rfl hz155 (fun c156 => absurd c156 (by omega)) (fun c156 => ?_)
            refine h_aload_n (pc' := 8) rfl rfl rfl ?_
            refine h_iload_n (pc' := 9) rfl rfl rfl ?_
            refine h_put (pc' := 12) rfl rfl rfl rfl rfl rfl ci_3 rfl (h_fgt (E := fun s => s 63 2 = 3 ∧ s 64 3 = s104 64 3 ∧ s 64 5 = s104 64 5) _ (if_63_2 Is104 (by omega)) (Fs104.up rfl) ⟨rfl, rfl, rfl⟩ (fun s157 Is157 Fs157 (es157 : s157 63 2 = 3 ∧ s157 64 3 = s104 64 3 ∧ s157 64 5 = s104 64 5) => ?_))
            refine h_aload_n (pc' := 13) rfl rfl rfl ?_
            refine h_iload_n (pc' := 14) rfl rfl rfl ?_
            refine h_put (pc' := 17) rfl rfl rfl rfl rfl rfl hz154 rfl (h_fgt (E := fun s => s 63 2 = 3 ∧ s 64 3 = s104 64 3 ∧ s 64 5 = s104 64 5) _ (if_63_3 Is157 (h_rgv hz154)) (Fs157.up rfl) ⟨es157.1, es157.2.1, es157.2.2⟩ (fun s158 Is158 Fs158 (es158 : s158 63 2 = 3 ∧ s158 64 3 = s104 64 3 ∧ s158 64 5 = s104 64 5) => ?_))
            clear es157
            refine h_vret rfl rfl (h_Kn ?_)
            refine h_aload_n (pc' := 45) rfl rfl rfl ?_
            refine h_iconst (pc' := 46) (x := (Int32.ofInt 5)) rfl rfl rfl ?_
            refine h_call (sp := false) (pc' := 49) (M := [(0, .ref 63), (1, .int (Int32.ofInt 5))]) rfl rfl rfl rfl rfl rfl rfl rfl ?_
            refine v_takeNumber _ Is158 (Int32.ofInt 5) _ ci_5 (by omega) (fun r159 br159 hr159 s160 Is160 Gs160 pcs160 => h_Kv ?_)
            have Fs160 := (Gs160.l1).tr Fs158
            rcases pcs160 with pcs160 | pcs160 | pcs160
            · refine h_istore_n (pc' := 50) (M := [(3, .int r159), (2, .int r103), (0, .ref 63), (1, .ref 69)]) rfl rfl rfl rfl ?_
              refine h_aload_n (pc' := 51) rfl rfl rfl ?_
              refine h_getI (pc' := 54) (v := s160 63 2) rfl rfl rfl rfl rfl rfl (fun z161 hz161 => ?_)
              have tz161 := tf_63_2 Is160
              refine h_zne (tg := 64) (pc' := 57) rfl rfl rfl hz161 (fun c162 => ?_) (fun c162 => absurd c162 (by omega))
              exact h_vret rfl rfl (kk _ Is160 Fs160 (Or.inr (Or.inl ⟨by omega, by omega⟩)))
            · exfalso; omega
            · exfalso; omega
set_option maxHeartbeats 100000000 in
theorem v_readPairX72 {ns : Nat} (σ : h_S) (hI : h_I σ) (pr0 : (¬ σ 63 2 = 0 ∨ ¬ σ 64 3 = 2 ∨ (0 ≤ σ 64 5 ∧ σ 64 5 ≤ 99))) {Q : Option Value → h_S → Prop} (kk : ∀ (τ : h_S), h_I τ → h_F k_nt τ σ → (((1 ≤ σ 63 2 ∧ σ 63 2 ≤ 6) ∧ (1 ≤ τ 63 2 ∧ τ 63 2 ≤ 6)) ∨ ((σ 63 2 = 0) ∧ (1 ≤ τ 63 2 ∧ τ 63 2 ≤ 6)) ∨ ((σ 63 2 = 0) ∧ (τ 63 2 = 0) ∧ (¬ τ 64 3 = 2 ∨ (0 ≤ τ 64 5 ∧ τ 64 5 ≤ 99)))) → Q none τ) : h_T g_P (g_Y ns) 60 0 [(0, .ref 63), (1, .ref 72)] [] σ Q := by
  have F00 : h_F k_nt σ σ := h_F.rf
  refine h_aload_n (pc' := 1) rfl rfl rfl ?_
  refine h_aload_n (pc' := 2) rfl rfl rfl ?_
  refine h_call (sp := false) (pc' := 5) (M := [(0, .ref 72)]) rfl rfl rfl rfl rfl rfl rfl rfl ?_
  refine h_aload_n (pc' := 1) rfl rfl rfl ?_
  refine h_getI (pc' := 4) (v := σ 72 2) rfl rfl rfl rfl rfl rfl (fun z1 hz1 => ?_)
  have tz1 := tf_72_2 hI
  refine h_iconst (pc' := 5) (x := (Int32.ofInt 3)) rfl rfl rfl ?_
  refine h_clt (tg := 12) (pc' := 8) rfl rfl rfl hz1 ci_3 (fun c2 => ?_) (fun c2 => ?_)
  · refine h_iconst (pc' := 13) (x := (Int32.ofInt 0)) rfl rfl rfl ?_
    refine h_zret rfl rfl ci_0 (by omega) (h_Kv ?_)
    refine h_call (sp := false) (pc' := 8) (M := [(0, .ref 63), (1, .int (Int32.ofInt 0))]) rfl rfl rfl rfl rfl rfl rfl rfl ?_
    refine v_takeName _ hI (Int32.ofInt 0) _ ci_0 (by omega) (fun s4 Is4 Gs4 pcs4 => h_Kn ?_)
    have Fs4 := (Gs4.l1).tr F00
    rcases pcs4 with pcs4 | pcs4 | pcs4
    · refine h_aload_n (pc' := 9) rfl rfl rfl ?_
      refine h_iconst (pc' := 10) (x := (Int32.ofInt 5)) rfl rfl rfl ?_
      refine h_call (sp := false) (pc' := 13) (M := [(0, .ref 63), (1, .int (Int32.ofInt 5))]) rfl rfl rfl rfl rfl rfl rfl rfl ?_
      refine v_takeNumber _ Is4 (Int32.ofInt 5) _ ci_5 (by omega) (fun r5 br5 hr5 s6 Is6 Gs6 pcs6 => h_Kv ?_)
      have Fs6 := (Gs6.l1).tr Fs4
      rcases pcs6 with pcs6 | pcs6 | pcs6
      · refine h_istore_n (pc' := 14) (M := [(2, .int r5), (0, .ref 63), (1, .ref 72)]) rfl rfl rfl rfl ?_
        refine h_aload_n (pc' := 15) rfl rfl rfl ?_
        refine h_call (sp := false) (pc' := 18) (M := [(0, .ref 63)]) rfl rfl rfl rfl rfl rfl rfl rfl ?_
        refine h_aload_n (pc' := 1) rfl rfl rfl ?_
        refine h_getI (pc' := 4) (v := s6 63 2) rfl rfl rfl rfl rfl rfl (fun z7 hz7 => ?_)
        have tz7 := tf_63_2 Is6
        refine h_zne (tg := 22) (pc' := 7) rfl rfl rfl hz7 (fun c8 => ?_) (fun c8 => absurd c8 (by omega))
        refine h_iconst (pc' := 23) (x := (Int32.ofInt 0)) rfl rfl rfl ?_
        refine h_zret rfl rfl ci_0 (by omega) (h_Kv ?_)
        refine h_zeq (tg := 44) (pc' := 21) rfl rfl rfl ci_0 (fun c9 => ?_) (fun c9 => absurd c9 (by omega))
        refine h_aload_n (pc' := 45) rfl rfl rfl ?_
        refine h_iconst (pc' := 46) (x := (Int32.ofInt 5)) rfl rfl rfl ?_
        refine h_call (sp := false) (pc' := 49) (M := [(0, .ref 63), (1, .int (Int32.ofInt 5))]) rfl rfl rfl rfl rfl rfl rfl rfl ?_
        refine v_takeNumber _ Is6 (Int32.ofInt 5) _ ci_5 (by omega) (fun r10 br10 hr10 s11 Is11 Gs11 pcs11 => h_Kv ?_)
        have Fs11 := (Gs11.l1).tr Fs6
        rcases pcs11 with pcs11 | pcs11 | pcs11
        · refine h_istore_n (pc' := 50) (M := [(3, .int r10), (2, .int r5), (0, .ref 63), (1, .ref 72)]) rfl rfl rfl rfl ?_
          refine h_aload_n (pc' := 51) rfl rfl rfl ?_
          refine h_getI (pc' := 54) (v := s11 63 2) rfl rfl rfl rfl rfl rfl (fun z12 hz12 => ?_)
          have tz12 := tf_63_2 Is11
          refine h_zne (tg := 64) (pc' := 57) rfl rfl rfl hz12 (fun c13 => ?_) (fun c13 => absurd c13 (by omega))
          exact h_vret rfl rfl (kk _ Is11 Fs11 (Or.inl ⟨by omega, by omega⟩))
        · exfalso; omega
        · exfalso; omega
      · exfalso; omega
      · exfalso; omega
    · refine h_aload_n (pc' := 9) rfl rfl rfl ?_
      refine h_iconst (pc' := 10) (x := (Int32.ofInt 5)) rfl rfl rfl ?_
      refine h_call (sp := false) (pc' := 13) (M := [(0, .ref 63), (1, .int (Int32.ofInt 5))]) rfl rfl rfl rfl rfl rfl rfl rfl ?_
      refine v_takeNumber _ Is4 (Int32.ofInt 5) _ ci_5 (by omega) (fun r14 br14 hr14 s15 Is15 Gs15 pcs15 => h_Kv ?_)
      have Fs15 := (Gs15.l1).tr Fs4
      rcases pcs15 with pcs15 | pcs15 | pcs15
      · refine h_istore_n (pc' := 14) (M := [(2, .int r14), (0, .ref 63), (1, .ref 72)]) rfl rfl rfl rfl ?_
        refine h_aload_n (pc' := 15) rfl rfl rfl ?_
        refine h_call (sp := false) (pc' := 18) (M := [(0, .ref 63)]) rfl rfl rfl rfl rfl rfl rfl rfl ?_
        refine h_aload_n (pc' := 1) rfl rfl rfl ?_
        refine h_getI (pc' := 4) (v := s15 63 2) rfl rfl rfl rfl rfl rfl (fun z16 hz16 => ?_)
        have tz16 := tf_63_2 Is15
        refine h_zne (tg := 22) (pc' := 7) rfl rfl rfl hz16 (fun c17 => ?_) (fun c17 => absurd c17 (by omega))
        refine h_iconst (pc' := 23) (x := (Int32.ofInt 0)) rfl rfl rfl ?_
        refine h_zret rfl rfl ci_0 (by omega) (h_Kv ?_)
        refine h_zeq (tg := 44) (pc' := 21) rfl rfl rfl ci_0 (fun c18 => ?_) (fun c18 => absurd c18 (by omega))
        refine h_aload_n (pc' := 45) rfl rfl rfl ?_
        refine h_iconst (pc' := 46) (x := (Int32.ofInt 5)) rfl rfl rfl ?_
        refine h_call (sp := false) (pc' := 49) (M := [(0, .ref 63), (1, .int (Int32.ofInt 5))]) rfl rfl rfl rfl rfl rfl rfl rfl ?_
        refine v_takeNumber _ Is15 (Int32.ofInt 5) _ ci_5 (by omega) (fun r19 br19 hr19 s20 Is20 Gs20 pcs20 => h_Kv ?_)
        have Fs20 := (Gs20.l1).tr Fs15
        rcases pcs20 with pcs20 | pcs20 | pcs20
        · refine h_istore_n (pc' := 50) (M := [(3, .int r19), (2, .int r14), (0, .ref 63), (1, .ref 72)]) rfl rfl rfl rfl ?_
          refine h_aload_n (pc' := 51) rfl rfl rfl ?_
          refine h_getI (pc' := 54) (v := s20 63 2) rfl rfl rfl rfl rfl rfl (fun z21 hz21 => ?_)
          have tz21 := tf_63_2 Is20
          refine h_zne (tg := 64) (pc' := 57) rfl rfl rfl hz21 (fun c22 => ?_) (fun c22 => absurd c22 (by omega))
          exact h_vret rfl rfl (kk _ Is20 Fs20 (Or.inr (Or.inl ⟨by omega, by omega⟩)))
        · exfalso; omega
        · exfalso; omega
      · exfalso; omega
      · exfalso; omega
    · refine h_aload_n (pc' := 9) rfl rfl rfl ?_
      refine h_iconst (pc' := 10) (x := (Int32.ofInt 5)) rfl rfl rfl ?_
      refine h_call (sp := false) (pc' := 13) (M := [(0, .ref 63), (1, .int (Int32.ofInt 5))]) rfl rfl rfl rfl rfl rfl rfl rfl ?_
      refine v_takeNumber _ Is4 (Int32.ofInt 5) _ ci_5 (by omega) (fun r23 br23 hr23 s24 Is24 Gs24 pcs24 => h_Kv ?_)
      have Fs24 := (Gs24.l1).tr Fs4
      rcases pcs24 with pcs24 | pcs24 | pcs24
      · exfalso; omega
      · refine h_istore_n (pc' := 14) (M := [(2, .int r23), (0, .ref 63), (1, .ref 72)]) rfl rfl rfl rfl ?_
        refine h_aload_n (pc' := 15) rfl rfl rfl ?_
        refine h_call (sp := false) (pc' := 18) (M := [(0, .ref 63)]) rfl rfl rfl rfl rfl rfl rfl rfl ?_
        refine h_aload_n (pc' := 1) rfl rfl rfl ?_
        refine h_getI (pc' := 4) (v := s24 63 2) rfl rfl rfl rfl rfl rfl (fun z25 hz25 => ?_)
        have tz25 := tf_63_2 Is24
        refine h_zne (tg := 22) (pc' := 7) rfl rfl rfl hz25 (fun c26 => ?_) (fun c26 => absurd c26 (by omega))
        refine h_iconst (pc' := 23) (x := (Int32.ofInt 0)) rfl rfl rfl ?_
        refine h_zret rfl rfl ci_0 (by omega) (h_Kv ?_)
        refine h_zeq (tg := 44) (pc' := 21) rfl rfl rfl ci_0 (fun c27 => ?_) (fun c27 => absurd c27 (by omega))
        refine h_aload_n (pc' := 45) rfl rfl rfl ?_
        refine h_iconst (pc' := 46) (x := (Int32.ofInt 5)) rfl rfl rfl ?_
        refine h_call (sp := false) (pc' := 49) (M := [(0, .ref 63), (1, .int (Int32.ofInt 5))]) rfl rfl rfl rfl rfl rfl rfl rfl ?_
        refine v_takeNumber _ Is24 (Int32.ofInt 5) _ ci_5 (by omega) (fun r28 br28 hr28 s29 Is29 Gs29 pcs29 => h_Kv ?_)
        have Fs29 := (Gs29.l1).tr Fs24
        rcases pcs29 with pcs29 | pcs29 | pcs29
        · refine h_istore_n (pc' := 50) (M := [(3, .int r28), (2, .int r23), (0, .ref 63), (1, .ref 72)]) rfl rfl rfl rfl ?_
          refine h_aload_n (pc' := 51) rfl rfl rfl ?_
          refine h_getI (pc' := 54) (v := s29 63 2) rfl rfl rfl rfl rfl rfl (fun z30 hz30 => ?_)
          have tz30 := tf_63_2 Is29
          refine h_zne (tg := 64) (pc' := 57) rfl rfl rfl hz30 (fun c31 => ?_) (fun c31 => absurd c31 (by omega))
          exact h_vret rfl rfl (kk _ Is29 Fs29 (Or.inr (Or.inl ⟨by omega, by omega⟩)))
        · exfalso; omega
        · exfalso; omega
      · refine h_istore_n (pc' := 14) (M := [(2, .int r23), (0, .ref 63), (1, .ref 72)]) rfl rfl rfl rfl ?_
        refine h_aload_n (pc' := 15) rfl rfl rfl ?_
        refine h_call (sp := false) (pc' := 18) (M := [(0, .ref 63)]) rfl rfl rfl rfl rfl rfl rfl rfl ?_
        refine h_aload_n (pc' := 1) rfl rfl rfl ?_
        refine h_getI (pc' := 4) (v := s24 63 2) rfl rfl rfl rfl rfl rfl (fun z32 hz32 => ?_)
        have tz32 := tf_63_2 Is24
        refine h_zne (tg := 22) (pc' := 7) rfl rfl rfl hz32 (fun c33 => absurd c33 (by omega)) (fun c33 => ?_)
        refine h_aload_n (pc' := 8) rfl rfl rfl ?_
        refine h_getR (pc' := 11) rfl rfl rfl rfl rfl ?_
        refine h_getI (pc' := 14) (v := s24 64 3) rfl rfl rfl rfl rfl rfl (fun z34 hz34 => ?_)
        have tz34 := tf_64_3 Is24
        refine h_iconst (pc' := 15) (x := (Int32.ofInt 2)) rfl rfl rfl ?_
        refine h_cne (tg := 22) (pc' := 18) rfl rfl rfl hz34 ci_2 (fun c35 => ?_) (fun c35 => ?_)
        · refine h_iconst (pc' := 23) (x := (Int32.ofInt 0)) rfl rfl rfl ?_
          refine h_zret rfl rfl ci_0 (by omega) (h_Kv ?_)
          refine h_zeq (tg := 44) (pc' := 21) rfl rfl rfl ci_0 (fun c36 => ?_) (fun c36 => absurd c36 (by omega))
          refine h_aload_n (pc' := 45) rfl rfl rfl ?_
          refine h_iconst (pc' := 46) (x := (Int32.ofInt 5)) rfl rfl rfl ?_
          refine h_call (sp := false) (pc' := 49) (M := [(0, .ref 63), (1, .int (Int32.ofInt 5))]) rfl rfl rfl rfl rfl rfl rfl rfl ?_
          refine v_takeNumber _ Is24 (Int32.ofInt 5) _ ci_5 (by omega) (fun r37 br37 hr37 s38 Is38 Gs38 pcs38 => h_Kv ?_)
          have Fs38 := (Gs38.l1).tr Fs24
          rcases pcs38 with pcs38 | pcs38 | pcs38
          · exfalso; omega
          · refine h_istore_n (pc' := 50) (M := [(3, .int r37), (2, .int r23), (0, .ref 63), (1, .ref 72)]) rfl rfl rfl rfl ?_
            refine h_aload_n (pc' := 51) rfl rfl rfl ?_
            refine h_getI (pc' := 54) (v := s38 63 2) rfl rfl rfl rfl rfl rfl (fun z39 hz39 => ?_)
            have tz39 := tf_63_2 Is38
            refine h_zne (tg := 64) (pc' := 57) rfl rfl rfl hz39 (fun c40 => ?_) (fun c40 => absurd c40 (by omega))
            exact h_vret rfl rfl (kk _ Is38 Fs38 (Or.inr (Or.inl ⟨by omega, by omega⟩)))
          · refine h_istore_n (pc' := 50) (M := [(3, .int r37), (2, .int r23), (0, .ref 63), (1, .ref 72)]) rfl rfl rfl rfl ?_
            refine h_aload_n (pc' := 51) rfl rfl rfl ?_
            refine h_getI (pc' := 54) (v := s38 63 2) rfl rfl rfl rfl rfl rfl (fun z41 hz41 => ?_)
            have tz41 := tf_63_2 Is38
            refine h_zne (tg := 64) (pc' := 57) rfl rfl rfl hz41 (fun c42 => absurd c42 (by omega)) (fun c42 => ?_)
            refine h_aload_n (pc' := 58) rfl rfl rfl ?_
            refine h_iload_n (pc' := 59) rfl rfl rfl ?_
            refine h_iload_n (pc' := 60) rfl rfl rfl ?_
            refine h_call (sp := false) (pc' := 63) (M := [(0, .ref 72), (1, .int r23), (2, .int r37)]) rfl rfl rfl rfl rfl rfl rfl rfl ?_
            refine h_aload_n (pc' := 1) rfl rfl rfl ?_
            refine h_call (sp := false) (pc' := 4) (M := [(0, .ref 72)]) rfl rfl rfl rfl rfl rfl rfl rfl ?_
            refine h_aload_n (pc' := 1) rfl rfl rfl ?_
            refine h_getI (pc' := 4) (v := s38 72 2) rfl rfl rfl rfl rfl rfl (fun z43 hz43 => ?_)
            have tz43 := tf_72_2 Is38
            refine h_iconst (pc' := 5) (x := (Int32.ofInt 3)) rfl rfl rfl ?_
            refine h_clt (tg := 12) (pc' := 8) rfl rfl rfl hz43 ci_3 (fun c44 => ?_) (fun c44 => ?_)
            · refine h_iconst (pc' := 13) (x := (Int32.ofInt 0)) rfl rfl rfl ?_
              refine h_zret rfl rfl ci_0 (by omega) (h_Kv ?_)
              refine h_zeq (tg := 9) (pc' := 7) rfl rfl rfl ci_0 (fun c45 => ?_) (fun c45 => absurd c45 (by omega))
              refine h_aload_n (pc' := 10) rfl rfl rfl ?_
              refine h_getR (pc' := 13) rfl rfl rfl rfl rfl ?_
              refine h_aload_n (pc' := 14) rfl rfl rfl ?_
              refine h_getI (pc' := 17) (v := s38 72 2) rfl rfl rfl rfl rfl rfl (fun z46 hz46 => ?_)
              have tz46 := tf_72_2 Is38
              refine h_iload_n (pc' := 18) rfl rfl rfl ?_
              refine h_iast (pc' := 19) rfl rfl rfl rfl hz46 (by omega) (by omega) hr23 (h_fgt (E := fun s => s 63 2 = s38 63 2 ∧ s 64 3 = s38 64 3 ∧ s 64 5 = s38 64 5) _ (in_73 Is38 (by omega)) (Fs38.up rfl) ⟨rfl, rfl, rfl⟩ (fun s47 Is47 Fs47 (es47 : s47 63 2 = s38 63 2 ∧ s47 64 3 = s38 64 3 ∧ s47 64 5 = s38 64 5) => ?_))
              refine h_aload_n (pc' := 20) rfl rfl rfl ?_
              refine h_getR (pc' := 23) rfl rfl rfl rfl rfl ?_
              refine h_aload_n (pc' := 24) rfl rfl rfl ?_
              refine h_getI (pc' := 27) (v := s47 72 2) rfl rfl rfl rfl rfl rfl (fun z48 hz48 => ?_)
              have tz48 := tf_72_2 Is47
              refine h_iload_n (pc' := 28) rfl rfl rfl ?_
              refine h_iast (pc' := 29) rfl rfl rfl rfl hz48 (by omega) (by omega) hr37 (h_fgt (E := fun s => s 63 2 = s38 63 2 ∧ s 64 3 = s38 64 3 ∧ s 64 5 = s38 64 5) _ (in_74 Is47 (by omega)) (Fs47.up rfl) ⟨es47.1, es47.2.1, es47.2.2⟩ (fun s49 Is49 Fs49 (es49 : s49 63 2 = s38 63 2 ∧ s49 64 3 = s38 64 3 ∧ s49 64 5 = s38 64 5) => ?_))
              clear es47
              refine h_aload_n (pc' := 30) rfl rfl rfl ?_
              refine h_dup (pc' := 31) rfl rfl rfl ?_
              refine h_getI (pc' := 34) (v := s49 72 2) rfl rfl rfl rfl rfl rfl (fun z50 hz50 => ?_)
              have tz50 := tf_72_2 Is49
              refine h_iconst (pc' := 35) (x := (Int32.ofInt 1)) rfl rfl rfl ?_
              refine h_iadd (pc' := 36) rfl rfl hz50 ci_1 rfl (by omega) (by omega) (fun z51 hz51 => ?_)
              refine h_put (pc' := 39) rfl rfl rfl rfl rfl rfl hz51 rfl (h_fgt (E := fun s => s 63 2 = s38 63 2 ∧ s 64 3 = s38 64 3 ∧ s 64 5 = s38 64 5) _ (if_72_2 Is49 (by omega)) (Fs49.up rfl) ⟨es49.1, es49.2.1, es49.2.2⟩ (fun s52 Is52 Fs52 (es52 : s52 63 2 = s38 63 2 ∧ s52 64 3 = s38 64 3 ∧ s52 64 5 = s38 64 5) => ?_))
              clear es49
              refine h_iconst (pc' := 40) (x := (Int32.ofInt 1)) rfl rfl rfl ?_
              refine h_zret rfl rfl ci_1 (by omega) (h_Kv ?_)
              refine h_pop (pc' := 64) rfl rfl rfl ?_
              exact h_vret rfl rfl (kk _ Is52 Fs52 (Or.inr (Or.inr ⟨by omega, by omega, by omega⟩)))
            · refine h_iconst (pc' := 9) (x := (Int32.ofInt 1)) rfl rfl rfl ?_
              refine h_goto (pc' := 13) rfl rfl ?_
              refine h_zret rfl rfl ci_1 (by omega) (h_Kv ?_)
              refine h_zeq (tg := 9) (pc' := 7) rfl rfl rfl ci_1 (fun c53 => absurd c53 (by omega)) (fun c53 => ?_)
              refine h_iconst (pc' := 8) (x := (Int32.ofInt 0)) rfl rfl rfl ?_
              refine h_zret rfl rfl ci_0 (by omega) (h_Kv ?_)
              refine h_pop (pc' := 64) rfl rfl rfl ?_
              exact h_vret rfl rfl (kk _ Is38 Fs38 (Or.inr (Or.inr ⟨by omega, by omega, by omega⟩)))
        · refine h_iconst (pc' := 19) (x := (Int32.ofInt 1)) rfl rfl rfl ?_
          refine h_goto (pc' := 23) rfl rfl ?_
          refine h_zret rfl rfl ci_1 (by omega) (h_Kv ?_)
          refine h_zeq (tg := 44) (pc' := 21) rfl rfl rfl ci_1 (fun c54 => absurd c54 (by omega)) (fun c54 => ?_)
          refine h_aload_n (pc' := 22) rfl rfl rfl ?_
          refine h_getR (pc' := 25) rfl rfl rfl rfl rfl ?_
          refine h_getI (pc' := 28) (v := s24 64 5) rfl rfl rfl rfl rfl rfl (fun z55 hz55 => ?_)
          have tz55 := tf_64_5 Is24
          refine h_iload_n (pc' := 29) rfl rfl rfl ?_
          refine h_cne (tg := 44) (pc' := 32) rfl rfl rfl hz55 hr23 (fun c56 => ?_) (fun c56 => ?_)
          · refine h_aload_n (pc' := 45) rfl rfl rfl ?_
            refine h_iconst (pc' := 46) (x := (Int32.ofInt 5)) rfl rfl rfl ?_
            refine h_call (sp := false) (pc' := 49) (M := [(0, .ref 63), (1, .int (Int32.ofInt 5))]) rfl rfl rfl rfl rfl rfl rfl rfl ?_
            refine v_takeNumber _ Is24 (Int32.ofInt 5) _ ci_5 (by omega) (fun r57 br57 hr57 s58 Is58 Gs58 pcs58 => h_Kv ?_)
            have Fs58 := (Gs58.l1).tr Fs24
            rcases pcs58 with pcs58 | pcs58 | pcs58
            · exfalso; omega
            · refine h_istore_n (pc' := 50) (M := [(3, .int r57), (2, .int r23), (0, .ref 63), (1, .ref 72)]) rfl rfl rfl rfl ?_
              refine h_aload_n (pc' := 51) rfl rfl rfl ?_
              refine h_getI (pc' := 54) (v := s58 63 2) rfl rfl rfl rfl rfl rfl (fun z59 hz59 => ?_)
              have tz59 := tf_63_2 Is58
              refine h_zne (tg := 64) (pc' := 57) rfl rfl rfl hz59 (fun c60 => ?_) (fun c60 => absurd c60 (by omega))
              exact h_vret rfl rfl (kk _ Is58 Fs58 (Or.inr (Or.inl ⟨by omega, by omega⟩)))
            · refine h_istore_n (pc' := 50) (M := [(3, .int r57), (2, .int r23), (0, .ref 63), (1, .ref 72)]) rfl rfl rfl rfl ?_
              refine h_aload_n (pc' := 51) rfl rfl rfl ?_
              refine h_getI (pc' := 54) (v := s58 63 2) rfl rfl rfl rfl rfl rfl (fun z61 hz61 => ?_)
              have tz61 := tf_63_2 Is58
              refine h_zne (tg := 64) (pc' := 57) rfl rfl rfl hz61 (fun c62 => absurd c62 (by omega)) (fun c62 => ?_)
              refine h_aload_n (pc' := 58) rfl rfl rfl ?_
              refine h_iload_n (pc' := 59) rfl rfl rfl ?_
              refine h_iload_n (pc' := 60) rfl rfl rfl ?_
              refine h_call (sp := false) (pc' := 63) (M := [(0, .ref 72), (1, .int r23), (2, .int r57)]) rfl rfl rfl rfl rfl rfl rfl rfl ?_
              refine h_aload_n (pc' := 1) rfl rfl rfl ?_
              refine h_call (sp := false) (pc' := 4) (M := [(0, .ref 72)]) rfl rfl rfl rfl rfl rfl rfl rfl ?_
              refine h_aload_n (pc' := 1) rfl rfl rfl ?_
              refine h_getI (pc' := 4) (v := s58 72 2) rfl rfl rfl rfl rfl rfl (fun z63 hz63 => ?_)
              have tz63 := tf_72_2 Is58
              refine h_iconst (pc' := 5) (x := (Int32.ofInt 3)) rfl rfl rfl ?_
              refine h_clt (tg := 12) (pc' := 8) rfl rfl rfl hz63 ci_3 (fun c64 => ?_) (fun c64 => ?_)
              · refine h_iconst (pc' := 13) (x := (Int32.ofInt 0)) rfl rfl rfl ?_
                refine h_zret rfl rfl ci_0 (by omega) (h_Kv ?_)
                refine h_zeq (tg := 9) (pc' := 7) rfl rfl rfl ci_0 (fun c65 => ?_) (fun c65 => absurd c65 (by omega))
                refine h_aload_n (pc' := 10) rfl rfl rfl ?_
                refine h_getR (pc' := 13) rfl rfl rfl rfl rfl ?_
                refine h_aload_n (pc' := 14) rfl rfl rfl ?_
                refine h_getI (pc' := 17) (v := s58 72 2) rfl rfl rfl rfl rfl rfl (fun z66 hz66 => ?_)
                have tz66 := tf_72_2 Is58
                refine h_iload_n (pc' := 18) rfl rfl rfl ?_
                refine h_iast (pc' := 19) rfl rfl rfl rfl hz66 (by omega) (by omega) hr23 (h_fgt (E := fun s => s 63 2 = s58 63 2 ∧ s 64 3 = s58 64 3 ∧ s 64 5 = s58 64 5) _ (in_73 Is58 (by omega)) (Fs58.up rfl) ⟨rfl, rfl, rfl⟩ (fun s67 Is67 Fs67 (es67 : s67 63 2 = s58 63 2 ∧ s67 64 3 = s58 64 3 ∧ s67 64 5 = s58 64 5) => ?_))
                refine h_aload_n (pc' := 20) rfl rfl rfl ?_
                refine h_getR (pc' := 23) rfl rfl rfl rfl rfl ?_
                refine h_aload_n (pc' := 24) rfl rfl rfl ?_
                refine h_getI (pc' := 27) (v := s67 72 2) rfl rfl rfl rfl rfl rfl (fun z68 hz68 => ?_)
                have tz68 := tf_72_2 Is67
                refine h_iload_n (pc' := 28) rfl rfl rfl ?_
                refine h_iast (pc' := 29) rfl rfl rfl rfl hz68 (by omega) (by omega) hr57 (h_fgt (E := fun s => s 63 2 = s58 63 2 ∧ s 64 3 = s58 64 3 ∧ s 64 5 = s58 64 5) _ (in_74 Is67 (by omega)) (Fs67.up rfl) ⟨es67.1, es67.2.1, es67.2.2⟩ (fun s69 Is69 Fs69 (es69 : s69 63 2 = s58 63 2 ∧ s69 64 3 = s58 64 3 ∧ s69 64 5 = s58 64 5) => ?_))
                clear es67
                refine h_aload_n (pc' := 30) rfl rfl rfl ?_
                refine h_dup (pc' := 31) rfl rfl rfl ?_
                refine h_getI (pc' := 34) (v := s69 72 2) rfl rfl rfl rfl rfl rfl (fun z70 hz70 => ?_)
                have tz70 := tf_72_2 Is69
                refine h_iconst (pc' := 35) (x := (Int32.ofInt 1)) rfl rfl rfl ?_
                refine h_iadd (pc' := 36) rfl rfl hz70 ci_1 rfl (by omega) (by omega) (fun z71 hz71 => ?_)
                refine h_put (pc' := 39) rfl rfl rfl rfl rfl rfl hz71 rfl (h_fgt (E := fun s => s 63 2 = s58 63 2 ∧ s 64 3 = s58 64 3 ∧ s 64 5 = s58 64 5) _ (if_72_2 Is69 (by omega)) (Fs69.up rfl) ⟨es69.1, es69.2.1, es69.2.2⟩ (fun s72 Is72 Fs72 (es72 : s72 63 2 = s58 63 2 ∧ s72 64 3 = s58 64 3 ∧ s72 64 5 = s58 64 5) => ?_))
                clear es69
                refine h_iconst (pc' := 40) (x := (Int32.ofInt 1)) rfl rfl rfl ?_
                refine h_zret rfl rfl ci_1 (by omega) (h_Kv ?_)
                refine h_pop (pc' := 64) rfl rfl rfl ?_
                exact h_vret rfl rfl (kk _ Is72 Fs72 (Or.inr (Or.inr ⟨by omega, by omega, by omega⟩)))
              · refine h_iconst (pc' := 9) (x := (Int32.ofInt 1)) rfl rfl rfl ?_
                refine h_goto (pc' := 13) rfl rfl ?_
                refine h_zret rfl rfl ci_1 (by omega) (h_Kv ?_)
                refine h_zeq (tg := 9) (pc' := 7) rfl rfl rfl ci_1 (fun c73 => absurd c73 (by omega)) (fun c73 => ?_)
                refine h_iconst (pc' := 8) (x := (Int32.ofInt 0)) rfl rfl rfl ?_
                refine h_zret rfl rfl ci_0 (by omega) (h_Kv ?_)
                refine h_pop (pc' := 64) rfl rfl rfl ?_
                exact h_vret rfl rfl (kk _ Is58 Fs58 (Or.inr (Or.inr ⟨by omega, by omega, by omega⟩)))
          · refine h_aload_n (pc' := 33) rfl rfl rfl ?_
            refine h_iconst (pc' := 34) (x := (Int32.ofInt 3)) rfl rfl rfl ?_
            refine h_aload_n (pc' := 35) rfl rfl rfl ?_
            refine h_getR (pc' := 38) rfl rfl rfl rfl rfl ?_
            refine h_getI (pc' := 41) (v := s24 64 4) rfl rfl rfl rfl rfl rfl (fun z74 hz74 => ?_)
            have tz74 := tf_64_4 Is24
            refine h_call (sp := false) (pc' := 44) (M := [(0, .ref 63), (1, .int (Int32.ofInt 3)), (2, .int z74)]) rfl rfl rfl rfl rfl rfl rfl rfl ?_
            refine h_aload_n (pc' := 1) rfl rfl rfl ?_
            refine h_getI (pc' := 4) (v := s24 63 2) rfl rfl rfl rfl rfl rfl (fun z75 hz75 => ?_)
            have tz75 := tf_63_2 Is24
            refine h_zne (tg := 17) (pc' := 7) rfl rfl rfl hz75 (fun c76 => absurd c76 (by omega)) (fun c76 => ?_)
            refine h_aload_n (pc' := 8) rfl rfl rfl ?_
            refine h_iload_n (pc' := 9) rfl rfl rfl ?_
            refine h_put (pc' := 12) rfl rfl rfl rfl rfl rfl ci_3 rfl (h_fgt (E := fun s => s 63 2 = 3 ∧ s 64 3 = s24 64 3 ∧ s 64 5 = s24 64 5) _ (if_63_2 Is24 (by omega)) (Fs24.up rfl) ⟨rfl, rfl, rfl⟩ (fun s77 Is77 Fs77 (es77 : s77 63 2 = 3 ∧ s77 64 3 = s24 64 3 ∧ s77 64 5 = s24 64 5) => ?_))
            refine h_aload_n (pc' := 13) rfl rfl rfl ?_
            refine h_iload_n (pc' := 14) rfl rfl rfl ?_
            refine h_put (pc' := 17) rfl rfl rfl rfl rfl rfl hz74 rfl (h_fgt (E := fun s => s 63 2 = 3 ∧ s 64 3 = s24 64 3 ∧ s 64 5 = s24 64 5) _ (if_63_3 Is77 (h_rgv hz74)) (Fs77.up rfl) ⟨es77.1, es77.2.1, es77.2.2⟩ (fun s78 Is78 Fs78 (es78 : s78 63 2 = 3 ∧ s78 64 3 = s24 64 3 ∧ s78 64 5 = s24 64 5) => ?_))
            clear es77
            refine h_vret rfl rfl (h_Kn ?_)
            refine h_aload_n (pc' := 45) rfl rfl rfl ?_
            refine h_iconst (pc' := 46) (x := (Int32.ofInt 5)) rfl rfl rfl ?_
            refine h_call (sp := false) (pc' := 49) (M := [(0, .ref 63), (1, .int (Int32.ofInt 5))]) rfl rfl rfl rfl rfl rfl rfl rfl ?_
            refine v_takeNumber _ Is78 (Int32.ofInt 5) _ ci_5 (by omega) (fun r79 br79 hr79 s80 Is80 Gs80 pcs80 => h_Kv ?_)
            have Fs80 := (Gs80.l1).tr Fs78
            rcases pcs80 with pcs80 | pcs80 | pcs80
            · refine h_istore_n (pc' := 50) (M := [(3, .int r79), (2, .int r23), (0, .ref 63), (1, .ref 72)]) rfl rfl rfl rfl ?_
              refine h_aload_n (pc' := 51) rfl rfl rfl ?_
              refine h_getI (pc' := 54) (v := s80 63 2) rfl rfl rfl rfl rfl rfl (fun z81 hz81 => ?_)
              have tz81 := tf_63_2 Is80
              refine h_zne (tg := 64) (pc' := 57) rfl rfl rfl hz81 (fun c82 => ?_) (fun c82 => absurd c82 (by omega))
              exact h_vret rfl rfl (kk _ Is80 Fs80 (Or.inr (Or.inl ⟨by omega, by omega⟩)))
            · exfalso; omega
            · exfalso; omega
  · refine h_iconst (pc' := 9) (x := (Int32.ofInt 1)) rfl rfl rfl ?_
    refine h_goto (pc' := 13) rfl rfl ?_
    refine h_zret rfl rfl ci_1 (by omega) (h_Kv ?_)
    refine h_call (sp := false) (pc' := 8) (M := [(0, .ref 63), (1, .int (Int32.ofInt 1))]) rfl rfl rfl rfl rfl rfl rfl rfl ?_
    refine v_takeName _ hI (Int32.ofInt 1) _ ci_1 (by omega) (fun s84 Is84 Gs84 pcs84 => h_Kn ?_)
    have Fs84 := (Gs84.l1).tr F00
    rcases pcs84 with pcs84 | pcs84 | pcs84
    · refine h_aload_n (pc' := 9) rfl rfl rfl ?_
      refine h_iconst (pc' := 10) (x := (Int32.ofInt 5)) rfl rfl rfl ?_
      refine h_call (sp := false) (pc' := 13) (M := [(0, .ref 63), (1, .int (Int32.ofInt 5))]) rfl rfl rfl rfl rfl rfl rfl rfl ?_
      refine v_takeNumber _ Is84 (Int32.ofInt 5) _ ci_5 (by omega) (fun r85 br85 hr85 s86 Is86 Gs86 pcs86 => h_Kv ?_)
      have Fs86 := (Gs86.l1).tr Fs84
      rcases pcs86 with pcs86 | pcs86 | pcs86
      · refine h_istore_n (pc' := 14) (M := [(2, .int r85), (0, .ref 63), (1, .ref 72)]) rfl rfl rfl rfl ?_
        refine h_aload_n (pc' := 15) rfl rfl rfl ?_
        refine h_call (sp := false) (pc' := 18) (M := [(0, .ref 63)]) rfl rfl rfl rfl rfl rfl rfl rfl ?_
        refine h_aload_n (pc' := 1) rfl rfl rfl ?_
        refine h_getI (pc' := 4) (v := s86 63 2) rfl rfl rfl rfl rfl rfl (fun z87 hz87 => ?_)
        have tz87 := tf_63_2 Is86
        refine h_zne (tg := 22) (pc' := 7) rfl rfl rfl hz87 (fun c88 => ?_) (fun c88 => absurd c88 (by omega))
        refine h_iconst (pc' := 23) (x := (Int32.ofInt 0)) rfl rfl rfl ?_
        refine h_zret rfl rfl ci_0 (by omega) (h_Kv ?_)
        refine h_zeq (tg := 44) (pc' := 21) rfl rfl rfl ci_0 (fun c89 => ?_) (fun c89 => absurd c89 (by omega))
        refine h_aload_n (pc' := 45) rfl rfl rfl ?_
        refine h_iconst (pc' := 46) (x := (Int32.ofInt 5)) rfl rfl rfl ?_
        refine h_call (sp := false) (pc' := 49) (M := [(0, .ref 63), (1, .int (Int32.ofInt 5))]) rfl rfl rfl rfl rfl rfl rfl rfl ?_
        refine v_takeNumber _ Is86 (Int32.ofInt 5) _ ci_5 (by omega) (fun r90 br90 hr90 s91 Is91 Gs91 pcs91 => h_Kv ?_)
        have Fs91 := (Gs91.l1).tr Fs86
        rcases pcs91 with pcs91 | pcs91 | pcs91
        · refine h_istore_n (pc' := 50) (M := [(3, .int r90), (2, .int r85), (0, .ref 63), (1, .ref 72)]) rfl rfl rfl rfl ?_
          refine h_aload_n (pc' := 51) rfl rfl rfl ?_
          refine h_getI (pc' := 54) (v := s91 63 2) rfl rfl rfl rfl rfl rfl (fun z92 hz92 => ?_)
          have tz92 := tf_63_2 Is91
          refine h_zne (tg := 64) (pc' := 57) rfl rfl rfl hz92 (fun c93 => ?_) (fun c93 => absurd c93 (by omega))
          exact h_vret rfl rfl (kk _ Is91 Fs91 (Or.inl ⟨by omega, by omega⟩))
        · exfalso; omega
        · exfalso; omega
      · exfalso; omega
      · exfalso; omega
    · refine h_aload_n (pc' := 9) rfl rfl rfl ?_
      refine h_iconst (pc' := 10) (x := (Int32.ofInt 5)) rfl rfl rfl ?_
      refine h_call (sp := false) (pc' := 13) (M := [(0, .ref 63), (1, .int (Int32.ofInt 5))]) rfl rfl rfl rfl rfl rfl rfl rfl ?_
      refine v_takeNumber _ Is84 (Int32.ofInt 5) _ ci_5 (by omega) (fun r94 br94 hr94 s95 Is95 Gs95 pcs95 => h_Kv ?_)
      have Fs95 := (Gs95.l1).tr Fs84
      rcases pcs95 with pcs95 | pcs95 | pcs95
      · refine h_istore_n (pc' := 14) (M := [(2, .int r94), (0, .ref 63), (1, .ref 72)]) rfl rfl rfl rfl ?_
        refine h_aload_n (pc' := 15) rfl rfl rfl ?_
        refine h_call (sp := false) (pc' := 18) (M := [(0, .ref 63)]) rfl rfl rfl rfl rfl rfl rfl rfl ?_
        refine h_aload_n (pc' := 1) rfl rfl rfl ?_
        refine h_getI (pc' := 4) (v := s95 63 2) rfl rfl rfl rfl rfl rfl (fun z96 hz96 => ?_)
        have tz96 := tf_63_2 Is95
        refine h_zne (tg := 22) (pc' := 7) rfl rfl rfl hz96 (fun c97 => ?_) (fun c97 => absurd c97 (by omega))
        refine h_iconst (pc' := 23) (x := (Int32.ofInt 0)) rfl rfl rfl ?_
        refine h_zret rfl rfl ci_0 (by omega) (h_Kv ?_)
        refine h_zeq (tg := 44) (pc' := 21) rfl rfl rfl ci_0 (fun c98 => ?_) (fun c98 => absurd c98 (by omega))
        refine h_aload_n (pc' := 45) rfl rfl rfl ?_
        refine h_iconst (pc' := 46) (x := (Int32.ofInt 5)) rfl rfl rfl ?_
        refine h_call (sp := false) (pc' := 49) (M := [(0, .ref 63), (1, .int (Int32.ofInt 5))]) rfl rfl rfl rfl rfl rfl rfl rfl ?_
        refine v_takeNumber _ Is95 (Int32.ofInt 5) _ ci_5 (by omega) (fun r99 br99 hr99 s100 Is100 Gs100 pcs100 => h_Kv ?_)
        have Fs100 := (Gs100.l1).tr Fs95
        rcases pcs100 with pcs100 | pcs100 | pcs100
        · refine h_istore_n (pc' := 50) (M := [(3, .int r99), (2, .int r94), (0, .ref 63), (1, .ref 72)]) rfl rfl rfl rfl ?_
          refine h_aload_n (pc' := 51) rfl rfl rfl ?_
          refine h_getI (pc' := 54) (v := s100 63 2) rfl rfl rfl rfl rfl rfl (fun z101 hz101 => ?_)
          have tz101 := tf_63_2 Is100
          refine h_zne (tg := 64) (pc' := 57) rfl rfl rfl hz101 (fun c102 => ?_) (fun c102 => absurd c102 (by omega))
          exact h_vret rfl rfl (kk _ Is100 Fs100 (Or.inr (Or.inl ⟨by omega, by omega⟩)))
        · exfalso; omega
        · exfalso; omega
      · exfalso; omega
      · exfalso; omega
    · refine h_aload_n (pc' := 9) rfl rfl rfl ?_
      refine h_iconst (pc' := 10) (x := (Int32.ofInt 5)) rfl rfl rfl ?_
      refine h_call (sp := false) (pc' := 13) (M := [(0, .ref 63), (1, .int (Int32.ofInt 5))]) rfl rfl rfl rfl rfl rfl rfl rfl ?_
      refine v_takeNumber _ Is84 (Int32.ofInt 5) _ ci_5 (by omega) (fun r103 br103 hr103 s104 Is104 Gs104 pcs104 => h_Kv ?_)
      have Fs104 := (Gs104.l1).tr Fs84
      rcases pcs104 with pcs104 | pcs104 | pcs104
      · exfalso; omega
      · refine h_istore_n (pc' := 14) (M := [(2, .int r103), (0, .ref 63), (1, .ref 72)]) rfl rfl rfl rfl ?_
        refine h_aload_n (pc' := 15) rfl rfl rfl ?_
        refine h_call (sp := false) (pc' := 18) (M := [(0, .ref 63)]) rfl rfl rfl rfl rfl rfl rfl rfl ?_
        refine h_aload_n (pc' := 1) rfl rfl rfl ?_
        refine h_getI (pc' := 4) (v := s104 63 2) rfl rfl rfl rfl rfl rfl (fun z105 hz105 => ?_)
        have tz105 := tf_63_2 Is104
        refine h_zne (tg := 22) (pc' := 7) rfl rfl rfl hz105 (fun c106 => ?_) (fun c106 => absurd c106 (by omega))
        refine h_iconst (pc' := 23) (x := (Int32.ofInt 0)) rfl rfl rfl ?_
        refine h_zret rfl rfl ci_0 (by omega) (h_Kv ?_)
        refine h_zeq (tg := 44) (pc' := 21) rfl rfl rfl ci_0 (fun c107 => ?_) (fun c107 => absurd c107 (by omega))
        refine h_aload_n (pc' := 45) rfl rfl rfl ?_
        refine h_iconst (pc' := 46) (x := (Int32.ofInt 5)) rfl rfl rfl ?_
        refine h_call (sp := false) (pc' := 49) (M := [(0, .ref 63), (1, .int (Int32.ofInt 5))]) rfl rfl rfl rfl rfl rfl rfl rfl ?_
        refine v_takeNumber _ Is104 (Int32.ofInt 5) _ ci_5 (by omega) (fun r108 br108 hr108 s109 Is109 Gs109 pcs109 => h_Kv ?_)
        have Fs109 := (Gs109.l1).tr Fs104
        rcases pcs109 with pcs109 | pcs109 | pcs109
        · refine h_istore_n (pc' := 50) (M := [(3, .int r108), (2, .int r103), (0, .ref 63), (1, .ref 72)]) rfl rfl rfl rfl ?_
          refine h_aload_n (pc' := 51) rfl rfl rfl ?_
          refine h_getI (pc' := 54) (v := s109 63 2) rfl rfl rfl rfl rfl rfl (fun z110 hz110 => ?_)
          have tz110 := tf_63_2 Is109
          refine h_zne (tg := 64) (pc' := 57) rfl rfl rfl hz110 (fun c111 => ?_) (fun c111 => absurd c111 (by omega))
          exact h_vret rfl rfl (kk _ Is109 Fs109 (Or.inr (Or.inl ⟨by omega, by omega⟩)))
        · exfalso; omega
        · exfalso; omega
      · refine h_istore_n (pc' := 14) (M := [(2, .int r103), (0, .ref 63), (1, .ref 72)]) rfl rfl rfl rfl ?_
        refine h_aload_n (pc' := 15) rfl rfl rfl ?_
        refine h_call (sp := false) (pc' := 18) (M := [(0, .ref 63)]) rfl rfl rfl rfl rfl rfl rfl rfl ?_
        refine h_aload_n (pc' := 1) rfl rfl rfl ?_
        refine h_getI (pc' := 4) (v := s104 63 2) rfl rfl rfl rfl rfl rfl (fun z112 hz112 => ?_)
        have tz112 := tf_63_2 Is104
        refine h_zne (tg := 22) (pc' := 7) rfl rfl rfl hz112 (fun c113 => absurd c113 (by omega)) (fun c113 => ?_)
        refine h_aload_n (pc' := 8) rfl rfl rfl ?_
        refine h_getR (pc' := 11) rfl rfl rfl rfl rfl ?_
        refine h_getI (pc' := 14) (v := s104 64 3) rfl rfl rfl rfl rfl rfl (fun z114 hz114 => ?_)
        have tz114 := tf_64_3 Is104
        refine h_iconst (pc' := 15) (x := (Int32.ofInt 2)) rfl rfl rfl ?_
        refine h_cne (tg := 22) (pc' := 18) rfl rfl rfl hz114 ci_2 (fun c115 => ?_) (fun c115 => ?_)
        · refine h_iconst (pc' := 23) (x := (Int32.ofInt 0)) rfl rfl rfl ?_
          refine h_zret rfl rfl ci_0 (by omega) (h_Kv ?_)
          refine h_zeq (tg := 44) (pc' := 21) rfl rfl rfl ci_0 (fun c116 => ?_) (fun c116 => absurd c116 (by omega))
          refine h_aload_n (pc' := 45) rfl rfl rfl ?_
          refine h_iconst (pc' := 46) (x := (Int32.ofInt 5)) rfl rfl rfl ?_
          refine h_call (sp := false) (pc' := 49) (M := [(0, .ref 63), (1, .int (Int32.ofInt 5))]) rfl rfl rfl rfl rfl rfl rfl rfl ?_
          refine v_takeNumber _ Is104 (Int32.ofInt 5) _ ci_5 (by omega) (fun r117 br117 hr117 s118 Is118 Gs118 pcs118 => h_Kv ?_)
          have Fs118 := (Gs118.l1).tr Fs104
          rcases pcs118 with pcs118 | pcs118 | pcs118
          · exfalso; omega
          · refine h_istore_n (pc' := 50) (M := [(3, .int r117), (2, .int r103), (0, .ref 63), (1, .ref 72)]) rfl rfl rfl rfl ?_
            refine h_aload_n (pc' := 51) rfl rfl rfl ?_
            refine h_getI (pc' := 54) (v := s118 63 2) rfl rfl rfl rfl rfl rfl (fun z119 hz119 => ?_)
            have tz119 := tf_63_2 Is118
            refine h_zne (tg := 64) (pc' := 57) rfl rfl rfl hz119 (fun c120 => ?_) (fun c120 => absurd c120 (by omega))
            exact h_vret rfl rfl (kk _ Is118 Fs118 (Or.inr (Or.inl ⟨by omega, by omega⟩)))
          · refine h_istore_n (pc' := 50) (M := [(3, .int r117), (2, .int r103), (0, .ref 63), (1, .ref 72)]) rfl rfl rfl rfl ?_
            refine h_aload_n (pc' := 51) rfl rfl rfl ?_
            refine h_getI (pc' := 54) (v := s118 63 2) rfl rfl rfl rfl rfl rfl (fun z121 hz121 => ?_)
            have tz121 := tf_63_2 Is118
            refine h_zne (tg := 64) (pc' := 57) rfl rfl rfl hz121 (fun c122 => absurd c122 (by omega)) (fun c122 => ?_)
            refine h_aload_n (pc' := 58) rfl rfl rfl ?_
            refine h_iload_n (pc' := 59) rfl rfl rfl ?_
            refine h_iload_n (pc' := 60) rfl rfl rfl ?_
            refine h_call (sp := false) (pc' := 63) (M := [(0, .ref 72), (1, .int r103), (2, .int r117)]) rfl rfl rfl rfl rfl rfl rfl rfl ?_
            refine h_aload_n (pc' := 1) rfl rfl rfl ?_
            refine h_call (sp := false) (pc' := 4) (M := [(0, .ref 72)]) rfl rfl rfl rfl rfl rfl rfl rfl ?_
            refine h_aload_n (pc' := 1) rfl rfl rfl ?_
            refine h_getI (pc' := 4) (v := s118 72 2) rfl rfl rfl rfl rfl rfl (fun z123 hz123 => ?_)
            have tz123 := tf_72_2 Is118
            refine h_iconst (pc' := 5) (x := (Int32.ofInt 3)) rfl rfl rfl ?_
            refine h_clt (tg := 12) (pc' := 8) rfl rfl rfl hz123 ci_3 (fun c124 => ?_) (fun c124 => ?_)
            · refine h_iconst (pc' := 13) (x := (Int32.ofInt 0)) rfl rfl rfl ?_
              refine h_zret rfl rfl ci_0 (by omega) (h_Kv ?_)
              refine h_zeq (tg := 9) (pc' := 7) rfl rfl rfl ci_0 (fun c125 => ?_) (fun c125 => absurd c125 (by omega))
              refine h_aload_n (pc' := 10) rfl rfl rfl ?_
              refine h_getR (pc' := 13) rfl rfl rfl rfl rfl ?_
              refine h_aload_n (pc' := 14) rfl rfl rfl ?_
              refine h_getI (pc' := 17) (v := s118 72 2) rfl rfl rfl rfl rfl rfl (fun z126 hz126 => ?_)
              have tz126 := tf_72_2 Is118
              refine h_iload_n (pc' := 18) rfl rfl rfl ?_
              refine h_iast (pc' := 19) rfl rfl rfl rfl hz126 (by omega) (by omega) hr103 (h_fgt (E := fun s => s 63 2 = s118 63 2 ∧ s 64 3 = s118 64 3 ∧ s 64 5 = s118 64 5) _ (in_73 Is118 (by omega)) (Fs118.up rfl) ⟨rfl, rfl, rfl⟩ (fun s127 Is127 Fs127 (es127 : s127 63 2 = s118 63 2 ∧ s127 64 3 = s118 64 3 ∧ s127 64 5 = s118 64 5) => ?_))
              refine h_aload_n (pc' := 20) rfl rfl rfl ?_
              refine h_getR (pc' := 23) rfl rfl rfl rfl rfl ?_
              refine h_aload_n (pc' := 24) rfl rfl rfl ?_
              refine h_getI (pc' := 27) (v := s127 72 2) rfl rfl rfl rfl rfl rfl (fun z128 hz128 => ?_)
              have tz128 := tf_72_2 Is127
              refine h_iload_n (pc' := 28) rfl rfl rfl ?_
              refine h_iast (pc' := 29) rfl rfl rfl rfl hz128 (by omega) (by omega) hr117 (h_fgt (E := fun s => s 63 2 = s118 63 2 ∧ s 64 3 = s118 64 3 ∧ s 64 5 = s118 64 5) _ (in_74 Is127 (by omega)) (Fs127.up rfl) ⟨es127.1, es127.2.1, es127.2.2⟩ (fun s129 Is129 Fs129 (es129 : s129 63 2 = s118 63 2 ∧ s129 64 3 = s118 64 3 ∧ s129 64 5 = s118 64 5) => ?_))
              clear es127
              refine h_aload_n (pc' := 30) rfl rfl rfl ?_
              refine h_dup (pc' := 31) rfl rfl rfl ?_
              refine h_getI (pc' := 34) (v := s129 72 2) rfl rfl rfl rfl rfl rfl (fun z130 hz130 => ?_)
              have tz130 := tf_72_2 Is129
              refine h_iconst (pc' := 35) (x := (Int32.ofInt 1)) rfl rfl rfl ?_
              refine h_iadd (pc' := 36) rfl rfl hz130 ci_1 rfl (by omega) (by omega) (fun z131 hz131 => ?_)
              refine h_put (pc' := 39) rfl rfl rfl rfl rfl rfl hz131 rfl (h_fgt (E := fun s => s 63 2 = s118 63 2 ∧ s 64 3 = s118 64 3 ∧ s 64 5 = s118 64 5) _ (if_72_2 Is129 (by omega)) (Fs129.up rfl) ⟨es129.1, es129.2.1, es129.2.2⟩ (fun s132 Is132 Fs132 (es132 : s132 63 2 = s118 63 2 ∧ s132 64 3 = s118 64 3 ∧ s132 64 5 = s118 64 5) => ?_))
              clear es129
              refine h_iconst (pc' := 40) (x := (Int32.ofInt 1)) rfl rfl rfl ?_
              refine h_zret rfl rfl ci_1 (by omega) (h_Kv ?_)
              refine h_pop (pc' := 64) rfl rfl rfl ?_
              exact h_vret rfl rfl (kk _ Is132 Fs132 (Or.inr (Or.inr ⟨by omega, by omega, by omega⟩)))
            · refine h_iconst (pc' := 9) (x := (Int32.ofInt 1)) rfl rfl rfl ?_
              refine h_goto (pc' := 13) rfl rfl ?_
              refine h_zret rfl rfl ci_1 (by omega) (h_Kv ?_)
              refine h_zeq (tg := 9) (pc' := 7) rfl rfl rfl ci_1 (fun c133 => absurd c133 (by omega)) (fun c133 => ?_)
              refine h_iconst (pc' := 8) (x := (Int32.ofInt 0)) rfl rfl rfl ?_
              refine h_zret rfl rfl ci_0 (by omega) (h_Kv ?_)
              refine h_pop (pc' := 64) rfl rfl rfl ?_
              exact h_vret rfl rfl (kk _ Is118 Fs118 (Or.inr (Or.inr ⟨by omega, by omega, by omega⟩)))
        · refine h_iconst (pc' := 19) (x := (Int32.ofInt 1)) rfl rfl rfl ?_
          refine h_goto (pc' := 23) rfl rfl ?_
          refine h_zret rfl rfl ci_1 (by omega) (h_Kv ?_)
          refine h_zeq (tg := 44) (pc' := 21) rfl rfl rfl ci_1 (fun c134 => absurd c134 (by omega)) (fun c134 => ?_)
          refine h_aload_n (pc' := 22) rfl rfl rfl ?_
          refine h_getR (pc' := 25) rfl rfl rfl rfl rfl ?_
          refine h_getI (pc' := 28) (v := s104 64 5) rfl rfl rfl rfl rfl rfl (fun z135 hz135 => ?_)
          have tz135 := tf_64_5 Is104
          refine h_iload_n (pc' := 29) rfl rfl rfl ?_
          refine h_cne (tg := 44) (pc' := 32) rfl rfl rfl hz135 hr103 (fun c136 => ?_) (fun c136 => ?_)
          · refine h_aload_n (pc' := 45) rfl rfl rfl ?_
            refine h_iconst (pc' := 46) (x := (Int32.ofInt 5)) rfl rfl rfl ?_
            refine h_call (sp := false) (pc' := 49) (M := [(0, .ref 63), (1, .int (Int32.ofInt 5))]) rfl rfl rfl rfl rfl rfl rfl rfl ?_
            refine v_takeNumber _ Is104 (Int32.ofInt 5) _ ci_5 (by omega) (fun r137 br137 hr137 s138 Is138 Gs138 pcs138 => h_Kv ?_)
            have Fs138 := (Gs138.l1).tr Fs104
            rcases pcs138 with pcs138 | pcs138 | pcs138
            · exfalso; omega
            · refine h_istore_n (pc' := 50) (M := [(3, .int r137), (2, .int r103), (0, .ref 63), (1, .ref 72)]) rfl rfl rfl rfl ?_
              refine h_aload_n (pc' := 51) rfl rfl rfl ?_
              refine h_getI (pc' := 54) (v := s138 63 2) rfl rfl rfl rfl rfl rfl (fun z139 hz139 => ?_)
              have tz139 := tf_63_2 Is138
              refine h_zne (tg := 64) (pc' := 57) rfl rfl rfl hz139 (fun c140 => ?_) (fun c140 => absurd c140 (by omega))
              exact h_vret rfl rfl (kk _ Is138 Fs138 (Or.inr (Or.inl ⟨by omega, by omega⟩)))
            · refine h_istore_n (pc' := 50) (M := [(3, .int r137), (2, .int r103), (0, .ref 63), (1, .ref 72)]) rfl rfl rfl rfl ?_
              refine h_aload_n (pc' := 51) rfl rfl rfl ?_
              refine h_getI (pc' := 54) (v := s138 63 2) rfl rfl rfl rfl rfl rfl (fun z141 hz141 => ?_)
              have tz141 := tf_63_2 Is138
              refine h_zne (tg := 64) (pc' := 57) rfl rfl rfl hz141 (fun c142 => absurd c142 (by omega)) (fun c142 => ?_)
              refine h_aload_n (pc' := 58) rfl rfl rfl ?_
              refine h_iload_n (pc' := 59) rfl rfl rfl ?_
              refine h_iload_n (pc' := 60) rfl rfl rfl ?_
              refine h_call (sp := false) (pc' := 63) (M := [(0, .ref 72), (1, .int r103), (2, .int r137)]) rfl rfl rfl rfl rfl rfl rfl rfl ?_
              refine h_aload_n (pc' := 1) rfl rfl rfl ?_
              refine h_call (sp := false) (pc' := 4) (M := [(0, .ref 72)]) rfl rfl rfl rfl rfl rfl rfl rfl ?_
              refine h_aload_n (pc' := 1) rfl rfl rfl ?_
              refine h_getI (pc' := 4) (v := s138 72 2) rfl rfl rfl rfl rfl rfl (fun z143 hz143 => ?_)
              have tz143 := tf_72_2 Is138
              refine h_iconst (pc' := 5) (x := (Int32.ofInt 3)) rfl rfl rfl ?_
              refine h_clt (tg := 12) (pc' := 8) rfl rfl rfl hz143 ci_3 (fun c144 => ?_) (fun c144 => ?_)
              · refine h_iconst (pc' := 13) (x := (Int32.ofInt 0)) rfl rfl rfl ?_
                refine h_zret rfl rfl ci_0 (by omega) (h_Kv ?_)
                refine h_zeq (tg := 9) (pc' := 7) rfl rfl rfl ci_0 (fun c145 => ?_) (fun c145 => absurd c145 (by omega))
                refine h_aload_n (pc' := 10) rfl rfl rfl ?_
                refine h_getR (pc' := 13) rfl rfl rfl rfl rfl ?_
                refine h_aload_n (pc' := 14) rfl rfl rfl ?_
                refine h_getI (pc' := 17) (v := s138 72 2) rfl rfl rfl rfl rfl rfl (fun z146 hz146 => ?_)
                have tz146 := tf_72_2 Is138
                refine h_iload_n (pc' := 18) rfl rfl rfl ?_
                refine h_iast (pc' := 19) rfl rfl rfl rfl hz146 (by omega) (by omega) hr103 (h_fgt (E := fun s => s 63 2 = s138 63 2 ∧ s 64 3 = s138 64 3 ∧ s 64 5 = s138 64 5) _ (in_73 Is138 (by omega)) (Fs138.up rfl) ⟨rfl, rfl, rfl⟩ (fun s147 Is147 Fs147 (es147 : s147 63 2 = s138 63 2 ∧ s147 64 3 = s138 64 3 ∧ s147 64 5 = s138 64 5) => ?_))
                refine h_aload_n (pc' := 20) rfl rfl rfl ?_
                refine h_getR (pc' := 23) rfl rfl rfl rfl rfl ?_
                refine h_aload_n (pc' := 24) rfl rfl rfl ?_
                refine h_getI (pc' := 27) (v := s147 72 2) rfl rfl rfl rfl rfl rfl (fun z148 hz148 => ?_)
                have tz148 := tf_72_2 Is147
                refine h_iload_n (pc' := 28) rfl rfl rfl ?_
                refine h_iast (pc' := 29) rfl rfl rfl rfl hz148 (by omega) (by omega) hr137 (h_fgt (E := fun s => s 63 2 = s138 63 2 ∧ s 64 3 = s138 64 3 ∧ s 64 5 = s138 64 5) _ (in_74 Is147 (by omega)) (Fs147.up rfl) ⟨es147.1, es147.2.1, es147.2.2⟩ (fun s149 Is149 Fs149 (es149 : s149 63 2 = s138 63 2 ∧ s149 64 3 = s138 64 3 ∧ s149 64 5 = s138 64 5) => ?_))
                clear es147
                refine h_aload_n (pc' := 30) rfl rfl rfl ?_
                refine h_dup (pc' := 31) rfl rfl rfl ?_
                refine h_getI (pc' := 34) (v := s149 72 2) rfl rfl rfl rfl rfl rfl (fun z150 hz150 => ?_)
                have tz150 := tf_72_2 Is149
                refine h_iconst (pc' := 35) (x := (Int32.ofInt 1)) rfl rfl rfl ?_
                refine h_iadd (pc' := 36) rfl rfl hz150 ci_1 rfl (by omega) (by omega) (fun z151 hz151 => ?_)
                refine h_put (pc' := 39) rfl rfl rfl rfl rfl rfl hz151 rfl (h_fgt (E := fun s => s 63 2 = s138 63 2 ∧ s 64 3 = s138 64 3 ∧ s 64 5 = s138 64 5) _ (if_72_2 Is149 (by omega)) (Fs149.up rfl) ⟨es149.1, es149.2.1, es149.2.2⟩ (fun s152 Is152 Fs152 (es152 : s152 63 2 = s138 63 2 ∧ s152 64 3 = s138 64 3 ∧ s152 64 5 = s138 64 5) => ?_))
                clear es149
                refine h_iconst (pc' := 40) (x := (Int32.ofInt 1)) rfl rfl rfl ?_
                refine h_zret rfl rfl ci_1 (by omega) (h_Kv ?_)
                refine h_pop (pc' := 64) rfl rfl rfl ?_
                exact h_vret rfl rfl (kk _ Is152 Fs152 (Or.inr (Or.inr ⟨by omega, by omega, by omega⟩)))
              · refine h_iconst (pc' := 9) (x := (Int32.ofInt 1)) rfl rfl rfl ?_
                refine h_goto (pc' := 13) rfl rfl ?_
                refine h_zret rfl rfl ci_1 (by omega) (h_Kv ?_)
                refine h_zeq (tg := 9) (pc' := 7) rfl rfl rfl ci_1 (fun c153 => absurd c153 (by omega)) (fun c153 => ?_)
                refine h_iconst (pc' := 8) (x := (Int32.ofInt 0)) rfl rfl rfl ?_
                refine h_zret rfl rfl ci_0 (by omega) (h_Kv ?_)
                refine h_pop (pc' := 64) rfl rfl rfl ?_
                exact h_vret rfl rfl (kk _ Is138 Fs138 (Or.inr (Or.inr ⟨by omega, by omega, by omega⟩)))
          · refine h_aload_n (pc' := 33) rfl rfl rfl ?_
            refine h_iconst (pc' := 34) (x := (Int32.ofInt 3)) rfl rfl rfl ?_
            refine h_aload_n (pc' := 35) rfl rfl rfl ?_
            refine h_getR (pc' := 38) rfl rfl rfl rfl rfl ?_
            refine h_getI (pc' := 41) (v := s104 64 4) rfl rfl rfl rfl rfl rfl (fun z154 hz154 => ?_)
            have tz154 := tf_64_4 Is104
            refine h_call (sp := false) (pc' := 44) (M := [(0, .ref 63), (1, .int (Int32.ofInt 3)), (2, .int z154)]) rfl rfl rfl rfl rfl rfl rfl rfl ?_
            refine h_aload_n (pc' := 1) rfl rfl rfl ?_
            refine h_getI (pc' := 4) (v := s104 63 2) rfl rfl rfl rfl rfl rfl (fun z155 hz155 => ?_)
            have tz155 := tf_63_2 Is104
            refine h_zne (tg := 17) (pc' := 7) rfl rfl rfl hz155 (fun c156 => absurd c156 (by omega)) (fun c156 => ?_)
            refine h_aload_n (pc' := 8) rfl rfl rfl ?_
            refine h_iload_n (pc' := 9) rfl rfl rfl ?_
            refine h_put (pc' := 12) rfl rfl rfl rfl rfl rfl ci_3 rfl (h_fgt (E := fun s => s 63 2 = 3 ∧ s 64 3 = s104 64 3 ∧ s 64 5 = s104 64 5) _ (if_63_2 Is104 (by omega)) (Fs104.up rfl) ⟨rfl, rfl, rfl⟩ (fun s157 Is157 Fs157 (es157 : s157 63 2 = 3 ∧ s157 64 3 = s104 64 3 ∧ s157 64 5 = s104 64 5) => ?_))
            refine h_aload_n (pc' := 13) rfl rfl rfl ?_
            refine h_iload_n (pc' := 14) rfl rfl rfl ?_
            refine h_put (pc' := 17) rfl rfl rfl rfl rfl rfl hz154 rfl (h_fgt (E := fun s => s 63 2 = 3 ∧ s 64 3 = s104 64 3 ∧ s 64 5 = s104 64 5) _ (if_63_3 Is157 (h_rgv hz154)) (Fs157.up rfl) ⟨es157.1, es157.2.1, es157.2.2⟩ (fun s158 Is158 Fs158 (es158 : s158 63 2 = 3 ∧ s158 64 3 = s104 64 3 ∧ s158 64 5 = s104 64 5) => ?_))
            clear es157
            refine h_vret rfl rfl (h_Kn ?_)
            refine h_aload_n (pc' := 45) rfl rfl rfl ?_
            refine h_iconst (pc' := 46) (x := (Int32.ofInt 5)) rfl rfl rfl ?_
            refine h_call (sp := false) (pc' := 49) (M := [(0, .ref 63), (1, .int (Int32.ofInt 5))]) rfl rfl rfl rfl rfl rfl rfl rfl ?_
            refine v_takeNumber _ Is158 (Int32.ofInt 5) _ ci_5 (by omega) (fun r159 br159 hr159 s160 Is160 Gs160 pcs160 => h_Kv ?_)
            have Fs160 := (Gs160.l1).tr Fs158
            rcases pcs160 with pcs160 | pcs160 | pcs160
            · refine h_istore_n (pc' := 50) (M := [(3, .int r159), (2, .int r103), (0, .ref 63), (1, .ref 72)]) rfl rfl rfl rfl ?_
              refine h_aload_n (pc' := 51) rfl rfl rfl ?_
              refine h_getI (pc' := 54) (v := s160 63 2) rfl rfl rfl rfl rfl rfl (fun z161 hz161 => ?_)
              have tz161 := tf_63_2 Is160
              refine h_zne (tg := 64) (pc' := 57) rfl rfl rfl hz161 (fun c162 => ?_) (fun c162 => absurd c162 (by omega))
              exact h_vret rfl rfl (kk _ Is160 Fs160 (Or.inr (Or.inl ⟨by omega, by omega⟩)))
            · exfalso; omega
            · exfalso; omega
