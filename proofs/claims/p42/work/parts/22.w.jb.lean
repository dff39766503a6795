def kf_v_readOne : List Nat := [64514, 64515, 65538, 65539, 65540, 65541, 67592, 69631, 70655]
set_option maxHeartbeats 100000000 in
theorem v_readOne {ns : Nat} (σ : h_S) (hI : h_I σ) (x0 : Int32) (a0 : Int) (hx0 : x0.toInt = a0) (ra0 : 0 ≤ a0 ∧ a0 ≤ 3) (pr0 : (¬ σ 63 2 = 0 ∨ ¬ σ 64 3 = 2 ∨ (0 ≤ σ 64 5 ∧ σ 64 5 ≤ 99))) {Q : Option Value → h_S → Prop} (kk : ∀ (τ : h_S), h_I τ → h_F (k_in kf_v_readOne) τ σ → (((1 ≤ σ 63 2 ∧ σ 63 2 ≤ 6) ∧ (1 ≤ τ 63 2 ∧ τ 63 2 ≤ 6)) ∨ ((σ 63 2 = 0) ∧ (1 ≤ τ 63 2 ∧ τ 63 2 ≤ 6)) ∨ ((σ 63 2 = 0) ∧ (τ 63 2 = 0) ∧ (¬ τ 64 3 = 2 ∨ (0 ≤ τ 64 5 ∧ τ 64 5 ≤ 99)))) → Q none τ) : h_T g_P (g_Y ns) 59 0 [(0, .ref 63), (1, .int x0)] [] σ Q := by
  have F00 : h_F (k_in kf_v_readOne) σ σ := h_F.rf
  have ge0 := tf_63_2 hI
  refine h_aload_n (pc' := 1) rfl rfl rfl ?_
  refine h_aload_n (pc' := 2) rfl rfl rfl ?_
  refine h_getR (pc' := 5) rfl rfl rfl rfl rfl ?_
  refine h_getI (pc' := 8) (v := σ 66 8) rfl rfl rfl rfl rfl rfl (fun z1 hz1 => ?_)
  have tz1 := tf_66_8 hI
  refine h_bipush (pc' := 10) (x := (Int32.ofInt 6)) rfl rfl cb_6 ?_
  refine h_clt (tg := 17) (pc' := 13) rfl rfl rfl hz1 ci_6 (fun c2 => ?_) (fun c2 => ?_)
  · refine h_iconst (pc' := 18) (x := (Int32.ofInt 0)) rfl rfl rfl ?_
    refine h_call (sp := false) (pc' := 21) (M := [(0, .ref 63), (1, .int (Int32.ofInt 0))]) rfl rfl rfl rfl rfl rfl rfl rfl ?_
    refine v_takeName _ hI (Int32.ofInt 0) _ ci_0 (by omega) (fun s4 Is4 Gs4 pcs4 => h_Kn ?_)
    have Fs4 := (Gs4.mono (B := kf_v_readOne) rfl).tr F00
    have es4_3 : s4 66 8 = σ 66 8 := (Gs4 66 8 rfl).trans rfl
    rcases pcs4 with pcs4 | pcs4 | pcs4
    · refine h_aload_n (pc' := 22) rfl rfl rfl ?_
      refine h_call (sp := false) (pc' := 25) (M := [(0, .ref 63)]) rfl rfl rfl rfl rfl rfl rfl rfl ?_
      refine h_aload_n (pc' := 1) rfl rfl rfl ?_
      refine h_getI (pc' := 4) (v := s4 63 2) rfl rfl rfl rfl rfl rfl (fun z5 hz5 => ?_)
      have tz5 := tf_63_2 Is4
      refine h_zne (tg := 22) (pc' := 7) rfl rfl rfl hz5 (fun c6 => ?_) (fun c6 => absurd c6 (by omega))
      refine h_iconst (pc' := 23) (x := (Int32.ofInt 0)) rfl rfl rfl ?_
      refine h_zret rfl rfl ci_0 (by omega) (h_Kv ?_)
      refine h_zeq (tg := 44) (pc' := 28) rfl rfl rfl ci_0 (fun c7 => ?_) (fun c7 => absurd c7 (by omega))
      refine h_bipush (pc' := 46) (x := (Int32.ofInt (-4))) rfl rfl cb_m4 ?_
      refine h_istore_n (pc' := 47) (M := [(2, .int (Int32.ofInt (-4))), (0, .ref 63), (1, .int x0)]) rfl rfl rfl rfl ?_
      refine h_aload_n (pc' := 48) rfl rfl rfl ?_
      refine h_getI (pc' := 51) (v := s4 63 2) rfl rfl rfl rfl rfl rfl (fun z8 hz8 => ?_)
      have tz8 := tf_63_2 Is4
      refine h_zne (tg := 63) (pc' := 54) rfl rfl rfl hz8 (fun c9 => ?_) (fun c9 => absurd c9 (by omega))
      exact h_vret rfl rfl (kk _ Is4 Fs4 (Or.inl ⟨by omega, by omega⟩))
    · refine h_aload_n (pc' := 22) rfl rfl rfl ?_
      refine h_call (sp := false) (pc' := 25) (M := [(0, .ref 63)]) rfl rfl rfl rfl rfl rfl rfl rfl ?_
      refine h_aload_n (pc' := 1) rfl rfl rfl ?_
      refine h_getI (pc' := 4) (v := s4 63 2) rfl rfl rfl rfl rfl rfl (fun z10 hz10 => ?_)
      have tz10 := tf_63_2 Is4
      refine h_zne (tg := 22) (pc' := 7) rfl rfl rfl hz10 (fun c11 => ?_) (fun c11 => absurd c11 (by omega))
      refine h_iconst (pc' := 23) (x := (Int32.ofInt 0)) rfl rfl rfl ?_
      refine h_zret rfl rfl ci_0 (by omega) (h_Kv ?_)
      refine h_zeq (tg := 44) (pc' := 28) rfl rfl rfl ci_0 (fun c12 => ?_) (fun c12 => absurd c12 (by omega))
      refine h_bipush (pc' := 46) (x := (Int32.ofInt (-4))) rfl rfl cb_m4 ?_
      refine h_istore_n (pc' := 47) (M := [(2, .int (Int32.ofInt (-4))), (0, .ref 63), (1, .int x0)]) rfl rfl rfl rfl ?_
      refine h_aload_n (pc' := 48) rfl rfl rfl ?_
      refine h_getI (pc' := 51) (v := s4 63 2) rfl rfl rfl rfl rfl rfl (fun z13 hz13 => ?_)
      have tz13 := tf_63_2 Is4
      refine h_zne (tg := 63) (pc' := 54) rfl rfl rfl hz13 (fun c14 => ?_) (fun c14 => absurd c14 (by omega))
      exact h_vret rfl rfl (kk _ Is4 Fs4 (Or.inr (Or.inl ⟨by omega, by omega⟩)))
    · refine h_aload_n (pc' := 22) rfl rfl rfl ?_
      refine h_call (sp := false) (pc' := 25) (M := [(0, .ref 63)]) rfl rfl rfl rfl rfl rfl rfl rfl ?_
      refine h_aload_n (pc' := 1) rfl rfl rfl ?_
      refine h_getI (pc' := 4) (v := s4 63 2) rfl rfl rfl rfl rfl rfl (fun z15 hz15 => ?_)
      have tz15 := tf_63_2 Is4
      refine h_zne (tg := 22) (pc' := 7) rfl rfl rfl hz15 (fun c16 => absurd c16 (by omega)) (fun c16 => ?_)
      refine h_aload_n (pc' := 8) rfl rfl rfl ?_
      refine h_getR (pc' := 11) rfl rfl rfl rfl rfl ?_
      refine h_getI (pc' := 14) (v := s4 64 3) rfl rfl rfl rfl rfl rfl (fun z17 hz17 => ?_)
      have tz17 := tf_64_3 Is4
      refine h_iconst (pc' := 15) (x := (Int32.ofInt 2)) rfl rfl rfl ?_
      refine h_cne (tg := 22) (pc' := 18) rfl rfl rfl hz17 ci_2 (fun c18 => ?_) (fun c18 => ?_)
      · refine h_iconst (pc' := 23) (x := (Int32.ofInt 0)) rfl rfl rfl ?_
        refine h_zret rfl rfl ci_0 (by omega) (h_Kv ?_)
        refine h_zeq (tg := 44) (pc' := 28) rfl rfl rfl ci_0 (fun c19 => ?_) (fun c19 => absurd c19 (by omega))
        refine h_bipush (pc' := 46) (x := (Int32.ofInt (-4))) rfl rfl cb_m4 ?_
        refine h_istore_n (pc' := 47) (M := [(2, .int (Int32.ofInt (-4))), (0, .ref 63), (1, .int x0)]) rfl rfl rfl rfl ?_
        refine h_aload_n (pc' := 48) rfl rfl rfl ?_
        refine h_getI (pc' := 51) (v := s4 63 2) rfl rfl rfl rfl rfl rfl (fun z20 hz20 => ?_)
        have tz20 := tf_63_2 Is4
        refine h_zne (tg := 63) (pc' := 54) rfl rfl rfl hz20 (fun c21 => absurd c21 (by omega)) (fun c21 => ?_)
        refine h_aload_n (pc' := 55) rfl rfl rfl ?_
        refine h_getR (pc' := 58) rfl rfl rfl rfl rfl ?_
        refine h_iload_n (pc' := 59) rfl rfl rfl ?_
        refine h_iload_n (pc' := 60) rfl rfl rfl ?_
        refine h_call (sp := false) (pc' := 63) (M := [(0, .ref 66), (1, .int x0), (2, .int (Int32.ofInt (-4)))]) rfl rfl rfl rfl rfl rfl rfl rfl ?_
        refine h_aload_n (pc' := 1) rfl rfl rfl ?_
        refine h_getI (pc' := 4) (v := σ 66 8) rfl rfl rfl rfl rfl es4_3 (fun z22 hz22 => ?_)
        have tz22 := tf_66_8 hI
        refine h_bipush (pc' := 6) (x := (Int32.ofInt 6)) rfl rfl cb_6 ?_
        refine h_cge (tg := 39) (pc' := 9) rfl rfl rfl hz22 ci_6 (fun c23 => absurd c23 (by omega)) (fun c23 => ?_)
        refine h_aload_n (pc' := 10) rfl rfl rfl ?_
        refine h_getR (pc' := 13) rfl rfl rfl rfl rfl ?_
        refine h_aload_n (pc' := 14) rfl rfl rfl ?_
        refine h_getI (pc' := 17) (v := σ 66 8) rfl rfl rfl rfl rfl es4_3 (fun z24 hz24 => ?_)
        have tz24 := tf_66_8 hI
        refine h_iload_n (pc' := 18) rfl rfl rfl ?_
        refine h_iast (pc' := 19) rfl rfl rfl rfl hz24 (by omega) (by omega) hx0 (h_fgt (E := fun s => s 63 2 = s4 63 2 ∧ s 64 3 = s4 64 3 ∧ s 64 5 = s4 64 5 ∧ s 66 8 = σ 66 8) _ (in_67 Is4 (by omega)) (Fs4.up rfl) ⟨rfl, rfl, rfl, es4_3⟩ (fun s25 Is25 Fs25 (es25 : s25 63 2 = s4 63 2 ∧ s25 64 3 = s4 64 3 ∧ s25 64 5 = s4 64 5 ∧ s25 66 8 = σ 66 8) => ?_))
        clear es4_3
        refine h_aload_n (pc' := 20) rfl rfl rfl ?_
        refine h_getR (pc' := 23) rfl rfl rfl rfl rfl ?_
        refine h_aload_n (pc' := 24) rfl rfl rfl ?_
        refine h_getI (pc' := 27) (v := σ 66 8) rfl rfl rfl rfl rfl es25.2.2.2 (fun z26 hz26 => ?_)
        have tz26 := tf_66_8 hI
        refine h_iload_n (pc' := 28) rfl rfl rfl ?_
        refine h_iast (pc' := 29) rfl rfl rfl rfl hz26 (by omega) (by omega) ci_m4 (h_fgt (E := fun s => s 63 2 = s4 63 2 ∧ s 64 3 = s4 64 3 ∧ s 64 5 = s4 64 5 ∧ s 66 8 = σ 66 8) _ (in_68 Is25 (by omega)) (Fs25.up rfl) ⟨es25.1, es25.2.1, es25.2.2.1, es25.2.2.2⟩ (fun s27 Is27 Fs27 (es27 : s27 63 2 = s4 63 2 ∧ s27 64 3 = s4 64 3 ∧ s27 64 5 = s4 64 5 ∧ s27 66 8 = σ 66 8) => ?_))
        clear es25
        refine h_aload_n (pc' := 30) rfl rfl rfl ?_
        refine h_dup (pc' := 31) rfl rfl rfl ?_
        refine h_getI (pc' := 34) (v := σ 66 8) rfl rfl rfl rfl rfl es27.2.2.2 (fun z28 hz28 => ?_)
        have tz28 := tf_66_8 hI
        refine h_iconst (pc' := 35) (x := (Int32.ofInt 1)) rfl rfl rfl ?_
        refine h_iadd (pc' := 36) rfl rfl hz28 ci_1 rfl (by omega) (by omega) (fun z29 hz29 => ?_)
        refine h_put (pc' := 39) rfl rfl rfl rfl rfl rfl hz29 rfl (h_fgt (E := fun s => s 63 2 = s4 63 2 ∧ s 64 3 = s4 64 3 ∧ s 64 5 = s4 64 5 ∧ s 66 8 = ((σ 66 8) + 1)) _ (if_66_8 Is27 (by omega)) (Fs27.up rfl) ⟨es27.1, es27.2.1, es27.2.2.1, rfl⟩ (fun s30 Is30 Fs30 (es30 : s30 63 2 = s4 63 2 ∧ s30 64 3 = s4 64 3 ∧ s30 64 5 = s4 64 5 ∧ s30 66 8 = ((σ 66 8) + 1)) => ?_))
        clear es27
        refine h_vret rfl rfl (h_Kn ?_)
        exact h_vret rfl rfl (kk _ Is30 Fs30 (Or.inr (Or.inr ⟨by omega, by omega, by omega⟩)))
      · refine h_iconst (pc' := 19) (x := (Int32.ofInt 1)) rfl rfl rfl ?_
        refine h_goto (pc' := 23) rfl rfl ?_
        refine h_zret rfl rfl ci_1 (by omega) (h_Kv ?_)
        refine h_zeq (tg := 44) (pc' := 28) rfl rfl rfl ci_1 (fun c31 => absurd c31 (by omega)) (fun c31 => ?_)
        refine h_aload_n (pc' := 29) rfl rfl rfl ?_
        refine h_aload_n (pc' := 30) rfl rfl rfl ?_
        refine h_getR (pc' := 33) rfl rfl rfl rfl rfl ?_
        refine h_getI (pc' := 36) (v := σ 66 8) rfl rfl rfl rfl rfl es4_3 (fun z32 hz32 => ?_)
        have tz32 := tf_66_8 hI
        refine h_iconst (pc' := 37) (x := (Int32.ofInt 1)) rfl rfl rfl ?_
        refine h_isub (pc' := 38) rfl rfl hz32 ci_1 rfl (by omega) (by omega) (fun z33 hz33 => ?_)
        refine h_call (sp := false) (pc' := 41) (M := [(0, .ref 63), (1, .int z33)]) rfl rfl rfl rfl rfl rfl rfl rfl ?_
        refine v_takeNumber _ Is4 z33 _ hz33 (by omega) (fun r34 br34 hr34 s35 Is35 Gs35 pcs35 => h_Kv ?_)
        have Fs35 := (Gs35.mono (B := kf_v_readOne) rfl).tr Fs4
        have es35_3 : s35 66 8 = σ 66 8 := (Gs35 66 8 rfl).trans es4_3
        rcases pcs35 with pcs35 | pcs35 | pcs35
        · exfalso; omega
        · refine h_goto (pc' := 46) rfl rfl ?_
          refine h_istore_n (pc' := 47) (M := [(2, .int r34), (0, .ref 63), (1, .int x0)]) rfl rfl rfl rfl ?_
          refine h_aload_n (pc' := 48) rfl rfl rfl ?_
          refine h_getI (pc' := 51) (v := s35 63 2) rfl rfl rfl rfl rfl rfl (fun z36 hz36 => ?_)
          have tz36 := tf_63_2 Is35
          refine h_zne (tg := 63) (pc' := 54) rfl rfl rfl hz36 (fun c37 => ?_) (fun c37 => absurd c37 (by omega))
          exact h_vret rfl rfl (kk _ Is35 Fs35 (Or.inr (Or.inl ⟨by omega, by omega⟩)))
        · refine h_goto (pc' := 46) rfl rfl ?_
          refine h_istore_n (pc' := 47) (M := [(2, .int r34), (0, .ref 63), (1, .int x0)]) rfl rfl rfl rfl ?_
          refine h_aload_n (pc' := 48) rfl rfl rfl ?_
          refine h_getI (pc' := 51) (v := s35 63 2) rfl rfl rfl rfl rfl rfl (fun z38 hz38 => ?_)
          have tz38 := tf_63_2 Is35
          refine h_zne (tg := 63) (pc' := 54) rfl rfl rfl hz38 (fun c39 => absurd c39 (by omega)) (fun c39 => ?_)
          refine h_aload_n (pc' := 55) rfl rfl rfl ?_
          refine h_getR (pc' := 58) rfl rfl rfl rfl rfl ?_
          refine h_iload_n (pc' := 59) rfl rfl rfl ?_
          refine h_iload_n (pc' := 60) rfl rfl rfl ?_
          refine h_call (sp := false) (pc' := 63) (M := [(0, .ref 66), (1, .int x0), (2, .int r34)]) rfl rfl rfl rfl rfl rfl rfl rfl ?_
          refine h_aload_n (pc' := 1) rfl rfl rfl ?_
          refine h_getI (pc' := 4) (v := σ 66 8) rfl rfl rfl rfl rfl es35_3 (fun z40 hz40 => ?_)
          have tz40 := tf_66_8 hI
          refine h_bipush (pc' := 6) (x := (Int32.ofInt 6)) rfl rfl cb_6 ?_
          refine h_cge (tg := 39) (pc' := 9) rfl rfl rfl hz40 ci_6 (fun c41 => absurd c41 (by omega)) (fun c41 => ?_)
          refine h_aload_n (pc' := 10) rfl rfl rfl ?_
          refine h_getR (pc' := 13) rfl rfl rfl rfl rfl ?_
          refine h_aload_n (pc' := 14) rfl rfl rfl ?_
          refine h_getI (pc' := 17) (v := σ 66 8) rfl rfl rfl rfl rfl es35_3 (fun z42 hz42 => ?_)
          have tz42 := tf_66_8 hI
          refine h_iload_n (pc' := 18) rfl rfl rfl ?_
          refine h_iast (pc' := 19) rfl rfl rfl rfl hz42 (by omega) (by omega) hx0 (h_fgt (E := fun s => s 63 2 = s35 63 2 ∧ s 64 3 = s35 64 3 ∧ s 64 5 = s35 64 5 ∧ s 66 8 = σ 66 8) _ (in_67 Is35 (by omega)) (Fs35.up rfl) ⟨rfl, rfl, rfl, es35_3⟩ (fun s43 Is43 Fs43 (es43 : s43 63 2 = s35 63 2 ∧ s43 64 3 = s35 64 3 ∧ s43 64 5 = s35 64 5 ∧ s43 66 8 = σ 66 8) => ?_))
          clear es35_3
          refine h_aload_n (pc' := 20) rfl rfl rfl ?_
          refine h_getR (pc' := 23) rfl rfl rfl rfl rfl ?_
          refine h_aload_n (pc' := 24) rfl rfl rfl ?_
          refine h_getI (pc' := 27) (v := σ 66 8) rfl rfl rfl rfl rfl es43.2.2.2 (fun z44 hz44 => ?_)
          have tz44 := tf_66_8 hI
          refine h_iload_n (pc' := 28) rfl rfl rfl ?_
          refine h_iast (pc' := 29) rfl rfl rfl rfl hz44 (by omega) (by omega) hr34 (h_fgt (E := fun s => s 63 2 = s35 63 2 ∧ s 64 3 = s35 64 3 ∧ s 64 5 = s35 64 5 ∧ s 66 8 = σ 66 8) _ (in_68 Is43 (by omega)) (Fs43.up rfl) ⟨es43.1, es43.2.1, es43.2.2.1, es43.2.2.2⟩ (fun s45 Is45 Fs45 (es45 : s45 63 2 = s35 63 2 ∧ s45 64 3 = s35 64 3 ∧ s45 64 5 = s35 64 5 ∧ s45 66 8 = σ 66 8) => ?_))
          clear es43
          refine h_aload_n (pc' := 30) rfl rfl rfl ?_
          refine h_dup (pc' := 31) rfl rfl rfl ?_
          refine h_getI (pc' := 34) (v := σ 66 8) rfl rfl rfl rfl rfl es45.2.2.2 (fun z46 hz46 => ?_)
          have tz46 := tf_66_8 hI
          refine h_iconst (pc' := 35) (x := (Int32.ofInt 1)) rfl rfl rfl ?_
          refine h_iadd (pc' := 36) rfl rfl hz46 ci_1 rfl (by omega) (by omega) (fun z47 hz47 => ?_)
          refine h_put (pc' := 39) rfl rfl rfl rfl rfl rfl hz47 rfl (h_fgt (E := fun s => s 63 2 = s35 63 2 ∧ s 64 3 = s35 64 3 ∧ s 64 5 = s35 64 5 ∧ s 66 8 = ((σ 66 8) + 1)) _ (if_66_8 Is45 (by omega)) (Fs45.up rfl) ⟨es45.1, es45.2.1, es45.2.2.1, rfl⟩ (fun s48 Is48 Fs48 (es48 : s48 63 2 = s35 63 2 ∧ s48 64 3 = s35 64 3 ∧ s48 64 5 = s35 64 5 ∧ s48 66 8 = ((σ 66 8) + 1)) => ?_))
          clear es45
          refine h_vret rfl rfl (h_Kn ?_)
          exact h_vret rfl rfl (kk _ Is48 Fs48 (Or.inr (Or.inr ⟨by omega, by omega, by omega⟩)))
  · refine h_iconst (pc' := 14) (x := (Int32.ofInt 1)) rfl rfl rfl ?_
    refine h_goto (pc' := 18) rfl rfl ?_
    refine h_call (sp := false) (pc' := 21) (M := [(0, .ref 63), (1, .int (Int32.ofInt 1))]) rfl rfl rfl rfl rfl rfl rfl rfl ?_
    refine v_takeName _ hI (Int32.ofInt 1) _ ci_1 (by omega) (fun s50 Is50 Gs50 pcs50 => h_Kn ?_)
    have Fs50 := (Gs50.mono (B := kf_v_readOne) rfl).tr F00
    have es50_3 : s50 66 8 = σ 66 8 := (Gs50 66 8 rfl).trans rfl
    rcases pcs50 with pcs50 | pcs50 | pcs50
    · refine h_aload_n (pc' := 22) rfl rfl rfl ?_
      refine h_call (sp := false) (pc' := 25) (M := [(0, .ref 63)]) rfl rfl rfl rfl rfl rfl rfl rfl ?_
      refine h_aload_n (pc' := 1) rfl rfl rfl ?_
      refine h_getI (pc' := 4) (v := s50 63 2) rfl rfl rfl rfl rfl rfl (fun z51 hz51 => ?_)
      have tz51 := tf_63_2 Is50
      refine h_zne (tg := 22) (pc' := 7) rfl rfl rfl hz51 (fun c52 => ?_) (fun c52 => absurd c52 (by omega))
      refine h_iconst (pc' := 23) (x := (Int32.ofInt 0)) rfl rfl rfl ?_
      refine h_zret rfl rfl ci_0 (by omega) (h_Kv ?_)
      refine h_zeq (tg := 44) (pc' := 28) rfl rfl rfl ci_0 (fun c53 => ?_) (fun c53 => absurd c53 (by omega))
      refine h_bipush (pc' := 46) (x := (Int32.ofInt (-4))) rfl rfl cb_m4 ?_
      refine h_istore_n (pc' := 47) (M := [(2, .int (Int32.ofInt (-4))), (0, .ref 63), (1, .int x0)]) rfl rfl rfl rfl ?_
      refine h_aload_n (pc' := 48) rfl rfl rfl ?_
      refine h_getI (pc' := 51) (v := s50 63 2) rfl rfl rfl rfl rfl rfl (fun z54 hz54 => ?_)
      have tz54 := tf_63_2 Is50
      refine h_zne (tg := 63) (pc' := 54) rfl rfl rfl hz54 (fun c55 => ?_) (fun c55 => absurd c55 (by omega))
      exact h_vret rfl rfl (kk _ Is50 Fs50 (Or.inl ⟨by omega, by omega⟩))
    · refine h_aload_n (pc' := 22) rfl rfl rfl ?_
      refine h_call (sp := false) (pc' := 25) (M := [(0, .ref 63)]) rfl rfl rfl rfl rfl rfl rfl rfl ?_
      refine h_aload_n (pc' := 1) rfl rfl rfl ?_
      refine h_getI (pc' := 4) (v := s50 63 2) rfl rfl rfl rfl rfl rfl (fun z56 hz56 => ?_)
      have tz56 := tf_63_2 Is50
      refine h_zne (tg := 22) (pc' := 7) rfl rfl rfl hz56 (fun c57 => ?_) (fun c57 => absurd c57 (by omega))
      refine h_iconst (pc' := 23) (x := (Int32.ofInt 0)) rfl rfl rfl ?_
      refine h_zret rfl rfl ci_0 (by omega) (h_Kv ?_)
      refine h_zeq (tg := 44) (pc' := 28) rfl rfl rfl ci_0 (fun c58 => ?_) (fun c58 => absurd c58 (by omega))
      refine h_bipush (pc' := 46) (x := (Int32.ofInt (-4))) rfl rfl cb_m4 ?_
      refine h_istore_n (pc' := 47) (M := [(2, .int (Int32.ofInt (-4))), (0, .ref 63), (1, .int x0)]) rfl rfl rfl rfl ?_
      refine h_aload_n (pc' := 48) rfl rfl rfl ?_
      refine h_getI (pc' := 51) (v := s50 63 2) rfl rfl rfl rfl rfl rfl (fun z59 hz59 => ?_)
      have tz59 := tf_63_2 Is50
      refine h_zne (tg := 63) (pc' := 54) rfl rfl rfl hz59 (fun c60 => ?_) (fun c60 => absurd c60 (by omega))
      exact h_vret rfl rfl (kk _ Is50 Fs50 (Or.inr (Or.inl ⟨by omega, by omega⟩)))
    · refine h_aload_n (pc' := 22) rfl rfl rfl ?_
      refine h_call (sp := false) (pc' := 25) (M := [(0, .ref 63)]) rfl rfl rfl rfl rfl rfl rfl rfl ?_
      refine h_aload_n (pc' := 1) rfl rfl rfl ?_
      refine h_getI (pc' := 4) (v := s50 63 2) rfl rfl rfl rfl rfl rfl (fun z61 hz61 => ?_)
      have tz61 := tf_63_2 Is50
      refine h_zne (tg := 22) (pc' := 7) rfl rfl rfl hz61 (fun c62 => absurd c62 (by omega)) (fun c62 => ?_)
      refine h_aload_n (pc' := 8) rfl rfl rfl ?_
      refine h_getR (pc' := 11) rfl rfl rfl rfl rfl ?_
      refine h_getI (pc' := 14) (v := s50 64 3) rfl rfl rfl rfl rfl rfl (fun z63 hz63 => ?_)
      have tz63 := tf_64_3 Is50
      refine h_iconst (pc' := 15) (x := (Int32.ofInt 2)) rfl rfl rfl ?_
      refine h_cne (tg := 22) (pc' := 18) rfl rfl rfl hz63 ci_2 (fun c64 => ?_) (fun c64 => ?_)
      · refine h_iconst (pc' := 23) (x := (Int32.ofInt 0)) rfl rfl rfl ?_
        refine h_zret rfl rfl ci_0 (by omega) (h_Kv ?_)
        refine h_zeq (tg := 44) (pc' := 28) rfl rfl rfl ci_0 (fun c65 => ?_) (fun c65 => absurd c65 (by omega))
        refine h_bipush (pc' := 46) (x := (Int32.ofInt (-4))) rfl rfl cb_m4 ?_
        refine h_istore_n (pc' := 47) (M := [(2, .int (Int32.ofInt (-4))), (0, .ref 63), (1, .int x0)]) rfl rfl rfl rfl ?_
        refine h_aload_n (pc' := 48) rfl rfl rfl ?_
        refine h_getI (pc' := 51) (v := s50 63 2) rfl rfl rfl rfl rfl rfl (fun z66 hz66 => ?_)
        have tz66 := tf_63_2 Is50
        refine h_zne (tg := 63) (pc' := 54) rfl rfl rfl hz66 (fun c67 => absurd c67 (by omega)) (fun c67 => ?_)
        refine h_aload_n (pc' := 55) rfl rfl rfl ?_
        refine h_getR (pc' := 58) rfl rfl rfl rfl rfl ?_
        refine h_iload_n (pc' := 59) rfl rfl rfl ?_
        refine h_iload_n (pc' := 60) rfl rfl rfl ?_
        refine h_call (sp := false) (pc' := 63) (M := [(0, .ref 66), (1, .int x0), (2, .int (Int32.ofInt (-4)))]) rfl rfl rfl rfl rfl rfl rfl rfl ?_
        refine h_aload_n (pc' := 1) rfl rfl rfl ?_
        refine h_getI (pc' := 4) (v := σ 66 8) rfl rfl rfl rfl rfl es50_3 (fun z68 hz68 => ?_)
        have tz68 := tf_66_8 hI
        refine h_bipush (pc' := 6) (x := (Int32.ofInt 6)) rfl rfl cb_6 ?_
        refine h_cge (tg := 39) (pc' := 9) rfl rfl rfl hz68 ci_6 (fun c69 => ?_) (fun c69 => absurd c69 (by omega))
        refine h_vret rfl rfl (h_Kn ?_)
        exact h_vret rfl rfl (kk _ Is50 Fs50 (Or.inr (Or.inr ⟨by omega, by omega, by omega⟩)))
      · refine h_iconst (pc' := 19) (x := (Int32.ofInt 1)) rfl rfl rfl ?_
        refine h_goto (pc' := 23) rfl rfl ?_
        refine h_zret rfl rfl ci_1 (by omega) (h_Kv ?_)
        refine h_zeq (tg := 44) (pc' := 28) rfl rfl rfl ci_1 (fun c70 => absurd c70 (by omega)) (fun c70 => ?_)
        refine h_aload_n (pc' := 29) rfl rfl rfl ?_
        refine h_aload_n (pc' := 30) rfl rfl rfl ?_
        refine h_getR (pc' := 33) rfl rfl rfl rfl rfl ?_
        refine h_getI (pc' := 36) (v := σ 66 8) rfl rfl rfl rfl rfl es50_3 (fun z71 hz71 => ?_)
        have tz71 := tf_66_8 hI
        refine h_iconst (pc' := 37) (x := (Int32.ofInt 1)) rfl rfl rfl ?_
        refine h_isub (pc' := 38) rfl rfl hz71 ci_1 rfl (by omega) (by omega) (fun z72 hz72 => ?_)
        refine h_call (sp := false) (pc' := 41) (M := [(0, .ref 63), (1, .int z72)]) rfl rfl rfl rfl rfl rfl rfl rfl ?_
        refine v_takeNumber _ Is50 z72 _ hz72 (by omega) (fun r73 br73 hr73 s74 Is74 Gs74 pcs74 => h_Kv ?_)
        have Fs74 := (Gs74.mono (B := kf_v_readOne) rfl).tr Fs50
        have es74_3 : s74 66 8 = σ 66 8 := (Gs74 66 8 rfl).trans es50_3
        rcases pcs74 with pcs74 | pcs74 | pcs74
        · exfalso; omega
        · refine h_goto (pc' := 46) rfl rfl ?_
          refine h_istore_n (pc' := 47) (M := [(2, .int r73), (0, .ref 63), (1, .int x0)]) rfl rfl rfl rfl ?_
          refine h_aload_n (pc' := 48) rfl rfl rfl ?_
          refine h_getI (pc' := 51) (v := s74 63 2) rfl rfl rfl rfl rfl rfl (fun z75 hz75 => ?_)
          have tz75 := tf_63_2 Is74
          refine h_zne (tg := 63) (pc' := 54) rfl rfl rfl hz75 (fun c76 => ?_) (fun c76 => absurd c76 (by omega))
          exact h_vret rfl rfl (kk _ Is74 Fs74 (Or.inr (Or.inl ⟨by omega, by omega⟩)))
        · refine h_goto (pc' := 46) rfl rfl ?_
          refine h_istore_n (pc' := 47) (M := [(2, .int r73), (0, .ref 63), (1, .int x0)]) rfl rfl rfl rfl ?_
          refine h_aload_n (pc' := 48) rfl rfl rfl ?_
          refine h_getI (pc' := 51) (v := s74 63 2) rfl rfl rfl rfl rfl rfl (fun z77 hz77 => ?_)
          have tz77 := tf_63_2 Is74
          refine h_zne (tg := 63) (pc' := 54) rfl rfl rfl hz77 (fun c78 => absurd c78 (by omega)) (fun c78 => ?_)
          refine h_aload_n (pc' := 55) rfl rfl rfl ?_
          refine h_getR (pc' := 58) rfl rfl rfl rfl rfl ?_
          refine h_iload_n (pc' := 59) rfl rfl rfl ?_
          refine h_iload_n (pc' := 60) rfl rfl rfl ?_
          refine h_call (sp := false) (pc' := 63) (M := [(0, .ref 66), (1, .int x0), (2, .int r73)]) rfl rfl rfl rfl rfl rfl rfl rfl ?_
          refine h_aload_n (pc' := 1) rfl rfl rfl ?_
          refine h_getI (pc' := 4) (v := σ 66 8) rfl rfl rfl rfl rfl es74_3 (fun z79 hz79 => ?_)
          have tz79 := tf_66_8 hI
          refine h_bipush (pc' := 6) (x := (Int32.ofInt 6)) rfl rfl cb_6 ?_
          refine h_cge (tg := 39) (pc' := 9) rfl rfl rfl hz79 ci_6 (fun c80 => ?_) (fun c80 => absurd c80 (by omega))
          refine h_vret rfl rfl (h_Kn ?_)
          exact h_vret rfl rfl (kk _ Is74 Fs74 (Or.inr (Or.inr ⟨by omega, by omega, by omega⟩)))
def kf_v_readPairX69 : List Nat := [64514, 64515, 65538, 65539, 65540, 65541, 70658, 72703, 73727]
set_option maxHeartbeats 100000000 in
theorem v_readPairX69 {ns : Nat} (σ : h_S) (hI : h_I σ) (pr0 : (¬ σ 63 2 = 0 ∨ ¬ σ 64 3 = 2 ∨ (0 ≤ σ 64 5 ∧ σ 64 5 ≤ 99))) {Q : Option Value → h_S → Prop} (kk : ∀ (τ : h_S), h_I τ → h_F (k_in kf_v_readPairX69) τ σ → (((1 ≤ σ 63 2 ∧ σ 63 2 ≤ 6) ∧ (1 ≤ τ 63 2 ∧ τ 63 2 ≤ 6)) ∨ ((σ 63 2 = 0) ∧ (1 ≤ τ 63 2 ∧ τ 63 2 ≤ 6)) ∨ ((σ 63 2 = 0) ∧ (τ 63 2 = 0) ∧ (¬ τ 64 3 = 2 ∨ (0 ≤ τ 64 5 ∧ τ 64 5 ≤ 99)))) → Q none τ) : h_T g_P (g_Y ns) 60 0 [(0, .ref 63), (1, .ref 69)] [] σ Q := by
  have F00 : h_F (k_in kf_v_readPairX69) σ σ := h_F.rf
  have ge0 := tf_63_2 hI
  refine h_aload_n (pc' := 1) rfl rfl rfl ?_
  refine h_aload_n (pc' := 2) rfl rfl rfl ?_
  refine h_call (sp := false) (pc' := 5) (M := [(0, .ref 69)]) rfl rfl rfl rfl rfl rfl rfl rfl ?_
  refine h_aload_n (pc' := 1) rfl rfl rfl ?_
  refine h_getI (pc' := 4) (v := σ 69 2) rfl rfl rfl rfl rfl rfl (fun z1 hz1 => ?_)
  have tz1 := tf_69_2 hI
  refine h_iconst (pc' := 5) (x := (Int32.ofInt 3)) rfl rfl rfl ?_
  refine h_clt (tg := 12) (pc' := 8) rfl rfl rfl hz1 ci_3 (fun c2 => ?_) (fun c2 => ?_)
  · refine h_iconst (pc' := 13) (x := (Int32.ofInt 0)) rfl rfl rfl ?_
    refine h_zret rfl rfl ci_0 (by omega) (h_Kv ?_)
    refine h_call (sp := false) (pc' := 8) (M := [(0, .ref 63), (1, .int (Int32.ofInt 0))]) rfl rfl rfl rfl rfl rfl rfl rfl ?_
    refine v_takeName _ hI (Int32.ofInt 0) _ ci_0 (by omega) (fun s4 Is4 Gs4 pcs4 => h_Kn ?_)
    have Fs4 := (Gs4.mono (B := kf_v_readPairX69) rfl).tr F00
    have es4_3 : s4 69 2 = σ 69 2 := (Gs4 69 2 rfl).trans rfl
    rcases pcs4 with pcs4 | pcs4 | pcs4
    · refine h_aload_n (pc' := 9) rfl rfl rfl ?_
      refine h_iconst (pc' := 10) (x := (Int32.ofInt 5)) rfl rfl rfl ?_
      refine h_call (sp := false) (pc' := 13) (M := [(0, .ref 63), (1, .int (Int32.ofInt 5))]) rfl rfl rfl rfl rfl rfl rfl rfl ?_
      refine v_takeNumber _ Is4 (Int32.ofInt 5) _ ci_5 (by omega) (fun r5 br5 hr5 s6 Is6 Gs6 pcs6 => h_Kv ?_)
      have Fs6 := (Gs6.mono (B := kf_v_readPairX69) rfl).tr Fs4
      have es6_3 : s6 69 2 = σ 69 2 := (Gs6 69 2 rfl).trans es4_3
      rcases pcs6 with pcs6 | pcs6 | pcs6
      · refine h_istore_n (pc' := 14) (M := [(2, .int r5), (0, .ref 63), (1, .ref 69)]) rfl rfl rfl rfl ?_
        refine h_aload_n (pc' := 15) rfl rfl rfl ?_
        refine h_call (sp := false) (pc' := 18) (M := [(0, .ref 63)]) rfl rfl rfl rfl rfl rfl rfl rfl ?_
        refine h_aload_n (pc' := 1) rfl rfl rfl ?_
        refine h_getI (pc' := 4) (v := s6 63 2) rfl rfl rfl rfl rfl rfl (fun z7 hz7 => ?_)
        have tz7 := tf_63_2 Is6
        refine h_zne (tg := 22) (pc' := 7) rfl rfl rfl hz7 (fun c8 => ?_) (fun c8 => absurd c8 (by omega))
        refine h_iconst (pc' := 23) (x := (Int32.ofInt 0)) rfl rfl rfl ?_
        refine h_zret rfl rfl ci_0 (by omega) (h_Kv ?_)
        refine h_zeq (tg := 44) (pc' := 21) rfl rfl rfl ci_0 (fun c9 => ?_) (fun c9 => absurd c9 (by omega))
        refine h_aload_n (pc' := 45) rfl rfl rfl ?_
        refine h_iconst (pc' := 46) (x := (Int32.ofInt 5)) rfl rfl rfl ?_
        refine h_call (sp := false) (pc' := 49) (M := [(0, .ref 63), (1, .int (Int32.ofInt 5))]) rfl rfl rfl rfl rfl rfl rfl rfl ?_
        refine v_takeNumber _ Is6 (Int32.ofInt 5) _ ci_5 (by omega) (fun r10 br10 hr10 s11 Is11 Gs11 pcs11 => h_Kv ?_)
        have Fs11 := (Gs11.mono (B := kf_v_readPairX69) rfl).tr Fs6
        have es11_3 : s11 69 2 = σ 69 2 := (Gs11 69 2 rfl).trans es6_3
        rcases pcs11 with pcs11 | pcs11 | pcs11
        · refine h_istore_n (pc' := 50) (M := [(3, .int r10), (2, .int r5), (0, .ref 63), (1, .ref 69)]) rfl rfl rfl rfl ?_
          refine h_aload_n (pc' := 51) rfl rfl rfl ?_
          refine h_getI (pc' := 54) (v := s11 63 2) rfl rfl rfl rfl rfl rfl (fun z12 hz12 => ?_)
          have tz12 := tf_63_2 Is11
          refine h_zne (tg := 64) (pc' := 57) rfl rfl rfl hz12 (fun c13 => ?_) (fun c13 => absurd c13 (by omega))
          exact h_vret rfl rfl (kk _ Is11 Fs11 (Or.inl ⟨by omega, by omega⟩))
        · exfalso; omega
        · exfalso; omega
      · exfalso; omega
      · exfalso; omega
    · refine h_aload_n (pc' := 9) rfl rfl rfl ?_
      refine h_iconst (pc' := 10) (x := (Int32.ofInt 5)) rfl rfl rfl ?_
      refine h_call (sp := false) (pc' := 13) (M := [(0, .ref 63), (1, .int (Int32.ofInt 5))]) rfl rfl rfl rfl rfl rfl rfl rfl ?_
      refine v_takeNumber _ Is4 (Int32.ofInt 5) _ ci_5 (by omega) (fun r14 br14 hr14 s15 Is15 Gs15 pcs15 => h_Kv ?_)
      have Fs15 := (Gs15.mono (B := kf_v_readPairX69) rfl).tr Fs4
      have es15_3 : s15 69 2 = σ 69 2 := (Gs15 69 2 rfl).trans es4_3
      rcases pcs15 with pcs15 | pcs15 | pcs15
      · refine h_istore_n (pc' := 14) (M := [(2, .int r14), (0, .ref 63), (1, .ref 69)]) rfl rfl rfl rfl ?_
        refine h_aload_n (pc' := 15) rfl rfl rfl ?_
        refine h_call (sp := false) (pc' := 18) (M := [(0, .ref 63)]) rfl rfl rfl rfl rfl rfl rfl rfl ?_
        refine h_aload_n (pc' := 1) rfl rfl rfl ?_
        refine h_getI (pc' := 4) (v := s15 63 2) rfl rfl rfl rfl rfl rfl (fun z16 hz16 => ?_)
        have tz16 := tf_63_2 Is15
        refine h_zne (tg := 22) (pc' := 7) rfl rfl rfl hz16 (fun c17 => ?_) (fun c17 => absurd c17 (by omega))
        refine h_iconst (pc' := 23) (x := (Int32.ofInt 0)) rfl rfl rfl ?_
        refine h_zret rfl rfl ci_0 (by omega) (h_Kv ?_)
        refine h_zeq (tg := 44) (pc' := 21) rfl rfl rfl ci_0 (fun c18 => ?_) (fun c18 => absurd c18 (by omega))
        refine h_aload_n (pc' := 45) rfl rfl rfl ?_
        refine h_iconst (pc' := 46) (x := (Int32.ofInt 5)) rfl rfl rfl ?_
        refine h_call (sp := false) (pc' := 49) (M := [(0, .ref 63), (1, .int (Int32.ofInt 5))]) rfl rfl rfl rfl rfl rfl rfl rfl ?_
        refine v_takeNumber _ Is15 (Int32.ofInt 5) _ ci_5 (by omega) (fun r19 br19 hr19 s20 Is20 Gs20 pcs20 => h_Kv ?_)
        have Fs20 := (Gs20.mono (B := kf_v_readPairX69) rfl).tr Fs15
        have es20_3 : s20 69 2 = σ 69 2 := (Gs20 69 2 rfl).trans es15_3
        rcases pcs20 with pcs20 | pcs20 | pcs20
        · refine h_istore_n (pc' := 50) (M := [(3, .int r19), (2, .int r14), (0, .ref 63), (1, .ref 69)]) rfl rfl rfl rfl ?_
          refine h_aload_n (pc' := 51) rfl rfl rfl ?_
          refine h_getI (pc' := 54) (v := s20 63 2) rfl rfl rfl rfl rfl rfl (fun z21 hz21 => ?_)
          have tz21 := tf_63_2 Is20
          refine h_zne (tg := 64) (pc' := 57) rfl rfl rfl hz21 (fun c22 => ?_) (fun c22 => absurd c22 (by omega))
          exact h_vret rfl rfl (kk _ Is20 Fs20 (Or.inr (Or.inl ⟨by omega, by omega⟩)))
        · exfalso; omega
        · exfalso; omega
      · exfalso; omega
      · exfalso; omega
    · refine h_aload_n (pc' := 9) rfl rfl rfl ?_
      refine h_iconst (pc' := 10) (x := (Int32.ofInt 5)) rfl rfl rfl ?_
      refine h_call (sp := false) (pc' := 13) (M := [(0, .ref 63), (1, .int (Int32.ofInt 5))]) rfl rfl rfl rfl rfl rfl rfl rfl ?_
      refine v_takeNumber _ Is4 (Int32.ofInt 5) _ ci_5 (by omega) (fun r23 br23 hr23 s24 Is24 Gs24 pcs24 => h_Kv ?_)
      have Fs24 := (Gs24.mono (B := kf_v_readPairX69) rfl).tr Fs4
      have es24_3 : s24 69 2 = σ 69 2 := (Gs24 69 2 rfl).trans es4_3
      rcases pcs24 with pcs24 | pcs24 | pcs24
      · exfalso; omega
      · refine h_istore_n (pc' := 14) (M := [(2, .int r23), (0, .ref 63), (1, .ref 69)]) rfl rfl rfl rfl ?_
        refine h_aload_n (pc' := 15) rfl rfl rfl ?_
        refine h_call (sp := false) (pc' := 18) (M := [(0, .ref 63)]) rfl rfl rfl rfl rfl rfl rfl rfl ?_
        refine h_aload_n (pc' := 1) rfl rfl rfl ?_
        refine h_getI (pc' := 4) (v := s24 63 2) rfl rfl rfl rfl rfl rfl (fun z25 hz25 => ?_)
        have tz25 := tf_63_2 Is24
        refine h_zne (tg := 22) (pc' := 7) rfl rfl rfl hz25 (fun c26 => ?_) (fun c26 => absurd c26 (by omega))
        refine h_iconst (pc' := 23) (x := (Int32.ofInt 0)) rfl rfl rfl ?_
        refine h_zret rfl rfl ci_0 (by omega) (h_Kv ?_)
        refine h_zeq (tg := 44) (pc' := 21) rfl rfl rfl ci_0 (fun c27 => ?_) (fun c27 => absurd c27 (by omega))
        refine h_aload_n (pc' := 45) rfl rfl rfl ?_
        refine h_iconst (pc' := 46) (x := (Int32.ofInt 5)) rfl rfl rfl ?_
        refine h_call (sp := false) (pc' := 49) (M := [(0, .ref 63), (1, .int (Int32.ofInt 5))]) rfl rfl rfl rfl rfl rfl rfl rfl ?_
        refine v_takeNumber _ Is24 (Int32.ofInt 5) _ ci_5 (by omega) (fun r28 br28 hr28 s29 Is29 Gs29 pcs29 => h_Kv ?_)
        have Fs29 := (Gs29.mono (B := kf_v_readPairX69) rfl).tr Fs24
        have es29_3 : s29 69 2 = σ 69 2 := (Gs29 69 2 rfl).trans es24_3
        rcases pcs29 with pcs29 | pcs29 | pcs29
        · refine h_istore_n (pc' := 50) (M := [(3, .int r28), (2, .int r23), (0, .ref 63), (1, .ref 69)]) rfl rfl rfl rfl ?_
          refine h_aload_n (pc' := 51) rfl rfl rfl ?_
          refine h_getI (pc' := 54) (v := s29 63 2) rfl rfl rfl rfl rfl rfl (fun z30 hz30 => ?_)
          have tz30 := tf_63_2 Is29
          refine h_zne (tg := 64) (pc' := 57) rfl rfl rfl hz30 (fun c31 => ?_) (fun c31 => absurd c31 (by omega))
          exact h_vret rfl rfl (kk _ Is29 Fs29 (Or.inr (Or.inl ⟨by omega, by omega⟩)))
        · exfalso; omega
        · exfalso; omega
      · refine h_istore_n (pc' := 14) (M := [(2, .int r23), (0, .ref 63), (1, .ref 69)]) rfl rfl rfl rfl ?_
        refine h_aload_n (pc' := 15) rfl rfl rfl ?_
        refine h_call (sp := false) (pc' := 18) (M := [(0, .ref 63)]) rfl rfl rfl rfl rfl rfl rfl rfl ?_
        refine h_aload_n (pc' := 1) rfl rfl rfl ?_
        refine h_getI (pc' := 4) (v := s24 63 2) rfl rfl rfl rfl rfl rfl (fun z32 hz32 => ?_)
        have tz32 := tf_63_2 Is24
        refine h_zne (tg := 22) (pc' := 7) rfl rfl rfl hz32 (fun c33 => absurd c33 (by omega)) (fun c33 => ?_)
        refine h_aload_n (pc' := 8) rfl rfl rfl ?_
        refine h_getR (pc' := 11) rfl rfl rfl rfl rfl ?_
        refine h_getI (pc' := 14) (v := s24 64 3) rfl rfl rfl rfl rfl rfl (fun z34 hz34 => ?_)
        have tz34 := tf_64_3 Is24
        refine h_iconst (pc' := 15) (x := (Int32.ofInt 2)) rfl rfl rfl ?_
        refine h_cne (tg := 22) (pc' := 18) rfl rfl rfl hz34 ci_2 (fun c35 => ?_) (fun c35 => ?_)
        · refine h_iconst (pc' := 23) (x := (Int32.ofInt 0)) rfl rfl rfl ?_
          refine h_zret rfl rfl ci_0 (by omega) (h_Kv ?_)
          refine h_zeq (tg := 44) (pc' := 21) rfl rfl rfl ci_0 (fun c36 => ?_) (fun c36 => absurd c36 (by omega))
          refine h_aload_n (pc' := 45) rfl rfl rfl ?_
          refine h_iconst (pc' := 46) (x := (Int32.ofInt 5)) rfl rfl rfl ?_
          refine h_call (sp := false) (pc' := 49) (M := [(0, .ref 63), (1, .int (Int32.ofInt 5))]) rfl rfl rfl rfl rfl rfl rfl rfl ?_
          refine v_takeNumber _ Is24 (Int32.ofInt 5) _ ci_5 (by omega) (fun r37 br37 hr37 s38 Is38 Gs38 pcs38 => h_Kv ?_)
          have Fs38 := (Gs38.mono (B := kf_v_readPairX69) rfl).tr Fs24
          have es38_3 : s38 69 2 = σ 69 2 := (Gs38 69 2 rfl).trans es24_3
          rcases pcs38 with pcs38 | pcs38 | pcs38
          · exfalso; omega
          · refine h_istore_n (pc' := 50) (M := [(3, .int r37), (2, .int r23), (0, .ref 63), (1, .ref 69)]) rfl rfl rfl rfl ?_
            refine h_aload_n (pc' := 51) rfl rfl rfl ?_
            refine h_getI (pc' := 54) (v := s38 63 2) rfl rfl rfl rfl rfl rfl (fun z39 hz39 => ?_)
            have tz39 := tf_63_2 Is38
            refine h_zne (tg := 64) (pc' := 57) rfl rfl rfl hz39 (fun c40 => ?_) (fun c40 => absurd c40 (by omega))
            exact h_vret rfl rfl (kk _ Is38 Fs38 (Or.inr (Or.inl ⟨by omega, by omega⟩)))
          · refine h_istore_n (pc' := 50) (M := [(3, .int r37), (2, .int r23), (0, .ref 63), (1, .ref 69)]) rfl rfl rfl rfl ?_
            refine h_aload_n (pc' := 51) rfl rfl rfl ?_
            refine h_getI (pc' := 54) (v := s38 63 2) rfl rfl rfl rfl rfl rfl (fun z41 hz41 => ?_)
            have tz41 := tf_63_2 Is38
            refine h_zne (tg := 64) (pc' := 57) rfl rfl rfl hz41 (fun c42 => absurd c42 (by omega)) (fun c42 => ?_)
            refine h_aload_n (pc' := 58) rfl rfl rfl ?_
            refine h_iload_n (pc' := 59) rfl rfl rfl ?_
            refine h_iload_n (pc' := 60) rfl rfl rfl ?_
            refine h_call (sp := false) (pc' := 63) (M := [(0, .ref 69), (1, .int r23), (2, .int r37)]) rfl rfl rfl rfl rfl rfl rfl rfl ?_
            refine h_aload_n (pc' := 1) rfl rfl rfl ?_
            refine h_call (sp := false) (pc' := 4) (M := [(0, .ref 69)]) rfl rfl rfl rfl rfl rfl rfl rfl ?_
            refine h_aload_n (pc' := 1) rfl rfl rfl ?_
            refine h_getI (pc' := 4) (v := σ 69 2) rfl rfl rfl rfl rfl es38_3 (fun z43 hz43 => ?_)
            have tz43 := tf_69_2 hI
            refine h_iconst (pc' := 5) (x := (Int32.ofInt 3)) rfl rfl rfl ?_
            refine h_clt (tg := 12) (pc' := 8) rfl rfl rfl hz43 ci_3 (fun c44 => ?_) (fun c44 => absurd c44 (by omega))
            refine h_iconst (pc' := 13) (x := (Int32.ofInt 0)) rfl rfl rfl ?_
            refine h_zret rfl rfl ci_0 (by omega) (h_Kv ?_)
            refine h_zeq (tg := 9) (pc' := 7) rfl rfl rfl ci_0 (fun c45 => ?_) (fun c45 => absurd c45 (by omega))
            refine h_aload_n (pc' := 10) rfl rfl rfl ?_
            refine h_getR (pc' := 13) rfl rfl rfl rfl rfl ?_
            refine h_aload_n (pc' := 14) rfl rfl rfl ?_
            refine h_getI (pc' := 17) (v := σ 69 2) rfl rfl rfl rfl rfl es38_3 (fun z46 hz46 => ?_)
            have tz46 := tf_69_2 hI
            refine h_iload_n (pc' := 18) rfl rfl rfl ?_
            refine h_iast (pc' := 19) rfl rfl rfl rfl hz46 (by omega) (by omega) hr23 (h_fgt (E := fun s => s 63 2 = s38 63 2 ∧ s 64 3 = s38 64 3 ∧ s 64 5 = s38 64 5 ∧ s 69 2 = σ 69 2) _ (in_70 Is38 (by omega)) (Fs38.up rfl) ⟨rfl, rfl, rfl, es38_3⟩ (fun s47 Is47 Fs47 (es47 : s47 63 2 = s38 63 2 ∧ s47 64 3 = s38 64 3 ∧ s47 64 5 = s38 64 5 ∧ s47 69 2 = σ 69 2) => ?_))
            clear es38_3
            refine h_aload_n (pc' := 20) rfl rfl rfl ?_
            refine h_getR (pc' := 23) rfl rfl rfl rfl rfl ?_
            refine h_aload_n (pc' := 24) rfl rfl rfl ?_
            refine h_getI (pc' := 27) (v := σ 69 2) rfl rfl rfl rfl rfl es47.2.2.2 (fun z48 hz48 => ?_)
            have tz48 := tf_69_2 hI
            refine h_iload_n (pc' := 28) rfl rfl rfl ?_
            refine h_iast (pc' := 29) rfl rfl rfl rfl hz48 (by omega) (by omega) hr37 (h_fgt (E := fun s => s 63 2 = s38 63 2 ∧ s 64 3 = s38 64 3 ∧ s 64 5 = s38 64 5 ∧ s 69 2 = σ 69 2) _ (in_71 Is47 (by omega)) (Fs47.up rfl) ⟨es47.1, es47.2.1, es47.2.2.1, es47.2.2.2⟩ (fun s49 Is49 Fs49 (es49 : s49 63 2 = s38 63 2 ∧ s49 64 3 = s38 64 3 ∧ s49 64 5 = s38 64 5 ∧ s49 69 2 = σ 69 2) => ?_))
            clear es47
            refine h_aload_n (pc' := 30) rfl rfl rfl ?_
            refine h_dup (pc' := 31) rfl rfl rfl ?_
            refine h_getI (pc' := 34) (v := σ 69 2) rfl rfl rfl rfl rfl es49.2.2.2 (fun z50 hz50 => ?_)
            have tz50 := tf_69_2 hI
            refine h_iconst (pc' := 35) (x := (Int32.ofInt 1)) rfl rfl rfl ?_
            refine h_iadd (pc' := 36) rfl rfl hz50 ci_1 rfl (by omega) (by omega) (fun z51 hz51 => ?_)
            refine h_put (pc' := 39) rfl rfl rfl rfl rfl rfl hz51 rfl (h_fgt (E := fun s => s 63 2 = s38 63 2 ∧ s 64 3 = s38 64 3 ∧ s 64 5 = s38 64 5 ∧ s 69 2 = ((σ 69 2) + 1)) _ (if_69_2 Is49 (by omega)) (Fs49.up rfl) ⟨es49.1, es49.2.1, es49.2.2.1, rfl⟩ (fun s52 Is52 Fs52 (es52 : s52 63 2 = s38 63 2 ∧ s52 64 3 = s38 64 3 ∧ s52 64 5 = s38 64 5 ∧ s52 69 2 = ((σ 69 2) + 1)) => ?_))
            clear es49
            refine h_iconst (pc' := 40) (x := (Int32.ofInt 1)) rfl rfl rfl ?_
            refine h_zret rfl rfl ci_1 (by omega) (h_Kv ?_)
            refine h_pop (pc' := 64) rfl rfl rfl ?_
            exact h_vret rfl rfl (kk _ Is52 Fs52 (Or.inr (Or.inr ⟨by omega, by omega, by omega⟩)))
        · refine h_iconst (pc' := 19) (x := (Int32.ofInt 1)) rfl rfl rfl ?_
          refine h_goto (pc' := 23) rfl rfl ?_
          refine h_zret rfl rfl ci_1 (by omega) (h_Kv ?_)
          refine h_zeq (tg := 44) (pc' := 21) rfl rfl rfl ci_1 (fun c53 => absurd c53 (by omega)) (fun c53 => ?_)
          refine h_aload_n (pc' := 22) rfl rfl rfl ?_
          refine h_getR (pc' := 25) rfl rfl rfl rfl rfl ?_
          refine h_getI (pc' := 28) (v := s24 64 5) rfl rfl rfl rfl rfl rfl (fun z54 hz54 => ?_)
          have tz54 := tf_64_5 Is24
          refine h_iload_n (pc' := 29) rfl rfl rfl ?_
          refine h_cne (tg := 44) (pc' := 32) rfl rfl rfl hz54 hr23 (fun c55 => ?_) (fun c55 => ?_)
          · refine h_aload_n (pc' := 45) rfl rfl rfl ?_
            refine h_iconst (pc' := 46) (x := (Int32.ofInt 5)) rfl rfl rfl ?_
            refine h_call (sp := false) (pc' := 49) (M := [(0, .ref 63), (1, .int (Int32.ofInt 5))]) rfl rfl rfl rfl rfl rfl rfl rfl ?_
            refine v_takeNumber _ Is24 (Int32.ofInt 5) _ ci_5 (by omega) (fun r56 br56 hr56 s57 Is57 Gs57 pcs57 => h_Kv ?_)
            have Fs57 := (Gs57.mono (B := kf_v_readPairX69) rfl).tr Fs24
            have es57_3 : s57 69 2 = σ 69 2 := (Gs57 69 2 rfl).trans es24_3
            rcases pcs57 with pcs57 | pcs57 | pcs57
            · exfalso; omega
            · refine h_istore_n (pc' := 50) (M := [(3, .int r56), (2, .int r23), (0, .ref 63), (1, .ref 69)]) rfl rfl rfl rfl ?_
              refine h_aload_n (pc' := 51) rfl rfl rfl ?_
              refine h_getI (pc' := 54) (v := s57 63 2) rfl rfl rfl rfl rfl rfl (fun z58 hz58 => ?_)
              have tz58 := tf_63_2 Is57
              refine h_zne (tg := 64) (pc' := 57) rfl rfl rfl hz58 (fun c59 => ?_) (fun c59 => absurd c59 (by omega))
              exact h_vret rfl rfl (kk _ Is57 Fs57 (Or.inr (Or.inl ⟨by omega, by omega⟩)))
            · refine h_istore_n (pc' := 50) (M := [(3, .int r56), (2, .int r23), (0, .ref 63), (1, .ref 69)]) rfl rfl rfl rfl ?_
              refine h_aload_n (pc' := 51) rfl rfl rfl ?_
              refine h_getI (pc' := 54) (v := s57 63 2) rfl rfl rfl rfl rfl rfl (fun z60 hz60 => ?_)
              have tz60 := tf_63_2 Is57
              refine h_zne (tg := 64) (pc' := 57) rfl rfl rfl hz60 (fun c61 => absurd c61 (by omega)) (fun c61 => ?_)
              refine h_aload_n (pc' := 58) rfl rfl rfl ?_
              refine h_iload_n (pc' := 59) rfl rfl rfl ?_
              refine h_iload_n (pc' := 60) rfl rfl rfl ?_
              refine h_call (sp := false) (pc' := 63) (M := [(0, .ref 69), (1, .int r23), (2, .int r56)]) rfl rfl rfl rfl rfl rfl rfl rfl ?_
              refine h_aload_n (pc' := 1) rfl rfl rfl ?_
              refine h_call (sp := false) (pc' := 4) (M := [(0, .ref 69)]) rfl rfl rfl rfl rfl rfl rfl rfl ?_
              refine h_aload_n (pc' := 1) rfl rfl rfl ?_
              refine h_getI (pc' := 4) (v := σ 69 2) rfl rfl rfl rfl rfl es57_3 (fun z62 hz62 => ?_)
              have tz62 := tf_69_2 hI
              refine h_iconst (pc' := 5) (x := (Int32.ofInt 3)) rfl rfl rfl ?_
              refine h_clt (tg := 12) (pc' := 8) rfl rfl rfl hz62 ci_3 (fun c63 => ?_) (fun c63 => absurd c63 (by omega))
              refine h_iconst (pc' := 13) (x := (Int32.ofInt 0)) rfl rfl rfl ?_
              refine h_zret rfl rfl ci_0 (by omega) (h_Kv ?_)
              refine h_zeq (tg := 9) (pc' := 7) rfl rfl rfl ci_0 (fun c64 => ?_) (fun c64 => absurd c64 (by omega))
              refine h_aload_n (pc' := 10) rfl rfl rfl ?_
              refine h_getR (pc' := 13) rfl rfl rfl rfl rfl ?_
              refine h_aload_n (pc' := 14) rfl rfl rfl ?_
              refine h_getI (pc' := 17) (v := σ 69 2) rfl rfl rfl rfl rfl es57_3 (fun z65 hz65 => ?_)
              have tz65 := tf_69_2 hI
              refine h_iload_n (pc' := 18) rfl rfl rfl ?_
              refine h_iast (pc' := 19) rfl rfl rfl rfl hz65 (by omega) (by omega) hr23 (h_fgt (E := fun s => s 63 2 = s57 63 2 ∧ s 64 3 = s57 64 3 ∧ s 64 5 = s57 64 5 ∧ s 69 2 = σ 69 2) _ (in_70 Is57 (by omega)) (Fs57.up rfl) ⟨rfl, rfl, rfl, es57_3⟩ (fun s66 Is66 Fs66 (es66 : s66 63 2 = s57 63 2 ∧ s66 64 3 = s57 64 3 ∧ s66 64 5 = s57 64 5 ∧ s66 69 2 = σ 69 2) => ?_))
              clear es57_3
              refine h_aload_n (pc' := 20) rfl rfl rfl ?_
              refine h_getR (pc' := 23) rfl rfl rfl rfl rfl ?_
              refine h_aload_n (pc' := 24) rfl rfl rfl ?_
              refine h_getI (pc' := 27) (v := σ 69 2) rfl rfl rfl rfl rfl es66.2.2.2 (fun z67 hz67 => ?_)
              have tz67 := tf_69_2 hI
              refine h_iload_n (pc' := 28) rfl rfl rfl ?_
              refine h_iast (pc' := 29) rfl rfl rfl rfl hz67 (by omega) (by omega) hr56 (h_fgt (E := fun s => s 63 2 = s57 63 2 ∧ s 64 3 = s57 64 3 ∧ s 64 5 = s57 64 5 ∧ s 69 2 = σ 69 2) _ (in_71 Is66 (by omega)) (Fs66.up rfl) ⟨es66.1, es66.2.1, es66.2.2.1, es66.2.2.2⟩ (fun s68 Is68 Fs68 (es68 : s68 63 2 = s57 63 2 ∧ s68 64 3 = s57 64 3 ∧ s68 64 5 = s57 64 5 ∧ s68 69 2 = σ 69 2) => ?_))
              clear es66
              refine h_aload_n (pc' := 30) rfl rfl rfl ?_
              refine h_dup (pc' := 31) rfl rfl rfl ?_
              refine h_getI (pc' := 34) (v := σ 69 2) rfl rfl rfl rfl rfl es68.2.2.2 (fun z69 hz69 => ?_)
              have tz69 := tf_69_2 hI
              refine h_iconst (pc' := 35) (x := (Int32.ofInt 1)) rfl rfl rfl ?_
              refine h_iadd (pc' := 36) rfl rfl hz69 ci_1 rfl (by omega) (by omega) (fun z70 hz70 => ?_)
              refine h_put (pc' := 39) rfl rfl rfl rfl rfl rfl hz70 rfl (h_fgt (E := fun s => s 63 2 = s57 63 2 ∧ s 64 3 = s57 64 3 ∧ s 64 5 = s57 64 5 ∧ s 69 2 = ((σ 69 2) + 1)) _ (if_69_2 Is68 (by omega)) (Fs68.up rfl) ⟨es68.1, es68.2.1, es68.2.2.1, rfl⟩ (fun s71 Is71 Fs71 (es71 : s71 63 2 = s57 63 2 ∧ s71 64 3 = s57 64 3 ∧ s71 64 5 = s57 64 5 ∧ s71 69 2 = ((σ 69 2) + 1)) => ?_))
              clear es68
              refine h_iconst (pc' := 40) (x := (Int32.ofInt 1)) rfl rfl rfl ?_
              refine h_zret rfl rfl ci_1 (by omega) (h_Kv ?_)
              refine h_pop (pc' := 64) rfl rfl rfl ?_
              exact h_vret rfl rfl (kk _ Is71 Fs71 (Or.inr (Or.inr ⟨by omega, by omega, by omega⟩)))
          · refine h_aload_n (pc' := 33) rfl rfl rfl ?_
            refine h_iconst (pc' := 34) (x := (Int32.ofInt 3)) rfl rfl rfl ?_
            refine h_aload_n (pc' := 35) rfl rfl rfl ?_
            refine h_getR (pc' := 38) rfl rfl rfl rfl rfl ?_
            refine h_getI (pc' := 41) (v := s24 64 4) rfl rfl rfl rfl rfl rfl (fun z72 hz72 => ?_)
            have tz72 := tf_64_4 Is24
            refine h_call (sp := false) (pc' := 44) (M := [(0, .ref 63), (1, .int (Int32.ofInt 3)), (2, .int z72)]) rfl rfl rfl rfl rfl rfl rfl rfl ?_
            refine h_aload_n (pc' := 1) rfl rfl rfl ?_
            refine h_getI (pc' := 4) (v := s24 63 2) rfl rfl rfl rfl rfl rfl (fun z73 hz73 => ?_)
            have tz73 := tf_63_2 Is24
            refine h_zne (tg := 17) (pc' := 7) rfl rfl rfl hz73 (fun c74 => absurd c74 (by omega)) (fun c74 => ?_)
            refine h_aload_n (pc' := 8) rfl rfl rfl ?_
            refine h_iload_n (pc' := 9) rfl rfl rfl ?_
            refine h_put (pc' := 12) rfl rfl rfl rfl rfl rfl ci_3 rfl (h_fgt (E := fun s => s 63 2 = 3 ∧ s 64 3 = s24 64 3 ∧ s 64 5 = s24 64 5 ∧ s 69 2 = σ 69 2) _ (if_63_2 Is24 (by omega)) (Fs24.up rfl) ⟨rfl, rfl, rfl, es24_3⟩ (fun s75 Is75 Fs75 (es75 : s75 63 2 = 3 ∧ s75 64 3 = s24 64 3 ∧ s75 64 5 = s24 64 5 ∧ s75 69 2 = σ 69 2) => ?_))
            clear es24_3
            refine h_aload_n (pc' := 13) rfl rfl rfl ?_
            refine h_iload_n (pc' := 14) rfl rfl rfl ?_
            refine h_put (pc' := 17) rfl rfl rfl rfl rfl rfl hz72 rfl (h_fgt (E := fun s => s 63 2 = 3 ∧ s 64 3 = s24 64 3 ∧ s 64 5 = s24 64 5 ∧ s 69 2 = σ 69 2) _ (if_63_3 Is75 (h_rgv hz72)) (Fs75.up rfl) ⟨es75.1, es75.2.1, es75.2.2.1, es75.2.2.2⟩ (fun s76 Is76 Fs76 (es76 : s76 63 2 = 3 ∧ s76 64 3 = s24 64 3 ∧ s76 64 5 = s24 64 5 ∧ s76 69 2 = σ 69 2) => ?_))
            clear es75
            refine h_vret rfl rfl (h_Kn ?_)
            refine h_aload_n (pc' := 45) rfl rfl rfl ?_
            refine h_iconst (pc' := 46) (x := (Int32.ofInt 5)) rfl rfl rfl ?_
            refine h_call (sp := false) (pc' := 49) (M := [(0, .ref 63), (1, .int (Int32.ofInt 5))]) rfl rfl rfl rfl rfl rfl rfl rfl ?_
            refine v_takeNumber _ Is76 (Int32.ofInt 5) _ ci_5 (by omega) (fun r77 br77 hr77 s78 Is78 Gs78 pcs78 => h_Kv ?_)
            have Fs78 := (Gs78.mono (B := kf_v_readPairX69) rfl).tr Fs76
            have es78_3 : s78 69 2 = σ 69 2 := (Gs78 69 2 rfl).trans es76.2.2.2
            rcases pcs78 with pcs78 | pcs78 | pcs78
            · refine h_istore_n (pc' := 50) (M := [(3, .int r77), (2, .int r23), (0, .ref 63), (1, .ref 69)]) rfl rfl rfl rfl ?_
              refine h_aload_n (pc' := 51) rfl rfl rfl ?_
              refine h_getI (pc' := 54) (v := s78 63 2) rfl rfl rfl rfl rfl rfl (fun z79 hz79 => ?_)
              have tz79 := tf_63_2 Is78
              refine h_zne (tg := 64) (pc' := 57) rfl rfl rfl hz79 (fun c80 => ?_) (fun c80 => absurd c80 (by omega))
              exact h_vret rfl rfl (kk _ Is78 Fs78 (Or.inr (Or.inl ⟨by omega, by omega⟩)))
            · exfalso; omega
            · exfalso; omega
  · refine h_iconst (pc' := 9) (x := (Int32.ofInt 1)) rfl rfl rfl ?_
    refine h_goto (pc' := 13) rfl rfl ?_
    refine h_zret rfl rfl ci_1 (by omega) (h_Kv ?_)
    refine h_call (sp := false) (pc' := 8) (M := [(0, .ref 63), (1, .int (Int32.ofInt 1))]) rfl rfl rfl rfl rfl rfl rfl rfl ?_
    refine v_takeName _ hI (Int32.ofInt 1) _ ci_1 (by omega) (fun s82 Is82 Gs82 pcs82 => h_Kn ?_)
    have Fs82 := (Gs82.mono (B := kf_v_readPairX69) rfl).tr F00
    have es82_3 : s82 69 2 = σ 69 2 := (Gs82 69 2 rfl).trans rfl
    rcases pcs82 with pcs82 | pcs82 | pcs82
    · refine h_aload_n (pc' := 9) rfl rfl rfl ?_
      refine h_iconst (pc' := 10) (x := (Int32.ofInt 5)) rfl rfl rfl ?_
      refine h_call (sp := false) (pc' := 13) (M := [(0, .ref 63), (1, .int (Int32.ofInt 5))]) rfl rfl rfl rfl rfl rfl rfl rfl ?_
      refine v_takeNumber _ Is82 (Int32.ofInt 5) _ ci_5 (by omega) (fun r83 br83 hr83 s84 Is84 Gs84 pcs84 => h_Kv ?_)
      have Fs84 := (Gs84.mono (B := kf_v_readPairX69) rfl).tr Fs82
      have es84_3 : s84 69 2 = σ 69 2 := (Gs84 69 2 rfl).trans es82_3
      rcases pcs84 with pcs84 | pcs84 | pcs84
      · refine h_istore_n (pc' := 14) (M := [(2, .int r83), (0, .ref 63), (1, .ref 69)]) rfl rfl rfl rfl ?_
        refine h_aload_n (pc' := 15) rfl rfl rfl ?_
        refine h_call (sp := false) (pc' := 18) (M := [(0, .ref 63)]) rfl rfl rfl rfl rfl rfl rfl rfl ?_
        refine h_aload_n (pc' := 1) rfl rfl rfl ?_
        refine h_getI (pc' := 4) (v := s84 63 2) rfl rfl rfl rfl rfl rfl (fun z85 hz85 => ?_)
        have tz85 := tf_63_2 Is84
        refine h_zne (tg := 22) (pc' := 7) rfl rfl rfl hz85 (fun c86 => ?_) (fun c86 => absurd c86 (by omega))
        refine h_iconst (pc' := 23) (x := (Int32.ofInt 0)) rfl rfl rfl ?_
        refine h_zret rfl rfl ci_0 (by omega) (h_Kv ?_)
        refine h_zeq (tg := 44) (pc' := 21) rfl rfl rfl ci_0 (fun c87 => ?_) (fun c87 => absurd c87 (by omega))
        refine h_aload_n (pc' := 45) rfl rfl rfl ?_
        refine h_iconst (pc' := 46) (x := (Int32.ofInt 5)) rfl rfl rfl ?_
        refine h_call (sp := false) (pc' := 49) (M := [(0, .ref 63), (1, .int (Int32.ofInt 5))]) rfl rfl rfl rfl rfl rfl rfl rfl ?_
        refine v_takeNumber _ Is84 (Int32.ofInt 5) _ ci_5 (by omega) (fun r88 br88 hr88 s89 Is89 Gs89 pcs89 => h_Kv ?_)
        have Fs89 := (Gs89.mono (B := kf_v_readPairX69) rfl).tr Fs84
        have es89_3 : s89 69 2 = σ 69 2 := (Gs89 69 2 rfl).trans es84_3
        rcases pcs89 with pcs89 | pcs89 | pcs89
        · refine h_istore_n (pc' := 50) (M := [(3, .int r88), (2, .int r83), (0, .ref 63), (1, .ref 69)]) rfl rfl rfl rfl ?_
          refine h_aload_n (pc' := 51) rfl rfl rfl ?_
          refine h_getI (pc' := 54) (v := s89 63 2) rfl rfl rfl rfl rfl rfl (fun z90 hz90 => ?_)
          have tz90 := tf_63_2 Is89
          refine h_zne (tg := 64) (pc' := 57) rfl rfl rfl hz90 (fun c91 => ?_) (fun c91 => absurd c91 (by omega))
          exact h_vret rfl rfl (kk _ Is89 Fs89 (Or.inl ⟨by omega, by omega⟩))
        · exfalso; omega
        · exfalso; omega
      · exfalso; omega
      · exfalso; omega
    · refine h_aload_n (pc' := 9) rfl rfl rfl ?_
      refine h_iconst (pc' := 10) (x := (Int32.ofInt 5)) rfl rfl rfl ?_
      refine h_call (sp := false) (pc' := 13) (M := [(0, .ref 63), (1, .int (Int32.ofInt 5))]) rfl rfl rfl rfl rfl rfl rfl rfl ?_
      refine v_takeNumber _ Is82 (Int32.ofInt 5) _ ci_5 (by omega) (fun r92 br92 hr92 s93 Is93 Gs93 pcs93 => h_Kv ?_)
      have Fs93 := (Gs93.mono (B := kf_v_readPairX69) rfl).tr Fs82
      have es93_3 : s93 69 2 = σ 69 2 := (Gs93 69 2 rfl).trans es82_3
      rcases pcs93 with pcs93 | pcs93 | pcs93
      · refine h_istore_n (pc' := 14) (M := [(2, .int r92), (0, .ref 63), (1, .ref 69)]) rfl rfl rfl rfl ?_
        refine h_aload_n (pc' := 15) rfl rfl rfl ?_
        refine h_call (sp := false) (pc' := 18) (M := [(0, .ref 63)]) rfl rfl rfl rfl rfl rfl rfl rfl ?_
        refine h_aload_n (pc' := 1) rfl rfl rfl ?_
        refine h_getI (pc' := 4) (v := s93 63 2) rfl rfl rfl rfl rfl rfl (fun z94 hz94 => ?_)
        have tz94 := tf_63_2 Is93
        refine h_zne (tg := 22) (pc' := 7) rfl rfl rfl hz94 (fun c95 => ?_) (fun c95 => absurd c95 (by omega))
        refine h_iconst (pc' := 23) (x := (Int32.ofInt 0)) rfl rfl rfl ?_
        refine h_zret rfl rfl ci_0 (by omega) (h_Kv ?_)
        refine h_zeq (tg := 44) (pc' := 21) rfl rfl rfl ci_0 (fun c96 => ?_) (fun c96 => absurd c96 (by omega))
        refine h_aload_n (pc' := 45) rfl rfl rfl ?_
        refine h_iconst (pc' := 46) (x := (Int32.ofInt 5)) rfl rfl rfl ?_
        refine h_call (sp := false) (pc' := 49) (M := [(0, .ref 63), (1, .int (Int32.ofInt 5))]) rfl rfl rfl rfl rfl rfl rfl rfl ?_
        refine v_takeNumber _ Is93 (Int32.ofInt 5) _ ci_5 (by omega) (fun r97 br97 hr97 s98 Is98 Gs98 pcs98 => h_Kv ?_)
        have Fs98 := (Gs98.mono (B := kf_v_readPairX69) rfl).tr Fs93
        have es98_3 : s98 69 2 = σ 69 2 := (Gs98 69 2 rfl).trans es93_3
        rcases pcs98 with pcs98 | pcs98 | pcs98
        · refine h_istore_n (pc' := 50) (M := [(3, .int r97), (2, .int r92), (0, .ref 63), (1, .ref 69)]) rfl rfl rfl rfl ?_
          refine h_aload_n (pc' := 51) rfl rfl rfl ?_
          refine h_getI (pc' := 54) (v := s98 63 2) rfl rfl rfl rfl rfl rfl (fun z99 hz99 => ?_)
          have tz99 := tf_63_2 Is98
          refine h_zne (tg := 64) (pc' := 57) rfl rfl rfl hz99 (fun c100 => ?_) (fun c100 => absurd c100 (by omega))
          exact h_vret rfl rfl (kk _ Is98 Fs98 (Or.inr (Or.inl ⟨by omega, by omega⟩)))
        · exfalso; omega
        · exfalso; omega
      · exfalso; omega
      · exfalso; omega
    · refine h_aload_n (pc' := 9) rfl rfl rfl ?_
      refine h_iconst (pc' := 10) (x := (Int32.ofInt 5)) rfl rfl rfl ?_
      refine h_call (sp := false) (pc' := 13) (M := [(0, .ref 63), (1, .int (Int32.ofInt 5))]) rfl rfl rfl rfl rfl rfl rfl rfl ?_
      refine v_takeNumber _ Is82 (Int32.ofInt 5) _ ci_5 (by omega) (fun r101 br101 hr101 s102 Is102 Gs102 pcs102 => h_Kv ?_)
      have Fs102 := (Gs102.mono (B := kf_v_readPairX69) rfl).tr Fs82
      have es102_3 : s102 69 2 = σ 69 2 := (Gs102 69 2 rfl).trans es82_3
      rcases pcs102 with pcs102 | pcs102 | pcs102
      · exfalso; omega
      · refine h_istore_n (pc' := 14) (M := [(2, .int r101), (0, .ref 63), (1, .ref 69)]) rfl rfl rfl rfl ?_
        refine h_aload_n (pc' := 15) rfl rfl rfl ?_
        refine h_call (sp := false) (pc' := 18) (M := [(0, .ref 63)]) rfl rfl rfl rfl rfl rfl rfl rfl ?_
        refine h_aload_n (pc' := 1) rfl rfl rfl ?_
        refine h_getI (pc' := 4) (v := s102 63 2) rfl rfl rfl rfl rfl rfl (fun z103 hz103 => ?_)
        have tz103 := tf_63_2 Is102
        refine h_zne (tg := 22) (pc' := 7) rfl rfl rfl hz103 (fun c104 => ?_) (fun c104 => absurd c104 (by omega))
        refine h_iconst (pc' := 23) (x := (Int32.ofInt 0)) rfl rfl rfl ?_
        refine h_zret rfl rfl ci_0 (by omega) (h_Kv ?_)
        refine h_zeq (tg := 44) (pc' := 21) rfl rfl rfl ci_0 (fun c105 => ?_) (fun c105 => absurd c105 (by omega))
        refine h_aload_n (pc' := 45) rfl rfl rfl ?_
        refine h_iconst (pc' := 46) (x := (Int32.ofInt 5)) rfl rfl rfl ?_
        refine h_call (sp := false) (pc' := 49) (M := [(0, .ref 63), (1, .int (Int32.ofInt 5))]) rfl rfl rfl rfl rfl rfl rfl rfl ?_
        refine v_takeNumber _ Is102 (Int32.ofInt 5) _ ci_5 (by omega) (fun r106 br106 hr106 s107 Is107 Gs107 pcs107 => h_Kv ?_)
        have Fs107 := (Gs107.mono (B := kf_v_readPairX69) rfl).tr Fs102
        have es107_3 : s107 69 2 = σ 69 2 := (Gs107 69 2 rfl).trans es102_3
        rcases pcs107 with pcs107 | pcs107 | pcs107
        · refine h_istore_n (pc' := 50) (M := [(3, .int r106), (2, .int r101), (0, .ref 63), (1, .ref 69)]) rfl rfl rfl rfl ?_
          refine h_aload_n (pc' := 51) rfl rfl rfl ?_
          refine h_getI (pc' := 54) (v := s107 63 2) rfl rfl rfl rfl rfl rfl (fun z108 hz108 => ?_)
          have tz108 := tf_63_2 Is107
          refine h_zne (tg := 64) (pc' := 57) rfl rfl rfl hz108 (fun c109 => ?_) (fun c109 => absurd c109 (by omega))
          exact h_vret rfl rfl (kk _ Is107 Fs107 (Or.inr (Or.inl ⟨by omega, by omega⟩)))
        · exfalso; omega
        · exfalso; omega
      · refine h_istore_n (pc' := 14) (M := [(2, .int r101), (0, .ref 63), (1, .ref 69)]) rfl rfl rfl rfl ?_
        refine h_aload_n (pc' := 15) rfl rfl rfl ?_
        refine h_call (sp := false) (pc' := 18) (M := [(0, .ref 63)]) rfl rfl rfl rfl rfl rfl rfl rfl ?_
        refine h_aload_n (pc' := 1) rfl rfl rfl ?_
        refine h_getI (pc' := 4) (v := s102 63 2) rfl rfl rfl rfl rfl rfl (fun z110 hz110 => ?_)
        have tz110 := tf_63_2 Is102
        refine h_zne (tg := 22) (pc' := 7) rfl rfl rfl hz110 (fun c111 => absurd c111 (by omega)) (fun c111 => ?_)
        refine h_aload_n (pc' := 8) rfl rfl rfl ?_
        refine h_getR (pc' := 11) rfl rfl rfl rfl rfl ?_
        refine h_getI (pc' := 14) (v := s102 64 3) rfl rfl rfl rfl rfl rfl (fun z112 hz112 => ?_)
        have tz112 := tf_64_3 Is102
        refine h_iconst (pc' := 15) (x := (Int32.ofInt 2)) rfl rfl rfl ?_
        refine h_cne (tg := 22) (pc' := 18) rfl rfl rfl hz112 ci_2 (fun c113 => ?_) (fun c113 => ?_)
        · refine h_iconst (pc' := 23) (x := (Int32.ofInt 0)) rfl rfl rfl ?_
          refine h_zret rfl rfl ci_0 (by omega) (h_Kv ?_)
          refine h_zeq (tg := 44) (pc' := 21) rfl rfl rfl ci_0 (fun c114 => ?_) (fun c114 => absurd c114 (by omega))
          refine h_aload_n (pc' := 45) rfl rfl rfl ?_
          refine h_iconst (pc' := 46) (x := (Int32.ofInt 5)) rfl rfl rfl ?_
          refine h_call (sp := false) (pc' := 49) (M := [(0, .ref 63), (1, .int (Int32.ofInt 5))]) rfl rfl rfl rfl rfl rfl rfl rfl ?_
          refine v_takeNumber _ Is102 (Int32.ofInt 5) _ ci_5 (by omega) (fun r115 br115 hr115 s116 Is116 Gs116 pcs116 => h_Kv ?_)
          have Fs116 := (Gs116.mono (B := kf_v_readPairX69) rfl).tr Fs102
          have es116_3 : s116 69 2 = σ 69 2 := (Gs116 69 2 rfl).trans es102_3
          rcases pcs116 with pcs116 | pcs116 | pcs116
          · exfalso; omega
          · refine h_istore_n (pc' := 50) (M := [(3, .int r115), (2, .int r101), (0, .ref 63), (1, .ref 69)]) rfl rfl rfl rfl ?_
            refine h_aload_n (pc' := 51) rfl rfl rfl ?_
            refine h_getI (pc' := 54) (v := s116 63 2) rfl rfl rfl rfl rfl rfl (fun z117 hz117 => ?_)
            have tz117 := tf_63_2 Is116
            refine h_zne (tg := 64) (pc' := 57) rfl rfl rfl hz117 (fun c118 => ?_) (fun c118 => absurd c118 (by omega))
            exact h_vret rfl rfl (kk _ Is116 Fs116 (Or.inr (Or.inl ⟨by omega, by omega⟩)))
          · refine h_istore_n (pc' := 50) (M := [(3, .int r115), (2, .int r101), (0, .ref 63), (1, .ref 69)]) rfl rfl rfl rfl ?_
            refine h_aload_n (pc' := 51) rfl rfl rfl ?_
            refine h_getI (pc' := 54) (v := s116 63 2) rfl rfl rfl rfl rfl rfl (fun z119 hz119 => ?_)
            have tz119 := tf_63_2 Is116
            refine h_zne (tg := 64) (pc' := 57) rfl rfl rfl hz119 (fun c120 => absurd c120 (by omega)) (fun c120 => ?_)
            refine h_aload_n (pc' := 58) rfl rfl rfl ?_
            refine h_iload_n (pc' := 59) rfl rfl rfl ?_
            refine h_iload_n (pc' := 60) rfl rfl rfl ?_
            refine h_call (sp := false) (pc' := 63) (M := [(0, .ref 69), (1, .int r101), (2, .int r115)]) rfl rfl rfl rfl rfl rfl rfl rfl ?_
            refine h_aload_n (pc' := 1) rfl rfl rfl ?_
            refine h_call (sp := false) (pc' := 4) (M := [(0, .ref 69)]) rfl rfl rfl rfl rfl rfl rfl rfl ?_
            refine h_aload_n (pc' := 1) rfl rfl rfl ?_
            refine h_getI (pc' := 4) (v := σ 69 2) rfl rfl rfl rfl rfl es116_3 (fun z121 hz121 => ?_)
            have tz121 := tf_69_2 hI
            refine h_iconst (pc' := 5) (x := (Int32.ofInt 3)) rfl rfl rfl ?_
            refine h_clt (tg := 12) (pc' := 8) rfl rfl rfl hz121 ci_3 (fun c122 => absurd c122 (by omega)) (fun c122 => ?_)
            refine h_iconst (pc' := 9) (x := (Int32.ofInt 1)) rfl rfl rfl ?_
            refine h_goto (pc' := 13) rfl rfl ?_
            refine h_zret rfl rfl ci_1 (by omega) (h_Kv ?_)
            refine h_zeq (tg := 9) (pc' := 7) rfl rfl rfl ci_1 (fun c123 => absurd c123 (by omega)) (fun c123 => ?_)
            refine h_iconst (pc' := 8) (x := (Int32.ofInt 0)) rfl rfl rfl ?_
            refine h_zret rfl rfl ci_0 (by omega) (h_Kv ?_)
            refine h_pop (pc' := 64) rfl rfl rfl ?_
            exact h_vret rfl rfl (kk _ Is116 Fs116 (Or.inr (Or.inr ⟨by omega, by omega, by omega⟩)))
        · refine h_iconst (pc' := 19) (x := (Int32.ofInt 1)) rfl rfl rfl ?_
          refine h_goto (pc' := 23) rfl rfl ?_
          refine h_zret rfl rfl ci_1 (by omega) (h_Kv ?_)
          refine h_zeq (tg := 44) (pc' := 21) rfl rfl rfl ci_1 (fun c124 => absurd c124 (by omega)) (fun c124 => ?_)
          refine h_aload_n (pc' := 22) rfl rfl rfl ?_
          refine h_getR (pc' := 25) rfl rfl rfl rfl rfl ?_
          refine h_getI (pc' := 28) (v := s102 64 5) rfl rfl rfl rfl rfl rfl (fun z125 hz125 => ?_)
          have tz125 := tf_64_5 Is102
          refine h_iload_n (pc' := 29) rfl rfl rfl ?_
          refine h_cne (tg := 44) (pc' := 32) rfl rfl rfl hz125 hr101 (fun c126 => ?_) (fun c126 => ?_)
          · refine h_aload_n (pc' := 45) rfl rfl rfl ?_
            refine h_iconst (pc' := 46) (x := (Int32.ofInt 5)) rfl rfl rfl ?_
            refine h_call (sp := false) (pc' := 49) (M := [(0, .ref 63), (1, .int (Int32.ofInt 5))]) rfl rfl rfl rfl rfl rfl rfl rfl ?_
            refine v_takeNumber _ Is102 (Int32.ofInt 5) _ ci_5 (by omega) (fun r127 br127 hr127 s128 Is128 Gs128 pcs128 => h_Kv ?_)
            have Fs128 := (Gs128.mono (B := kf_v_readPairX69) rfl).tr Fs102
            have es128_3 : s128 69 2 = σ 69 2 := (Gs128 69 2 rfl).trans es102_3
            rcases pcs128 with pcs128 | pcs128 | pcs128
            · exfalso; omega
            · refine h_istore_n (pc' := 50) (M := [(3, .int r127), (2, .int r101), (0, .ref 63), (1, .ref 69)]) rfl rfl rfl rfl ?_
              refine h_aload_n (pc' := 51) rfl rfl rfl ?_
              refine h_getI (pc' := 54) (v := s128 63 2) rfl rfl rfl rfl rfl rfl (fun z129 hz129 => ?_)
              have tz129 := tf_63_2 Is128
              refine h_zne (tg := 64) (pc' := 57) rfl rfl rfl hz129 (fun c130 => ?_) (fun c130 => absurd c130 (by omega))
              exact h_vret rfl rfl (kk _ Is128 Fs128 (Or.inr (Or.inl ⟨by omega, by omega⟩)))
            · refine h_istore_n (pc' := 50) (M := [(3, .int r127), (2, .int r101), (0, .ref 63), (1, .ref 69)]) rfl rfl rfl rfl ?_
              refine h_aload_n (pc' := 51) rfl rfl rfl ?_
              refine h_getI (pc' := 54) (v := s128 63 2) rfl rfl rfl rfl rfl rfl (fun z131 hz131 => ?_)
              have tz131 := tf_63_2 Is128
              refine h_zne (tg := 64) (pc' := 57) rfl rfl rfl hz131 (fun c132 => absurd c132 (by omega)) (fun c132 => ?_)
              refine h_aload_n (pc' := 58) rfl rfl rfl ?_
              refine h_iload_n (pc' := 59) rfl rfl rfl ?_
              refine h_iload_n (pc' := 60) rfl rfl rfl ?_
              refine h_call (sp := false) (pc' := 63) (M := [(0, .ref 69), (1, .int r101), (2, .int r127)]) rfl rfl rfl rfl rfl rfl rfl rfl ?_
              refine h_aload_n (pc' := 1) rfl rfl rfl ?_
              refine h_call (sp := false) (pc' := 4) (M := [(0, .ref 69)]) rfl rfl rfl rfl rfl rfl rfl rfl ?_
              refine h_aload_n (pc' := 1) rfl rfl rfl ?_
              refine h_getI (pc' := 4) (v := σ 69 2) rfl rfl rfl rfl rfl es128_3 (fun z133 hz133 => ?_)
              have tz133 := tf_69_2 hI
              refine h_iconst (pc' := 5) (x := (Int32.ofInt 3)) rfl rfl rfl ?_
              refine h_clt (tg := 12) (pc' := 8) rfl rfl rfl hz133 ci_3 (fun c134 => absurd c134 (by omega)) (fun c134 => ?_)
              refine h_iconst (pc' := 9) (x := (Int32.ofInt 1)) rfl rfl rfl ?_
              refine h_goto (pc' := 13) rfl rfl ?_
              refine h_zret rfl rfl ci_1 (by omega) (h_Kv ?_)
              refine h_zeq (tg := 9) (pc' := 7) rfl rfl rfl ci_1 (fun c135 => absurd c135 (by omega)) (fun c135 => ?_)
              refine h_iconst (pc' := 8) (x := (Int32.ofInt 0)) rfl rfl rfl ?_
              refine h_zret rfl rfl ci_0 (by omega) (h_Kv ?_)
              refine h_pop (pc' := 64) rfl rfl rfl ?_
              exact h_vret rfl rfl (kk _ Is128 Fs128 (Or.inr (Or.inr ⟨by omega, by omega, by omega⟩)))
          · refine h_aload_n (pc' := 33) rfl rfl rfl ?_
            refine h_iconst (pc' := 34) (x := (Int32.ofInt 3)) rfl rfl rfl ?_
            refine h_aload_n (pc' := 35) rfl rfl rfl ?_
            refine h_getR (pc' := 38) rfl rfl rfl rfl rfl ?_
            refine h_getI (pc' := 41) (v := s102 64 4) rfl rfl rfl rfl rfl rfl (fun z136 hz136 => ?_)
            have tz136 := tf_64_4 Is102
            refine h_call (sp := false) (pc' := 44) (M := [(0, .ref 63), (1, .int (Int32.ofInt 3)), (2, .int z136)]) rfl rfl rfl rfl rfl rfl rfl rfl ?_
            refine h_aload_n (pc' := 1) rfl rfl rfl ?_
            refine h_getI (pc' := 4) (v := s102 63 2) rfl rfl rfl rfl rfl rfl (fun z137 hz137 => ?_)
            have tz137 := tf_63_2 Is102
            refine h_zne (tg := 17) (pc' := 7) rfl rfl rfl hz137 (fun c138 => absurd c138 (by omega)) (fun c138 => ?_)
            refine h_aload_n (pc' := 8) rfl rfl rfl ?_
            refine h_iload_n (pc' := 9) rfl rfl rfl ?_
            refine h_put (pc' := 12) rfl rfl rfl rfl rfl rfl ci_3 rfl (h_fgt (E := fun s => s 63 2 = 3 ∧ s 64 3 = s102 64 3 ∧ s 64 5 = s102 64 5 ∧ s 69 2 = σ 69 2) _ (if_63_2 Is102 (by omega)) (Fs102.up rfl) ⟨rfl, rfl, rfl, es102_3⟩ (fun s139 Is139 Fs139 (es139 : s139 63 2 = 3 ∧ s139 64 3 = s102 64 3 ∧ s139 64 5 = s102 64 5 ∧ s139 69 2 = σ 69 2) => ?_))
            clear es102_3
            refine h_aload_n (pc' := 13) rfl rfl rfl ?_
            refine h_iload_n (pc' := 14) rfl rfl rfl ?_
            refine h_put (pc' := 17) rfl rfl rfl rfl rfl rfl hz136 rfl (h_fgt (E := fun s => s 63 2 = 3 ∧ s 64 3 = s102 64 3 ∧ s 64 5 = s102 64 5 ∧ s 69 2 = σ 69 2) _ (if_63_3 Is139 (h_rgv hz136)) (Fs139.up rfl) ⟨es139.1, es139.2.1, es139.2.2.1, es139.2.2.2⟩ (fun s140 Is140 Fs140 (es140 : s140 63 2 = 3 ∧ s140 64 3 = s102 64 3 ∧ s140 64 5 = s102 64 5 ∧ s140 69 2 = σ 69 2) => ?_))
            clear es139
            refine h_vret rfl rfl (h_Kn ?_)
            refine h_aload_n (pc' := 45) rfl rfl rfl ?_
            refine h_iconst (pc' := 46) (x := (Int32.ofInt 5)) rfl rfl rfl ?_
            refine h_call (sp := false) (pc' := 49) (M := [(0, .ref 63), (1, .int (Int32.ofInt 5))]) rfl rfl rfl rfl rfl rfl rfl rfl ?_
            refine v_takeNumber _ Is140 (Int32.ofInt 5) _ ci_5 (by omega) (fun r141 br141 hr141 s142 Is142 Gs142 pcs142 => h_Kv ?_)
            have Fs142 := (Gs142.mono (B := kf_v_readPairX69) rfl).tr Fs140
            have es142_3 : s142 69 2 = σ 69 2 := (Gs142 69 2 rfl).trans es140.2.2.2
            rcases pcs142 with pcs142 | pcs142 | pcs142
            · refine h_istore_n (pc' := 50) (M := [(3, .int r141), (2, .int r101), (0, .ref 63), (1, .ref 69)]) rfl rfl rfl rfl ?_
              refine h_aload_n (pc' := 51) rfl rfl rfl ?_
              refine h_getI (pc' := 54) (v := s142 63 2) rfl rfl rfl rfl rfl rfl (fun z143 hz143 => ?_)
              have tz143 := tf_63_2 Is142
              refine h_zne (tg := 64) (pc' := 57) rfl rfl rfl hz143 (fun c144 => ?_) (fun c144 => absurd c144 (by omega))
              exact h_vret rfl rfl (kk _ Is142 Fs142 (Or.inr (Or.inl ⟨by omega, by omega⟩)))
            · exfalso; omega
            · exfalso; omega
def kf_v_readPairX72 : List Nat := [64514, 64515, 65538, 65539, 65540, 65541, 73730, 75775, 76799]
set_option maxHeartbeats 100000000 in
theorem v_readPairX72 {ns : Nat} (σ : h_S) (hI : h_I σ) (pr0 : (¬ σ 63 2 = 0 ∨ ¬ σ 64 3 = 2 ∨ (0 ≤ σ 64 5 ∧ σ 64 5 ≤ 99))) {Q : Option Value → h_S → Prop} (kk : ∀ (τ : h_S), h_I τ → h_F (k_in kf_v_readPairX72) τ σ → (((1 ≤ σ 63 2 ∧ σ 63 2 ≤ 6) ∧ (1 ≤ τ 63 2 ∧ τ 63 2 ≤ 6)) ∨ ((σ 63 2 = 0) ∧ (1 ≤ τ 63 2 ∧ τ 63 2 ≤ 6)) ∨ ((σ 63 2 = 0) ∧ (τ 63 2 = 0) ∧ (¬ τ 64 3 = 2 ∨ (0 ≤ τ 64 5 ∧ τ 64 5 ≤ 99)))) → Q none τ) : h_T g_P (g_Y ns) 60 0 [(0, .ref 63), (1, .ref 72)] [] σ Q := by
  have F00 : h_F (k_in kf_v_readPairX72) σ σ := h_F.rf
  have ge0 := tf_63_2 hI
  refine h_aload_n (pc' := 1) rfl rfl rfl ?_
  refine h_aload_n (pc' := 2) rfl rfl rfl ?_
  refine h_call (sp := false) (pc' := 5) (M := [(0, .ref 72)]) rfl rfl rfl rfl rfl rfl rfl rfl ?_
  refine h_aload_n (pc' := 1) rfl rfl rfl ?_
  refine h_getI (pc' := 4) (v := σ 72 2) rfl rfl rfl rfl rfl rfl (fun z1 hz1 => ?_)
  have tz1 := tf_72_2 hI
  refine h_iconst (pc' := 5) (x := (Int32.ofInt 3)) rfl rfl rfl ?_
  refine h_clt (tg := 12) (pc' := 8) rfl rfl rfl hz1 ci_3 (fun c2 => ?_) (fun c2 => ?_)
  · refine h_iconst (pc' := 13) (x := (Int32.ofInt 0)) rfl rfl rfl ?_
    refine h_zret rfl rfl ci_0 (by omega) (h_Kv ?_)
    refine h_call (sp := false) (pc' := 8) (M := [(0, .ref 63), (1, .int (Int32.ofInt 0))]) rfl rfl rfl rfl rfl rfl rfl rfl ?_
    refine v_takeName _ hI (Int32.ofInt 0) _ ci_0 (by omega) (fun s4 Is4 Gs4 pcs4 => h_Kn ?_)
    have Fs4 := (Gs4.mono (B := kf_v_readPairX72) rfl).tr F00
    have es4_3 : s4 72 2 = σ 72 2 := (Gs4 72 2 rfl).trans rfl
    rcases pcs4 with pcs4 | pcs4 | pcs4
    · refine h_aload_n (pc' := 9) rfl rfl rfl ?_
      refine h_iconst (pc' := 10) (x := (Int32.ofInt 5)) rfl rfl rfl ?_
      refine h_call (sp := false) (pc' := 13) (M := [(0, .ref 63), (1, .int (Int32.ofInt 5))]) rfl rfl rfl rfl rfl rfl rfl rfl ?_
      refine v_takeNumber _ Is4 (Int32.ofInt 5) _ ci_5 (by omega) (fun r5 br5 hr5 s6 Is6 Gs6 pcs6 => h_Kv ?_)
      have Fs6 := (Gs6.mono (B := kf_v_readPairX72) rfl).tr Fs4
      have es6_3 : s6 72 2 = σ 72 2 := (Gs6 72 2 rfl).trans es4_3
      rcases pcs6 with pcs6 | pcs6 | pcs6
      · refine h_istore_n (pc' := 14) (M := [(2, .int r5), (0, .ref 63), (1, .ref 72)]) rfl rfl rfl rfl ?_
        refine h_aload_n (pc' := 15) rfl rfl rfl ?_
        refine h_call (sp := false) (pc' := 18) (M := [(0, .ref 63)]) rfl rfl rfl rfl rfl rfl rfl rfl ?_
        refine h_aload_n (pc' := 1) rfl rfl rfl ?_
        refine h_getI (pc' := 4) (v := s6 63 2) rfl rfl rfl rfl rfl rfl (fun z7 hz7 => ?_)
        have tz7 := tf_63_2 Is6
        refine h_zne (tg := 22) (pc' := 7) rfl rfl rfl hz7 (fun c8 => ?_) (fun c8 => absurd c8 (by omega))
        refine h_iconst (pc' := 23) (x := (Int32.ofInt 0)) rfl rfl rfl ?_
        refine h_zret rfl rfl ci_0 (by omega) (h_Kv ?_)
        refine h_zeq (tg := 44) (pc' := 21) rfl rfl rfl ci_0 (fun c9 => ?_) (fun c9 => absurd c9 (by omega))
        refine h_aload_n (pc' := 45) rfl rfl rfl ?_
        refine h_iconst (pc' := 46) (x := (Int32.ofInt 5)) rfl rfl rfl ?_
        refine h_call (sp := false) (pc' := 49) (M := [(0, .ref 63), (1, .int (Int32.ofInt 5))]) rfl rfl rfl rfl rfl rfl rfl rfl ?_
        refine v_takeNumber _ Is6 (Int32.ofInt 5) _ ci_5 (by omega) (fun r10 br10 hr10 s11 Is11 Gs11 pcs11 => h_Kv ?_)
        have Fs11 := (Gs11.mono (B := kf_v_readPairX72) rfl).tr Fs6
        have es11_3 : s11 72 2 = σ 72 2 := (Gs11 72 2 rfl).trans es6_3
        rcases pcs11 with pcs11 | pcs11 | pcs11
        · refine h_istore_n (pc' := 50) (M := [(3, .int r10), (2, .int r5), (0, .ref 63), (1, .ref 72)]) rfl rfl rfl rfl ?_
          refine h_aload_n (pc' := 51) rfl rfl rfl ?_
          refine h_getI (pc' := 54) (v := s11 63 2) rfl rfl rfl rfl rfl rfl (fun z12 hz12 => ?_)
          have tz12 := tf_63_2 Is11
          refine h_zne (tg := 64) (pc' := 57) rfl rfl rfl hz12 (fun c13 => ?_) (fun c13 => absurd c13 (by omega))
          exact h_vret rfl rfl (kk _ Is11 Fs11 (Or.inl ⟨by omega, by omega⟩))
        · exfalso; omega
        · exfalso; omega
      · exfalso; omega
      · exfalso; omega
    · refine h_aload_n (pc' := 9) rfl rfl rfl ?_
      refine h_iconst (pc' := 10) (x := (Int32.ofInt 5)) rfl rfl rfl ?_
      refine h_call (sp := false) (pc' := 13) (M := [(0, .ref 63), (1, .int (Int32.ofInt 5))]) rfl rfl rfl rfl rfl rfl rfl rfl ?_
      refine v_takeNumber _ Is4 (Int32.ofInt 5) _ ci_5 (by omega) (fun r14 br14 hr14 s15 Is15 Gs15 pcs15 => h_Kv ?_)
      have Fs15 := (Gs15.mono (B := kf_v_readPairX72) rfl).tr Fs4
      have es15_3 : s15 72 2 = σ 72 2 := (Gs15 72 2 rfl).trans es4_3
      rcases pcs15 with pcs15 | pcs15 | pcs15
      · refine h_istore_n (pc' := 14) (M := [(2, .int r14), (0, .ref 63), (1, .ref 72)]) rfl rfl rfl rfl ?_
        refine h_aload_n (pc' := 15) rfl rfl rfl ?_
        refine h_call (sp := false) (pc' := 18) (M := [(0, .ref 63)]) rfl rfl rfl rfl rfl rfl rfl rfl ?_
        refine h_aload_n (pc' := 1) rfl rfl rfl ?_
        refine h_getI (pc' := 4) (v := s15 63 2) rfl rfl rfl rfl rfl rfl (fun z16 hz16 => ?_)
        have tz16 := tf_63_2 Is15
        refine h_zne (tg := 22) (pc' := 7) rfl rfl rfl hz16 (fun c17 => ?_) (fun c17 => absurd c17 (by omega))
        refine h_iconst (pc' := 23) (x := (Int32.ofInt 0)) rfl rfl rfl ?_
        refine h_zret rfl rfl ci_0 (by omega) (h_Kv ?_)
        refine h_zeq (tg := 44) (pc' := 21) rfl rfl rfl ci_0 (fun c18 => ?_) (fun c18 => absurd c18 (by omega))
        refine h_aload_n (pc' := 45) rfl rfl rfl ?_
        refine h_iconst (pc' := 46) (x := (Int32.ofInt 5)) rfl rfl rfl ?_
        refine h_call (sp := false) (pc' := 49) (M := [(0, .ref 63), (1, .int (Int32.ofInt 5))]) rfl rfl rfl rfl rfl rfl rfl rfl ?_
        refine v_takeNumber _ Is15 (Int32.ofInt 5) _ ci_5 (by omega) (fun r19 br19 hr19 s20 Is20 Gs20 pcs20 => h_Kv ?_)
        have Fs20 := (Gs20.mono (B := kf_v_readPairX72) rfl).tr Fs15
        have es20_3 : s20 72 2 = σ 72 2 := (Gs20 72 2 rfl).trans es15_3
        rcases pcs20 with pcs20 | pcs20 | pcs20
        · refine h_istore_n (pc' := 50) (M := [(3, .int r19), (2, .int r14), (0, .ref 63), (1, .ref 72)]) rfl rfl rfl rfl ?_
          refine h_aload_n (pc' := 51) rfl rfl rfl ?_
          refine h_getI (pc' := 54) (v := s20 63 2) rfl rfl rfl rfl rfl rfl (fun z21 hz21 => ?_)
          have tz21 := tf_63_2 Is20
          refine h_zne (tg := 64) (pc' := 57) rfl rfl rfl hz21 (fun c22 => ?_) (fun c22 => absurd c22 (by omega))
          exact h_vret rfl rfl (kk _ Is20 Fs20 (Or.inr (Or.inl ⟨by omega, by omega⟩)))
        · exfalso; omega
        · exfalso; omega
      · exfalso; omega
      · exfalso; omega
    · refine h_aload_n (pc' := 9) rfl rfl rfl ?_
      refine h_iconst (pc' := 10) (x := (Int32.ofInt 5)) rfl rfl rfl ?_
      refine h_call (sp := false) (pc' := 13) (M := [(0, .ref 63), (1, .int (Int32.ofInt 5))]) rfl rfl rfl rfl rfl rfl rfl rfl ?_
      refine v_takeNumber _ Is4 (Int32.ofInt 5) _ ci_5 (by omega) (fun r23 br23 hr23 s24 Is24 Gs24 pcs24 => h_Kv ?_)
      have Fs24 := (Gs24.mono (B := kf_v_readPairX72) rfl).tr Fs4
      have es24_3 : s24 72 2 = σ 72 2 := (Gs24 72 2 rfl).trans es4_3
      rcases pcs24 with pcs24 | pcs24 | pcs24
      · exfalso; omega
      · refine h_istore_n (pc' := 14) (M := [(2, .int r23), (0, .ref 63), (1, .ref 72)]) rfl rfl rfl rfl ?_
        refine h_aload_n (pc' := 15) rfl rfl rfl ?_
        refine h_call (sp := false) (pc' := 18) (M := [(0, .ref 63)]) rfl rfl rfl rfl rfl rfl rfl rfl ?_
        refine h_aload_n (pc' := 1) rfl rfl rfl ?_
        refine h_getI (pc' := 4) (v := s24 63 2) rfl rfl rfl rfl rfl rfl (fun z25 hz25 => ?_)
        have tz25 := tf_63_2 Is24
        refine h_zne (tg := 22) (pc' := 7) rfl rfl rfl hz25 (fun c26 => ?_) (fun c26 => absurd c26 (by omega))
        refine h_iconst (pc' := 23) (x := (Int32.ofInt 0)) rfl rfl rfl ?_
        refine h_zret rfl rfl ci_0 (by omega) (h_Kv ?_)
        refine h_zeq (tg := 44) (pc' := 21) rfl rfl rfl ci_0 (fun c27 => ?_) (fun c27 => absurd c27 (by omega))
        refine h_aload_n (pc' := 45) rfl rfl rfl ?_
        refine h_iconst (pc' := 46) (x := (Int32.ofInt 5)) rfl rfl rfl ?_
        refine h_call (sp := false) (pc' := 49) (M := [(0, .ref 63), (1, .int (Int32.ofInt 5))]) rfl rfl rfl rfl rfl rfl rfl rfl ?_
        refine v_takeNumber _ Is24 (Int32.ofInt 5) _ ci_5 (by omega) (fun r28 br28 hr28 s29 Is29 Gs29 pcs29 => h_Kv ?_)
        have Fs29 := (Gs29.mono (B := kf_v_readPairX72) rfl).tr Fs24
        have es29_3 : s29 72 2 = σ 72 2 := (Gs29 72 2 rfl).trans es24_3
        rcases pcs29 with pcs29 | pcs29 | pcs29
        · refine h_istore_n (pc' := 50) (M := [(3, .int r28), (2, .int r23), (0, .ref 63), (1, .ref 72)]) rfl rfl rfl rfl ?_
          refine h_aload_n (pc' := 51) rfl rfl rfl ?_
          refine h_getI (pc' := 54) (v := s29 63 2) rfl rfl rfl rfl rfl rfl (fun z30 hz30 => ?_)
          have tz30 := tf_63_2 Is29
          refine h_zne (tg := 64) (pc' := 57) rfl rfl rfl hz30 (fun c31 => ?_) (fun c31 => absurd c31 (by omega))
          exact h_vret rfl rfl (kk _ Is29 Fs29 (Or.inr (Or.inl ⟨by omega, by omega⟩)))
        · exfalso; omega
        · exfalso; omega
      · refine h_istore_n (pc' := 14) (M := [(2, .int r23), (0, .ref 63), (1, .ref 72)]) rfl rfl rfl rfl ?_
        refine h_aload_n (pc' := 15) rfl rfl rfl ?_
        refine h_call (sp := false) (pc' := 18) (M := [(0, .ref 63)]) rfl rfl rfl rfl rfl rfl rfl rfl ?_
        refine h_aload_n (pc' := 1) rfl rfl rfl ?_
        refine h_getI (pc' := 4) (v := s24 63 2) rfl rfl rfl rfl rfl rfl (fun z32 hz32 => ?_)
        have tz32 := tf_63_2 Is24
        refine h_zne (tg := 22) (pc' := 7) rfl rfl rfl hz32 (fun c33 => absurd c33 (by omega)) (fun c33 => ?_)
        refine h_aload_n (pc' := 8) rfl rfl rfl ?_
        refine h_getR (pc' := 11) rfl rfl rfl rfl rfl ?_
        refine h_getI (pc' := 14) (v := s24 64 3) rfl rfl rfl rfl rfl rfl (fun z34 hz34 => ?_)
        have tz34 := tf_64_3 Is24
        refine h_iconst (pc' := 15) (x := (Int32.ofInt 2)) rfl rfl rfl ?_
        refine h_cne (tg := 22) (pc' := 18) rfl rfl rfl hz34 ci_2 (fun c35 => ?_) (fun c35 => ?_)
        · refine h_iconst (pc' := 23) (x := (Int32.ofInt 0)) rfl rfl rfl ?_
          refine h_zret rfl rfl ci_0 (by omega) (h_Kv ?_)
          refine h_zeq (tg := 44) (pc' := 21) rfl rfl rfl ci_0 (fun c36 => ?_) (fun c36 => absurd c36 (by omega))
          refine h_aload_n (pc' := 45) rfl rfl rfl ?_
          refine h_iconst (pc' := 46) (x := (Int32.ofInt 5)) rfl rfl rfl ?_
          refine h_call (sp := false) (pc' := 49) (M := [(0, .ref 63), (1, .int (Int32.ofInt 5))]) rfl rfl rfl rfl rfl rfl rfl rfl ?_
          refine v_takeNumber _ Is24 (Int32.ofInt 5) _ ci_5 (by omega) (fun r37 br37 hr37 s38 Is38 Gs38 pcs38 => h_Kv ?_)
          have Fs38 := (Gs38.mono (B := kf_v_readPairX72) rfl).tr Fs24
          have es38_3 : s38 72 2 = σ 72 2 := (Gs38 72 2 rfl).trans es24_3
          rcases pcs38 with pcs38 | pcs38 | pcs38
          · exfalso; omega
          · refine h_istore_n (pc' := 50) (M := [(3, .int r37), (2, .int r23), (0, .ref 63), (1, .ref 72)]) rfl rfl rfl rfl ?_
            refine h_aload_n (pc' := 51) rfl rfl rfl ?_
            refine h_getI (pc' := 54) (v := s38 63 2) rfl rfl rfl rfl rfl rfl (fun z39 hz39 => ?_)
            have tz39 := tf_63_2 Is38
            refine h_zne (tg := 64) (pc' := 57) rfl rfl rfl hz39 (fun c40 => ?_) (fun c40 => absurd c40 (by omega))
            exact h_vret rfl rfl (kk _ Is38 Fs38 (Or.inr (Or.inl ⟨by omega, by omega⟩)))
          · refine h_istore_n (pc' := 50) (M := [(3, .int r37), (2, .int r23), (0, .ref 63), (1, .ref 72)]) rfl rfl rfl rfl ?_
            refine h_aload_n (pc' := 51) rfl rfl rfl ?_
            refine h_getI (pc' := 54) (v := s38 63 2) rfl rfl rfl rfl rfl rfl (fun z41 hz41 => ?_)
            have tz41 := tf_63_2 Is38
            refine h_zne (tg := 64) (pc' := 57) rfl rfl rfl hz41 (fun c42 => absurd c42 (by omega)) (fun c42 => ?_)
            refine h_aload_n (pc' := 58) rfl rfl rfl ?_
            refine h_iload_n (pc' := 59) rfl rfl rfl ?_
            refine h_iload_n (pc' := 60) rfl rfl rfl ?_
            refine h_call (sp := false) (pc' := 63) (M := [(0, .ref 72), (1, .int r23), (2, .int r37)]) rfl rfl rfl rfl rfl rfl rfl rfl ?_
            refine h_aload_n (pc' := 1) rfl rfl rfl ?_
            refine h_call (sp := false) (pc' := 4) (M := [(0, .ref 72)]) rfl rfl rfl rfl rfl rfl rfl rfl ?_
            refine h_aload_n (pc' := 1) rfl rfl rfl ?_
            refine h_getI (pc' := 4) (v := σ 72 2) rfl rfl rfl rfl rfl es38_3 (fun z43 hz43 => ?_)
            have tz43 := tf_72_2 hI
            refine h_iconst (pc' := 5) (x := (Int32.ofInt 3)) rfl rfl rfl ?_
            refine h_clt (tg := 12) (pc' := 8) rfl rfl rfl hz43 ci_3 (fun c44 => ?_) (fun c44 => absurd c44 (by omega))
            refine h_iconst (pc' := 13) (x := (Int32.ofInt 0)) rfl rfl rfl ?_
            refine h_zret rfl rfl ci_0 (by omega) (h_Kv ?_)
            refine h_zeq (tg := 9) (pc' := 7) rfl rfl rfl ci_0 (fun c45 => ?_) (fun c45 => absurd c45 (by omega))
            refine h_aload_n (pc' := 10) rfl rfl rfl ?_
            refine h_getR (pc' := 13) rfl rfl rfl rfl rfl ?_
            refine h_aload_n (pc' := 14) rfl rfl rfl ?_
            refine h_getI (pc' := 17) (v := σ 72 2) rfl rfl rfl rfl rfl es38_3 (fun z46 hz46 => ?_)
            have tz46 := tf_72_2 hI
            refine h_iload_n (pc' := 18) rfl rfl rfl ?_
            refine h_iast (pc' := 19) rfl rfl rfl rfl hz46 (by omega) (by omega) hr23 (h_fgt (E := fun s => s 63 2 = s38 63 2 ∧ s 64 3 = s38 64 3 ∧ s 64 5 = s38 64 5 ∧ s 72 2 = σ 72 2) _ (in_73 Is38 (by omega)) (Fs38.up rfl) ⟨rfl, rfl, rfl, es38_3⟩ (fun s47 Is47 Fs47 (es47 : s47 63 2 = s38 63 2 ∧ s47 64 3 = s38 64 3 ∧ s47 64 5 = s38 64 5 ∧ s47 72 2 = σ 72 2) => ?_))
            clear es38_3
            refine h_aload_n (pc' := 20) rfl rfl rfl ?_
            refine h_getR (pc' := 23) rfl rfl rfl rfl rfl ?_
            refine h_aload_n (pc' := 24) rfl rfl rfl ?_
            refine h_getI (pc' := 27) (v := σ 72 2) rfl rfl rfl rfl rfl es47.2.2.2 (fun z48 hz48 => ?_)
            have tz48 := tf_72_2 hI
            refine h_iload_n (pc' := 28) rfl rfl rfl ?_
            refine h_iast (pc' := 29) rfl rfl rfl rfl hz48 (by omega) (by omega) hr37 (h_fgt (E := fun s => s 63 2 = s38 63 2 ∧ s 64 3 = s38 64 3 ∧ s 64 5 = s38 64 5 ∧ s 72 2 = σ 72 2) _ (in_74 Is47 (by omega)) (Fs47.up rfl) ⟨es47.1, es47.2.1, es47.2.2.1, es47.2.2.2⟩ (fun s49 Is49 Fs49 (es49 : s49 63 2 = s38 63 2 ∧ s49 64 3 = s38 64 3 ∧ s49 64 5 = s38 64 5 ∧ s49 72 2 = σ 72 2) => ?_))
            clear es47
            refine h_aload_n (pc' := 30) rfl rfl rfl ?_
            refine h_dup (pc' := 31) rfl rfl rfl ?_
            refine h_getI (pc' := 34) (v := σ 72 2) rfl rfl rfl rfl rfl es49.2.2.2 (fun z50 hz50 => ?_)
            have tz50 := tf_72_2 hI
            refine h_iconst (pc' := 35) (x := (Int32.ofInt 1)) rfl rfl rfl ?_
            refine h_iadd (pc' := 36) rfl rfl hz50 ci_1 rfl (by omega) (by omega) (fun z51 hz51 => ?_)
            refine h_put (pc' := 39) rfl rfl rfl rfl rfl rfl hz51 rfl (h_fgt (E := fun s => s 63 2 = s38 63 2 ∧ s 64 3 = s38 64 3 ∧ s 64 5 = s38 64 5 ∧ s 72 2 = ((σ 72 2) + 1)) _ (if_72_2 Is49 (by omega)) (Fs49.up rfl) ⟨es49.1, es49.2.1, es49.2.2.1, rfl⟩ (fun s52 Is52 Fs52 (es52 : s52 63 2 = s38 63 2 ∧ s52 64 3 = s38 64 3 ∧ s52 64 5 = s38 64 5 ∧ s52 72 2 = ((σ 72 2) + 1)) => ?_))
            clear es49
            refine h_iconst (pc' := 40) (x := (Int32.ofInt 1)) rfl rfl rfl ?_
            refine h_zret rfl rfl ci_1 (by omega) (h_Kv ?_)
            refine h_pop (pc' := 64) rfl rfl rfl ?_
            exact h_vret rfl rfl (kk _ Is52 Fs52 (Or.inr (Or.inr ⟨by omega, by omega, by omega⟩)))
        · refine h_iconst (pc' := 19) (x := (Int32.ofInt 1)) rfl rfl rfl ?_
          refine h_goto (pc' := 23) rfl rfl ?_
          refine h_zret rfl rfl ci_1 (by omega) (h_Kv ?_)
          refine h_zeq (tg := 44) (pc' := 21) rfl rfl rfl ci_1 (fun c53 => absurd c53 (by omega)) (fun c53 => ?_)
          refine h_aload_n (pc' := 22) rfl rfl rfl ?_
          refine h_getR (pc' := 25) rfl rfl rfl rfl rfl ?_
          refine h_getI (pc' := 28) (v := s24 64 5) rfl rfl rfl rfl rfl rfl (fun z54 hz54 => ?_)
          have tz54 := tf_64_5 Is24
          refine h_iload_n (pc' := 29) rfl rfl rfl ?_
          refine h_cne (tg := 44) (pc' := 32) rfl rfl rfl hz54 hr23 (fun c55 => ?_) (fun c55 => ?_)
          · refine h_aload_n (pc' := 45) rfl rfl rfl ?_
            refine h_iconst (pc' := 46) (x := (Int32.ofInt 5)) rfl rfl rfl ?_
            refine h_call (sp := false) (pc' := 49) (M := [(0, .ref 63), (1, .int (Int32.ofInt 5))]) rfl rfl rfl rfl rfl rfl rfl rfl ?_
            refine v_takeNumber _ Is24 (Int32.ofInt 5) _ ci_5 (by omega) (fun r56 br56 hr56 s57 Is57 Gs57 pcs57 => h_Kv ?_)
            have Fs57 := (Gs57.mono (B := kf_v_readPairX72) rfl).tr Fs24
            have es57_3 : s57 72 2 = σ 72 2 := (Gs57 72 2 rfl).trans es24_3
            rcases pcs57 with pcs57 | pcs57 | pcs57
            · exfalso; omega
            · refine h_istore_n (pc' := 50) (M := [(3, .int r56), (2, .int r23), (0, .ref 63), (1, .ref 72)]) rfl rfl rfl rfl ?_
              refine h_aload_n (pc' := 51) rfl rfl rfl ?_
              refine h_getI (pc' := 54) (v := s57 63 2) rfl rfl rfl rfl rfl rfl (fun z58 hz58 => ?_)
              have tz58 := tf_63_2 Is57
              refine h_zne (tg := 64) (pc' := 57) rfl rfl rfl hz58 (fun c59 => ?_) (fun c59 => absurd c59 (by omega))
              exact h_vret rfl rfl (kk _ Is57 Fs57 (Or.inr (Or.inl ⟨by omega, by omega⟩)))
            · refine h_istore_n (pc' := 50) (M := [(3, .int r56), (2, .int r23), (0, .ref 63), (1, .ref 72)]) rfl rfl rfl rfl ?_
              refine h_aload_n (pc' := 51) rfl rfl rfl ?_
              refine h_getI (pc' := 54) (v := s57 63 2) rfl rfl rfl rfl rfl rfl (fun z60 hz60 => ?_)
              have tz60 := tf_63_2 Is57
              refine h_zne (tg := 64) (pc' := 57) rfl rfl rfl hz60 (fun c61 => absurd c61 (by omega)) (fun c61 => ?_)
              refine h_aload_n (pc' := 58) rfl rfl rfl ?_
              refine h_iload_n (pc' := 59) rfl rfl rfl ?_
              refine h_iload_n (pc' := 60) rfl rfl rfl ?_
              refine h_call (sp := false) (pc' := 63) (M := [(0, .ref 72), (1, .int r23), (2, .int r56)]) rfl rfl rfl rfl rfl rfl rfl rfl ?_
              refine h_aload_n (pc' := 1) rfl rfl rfl ?_
              refine h_call (sp := false) (pc' := 4) (M := [(0, .ref 72)]) rfl rfl rfl rfl rfl rfl rfl rfl ?_
              refine h_aload_n (pc' := 1) rfl rfl rfl ?_
              refine h_getI (pc' := 4) (v := σ 72 2) rfl rfl rfl rfl rfl es57_3 (fun z62 hz62 => ?_)
              have tz62 := tf_72_2 hI
              refine h_iconst (pc' := 5) (x := (Int32.ofInt 3)) rfl rfl rfl ?_
              refine h_clt (tg := 12) (pc' := 8) rfl rfl rfl hz62 ci_3 (fun c63 => ?_) (fun c63 => absurd c63 (by omega))
              refine h_iconst (pc' := 13) (x := (Int32.ofInt 0)) rfl rfl rfl ?_
              refine h_zret rfl rfl ci_0 (by omega) (h_Kv ?_)
              refine h_zeq (tg := 9) (pc' := 7) rfl rfl rfl ci_0 (fun c64 => ?_) (fun c64 => absurd c64 (by omega))
              refine h_aload_n (pc' := 10) rfl rfl rfl ?_
              refine h_getR (pc' := 13) rfl rfl rfl rfl rfl ?_
              refine h_aload_n (pc' := 14) rfl rfl rfl ?_
              refine h_getI (pc' := 17) (v := σ 72 2) rfl rfl rfl rfl rfl es57_3 (fun z65 hz65 => ?_)
              have tz65 := tf_72_2 hI
              refine h_iload_n (pc' := 18) rfl rfl rfl ?_
              refine h_iast (pc' := 19) rfl rfl rfl rfl hz65 (by omega) (by omega) hr23 (h_fgt (E := fun s => s 63 2 = s57 63 2 ∧ s 64 3 = s57 64 3 ∧ s 64 5 = s57 64 5 ∧ s 72 2 = σ 72 2) _ (in_73 Is57 (by omega)) (Fs57.up rfl) ⟨rfl, rfl, rfl, es57_3⟩ (fun s66 Is66 Fs66 (es66 : s66 63 2 = s57 63 2 ∧ s66 64 3 = s57 64 3 ∧ s66 64 5 = s57 64 5 ∧ s66 72 2 = σ 72 2) => ?_))
              clear es57_3
              refine h_aload_n (pc' := 20) rfl rfl rfl ?_
              refine h_getR (pc' := 23) rfl rfl rfl rfl rfl ?_
              refine h_aload_n (pc' := 24) rfl rfl rfl ?_
              refine h_getI (pc' := 27) (v := σ 72 2) rfl rfl rfl rfl rfl es66.2.2.2 (fun z67 hz67 => ?_)
              have tz67 := tf_72_2 hI
              refine h_iload_n (pc' := 28) rfl rfl rfl ?_
              refine h_iast (pc' := 29) rfl rfl rfl rfl hz67 (by omega) (by omega) hr56 (h_fgt (E := fun s => s 63 2 = s57 63 2 ∧ s 64 3 = s57 64 3 ∧ s 64 5 = s57 64 5 ∧ s 72 2 = σ 72 2) _ (in_74 Is66 (by omega)) (Fs66.up rfl) ⟨es66.1, es66.2.1, es66.2.2.1, es66.2.2.2⟩ (fun s68 Is68 Fs68 (es68 : s68 63 2 = s57 63 2 ∧ s68 64 3 = s57 64 3 ∧ s68 64 5 = s57 64 5 ∧ s68 72 2 = σ 72 2) => ?_))
              clear es66
              refine h_aload_n (pc' := 30) rfl rfl rfl ?_
              refine h_dup (pc' := 31) rfl rfl rfl ?_
              refine h_getI (pc' := 34) (v := σ 72 2) rfl rfl rfl rfl rfl es68.2.2.2 (fun z69 hz69 => ?_)
              have tz69 := tf_72_2 hI
              refine h_iconst (pc' := 35) (x := (Int32.ofInt 1)) rfl rfl rfl ?_
              refine h_iadd (pc' := 36) rfl rfl hz69 ci_1 rfl (by omega) (by omega) (fun z70 hz70 => ?_)
              refine h_put (pc' := 39) rfl rfl rfl rfl rfl rfl hz70 rfl (h_fgt (E := fun s => s 63 2 = s57 63 2 ∧ s 64 3 = s57 64 3 ∧ s 64 5 = s57 64 5 ∧ s 72 2 = ((σ 72 2) + 1)) _ (if_72_2 Is68 (by omega)) (Fs68.up rfl) ⟨es68.1, es68.2.1, es68.2.2.1, rfl⟩ (fun s71 Is71 Fs71 (es71 : s71 63 2 = s57 63 2 ∧ s71 64 3 = s57 64 3 ∧ s71 64 5 = s57 64 5 ∧ s71 72 2 = ((σ 72 2) + 1)) => ?_))
              clear es68
              refine h_iconst (pc' := 40) (x := (Int32.ofInt 1)) rfl rfl rfl ?_
              refine h_zret rfl rfl ci_1 (by omega) (h_Kv ?_)
              refine h_pop (pc' := 64) rfl rfl rfl ?_
              exact h_vret rfl rfl (kk _ Is71 Fs71 (Or.inr (Or.inr ⟨by omega, by omega, by omega⟩)))
          · refine h_aload_n (pc' := 33) rfl rfl rfl ?_
            refine h_iconst (pc' := 34) (x := (Int32.ofInt 3)) rfl rfl rfl ?_
            refine h_aload_n (pc' := 35) rfl rfl rfl ?_
            refine h_getR (pc' := 38) rfl rfl rfl rfl rfl ?_
            refine h_getI (pc' := 41) (v := s24 64 4) rfl rfl rfl rfl rfl rfl (fun z72 hz72 => ?_)
            have tz72 := tf_64_4 Is24
            refine h_call (sp := false) (pc' := 44) (M := [(0, .ref 63), (1, .int (Int32.ofInt 3)), (2, .int z72)]) rfl rfl rfl rfl rfl rfl rfl rfl ?_
            refine h_aload_n (pc' := 1) rfl rfl rfl ?_
            refine h_getI (pc' := 4) (v := s24 63 2) rfl rfl rfl rfl rfl rfl (fun z73 hz73 => ?_)
            have tz73 := tf_63_2 Is24
            refine h_zne (tg := 17) (pc' := 7) rfl rfl rfl hz73 (fun c74 => absurd c74 (by omega)) (fun c74 => ?_)
            refine h_aload_n (pc' := 8) rfl rfl rfl ?_
            refine h_iload_n (pc' := 9) rfl rfl rfl ?_
            refine h_put (pc' := 12) rfl rfl rfl rfl rfl rfl ci_3 rfl (h_fgt (E := fun s => s 63 2 = 3 ∧ s 64 3 = s24 64 3 ∧ s 64 5 = s24 64 5 ∧ s 72 2 = σ 72 2) _ (if_63_2 Is24 (by omega)) (Fs24.up rfl) ⟨rfl, rfl, rfl, es24_3⟩ (fun s75 Is75 Fs75 (es75 : s75 63 2 = 3 ∧ s75 64 3 = s24 64 3 ∧ s75 64 5 = s24 64 5 ∧ s75 72 2 = σ 72 2) => ?_))
            clear es24_3
            refine h_aload_n (pc' := 13) rfl rfl rfl ?_
            refine h_iload_n (pc' := 14) rfl rfl rfl ?_
            refine h_put (pc' := 17) rfl rfl rfl rfl rfl rfl hz72 rfl (h_fgt (E := fun s => s 63 2 = 3 ∧ s 64 3 = s24 64 3 ∧ s 64 5 = s24 64 5 ∧ s 72 2 = σ 72 2) _ (if_63_3 Is75 (h_rgv hz72)) (Fs75.up rfl) ⟨es75.1, es75.2.1, es75.2.2.1, es75.2.2.2⟩ (fun s76 Is76 Fs76 (es76 : s76 63 2 = 3 ∧ s76 64 3 = s24 64 3 ∧ s76 64 5 = s24 64 5 ∧ s76 72 2 = σ 72 2) => ?_))
            clear es75
            refine h_vret rfl rfl (h_Kn ?_)
            refine h_aload_n (pc' := 45) rfl rfl rfl ?_
            refine h_iconst (pc' := 46) (x := (Int32.ofInt 5)) rfl rfl rfl ?_
            refine h_call (sp := false) (pc' := 49) (M := [(0, .ref 63), (1, .int (Int32.ofInt 5))]) rfl rfl rfl rfl rfl rfl rfl rfl ?_
            refine v_takeNumber _ Is76 (Int32.ofInt 5) _ ci_5 (by omega) (fun r77 br77 hr77 s78 Is78 Gs78 pcs78 => h_Kv ?_)
            have Fs78 := (Gs78.mono (B := kf_v_readPairX72) rfl).tr Fs76
            have es78_3 : s78 72 2 = σ 72 2 := (Gs78 72 2 rfl).trans es76.2.2.2
            rcases pcs78 with pcs78 | pcs78 | pcs78
            · refine h_istore_n (pc' := 50) (M := [(3, .int r77), (2, .int r23), (0, .ref 63), (1, .ref 72)]) rfl rfl rfl rfl ?_
              refine h_aload_n (pc' := 51) rfl rfl rfl ?_
              refine h_getI (pc' := 54) (v := s78 63 2) rfl rfl rfl rfl rfl rfl (fun z79 hz79 => ?_)
              have tz79 := tf_63_2 Is78
              refine h_zne (tg := 64) (pc' := 57) rfl rfl rfl hz79 (fun c80 => ?_) (fun c80 => absurd c80 (by omega))
              exact h_vret rfl rfl (kk _ Is78 Fs78 (Or.inr (Or.inl ⟨by omega, by omega⟩)))
            · exfalso; omega
            · exfalso; omega
  · refine h_iconst (pc' := 9) (x := (Int32.ofInt 1)) rfl rfl rfl ?_
    refine h_goto (pc' := 13) rfl rfl ?_
    refine h_zret rfl rfl ci_1 (by omega) (h_Kv ?_)
    refine h_call (sp := false) (pc' := 8) (M := [(0, .ref 63), (1, .int (Int32.ofInt 1))]) rfl rfl rfl rfl rfl rfl rfl rfl ?_
    refine v_takeName _ hI (Int32.ofInt 1) _ ci_1 (by omega) (fun s82 Is82 Gs82 pcs82 => h_Kn ?_)
    have Fs82 := (Gs82.mono (B := kf_v_readPairX72) rfl).tr F00
    have es82_3 : s82 72 2 = σ 72 2 := (Gs82 72 2 rfl).trans rfl
    rcases pcs82 with pcs82 | pcs82 | pcs82
    · refine h_aload_n (pc' := 9) rfl rfl rfl ?_
      refine h_iconst (pc' := 10) (x := (Int32.ofInt 5)) rfl rfl rfl ?_
      refine h_call (sp := false) (pc' := 13) (M := [(0, .ref 63), (1, .int (Int32.ofInt 5))]) rfl rfl rfl rfl rfl rfl rfl rfl ?_
      refine v_takeNumber _ Is82 (Int32.ofInt 5) _ ci_5 (by omega) (fun r83 br83 hr83 s84 Is84 Gs84 pcs84 => h_Kv ?_)
      have Fs84 := (Gs84.mono (B := kf_v_readPairX72) rfl).tr Fs82
      have es84_3 : s84 72 2 = σ 72 2 := (Gs84 72 2 rfl).trans es82_3
      rcases pcs84 with pcs84 | pcs84 | pcs84
      · refine h_istore_n (pc' := 14) (M := [(2, .int r83), (0, .ref 63), (1, .ref 72)]) rfl rfl rfl rfl ?_
        refine h_aload_n (pc' := 15) rfl rfl rfl ?_
        refine h_call (sp := false) (pc' := 18) (M := [(0, .ref 63)]) rfl rfl rfl rfl rfl rfl rfl rfl ?_
        refine h_aload_n (pc' := 1) rfl rfl rfl ?_
        refine h_getI (pc' := 4) (v := s84 63 2) rfl rfl rfl rfl rfl rfl (fun z85 hz85 => ?_)
        have tz85 := tf_63_2 Is84
        refine h_zne (tg := 22) (pc' := 7) rfl rfl rfl hz85 (fun c86 => ?_) (fun c86 => absurd c86 (by omega))
        refine h_iconst (pc' := 23) (x := (Int32.ofInt 0)) rfl rfl rfl ?_
        refine h_zret rfl rfl ci_0 (by omega) (h_Kv ?_)
        refine h_zeq (tg := 44) (pc' := 21) rfl rfl rfl ci_0 (fun c87 => ?_) (fun c87 => absurd c87 (by omega))
        refine h_aload_n (pc' := 45) rfl rfl rfl ?_
        refine h_iconst (pc' := 46) (x := (Int32.ofInt 5)) rfl rfl rfl ?_
        refine h_call (sp := false) (pc' := 49) (M := [(0, .ref 63), (1, .int (Int32.ofInt 5))]) rfl rfl rfl rfl rfl rfl rfl rfl ?_
        refine v_takeNumber _ Is84 (Int32.ofInt 5) _ ci_5 (by omega) (fun r88 br88 hr88 s89 Is89 Gs89 pcs89 => h_Kv ?_)
        have Fs89 := (Gs89.mono (B := kf_v_readPairX72) rfl).tr Fs84
        have es89_3 : s89 72 2 = σ 72 2 := (Gs89 72 2 rfl).trans es84_3
        rcases pcs89 with pcs89 | pcs89 | pcs89
        · refine h_istore_n (pc' := 50) (M := [(3, .int r88), (2, .int r83), (0, .ref 63), (1, .ref 72)]) rfl rfl rfl rfl ?_
          refine h_aload_n (pc' := 51) rfl rfl rfl ?_
          refine h_getI (pc' := 54) (v := s89 63 2) rfl rfl rfl rfl rfl rfl (fun z90 hz90 => ?_)
          have tz90 := tf_63_2 Is89
          refine h_zne (tg := 64) (pc' := 57) rfl rfl rfl hz90 (fun c91 => ?_) (fun c91 => absurd c91 (by omega))
          exact h_vret rfl rfl (kk _ Is89 Fs89 (Or.inl ⟨by omega, by omega⟩))
        · exfalso; omega
        · exfalso; omega
      · exfalso; omega
      · exfalso; omega
    · refine h_aload_n (pc' := 9) rfl rfl rfl ?_
      refine h_iconst (pc' := 10) (x := (Int32.ofInt 5)) rfl rfl rfl ?_
      refine h_call (sp := false) (pc' := 13) (M := [(0, .ref 63), (1, .int (Int32.ofInt 5))]) rfl rfl rfl rfl rfl rfl rfl rfl ?_
      refine v_takeNumber _ Is82 (Int32.ofInt 5) _ ci_5 (by omega) (fun r92 br92 hr92 s93 Is93 Gs93 pcs93 => h_Kv ?_)
      have Fs93 := (Gs93.mono (B := kf_v_readPairX72) rfl).tr Fs82
      have es93_3 : s93 72 2 = σ 72 2 := (Gs93 72 2 rfl).trans es82_3
      rcases pcs93 with pcs93 | pcs93 | pcs93
      · refine h_istore_n (pc' := 14) (M := [(2, .int r92), (0, .ref 63), (1, .ref 72)]) rfl rfl rfl rfl ?_
        refine h_aload_n (pc' := 15) rfl rfl rfl ?_
        refine h_call (sp := false) (pc' := 18) (M := [(0, .ref 63)]) rfl rfl rfl rfl rfl rfl rfl rfl ?_
        refine h_aload_n (pc' := 1) rfl rfl rfl ?_
        refine h_getI (pc' := 4) (v := s93 63 2) rfl rfl rfl rfl rfl rfl (fun z94 hz94 => ?_)
        have tz94 := tf_63_2 Is93
        refine h_zne (tg := 22) (pc' := 7) rfl rfl rfl hz94 (fun c95 => ?_) (fun c95 => absurd c95 (by omega))
        refine h_iconst (pc' := 23) (x := (Int32.ofInt 0)) rfl rfl rfl ?_
        refine h_zret rfl rfl ci_0 (by omega) (h_Kv ?_)
        refine h_zeq (tg := 44) (pc' := 21) rfl rfl rfl ci_0 (fun c96 => ?_) (fun c96 => absurd c96 (by omega))
        refine h_aload_n (pc' := 45) rfl rfl rfl ?_
        refine h_iconst (pc' := 46) (x := (Int32.ofInt 5)) rfl rfl rfl ?_
        refine h_call (sp := false) (pc' := 49) (M := [(0, .ref 63), (1, .int (Int32.ofInt 5))]) rfl rfl rfl rfl rfl rfl rfl rfl ?_
        refine v_takeNumber _ Is93 (Int32.ofInt 5) _ ci_5 (by omega) (fun r97 br97 hr97 s98 Is98 Gs98 pcs98 => h_Kv ?_)
        have Fs98 := (Gs98.mono (B := kf_v_readPairX72) rfl).tr Fs93
        have es98_3 : s98 72 2 = σ 72 2 := (Gs98 72 2 rfl).trans es93_3
        rcases pcs98 with pcs98 | pcs98 | pcs98
        · refine h_istore_n (pc' := 50) (M := [(3, .int r97), (2, .int r92), (0, .ref 63), (1, .ref 72)]) rfl rfl rfl rfl ?_
          refine h_aload_n (pc' := 51) rfl rfl rfl ?_
          refine h_getI (pc' := 54) (v := s98 63 2) rfl rfl rfl rfl rfl rfl (fun z99 hz99 => ?_)
          have tz99 := tf_63_2 Is98
          refine h_zne (tg := 64) (pc' := 57) rfl rfl rfl hz99 (fun c100 => ?_) (fun c100 => absurd c100 (by omega))
          exact h_vret rfl rfl (kk _ Is98 Fs98 (Or.inr (Or.inl ⟨by omega, by omega⟩)))
        · exfalso; omega
        · exfalso; omega
      · exfalso; omega
      · exfalso; omega
    · refine h_aload_n (pc' := 9) rfl rfl rfl ?_
      refine h_iconst (pc' := 10) (x := (Int32.ofInt 5)) rfl rfl rfl ?_
      refine h_call (sp := false) (pc' := 13) (M := [(0, .ref 63), (1, .int (Int32.ofInt 5))]) rfl rfl rfl rfl rfl rfl rfl rfl ?_
      refine v_takeNumber _ Is82 (Int32.ofInt 5) _ ci_5 (by omega) (fun r101 br101 hr101 s102 Is102 Gs102 pcs102 => h_Kv ?_)
      have Fs102 := (Gs102.mono (B := kf_v_readPairX72) rfl).tr Fs82
      have es102_3 : s102 72 2 = σ 72 2 := (Gs102 72 2 rfl).trans es82_3
      rcases pcs102 with pcs102 | pcs102 | pcs102
      · exfalso; omega
      · refine h_istore_n (pc' := 14) (M := [(2, .int r101), (0, .ref 63), (1, .ref 72)]) rfl rfl rfl rfl ?_
        refine h_aload_n (pc' := 15) rfl rfl rfl ?_
        refine h_call (sp := false) (pc' := 18) (M := [(0, .ref 63)]) rfl rfl rfl rfl rfl rfl rfl rfl ?_
        refine h_aload_n (pc' := 1) rfl rfl rfl ?_
        refine h_getI (pc' := 4) (v := s102 63 2) rfl rfl rfl rfl rfl rfl (fun z103 hz103 => ?_)
        have tz103 := tf_63_2 Is102
        refine h_zne (tg := 22) (pc' := 7) rfl rfl rfl hz103 (fun c104 => ?_) (fun c104 => absurd c104 (by omega))
        refine h_iconst (pc' := 23) (x := (Int32.ofInt 0)) rfl rfl rfl ?_
        refine h_zret rfl rfl ci_0 (by omega) (h_Kv ?_)
        refine h_zeq (tg := 44) (pc' := 21) rfl rfl rfl ci_0 (fun c105 => ?_) (fun c105 => absurd c105 (by omega))
        refine h_aload_n (pc' := 45) rfl rfl rfl ?_
        refine h_iconst (pc' := 46) (x := (Int32.ofInt 5)) rfl rfl rfl ?_
        refine h_call (sp := false) (pc' := 49) (M := [(0, .ref 63), (1, .int (Int32.ofInt 5))]) rfl rfl rfl rfl rfl rfl rfl rfl ?_
        refine v_takeNumber _ Is102 (Int32.ofInt 5) _ ci_5 (by omega) (fun r106 br106 hr106 s107 Is107 Gs107 pcs107 => h_Kv ?_)
        have Fs107 := (Gs107.mono (B := kf_v_readPairX72) rfl).tr Fs102
        have es107_3 : s107 72 2 = σ 72 2 := (Gs107 72 2 rfl).trans es102_3
        rcases pcs107 with pcs107 | pcs107 | pcs107
        · refine h_istore_n (pc' := 50) (M := [(3, .int r106), (2, .int r101), (0, .ref 63), (1, .ref 72)]) rfl rfl rfl rfl ?_
          refine h_aload_n (pc' := 51) rfl rfl rfl ?_
          refine h_getI (pc' := 54) (v := s107 63 2) rfl rfl rfl rfl rfl rfl (fun z108 hz108 => ?_)
          have tz108 := tf_63_2 Is107
          refine h_zne (tg := 64) (pc' := 57) rfl rfl rfl hz108 (fun c109 => ?_) (fun c109 => absurd c109 (by omega))
          exact h_vret rfl rfl (kk _ Is107 Fs107 (Or.inr (Or.inl ⟨by omega, by omega⟩)))
        · exfalso; omega
        · exfalso; omega
      · refine h_istore_n (pc' := 14) (M := [(2, .int r101), (0, .ref 63), (1, .ref 72)]) rfl rfl rfl rfl ?_
        refine h_aload_n (pc' := 15) rfl rfl rfl ?_
        refine h_call (sp := false) (pc' := 18) (M := [(0, .ref 63)]) rfl rfl rfl rfl rfl rfl rfl rfl ?_
        refine h_aload_n (pc' := 1) rfl rfl rfl ?_
        refine h_getI (pc' := 4) (v := s102 63 2) rfl rfl rfl rfl rfl rfl (fun z110 hz110 => ?_)
        have tz110 := tf_63_2 Is102
        refine h_zne (tg := 22) (pc' := 7) rfl rfl rfl hz110 (fun c111 => absurd c111 (by omega)) (fun c111 => ?_)
        refine h_aload_n (pc' := 8) rfl rfl rfl ?_
        refine h_getR (pc' := 11) rfl rfl rfl rfl rfl ?_
        refine h_getI (pc' := 14) (v := s102 64 3) rfl rfl rfl rfl rfl rfl (fun z112 hz112 => ?_)
        have tz112 := tf_64_3 Is102
        refine h_iconst (pc' := 15) (x := (Int32.ofInt 2)) rfl rfl rfl ?_
        refine h_cne (tg := 22) (pc' := 18) rfl rfl rfl hz112 ci_2 (fun c113 => ?_) (fun c113 => ?_)
        · refine h_iconst (pc' := 23) (x := (Int32.ofInt 0)) rfl rfl rfl ?_
          refine h_zret rfl rfl ci_0 (by omega) (h_Kv ?_)
          refine h_zeq (tg := 44) (pc' := 21) rfl rfl rfl ci_0 (fun c114 => ?_) (fun c114 => absurd c114 (by omega))
          refine h_aload_n (pc' := 45) rfl rfl rfl ?_
          refine h_iconst (pc' := 46) (x := (Int32.ofInt 5)) rfl rfl rfl ?_
          refine h_call (sp := false) (pc' := 49) (M := [(0, .ref 63), (1, .int (Int32.ofInt 5))]) rfl rfl rfl rfl rfl rfl rfl rfl ?_
          refine v_takeNumber _ Is102 (Int32.ofInt 5) _ ci_5 (by omega) (fun r115 br115 hr115 s116 Is116 Gs116 pcs116 => h_Kv ?_)
          have Fs116 := (Gs116.mono (B := kf_v_readPairX72) rfl).tr Fs102
          have es116_3 : s116 72 2 = σ 72 2 := (Gs116 72 2 rfl).trans es102_3
          rcases pcs116 with pcs116 | pcs116 | pcs116
          · exfalso; omega
          · refine h_istore_n (pc' := 50) (M := [(3, .int r115), (2, .int r101), (0, .ref 63), (1, .ref 72)]) rfl rfl rfl rfl ?_
            refine h_aload_n (pc' := 51) rfl rfl rfl ?_
            refine h_getI (pc' := 54) (v := s116 63 2) rfl rfl rfl rfl rfl rfl (fun z117 hz117 => ?_)
            have tz117 := tf_63_2 Is116
            refine h_zne (tg := 64) (pc' := 57) rfl rfl rfl hz117 (fun c118 => ?_) (fun c118 => absurd c118 (by omega))
            exact h_vret rfl rfl (kk _ Is116 Fs116 (Or.inr (Or.inl ⟨by omega, by omega⟩)))
          · refine h_istore_n (pc' := 50) (M := [(3, .int r115), (2, .int r101), (0, .ref 63), (1, .ref 72)]) rfl rfl rfl rfl ?_
            refine h_aload_n (pc' := 51) rfl rfl rfl ?_
            refine h_getI (pc' := 54) (v := s116 63 2) rfl rfl rfl rfl rfl rfl (fun z119 hz119 => ?_)
            have tz119 := tf_63_2 Is116
            refine h_zne (tg := 64) (pc' := 57) rfl rfl rfl hz119 (fun c120 => absurd c120 (by omega)) (fun c120 => ?_)
            refine h_aload_n (pc' := 58) rfl rfl rfl ?_
            refine h_iload_n (pc' := 59) rfl rfl rfl ?_
            refine h_iload_n (pc' := 60) rfl rfl rfl ?_
            refine h_call (sp := false) (pc' := 63) (M := [(0, .ref 72), (1, .int r101), (2, .int r115)]) rfl rfl rfl rfl rfl rfl rfl rfl ?_
            refine h_aload_n (pc' := 1) rfl rfl rfl ?_
            refine h_call (sp := false) (pc' := 4) (M := [(0, .ref 72)]) rfl rfl rfl rfl rfl rfl rfl rfl ?_
            refine h_aload_n (pc' := 1) rfl rfl rfl ?_
            refine h_getI (pc' := 4) (v := σ 72 2) rfl rfl rfl rfl rfl es116_3 (fun z121 hz121 => ?_)
            have tz121 := tf_72_2 hI
            refine h_iconst (pc' := 5) (x := (Int32.ofInt 3)) rfl rfl rfl ?_
            refine h_clt (tg := 12) (pc' := 8) rfl rfl rfl hz121 ci_3 (fun c122 => absurd c122 (by omega)) (fun c122 => ?_)
            refine h_iconst (pc' := 9) (x := (Int32.ofInt 1)) rfl rfl rfl ?_
            refine h_goto (pc' := 13) rfl rfl ?_
            refine h_zret rfl rfl ci_1 (by omega) (h_Kv ?_)
            refine h_zeq (tg := 9) (pc' := 7) rfl rfl rfl ci_1 (fun c123 => absurd c123 (by omega)) (fun c123 => ?_)
            refine h_iconst (pc' := 8) (x := (Int32.ofInt 0)) rfl rfl rfl ?_
            refine h_zret rfl rfl ci_0 (by omega) (h_Kv ?_)
            refine h_pop (pc' := 64) rfl rfl rfl ?_
            exact h_vret rfl rfl (kk _ Is116 Fs116 (Or.inr (Or.inr ⟨by omega, by omega, by omega⟩)))
        · refine h_iconst (pc' := 19) (x := (Int32.ofInt 1)) rfl rfl rfl ?_
          refine h_goto (pc' := 23) rfl rfl ?_
          refine h_zret rfl rfl ci_1 (by omega) (h_Kv ?_)
          refine h_zeq (tg := 44) (pc' := 21) rfl rfl rfl ci_1 (fun c124 => absurd c124 (by omega)) (fun c124 => ?_)
          refine h_aload_n (pc' := 22) rfl rfl rfl ?_
          refine h_getR (pc' := 25) rfl rfl rfl rfl rfl ?_
          refine h_getI (pc' := 28) (v := s102 64 5) rfl rfl rfl rfl rfl rfl (fun z125 hz125 => ?_)
          have tz125 := tf_64_5 Is102
          refine h_iload_n (pc' := 29) rfl rfl rfl ?_
          refine h_cne (tg := 44) (pc' := 32) rfl rfl rfl hz125 hr101 (fun c126 => ?_) (fun c126 => ?_)
          · refine h_aload_n (pc' := 45) rfl rfl rfl ?_
            refine h_iconst (pc' := 46) (x := (Int32.ofInt 5)) rfl rfl rfl ?_
            refine h_call (sp := false) (pc' := 49) (M := [(0, .ref 63), (1, .int (Int32.ofInt 5))]) rfl rfl rfl rfl rfl rfl rfl rfl ?_
            refine v_takeNumber _ Is102 (Int32.ofInt 5) _ ci_5 (by omega) (fun r127 br127 hr127 s128 Is128 Gs128 pcs128 => h_Kv ?_)
            have Fs128 := (Gs128.mono (B := kf_v_readPairX72) rfl).tr Fs102
            have es128_3 : s128 72 2 = σ 72 2 := (Gs128 72 2 rfl).trans es102_3
            rcases pcs128 with pcs128 | pcs128 | pcs128
            · exfalso; omega
            · refine h_istore_n (pc' := 50) (M := [(3, .int r127), (2, .int r101), (0, .ref 63), (1, .ref 72)]) rfl rfl rfl rfl ?_
              refine h_aload_n (pc' := 51) rfl rfl rfl ?_
              refine h_getI (pc' := 54) (v := s128 63 2) rfl rfl rfl rfl rfl rfl (fun z129 hz129 => ?_)
              have tz129 := tf_63_2 Is128
              refine h_zne (tg := 64) (pc' := 57) rfl rfl rfl hz129 (fun c130 => ?_) (fun c130 => absurd c130 (by omega))
              exact h_vret rfl rfl (kk _ Is128 Fs128 (Or.inr (Or.inl ⟨by omega, by omega⟩)))
            · refine h_istore_n (pc' := 50) (M := [(3, .int r127), (2, .int r101), (0, .ref 63), (1, .ref 72)]) rfl rfl rfl rfl ?_
              refine h_aload_n (pc' := 51) rfl rfl rfl ?_
              refine h_getI (pc' := 54) (v := s128 63 2) rfl rfl rfl rfl rfl rfl (fun z131 hz131 => ?_)
              have tz131 := tf_63_2 Is128
              refine h_zne (tg := 64) (pc' := 57) rfl rfl rfl hz131 (fun c132 => absurd c132 (by omega)) (fun c132 => ?_)
              refine h_aload_n (pc' := 58) rfl rfl rfl ?_
              refine h_iload_n (pc' := 59) rfl rfl rfl ?_
              refine h_iload_n (pc' := 60) rfl rfl rfl ?_
              refine h_call (sp := false) (pc' := 63) (M := [(0, .ref 72), (1, .int r101), (2, .int r127)]) rfl rfl rfl rfl rfl rfl rfl rfl ?_
              refine h_aload_n (pc' := 1) rfl rfl rfl ?_
              refine h_call (sp := false) (pc' := 4) (M := [(0, .ref 72)]) rfl rfl rfl rfl rfl rfl rfl rfl ?_
              refine h_aload_n (pc' := 1) rfl rfl rfl ?_
              refine h_getI (pc' := 4) (v := σ 72 2) rfl rfl rfl rfl rfl es128_3 (fun z133 hz133 => ?_)
              have tz133 := tf_72_2 hI
              refine h_iconst (pc' := 5) (x := (Int32.ofInt 3)) rfl rfl rfl ?_
              refine h_clt (tg := 12) (pc' := 8) rfl rfl rfl hz133 ci_3 (fun c134 => absurd c134 (by omega)) (fun c134 => ?_)
              refine h_iconst (pc' := 9) (x := (Int32.ofInt 1)) rfl rfl rfl ?_
              refine h_goto (pc' := 13) rfl rfl ?_
              refine h_zret rfl rfl ci_1 (by omega) (h_Kv ?_)
              refine h_zeq (tg := 9) (pc' := 7) rfl rfl rfl ci_1 (fun c135 => absurd c135 (by omega)) (fun c135 => ?_)
              refine h_iconst (pc' := 8) (x := (Int32.ofInt 0)) rfl rfl rfl ?_
              refine h_zret rfl rfl ci_0 (by omega) (h_Kv ?_)
              refine h_pop (pc' := 64) rfl rfl rfl ?_
              exact h_vret rfl rfl (kk _ Is128 Fs128 (Or.inr (Or.inr ⟨by omega, by omega, by omega⟩)))
          · refine h_aload_n (pc' := 33) rfl rfl rfl ?_
            refine h_iconst (pc' := 34) (x := (Int32.ofInt 3)) rfl rfl rfl ?_
            refine h_aload_n (pc' := 35) rfl rfl rfl ?_
            refine h_getR (pc' := 38) rfl rfl rfl rfl rfl ?_
            refine h_getI (pc' := 41) (v := s102 64 4) rfl rfl rfl rfl rfl rfl (fun z136 hz136 => ?_)
            have tz136 := tf_64_4 Is102
            refine h_call (sp := false) (pc' := 44) (M := [(0, .ref 63), (1, .int (Int32.ofInt 3)), (2, .int z136)]) rfl rfl rfl rfl rfl rfl rfl rfl ?_
            refine h_aload_n (pc' := 1) rfl rfl rfl ?_
            refine h_getI (pc' := 4) (v := s102 63 2) rfl rfl rfl rfl rfl rfl (fun z137 hz137 => ?_)
            have tz137 := tf_63_2 Is102
            refine h_zne (tg := 17) (pc' := 7) rfl rfl rfl hz137 (fun c138 => absurd c138 (by omega)) (fun c138 => ?_)
            refine h_aload_n (pc' := 8) rfl rfl rfl ?_
            refine h_iload_n (pc' := 9) rfl rfl rfl ?_
            refine h_put (pc' := 12) rfl rfl rfl rfl rfl rfl ci_3 rfl (h_fgt (E := fun s => s 63 2 = 3 ∧ s 64 3 = s102 64 3 ∧ s 64 5 = s102 64 5 ∧ s 72 2 = σ 72 2) _ (if_63_2 Is102 (by omega)) (Fs102.up rfl) ⟨rfl, rfl, rfl, es102_3⟩ (fun s139 Is139 Fs139 (es139 : s139 63 2 = 3 ∧ s139 64 3 = s102 64 3 ∧ s139 64 5 = s102 64 5 ∧ s139 72 2 = σ 72 2) => ?_))
            clear es102_3
            refine h_aload_n (pc' := 13) rfl rfl rfl ?_
            refine h_iload_n (pc' := 14) rfl rfl rfl ?_
            refine h_put (pc' := 17) rfl rfl rfl rfl rfl rfl hz136 rfl (h_fgt (E := fun s => s 63 2 = 3 ∧ s 64 3 = s102 64 3 ∧ s 64 5 = s102 64 5 ∧ s 72 2 = σ 72 2) _ (if_63_3 Is139 (h_rgv hz136)) (Fs139.up rfl) ⟨es139.1, es139.2.1, es139.2.2.1, es139.2.2.2⟩ (fun s140 Is140 Fs140 (es140 : s140 63 2 = 3 ∧ s140 64 3 = s102 64 3 ∧ s140 64 5 = s102 64 5 ∧ s140 72 2 = σ 72 2) => ?_))
            clear es139
            refine h_vret rfl rfl (h_Kn ?_)
            refine h_aload_n (pc' := 45) rfl rfl rfl ?_
            refine h_iconst (pc' := 46) (x := (Int32.ofInt 5)) rfl rfl rfl ?_
            refine h_call (sp := false) (pc' := 49) (M := [(0, .ref 63), (1, .int (Int32.ofInt 5))]) rfl rfl rfl rfl rfl rfl rfl rfl ?_
            refine v_takeNumber _ Is140 (Int32.ofInt 5) _ ci_5 (by omega) (fun r141 br141 hr141 s142 Is142 Gs142 pcs142 => h_Kv ?_)
            have Fs142 := (Gs142.mono (B := kf_v_readPairX72) rfl).tr Fs140
            have es142_3 : s142 72 2 = σ 72 2 := (Gs142 72 2 rfl).trans es140.2.2.2
            rcases pcs142 with pcs142 | pcs142 | pcs142
            · refine h_istore_n (pc' := 50) (M := [(3, .int r141), (2, .int r101), (0, .ref 63), (1, .ref 72)]) rfl rfl rfl rfl ?_
              refine h_aload_n (pc' := 51) rfl rfl rfl ?_
              refine h_getI (pc' := 54) (v := s142 63 2) rfl rfl rfl rfl rfl rfl (fun z143 hz143 => ?_)
              have tz143 := tf_63_2 Is142
              refine h_zne (tg := 64) (pc' := 57) rfl rfl rfl hz143 (fun c144 => ?_) (fun c144 => absurd c144 (by omega))
              exact h_vret rfl rfl (kk _ Is142 Fs142 (Or.inr (Or.inl ⟨by omega, by omega⟩)))
            · exfalso; omega
            · exfalso; omega
