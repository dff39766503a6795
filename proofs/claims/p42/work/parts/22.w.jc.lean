def kf_v_readGate : List Nat := [64514, 64515, 65538, 65539, 65540, 65541, 67593, 77823, 78847, 79871]
set_option maxHeartbeats 100000000 in
theorem v_readGate {ns : Nat} (σ : h_S) (hI : h_I σ) (pr0 : (¬ σ 63 2 = 0 ∨ ¬ σ 64 3 = 2 ∨ (0 ≤ σ 64 5 ∧ σ 64 5 ≤ 99))) {Q : Option Value → h_S → Prop} (kk : ∀ (τ : h_S), h_I τ → h_F (k_in kf_v_readGate) τ σ → (((1 ≤ σ 63 2 ∧ σ 63 2 ≤ 6) ∧ (1 ≤ τ 63 2 ∧ τ 63 2 ≤ 6)) ∨ ((σ 63 2 = 0) ∧ (1 ≤ τ 63 2 ∧ τ 63 2 ≤ 6)) ∨ ((σ 63 2 = 0) ∧ (τ 63 2 = 0) ∧ (¬ τ 64 3 = 2 ∨ (0 ≤ τ 64 5 ∧ τ 64 5 ≤ 99)))) → Q none τ) : h_T g_P (g_Y ns) 61 0 [(0, .ref 63)] [] σ Q := by
  have F00 : h_F (k_in kf_v_readGate) σ σ := h_F.rf
  have ge0 := tf_63_2 hI
  refine h_aload_n (pc' := 1) rfl rfl rfl ?_
  refine h_aload_n (pc' := 2) rfl rfl rfl ?_
  refine h_getR (pc' := 5) rfl rfl rfl rfl rfl ?_
  refine h_getI (pc' := 8) (v := σ 66 9) rfl rfl rfl rfl rfl rfl (fun z1 hz1 => ?_)
  have tz1 := tf_66_9 hI
  refine h_iconst (pc' := 9) (x := (Int32.ofInt 3)) rfl rfl rfl ?_
  refine h_clt (tg := 16) (pc' := 12) rfl rfl rfl hz1 ci_3 (fun c2 => ?_) (fun c2 => ?_)
  · refine h_iconst (pc' := 17) (x := (Int32.ofInt 0)) rfl rfl rfl ?_
    refine h_call (sp := false) (pc' := 20) (M := [(0, .ref 63), (1, .int (Int32.ofInt 0))]) rfl rfl rfl rfl rfl rfl rfl rfl ?_
    refine v_takeName _ hI (Int32.ofInt 0) _ ci_0 (by omega) (fun s4 Is4 Gs4 pcs4 => h_Kn ?_)
    have Fs4 := (Gs4.mono (B := kf_v_readGate) rfl).tr F00
    have es4_3 : s4 66 9 = σ 66 9 := (Gs4 66 9 rfl).trans rfl
    rcases pcs4 with pcs4 | pcs4 | pcs4
    · refine h_aload_n (pc' := 21) rfl rfl rfl ?_
      refine h_bipush (pc' := 23) (x := (Int32.ofInt 9)) rfl rfl cb_9 ?_
      refine h_call (sp := false) (pc' := 26) (M := [(0, .ref 63), (1, .int (Int32.ofInt 9))]) rfl rfl rfl rfl rfl rfl rfl rfl ?_
      refine v_takeNumber _ Is4 (Int32.ofInt 9) _ ci_9 (by omega) (fun r5 br5 hr5 s6 Is6 Gs6 pcs6 => h_Kv ?_)
      have Fs6 := (Gs6.mono (B := kf_v_readGate) rfl).tr Fs4
      have es6_3 : s6 66 9 = σ 66 9 := (Gs6 66 9 rfl).trans es4_3
      rcases pcs6 with pcs6 | pcs6 | pcs6
      · refine h_istore_n (pc' := 27) (M := [(1, .int r5), (0, .ref 63)]) rfl rfl rfl rfl ?_
        refine h_aload_n (pc' := 28) rfl rfl rfl ?_
        refine h_call (sp := false) (pc' := 31) (M := [(0, .ref 63)]) rfl rfl rfl rfl rfl rfl rfl rfl ?_
        refine h_aload_n (pc' := 1) rfl rfl rfl ?_
        refine h_getI (pc' := 4) (v := s6 63 2) rfl rfl rfl rfl rfl rfl (fun z7 hz7 => ?_)
        have tz7 := tf_63_2 Is6
        refine h_zne (tg := 22) (pc' := 7) rfl rfl rfl hz7 (fun c8 => ?_) (fun c8 => absurd c8 (by omega))
        refine h_iconst (pc' := 23) (x := (Int32.ofInt 0)) rfl rfl rfl ?_
        refine h_zret rfl rfl ci_0 (by omega) (h_Kv ?_)
        refine h_zeq (tg := 42) (pc' := 34) rfl rfl rfl ci_0 (fun c9 => ?_) (fun c9 => absurd c9 (by omega))
        refine h_bipush (pc' := 44) (x := (Int32.ofInt (-4))) rfl rfl cb_m4 ?_
        refine h_istore_n (pc' := 45) (M := [(2, .int (Int32.ofInt (-4))), (1, .int r5), (0, .ref 63)]) rfl rfl rfl rfl ?_
        refine h_aload_n (pc' := 46) rfl rfl rfl ?_
        refine h_getI (pc' := 49) (v := s6 63 2) rfl rfl rfl rfl rfl rfl (fun z10 hz10 => ?_)
        have tz10 := tf_63_2 Is6
        refine h_zne (tg := 61) (pc' := 52) rfl rfl rfl hz10 (fun c11 => ?_) (fun c11 => absurd c11 (by omega))
        exact h_vret rfl rfl (kk _ Is6 Fs6 (Or.inl ⟨by omega, by omega⟩))
      · exfalso; omega
      · exfalso; omega
    · refine h_aload_n (pc' := 21) rfl rfl rfl ?_
      refine h_bipush (pc' := 23) (x := (Int32.ofInt 9)) rfl rfl cb_9 ?_
      refine h_call (sp := false) (pc' := 26) (M := [(0, .ref 63), (1, .int (Int32.ofInt 9))]) rfl rfl rfl rfl rfl rfl rfl rfl ?_
      refine v_takeNumber _ Is4 (Int32.ofInt 9) _ ci_9 (by omega) (fun r12 br12 hr12 s13 Is13 Gs13 pcs13 => h_Kv ?_)
      have Fs13 := (Gs13.mono (B := kf_v_readGate) rfl).tr Fs4
      have es13_3 : s13 66 9 = σ 66 9 := (Gs13 66 9 rfl).trans es4_3
      rcases pcs13 with pcs13 | pcs13 | pcs13
      · refine h_istore_n (pc' := 27) (M := [(1, .int r12), (0, .ref 63)]) rfl rfl rfl rfl ?_
        refine h_aload_n (pc' := 28) rfl rfl rfl ?_
        refine h_call (sp := false) (pc' := 31) (M := [(0, .ref 63)]) rfl rfl rfl rfl rfl rfl rfl rfl ?_
        refine h_aload_n (pc' := 1) rfl rfl rfl ?_
        refine h_getI (pc' := 4) (v := s13 63 2) rfl rfl rfl rfl rfl rfl (fun z14 hz14 => ?_)
        have tz14 := tf_63_2 Is13
        refine h_zne (tg := 22) (pc' := 7) rfl rfl rfl hz14 (fun c15 => ?_) (fun c15 => absurd c15 (by omega))
        refine h_iconst (pc' := 23) (x := (Int32.ofInt 0)) rfl rfl rfl ?_
        refine h_zret rfl rfl ci_0 (by omega) (h_Kv ?_)
        refine h_zeq (tg := 42) (pc' := 34) rfl rfl rfl ci_0 (fun c16 => ?_) (fun c16 => absurd c16 (by omega))
        refine h_bipush (pc' := 44) (x := (Int32.ofInt (-4))) rfl rfl cb_m4 ?_
        refine h_istore_n (pc' := 45) (M := [(2, .int (Int32.ofInt (-4))), (1, .int r12), (0, .ref 63)]) rfl rfl rfl rfl ?_
        refine h_aload_n (pc' := 46) rfl rfl rfl ?_
        refine h_getI (pc' := 49) (v := s13 63 2) rfl rfl rfl rfl rfl rfl (fun z17 hz17 => ?_)
        have tz17 := tf_63_2 Is13
        refine h_zne (tg := 61) (pc' := 52) rfl rfl rfl hz17 (fun c18 => ?_) (fun c18 => absurd c18 (by omega))
        exact h_vret rfl rfl (kk _ Is13 Fs13 (Or.inr (Or.inl ⟨by omega, by omega⟩)))
      · exfalso; omega
      · exfalso; omega
    · refine h_aload_n (pc' := 21) rfl rfl rfl ?_
      refine h_bipush (pc' := 23) (x := (Int32.ofInt 9)) rfl rfl cb_9 ?_
      refine h_call (sp := false) (pc' := 26) (M := [(0, .ref 63), (1, .int (Int32.ofInt 9))]) rfl rfl rfl rfl rfl rfl rfl rfl ?_
      refine v_takeNumber _ Is4 (Int32.ofInt 9) _ ci_9 (by omega) (fun r19 br19 hr19 s20 Is20 Gs20 pcs20 => h_Kv ?_)
      have Fs20 := (Gs20.mono (B := kf_v_readGate) rfl).tr Fs4
      have es20_3 : s20 66 9 = σ 66 9 := (Gs20 66 9 rfl).trans es4_3
      rcases pcs20 with pcs20 | pcs20 | pcs20
      · exfalso; omega
      · refine h_istore_n (pc' := 27) (M := [(1, .int r19), (0, .ref 63)]) rfl rfl rfl rfl ?_
        refine h_aload_n (pc' := 28) rfl rfl rfl ?_
        refine h_call (sp := false) (pc' := 31) (M := [(0, .ref 63)]) rfl rfl rfl rfl rfl rfl rfl rfl ?_
        refine h_aload_n (pc' := 1) rfl rfl rfl ?_
        refine h_getI (pc' := 4) (v := s20 63 2) rfl rfl rfl rfl rfl rfl (fun z21 hz21 => ?_)
        have tz21 := tf_63_2 Is20
        refine h_zne (tg := 22) (pc' := 7) rfl rfl rfl hz21 (fun c22 => ?_) (fun c22 => absurd c22 (by omega))
        refine h_iconst (pc' := 23) (x := (Int32.ofInt 0)) rfl rfl rfl ?_
        refine h_zret rfl rfl ci_0 (by omega) (h_Kv ?_)
        refine h_zeq (tg := 42) (pc' := 34) rfl rfl rfl ci_0 (fun c23 => ?_) (fun c23 => absurd c23 (by omega))
        refine h_bipush (pc' := 44) (x := (Int32.ofInt (-4))) rfl rfl cb_m4 ?_
        refine h_istore_n (pc' := 45) (M := [(2, .int (Int32.ofInt (-4))), (1, .int r19), (0, .ref 63)]) rfl rfl rfl rfl ?_
        refine h_aload_n (pc' := 46) rfl rfl rfl ?_
        refine h_getI (pc' := 49) (v := s20 63 2) rfl rfl rfl rfl rfl rfl (fun z24 hz24 => ?_)
        have tz24 := tf_63_2 Is20
        refine h_zne (tg := 61) (pc' := 52) rfl rfl rfl hz24 (fun c25 => ?_) (fun c25 => absurd c25 (by omega))
        exact h_vret rfl rfl (kk _ Is20 Fs20 (Or.inr (Or.inl ⟨by omega, by omega⟩)))
      · refine h_istore_n (pc' := 27) (M := [(1, .int r19), (0, .ref 63)]) rfl rfl rfl rfl ?_
        refine h_aload_n (pc' := 28) rfl rfl rfl ?_
        refine h_call (sp := false) (pc' := 31) (M := [(0, .ref 63)]) rfl rfl rfl rfl rfl rfl rfl rfl ?_
        refine h_aload_n (pc' := 1) rfl rfl rfl ?_
        refine h_getI (pc' := 4) (v := s20 63 2) rfl rfl rfl rfl rfl rfl (fun z26 hz26 => ?_)
        have tz26 := tf_63_2 Is20
        refine h_zne (tg := 22) (pc' := 7) rfl rfl rfl hz26 (fun c27 => absurd c27 (by omega)) (fun c27 => ?_)
        refine h_aload_n (pc' := 8) rfl rfl rfl ?_
        refine h_getR (pc' := 11) rfl rfl rfl rfl rfl ?_
        refine h_getI (pc' := 14) (v := s20 64 3) rfl rfl rfl rfl rfl rfl (fun z28 hz28 => ?_)
        have tz28 := tf_64_3 Is20
        refine h_iconst (pc' := 15) (x := (Int32.ofInt 2)) rfl rfl rfl ?_
        refine h_cne (tg := 22) (pc' := 18) rfl rfl rfl hz28 ci_2 (fun c29 => ?_) (fun c29 => ?_)
        · refine h_iconst (pc' := 23) (x := (Int32.ofInt 0)) rfl rfl rfl ?_
          refine h_zret rfl rfl ci_0 (by omega) (h_Kv ?_)
          refine h_zeq (tg := 42) (pc' := 34) rfl rfl rfl ci_0 (fun c30 => ?_) (fun c30 => absurd c30 (by omega))
          refine h_bipush (pc' := 44) (x := (Int32.ofInt (-4))) rfl rfl cb_m4 ?_
          refine h_istore_n (pc' := 45) (M := [(2, .int (Int32.ofInt (-4))), (1, .int r19), (0, .ref 63)]) rfl rfl rfl rfl ?_
          refine h_aload_n (pc' := 46) rfl rfl rfl ?_
          refine h_getI (pc' := 49) (v := s20 63 2) rfl rfl rfl rfl rfl rfl (fun z31 hz31 => ?_)
          have tz31 := tf_63_2 Is20
          refine h_zne (tg := 61) (pc' := 52) rfl rfl rfl hz31 (fun c32 => absurd c32 (by omega)) (fun c32 => ?_)
          refine h_aload_n (pc' := 53) rfl rfl rfl ?_
          refine h_getR (pc' := 56) rfl rfl rfl rfl rfl ?_
          refine h_iload_n (pc' := 57) rfl rfl rfl ?_
          refine h_iload_n (pc' := 58) rfl rfl rfl ?_
          refine h_call (sp := false) (pc' := 61) (M := [(0, .ref 66), (1, .int r19), (2, .int (Int32.ofInt (-4)))]) rfl rfl rfl rfl rfl rfl rfl rfl ?_
          refine h_aload_n (pc' := 1) rfl rfl rfl ?_
          refine h_getI (pc' := 4) (v := σ 66 9) rfl rfl rfl rfl rfl es20_3 (fun z33 hz33 => ?_)
          have tz33 := tf_66_9 hI
          refine h_iconst (pc' := 5) (x := (Int32.ofInt 3)) rfl rfl rfl ?_
          refine h_cge (tg := 48) (pc' := 8) rfl rfl rfl hz33 ci_3 (fun c34 => absurd c34 (by omega)) (fun c34 => ?_)
          refine h_aload_n (pc' := 9) rfl rfl rfl ?_
          refine h_getR (pc' := 12) rfl rfl rfl rfl rfl ?_
          refine h_aload_n (pc' := 13) rfl rfl rfl ?_
          refine h_getI (pc' := 16) (v := σ 66 9) rfl rfl rfl rfl rfl es20_3 (fun z35 hz35 => ?_)
          have tz35 := tf_66_9 hI
          refine h_iload_n (pc' := 17) rfl rfl rfl ?_
          refine h_iast (pc' := 18) rfl rfl rfl rfl hz35 (by omega) (by omega) hr19 (h_fgt (E := fun s => s 63 2 = s20 63 2 ∧ s 64 3 = s20 64 3 ∧ s 64 5 = s20 64 5 ∧ s 66 9 = σ 66 9) _ (in_75 Is20 (by omega)) (Fs20.up rfl) ⟨rfl, rfl, rfl, es20_3⟩ (fun s36 Is36 Fs36 (es36 : s36 63 2 = s20 63 2 ∧ s36 64 3 = s20 64 3 ∧ s36 64 5 = s20 64 5 ∧ s36 66 9 = σ 66 9) => ?_))
          clear es20_3
          refine h_aload_n (pc' := 19) rfl rfl rfl ?_
          refine h_getR (pc' := 22) rfl rfl rfl rfl rfl ?_
          refine h_aload_n (pc' := 23) rfl rfl rfl ?_
          refine h_getI (pc' := 26) (v := σ 66 9) rfl rfl rfl rfl rfl es36.2.2.2 (fun z37 hz37 => ?_)
          have tz37 := tf_66_9 hI
          refine h_iload_n (pc' := 27) rfl rfl rfl ?_
          refine h_iast (pc' := 28) rfl rfl rfl rfl hz37 (by omega) (by omega) ci_m4 (h_fgt (E := fun s => s 63 2 = s20 63 2 ∧ s 64 3 = s20 64 3 ∧ s 64 5 = s20 64 5 ∧ s 66 9 = σ 66 9) _ (in_76 Is36 (by omega)) (Fs36.up rfl) ⟨es36.1, es36.2.1, es36.2.2.1, es36.2.2.2⟩ (fun s38 Is38 Fs38 (es38 : s38 63 2 = s20 63 2 ∧ s38 64 3 = s20 64 3 ∧ s38 64 5 = s20 64 5 ∧ s38 66 9 = σ 66 9) => ?_))
          clear es36
          refine h_aload_n (pc' := 29) rfl rfl rfl ?_
          refine h_getR (pc' := 32) rfl rfl rfl rfl rfl ?_
          refine h_aload_n (pc' := 33) rfl rfl rfl ?_
          refine h_getI (pc' := 36) (v := σ 66 9) rfl rfl rfl rfl rfl es38.2.2.2 (fun z39 hz39 => ?_)
          have tz39 := tf_66_9 hI
          refine h_iconst (pc' := 37) (x := (Int32.ofInt 0)) rfl rfl rfl ?_
          refine h_iast (pc' := 38) rfl rfl rfl rfl hz39 (by omega) (by omega) ci_0 (h_fgt (E := fun s => s 63 2 = s20 63 2 ∧ s 64 3 = s20 64 3 ∧ s 64 5 = s20 64 5 ∧ s 66 9 = σ 66 9) _ (in_77 Is38 (by omega)) (Fs38.up rfl) ⟨es38.1, es38.2.1, es38.2.2.1, es38.2.2.2⟩ (fun s40 Is40 Fs40 (es40 : s40 63 2 = s20 63 2 ∧ s40 64 3 = s20 64 3 ∧ s40 64 5 = s20 64 5 ∧ s40 66 9 = σ 66 9) => ?_))
          clear es38
          refine h_aload_n (pc' := 39) rfl rfl rfl ?_
          refine h_dup (pc' := 40) rfl rfl rfl ?_
          refine h_getI (pc' := 43) (v := σ 66 9) rfl rfl rfl rfl rfl es40.2.2.2 (fun z41 hz41 => ?_)
          have tz41 := tf_66_9 hI
          refine h_iconst (pc' := 44) (x := (Int32.ofInt 1)) rfl rfl rfl ?_
          refine h_iadd (pc' := 45) rfl rfl hz41 ci_1 rfl (by omega) (by omega) (fun z42 hz42 => ?_)
          refine h_put (pc' := 48) rfl rfl rfl rfl rfl rfl hz42 rfl (h_fgt (E := fun s => s 63 2 = s20 63 2 ∧ s 64 3 = s20 64 3 ∧ s 64 5 = s20 64 5 ∧ s 66 9 = ((σ 66 9) + 1)) _ (if_66_9 Is40 (by omega)) (Fs40.up rfl) ⟨es40.1, es40.2.1, es40.2.2.1, rfl⟩ (fun s43 Is43 Fs43 (es43 : s43 63 2 = s20 63 2 ∧ s43 64 3 = s20 64 3 ∧ s43 64 5 = s20 64 5 ∧ s43 66 9 = ((σ 66 9) + 1)) => ?_))
          clear es40
          refine h_vret rfl rfl (h_Kn ?_)
          exact h_vret rfl rfl (kk _ Is43 Fs43 (Or.inr (Or.inr ⟨by omega, by omega, by omega⟩)))
        · refine h_iconst (pc' := 19) (x := (Int32.ofInt 1)) rfl rfl rfl ?_
          refine h_goto (pc' := 23) rfl rfl ?_
          refine h_zret rfl rfl ci_1 (by omega) (h_Kv ?_)
          refine h_zeq (tg := 42) (pc' := 34) rfl rfl rfl ci_1 (fun c44 => absurd c44 (by omega)) (fun c44 => ?_)
          refine h_aload_n (pc' := 35) rfl rfl rfl ?_
          refine h_iconst (pc' := 36) (x := (Int32.ofInt 5)) rfl rfl rfl ?_
          refine h_call (sp := false) (pc' := 39) (M := [(0, .ref 63), (1, .int (Int32.ofInt 5))]) rfl rfl rfl rfl rfl rfl rfl rfl ?_
          refine v_takeNumber _ Is20 (Int32.ofInt 5) _ ci_5 (by omega) (fun r45 br45 hr45 s46 Is46 Gs46 pcs46 => h_Kv ?_)
          have Fs46 := (Gs46.mono (B := kf_v_readGate) rfl).tr Fs20
          have es46_3 : s46 66 9 = σ 66 9 := (Gs46 66 9 rfl).trans es20_3
          rcases pcs46 with pcs46 | pcs46 | pcs46
          · exfalso; omega
          · refine h_goto (pc' := 44) rfl rfl ?_
            refine h_istore_n (pc' := 45) (M := [(2, .int r45), (1, .int r19), (0, .ref 63)]) rfl rfl rfl rfl ?_
            refine h_aload_n (pc' := 46) rfl rfl rfl ?_
            refine h_getI (pc' := 49) (v := s46 63 2) rfl rfl rfl rfl rfl rfl (fun z47 hz47 => ?_)
            have tz47 := tf_63_2 Is46
            refine h_zne (tg := 61) (pc' := 52) rfl rfl rfl hz47 (fun c48 => ?_) (fun c48 => absurd c48 (by omega))
            exact h_vret rfl rfl (kk _ Is46 Fs46 (Or.inr (Or.inl ⟨by omega, by omega⟩)))
          · refine h_goto (pc' := 44) rfl rfl ?_
            refine h_istore_n (pc' := 45) (M := [(2, .int r45), (1, .int r19), (0, .ref 63)]) rfl rfl rfl rfl ?_
            refine h_aload_n (pc' := 46) rfl rfl rfl ?_
            refine h_getI (pc' := 49) (v := s46 63 2) rfl rfl rfl rfl rfl rfl (fun z49 hz49 => ?_)
            have tz49 := tf_63_2 Is46
            refine h_zne (tg := 61) (pc' := 52) rfl rfl rfl hz49 (fun c50 => absurd c50 (by omega)) (fun c50 => ?_)
            refine h_aload_n (pc' := 53) rfl rfl rfl ?_
            refine h_getR (pc' := 56) rfl rfl rfl rfl rfl ?_
            refine h_iload_n (pc' := 57) rfl rfl rfl ?_
            refine h_iload_n (pc' := 58) rfl rfl rfl ?_
            refine h_call (sp := false) (pc' := 61) (M := [(0, .ref 66), (1, .int r19), (2, .int r45)]) rfl rfl rfl rfl rfl rfl rfl rfl ?_
            refine h_aload_n (pc' := 1) rfl rfl rfl ?_
            refine h_getI (pc' := 4) (v := σ 66 9) rfl rfl rfl rfl rfl es46_3 (fun z51 hz51 => ?_)
            have tz51 := tf_66_9 hI
            refine h_iconst (pc' := 5) (x := (Int32.ofInt 3)) rfl rfl rfl ?_
            refine h_cge (tg := 48) (pc' := 8) rfl rfl rfl hz51 ci_3 (fun c52 => absurd c52 (by omega)) (fun c52 => ?_)
            refine h_aload_n (pc' := 9) rfl rfl rfl ?_
            refine h_getR (pc' := 12) rfl rfl rfl rfl rfl ?_
            refine h_aload_n (pc' := 13) rfl rfl rfl ?_
            refine h_getI (pc' := 16) (v := σ 66 9) rfl rfl rfl rfl rfl es46_3 (fun z53 hz53 => ?_)
            have tz53 := tf_66_9 hI
            refine h_iload_n (pc' := 17) rfl rfl rfl ?_
            refine h_iast (pc' := 18) rfl rfl rfl rfl hz53 (by omega) (by omega) hr19 (h_fgt (E := fun s => s 63 2 = s46 63 2 ∧ s 64 3 = s46 64 3 ∧ s 64 5 = s46 64 5 ∧ s 66 9 = σ 66 9) _ (in_75 Is46 (by omega)) (Fs46.up rfl) ⟨rfl, rfl, rfl, es46_3⟩ (fun s54 Is54 Fs54 (es54 : s54 63 2 = s46 63 2 ∧ s54 64 3 = s46 64 3 ∧ s54 64 5 = s46 64 5 ∧ s54 66 9 = σ 66 9) => ?_))
            clear es46_3
            refine h_aload_n (pc' := 19) rfl rfl rfl ?_
            refine h_getR (pc' := 22) rfl rfl rfl rfl rfl ?_
            refine h_aload_n (pc' := 23) rfl rfl rfl ?_
            refine h_getI (pc' := 26) (v := σ 66 9) rfl rfl rfl rfl rfl es54.2.2.2 (fun z55 hz55 => ?_)
            have tz55 := tf_66_9 hI
            refine h_iload_n (pc' := 27) rfl rfl rfl ?_
            refine h_iast (pc' := 28) rfl rfl rfl rfl hz55 (by omega) (by omega) hr45 (h_fgt (E := fun s => s 63 2 = s46 63 2 ∧ s 64 3 = s46 64 3 ∧ s 64 5 = s46 64 5 ∧ s 66 9 = σ 66 9) _ (in_76 Is54 (by omega)) (Fs54.up rfl) ⟨es54.1, es54.2.1, es54.2.2.1, es54.2.2.2⟩ (fun s56 Is56 Fs56 (es56 : s56 63 2 = s46 63 2 ∧ s56 64 3 = s46 64 3 ∧ s56 64 5 = s46 64 5 ∧ s56 66 9 = σ 66 9) => ?_))
            clear es54
            refine h_aload_n (pc' := 29) rfl rfl rfl ?_
            refine h_getR (pc' := 32) rfl rfl rfl rfl rfl ?_
            refine h_aload_n (pc' := 33) rfl rfl rfl ?_
            refine h_getI (pc' := 36) (v := σ 66 9) rfl rfl rfl rfl rfl es56.2.2.2 (fun z57 hz57 => ?_)
            have tz57 := tf_66_9 hI
            refine h_iconst (pc' := 37) (x := (Int32.ofInt 0)) rfl rfl rfl ?_
            refine h_iast (pc' := 38) rfl rfl rfl rfl hz57 (by omega) (by omega) ci_0 (h_fgt (E := fun s => s 63 2 = s46 63 2 ∧ s 64 3 = s46 64 3 ∧ s 64 5 = s46 64 5 ∧ s 66 9 = σ 66 9) _ (in_77 Is56 (by omega)) (Fs56.up rfl) ⟨es56.1, es56.2.1, es56.2.2.1, es56.2.2.2⟩ (fun s58 Is58 Fs58 (es58 : s58 63 2 = s46 63 2 ∧ s58 64 3 = s46 64 3 ∧ s58 64 5 = s46 64 5 ∧ s58 66 9 = σ 66 9) => ?_))
            clear es56
            refine h_aload_n (pc' := 39) rfl rfl rfl ?_
            refine h_dup (pc' := 40) rfl rfl rfl ?_
            refine h_getI (pc' := 43) (v := σ 66 9) rfl rfl rfl rfl rfl es58.2.2.2 (fun z59 hz59 => ?_)
            have tz59 := tf_66_9 hI
            refine h_iconst (pc' := 44) (x := (Int32.ofInt 1)) rfl rfl rfl ?_
            refine h_iadd (pc' := 45) rfl rfl hz59 ci_1 rfl (by omega) (by omega) (fun z60 hz60 => ?_)
            refine h_put (pc' := 48) rfl rfl rfl rfl rfl rfl hz60 rfl (h_fgt (E := fun s => s 63 2 = s46 63 2 ∧ s 64 3 = s46 64 3 ∧ s 64 5 = s46 64 5 ∧ s 66 9 = ((σ 66 9) + 1)) _ (if_66_9 Is58 (by omega)) (Fs58.up rfl) ⟨es58.1, es58.2.1, es58.2.2.1, rfl⟩ (fun s61 Is61 Fs61 (es61 : s61 63 2 = s46 63 2 ∧ s61 64 3 = s46 64 3 ∧ s61 64 5 = s46 64 5 ∧ s61 66 9 = ((σ 66 9) + 1)) => ?_))
            clear es58
            refine h_vret rfl rfl (h_Kn ?_)
            exact h_vret rfl rfl (kk _ Is61 Fs61 (Or.inr (Or.inr ⟨by omega, by omega, by omega⟩)))
  · refine h_iconst (pc' := 13) (x := (Int32.ofInt 1)) rfl rfl rfl ?_
    refine h_goto (pc' := 17) rfl rfl ?_
    refine h_call (sp := false) (pc' := 20) (M := [(0, .ref 63), (1, .int (Int32.ofInt 1))]) rfl rfl rfl rfl rfl rfl rfl rfl ?_
    refine v_takeName _ hI (Int32.ofInt 1) _ ci_1 (by omega) (fun s63 Is63 Gs63 pcs63 => h_Kn ?_)
    have Fs63 := (Gs63.mono (B := kf_v_readGate) rfl).tr F00
    have es63_3 : s63 66 9 = σ 66 9 := (Gs63 66 9 rfl).trans rfl
    rcases pcs63 with pcs63 | pcs63 | pcs63
    · refine h_aload_n (pc' := 21) rfl rfl rfl ?_
      refine h_bipush (pc' := 23) (x := (Int32.ofInt 9)) rfl rfl cb_9 ?_
      refine h_call (sp := false) (pc' := 26) (M := [(0, .ref 63), (1, .int (Int32.ofInt 9))]) rfl rfl rfl rfl rfl rfl rfl rfl ?_
      refine v_takeNumber _ Is63 (Int32.ofInt 9) _ ci_9 (by omega) (fun r64 br64 hr64 s65 Is65 Gs65 pcs65 => h_Kv ?_)
      have Fs65 := (Gs65.mono (B := kf_v_readGate) rfl).tr Fs63
      have es65_3 : s65 66 9 = σ 66 9 := (Gs65 66 9 rfl).trans es63_3
      rcases pcs65 with pcs65 | pcs65 | pcs65
      · refine h_istore_n (pc' := 27) (M := [(1, .int r64), (0, .ref 63)]) rfl rfl rfl rfl ?_
        refine h_aload_n (pc' := 28) rfl rfl rfl ?_
        refine h_call (sp := false) (pc' := 31) (M := [(0, .ref 63)]) rfl rfl rfl rfl rfl rfl rfl rfl ?_
        refine h_aload_n (pc' := 1) rfl rfl rfl ?_
        refine h_getI (pc' := 4) (v := s65 63 2) rfl rfl rfl rfl rfl rfl (fun z66 hz66 => ?_)
        have tz66 := tf_63_2 Is65
        refine h_zne (tg := 22) (pc' := 7) rfl rfl rfl hz66 (fun c67 => ?_) (fun c67 => absurd c67 (by omega))
        refine h_iconst (pc' := 23) (x := (Int32.ofInt 0)) rfl rfl rfl ?_
        refine h_zret rfl rfl ci_0 (by omega) (h_Kv ?_)
        refine h_zeq (tg := 42) (pc' := 34) rfl rfl rfl ci_0 (fun c68 => ?_) (fun c68 => absurd c68 (by omega))
        refine h_bipush (pc' := 44) (x := (Int32.ofInt (-4))) rfl rfl cb_m4 ?_
        refine h_istore_n (pc' := 45) (M := [(2, .int (Int32.ofInt (-4))), (1, .int r64), (0, .ref 63)]) rfl rfl rfl rfl ?_
        refine h_aload_n (pc' := 46) rfl rfl rfl ?_
        refine h_getI (pc' := 49) (v := s65 63 2) rfl rfl rfl rfl rfl rfl (fun z69 hz69 => ?_)
        have tz69 := tf_63_2 Is65
        refine h_zne (tg := 61) (pc' := 52) rfl rfl rfl hz69 (fun c70 => ?_) (fun c70 => absurd c70 (by omega))
        exact h_vret rfl rfl (kk _ Is65 Fs65 (Or.inl ⟨by omega, by omega⟩))
      · exfalso; omega
      · exfalso; omega
    · refine h_aload_n (pc' := 21) rfl rfl rfl ?_
      refine h_bipush (pc' := 23) (x := (Int32.ofInt 9)) rfl rfl cb_9 ?_
      refine h_call (sp := false) (pc' := 26) (M := [(0, .ref 63), (1, .int (Int32.ofInt 9))]) rfl rfl rfl rfl rfl rfl rfl rfl ?_
      refine v_takeNumber _ Is63 (Int32.ofInt 9) _ ci_9 (by omega) (fun r71 br71 hr71 s72 Is72 Gs72 pcs72 => h_Kv ?_)
      have Fs72 := (Gs72.mono (B := kf_v_readGate) rfl).tr Fs63
      have es72_3 : s72 66 9 = σ 66 9 := (Gs72 66 9 rfl).trans es63_3
      rcases pcs72 with pcs72 | pcs72 | pcs72
      · refine h_istore_n (pc' := 27) (M := [(1, .int r71), (0, .ref 63)]) rfl rfl rfl rfl ?_
        refine h_aload_n (pc' := 28) rfl rfl rfl ?_
        refine h_call (sp := false) (pc' := 31) (M := [(0, .ref 63)]) rfl rfl rfl rfl rfl rfl rfl rfl ?_
        refine h_aload_n (pc' := 1) rfl rfl rfl ?_
        refine h_getI (pc' := 4) (v := s72 63 2) rfl rfl rfl rfl rfl rfl (fun z73 hz73 => ?_)
        have tz73 := tf_63_2 Is72
        refine h_zne (tg := 22) (pc' := 7) rfl rfl rfl hz73 (fun c74 => ?_) (fun c74 => absurd c74 (by omega))
        refine h_iconst (pc' := 23) (x := (Int32.ofInt 0)) rfl rfl rfl ?_
        refine h_zret rfl rfl ci_0 (by omega) (h_Kv ?_)
        refine h_zeq (tg := 42) (pc' := 34) rfl rfl rfl ci_0 (fun c75 => ?_) (fun c75 => absurd c75 (by omega))
        refine h_bipush (pc' := 44) (x := (Int32.ofInt (-4))) rfl rfl cb_m4 ?_
        refine h_istore_n (pc' := 45) (M := [(2, .int (Int32.ofInt (-4))), (1, .int r71), (0, .ref 63)]) rfl rfl rfl rfl ?_
        refine h_aload_n (pc' := 46) rfl rfl rfl ?_
        refine h_getI (pc' := 49) (v := s72 63 2) rfl rfl rfl rfl rfl rfl (fun z76 hz76 => ?_)
        have tz76 := tf_63_2 Is72
        refine h_zne (tg := 61) (pc' := 52) rfl rfl rfl hz76 (fun c77 => ?_) (fun c77 => absurd c77 (by omega))
        exact h_vret rfl rfl (kk _ Is72 Fs72 (Or.inr (Or.inl ⟨by omega, by omega⟩)))
      · exfalso; omega
      · exfalso; omega
    · refine h_aload_n (pc' := 21) rfl rfl rfl ?_
      refine h_bipush (pc' := 23) (x := (Int32.ofInt 9)) rfl rfl cb_9 ?_
      refine h_call (sp := false) (pc' := 26) (M := [(0, .ref 63), (1, .int (Int32.ofInt 9))]) rfl rfl rfl rfl rfl rfl rfl rfl ?_
      refine v_takeNumber _ Is63 (Int32.ofInt 9) _ ci_9 (by omega) (fun r78 br78 hr78 s79 Is79 Gs79 pcs79 => h_Kv ?_)
      have Fs79 := (Gs79.mono (B := kf_v_readGate) rfl).tr Fs63
      have es79_3 : s79 66 9 = σ 66 9 := (Gs79 66 9 rfl).trans es63_3
      rcases pcs79 with pcs79 | pcs79 | pcs79
      · exfalso; omega
      · refine h_istore_n (pc' := 27) (M := [(1, .int r78), (0, .ref 63)]) rfl rfl rfl rfl ?_
        refine h_aload_n (pc' := 28) rfl rfl rfl ?_
        refine h_call (sp := false) (pc' := 31) (M := [(0, .ref 63)]) rfl rfl rfl rfl rfl rfl rfl rfl ?_
        refine h_aload_n (pc' := 1) rfl rfl rfl ?_
        refine h_getI (pc' := 4) (v := s79 63 2) rfl rfl rfl rfl rfl rfl (fun z80 hz80 => ?_)
        have tz80 := tf_63_2 Is79
        refine h_zne (tg := 22) (pc' := 7) rfl rfl rfl hz80 (fun c81 => ?_) (fun c81 => absurd c81 (by omega))
        refine h_iconst (pc' := 23) (x := (Int32.ofInt 0)) rfl rfl rfl ?_
        refine h_zret rfl rfl ci_0 (by omega) (h_Kv ?_)
        refine h_zeq (tg := 42) (pc' := 34) rfl rfl rfl ci_0 (fun c82 => ?_) (fun c82 => absurd c82 (by omega))
        refine h_bipush (pc' := 44) (x := (Int32.ofInt (-4))) rfl rfl cb_m4 ?_
        refine h_istore_n (pc' := 45) (M := [(2, .int (Int32.ofInt (-4))), (1, .int r78), (0, .ref 63)]) rfl rfl rfl rfl ?_
        refine h_aload_n (pc' := 46) rfl rfl rfl ?_
        refine h_getI (pc' := 49) (v := s79 63 2) rfl rfl rfl rfl rfl rfl (fun z83 hz83 => ?_)
        have tz83 := tf_63_2 Is79
        refine h_zne (tg := 61) (pc' := 52) rfl rfl rfl hz83 (fun c84 => ?_) (fun c84 => absurd c84 (by omega))
        exact h_vret rfl rfl (kk _ Is79 Fs79 (Or.inr (Or.inl ⟨by omega, by omega⟩)))
      · refine h_istore_n (pc' := 27) (M := [(1, .int r78), (0, .ref 63)]) rfl rfl rfl rfl ?_
        refine h_aload_n (pc' := 28) rfl rfl rfl ?_
        refine h_call (sp := false) (pc' := 31) (M := [(0, .ref 63)]) rfl rfl rfl rfl rfl rfl rfl rfl ?_
        refine h_aload_n (pc' := 1) rfl rfl rfl ?_
        refine h_getI (pc' := 4) (v := s79 63 2) rfl rfl rfl rfl rfl rfl (fun z85 hz85 => ?_)
        have tz85 := tf_63_2 Is79
        refine h_zne (tg := 22) (pc' := 7) rfl rfl rfl hz85 (fun c86 => absurd c86 (by omega)) (fun c86 => ?_)
        refine h_aload_n (pc' := 8) rfl rfl rfl ?_
        refine h_getR (pc' := 11) rfl rfl rfl rfl rfl ?_
        refine h_getI (pc' := 14) (v := s79 64 3) rfl rfl rfl rfl rfl rfl (fun z87 hz87 => ?_)
        have tz87 := tf_64_3 Is79
        refine h_iconst (pc' := 15) (x := (Int32.ofInt 2)) rfl rfl rfl ?_
        refine h_cne (tg := 22) (pc' := 18) rfl rfl rfl hz87 ci_2 (fun c88 => ?_) (fun c88 => ?_)
        · refine h_iconst (pc' := 23) (x := (Int32.ofInt 0)) rfl rfl rfl ?_
          refine h_zret rfl rfl ci_0 (by omega) (h_Kv ?_)
          refine h_zeq (tg := 42) (pc' := 34) rfl rfl rfl ci_0 (fun c89 => ?_) (fun c89 => absurd c89 (by omega))
          refine h_bipush (pc' := 44) (x := (Int32.ofInt (-4))) rfl rfl cb_m4 ?_
          refine h_istore_n (pc' := 45) (M := [(2, .int (Int32.ofInt (-4))), (1, .int r78), (0, .ref 63)]) rfl rfl rfl rfl ?_
          refine h_aload_n (pc' := 46) rfl rfl rfl ?_
          refine h_getI (pc' := 49) (v := s79 63 2) rfl rfl rfl rfl rfl rfl (fun z90 hz90 => ?_)
          have tz90 := tf_63_2 Is79
          refine h_zne (tg := 61) (pc' := 52) rfl rfl rfl hz90 (fun c91 => absurd c91 (by omega)) (fun c91 => ?_)
          refine h_aload_n (pc' := 53) rfl rfl rfl ?_
          refine h_getR (pc' := 56) rfl rfl rfl rfl rfl ?_
          refine h_iload_n (pc' := 57) rfl rfl rfl ?_
          refine h_iload_n (pc' := 58) rfl rfl rfl ?_
          refine h_call (sp := false) (pc' := 61) (M := [(0, .ref 66), (1, .int r78), (2, .int (Int32.ofInt (-4)))]) rfl rfl rfl rfl rfl rfl rfl rfl ?_
          refine h_aload_n (pc' := 1) rfl rfl rfl ?_
          refine h_getI (pc' := 4) (v := σ 66 9) rfl rfl rfl rfl rfl es79_3 (fun z92 hz92 => ?_)
          have tz92 := tf_66_9 hI
          refine h_iconst (pc' := 5) (x := (Int32.ofInt 3)) rfl rfl rfl ?_
          refine h_cge (tg := 48) (pc' := 8) rfl rfl rfl hz92 ci_3 (fun c93 => ?_) (fun c93 => absurd c93 (by omega))
          refine h_vret rfl rfl (h_Kn ?_)
          exact h_vret rfl rfl (kk _ Is79 Fs79 (Or.inr (Or.inr ⟨by omega, by omega, by omega⟩)))
        · refine h_iconst (pc' := 19) (x := (Int32.ofInt 1)) rfl rfl rfl ?_
          refine h_goto (pc' := 23) rfl rfl ?_
          refine h_zret rfl rfl ci_1 (by omega) (h_Kv ?_)
          refine h_zeq (tg := 42) (pc' := 34) rfl rfl rfl ci_1 (fun c94 => absurd c94 (by omega)) (fun c94 => ?_)
          refine h_aload_n (pc' := 35) rfl rfl rfl ?_
          refine h_iconst (pc' := 36) (x := (Int32.ofInt 5)) rfl rfl rfl ?_
          refine h_call (sp := false) (pc' := 39) (M := [(0, .ref 63), (1, .int (Int32.ofInt 5))]) rfl rfl rfl rfl rfl rfl rfl rfl ?_
          refine v_takeNumber _ Is79 (Int32.ofInt 5) _ ci_5 (by omega) (fun r95 br95 hr95 s96 Is96 Gs96 pcs96 => h_Kv ?_)
          have Fs96 := (Gs96.mono (B := kf_v_readGate) rfl).tr Fs79
          have es96_3 : s96 66 9 = σ 66 9 := (Gs96 66 9 rfl).trans es79_3
          rcases pcs96 with pcs96 | pcs96 | pcs96
          · exfalso; omega
          · refine h_goto (pc' := 44) rfl rfl ?_
            refine h_istore_n (pc' := 45) (M := [(2, .int r95), (1, .int r78), (0, .ref 63)]) rfl rfl rfl rfl ?_
            refine h_aload_n (pc' := 46) rfl rfl rfl ?_
            refine h_getI (pc' := 49) (v := s96 63 2) rfl rfl rfl rfl rfl rfl (fun z97 hz97 => ?_)
            have tz97 := tf_63_2 Is96
            refine h_zne (tg := 61) (pc' := 52) rfl rfl rfl hz97 (fun c98 => ?_) (fun c98 => absurd c98 (by omega))
            exact h_vret rfl rfl (kk _ Is96 Fs96 (Or.inr (Or.inl ⟨by omega, by omega⟩)))
          · refine h_goto (pc' := 44) rfl rfl ?_
            refine h_istore_n (pc' := 45) (M := [(2, .int r95), (1, .int r78), (0, .ref 63)]) rfl rfl rfl rfl ?_
            refine h_aload_n (pc' := 46) rfl rfl rfl ?_
            refine h_getI (pc' := 49) (v := s96 63 2) rfl rfl rfl rfl rfl rfl (fun z99 hz99 => ?_)
            have tz99 := tf_63_2 Is96
            refine h_zne (tg := 61) (pc' := 52) rfl rfl rfl hz99 (fun c100 => absurd c100 (by omega)) (fun c100 => ?_)
            refine h_aload_n (pc' := 53) rfl rfl rfl ?_
            refine h_getR (pc' := 56) rfl rfl rfl rfl rfl ?_
            refine h_iload_n (pc' := 57) rfl rfl rfl ?_
            refine h_iload_n (pc' := 58) rfl rfl rfl ?_
            refine h_call (sp := false) (pc' := 61) (M := [(0, .ref 66), (1, .int r78), (2, .int r95)]) rfl rfl rfl rfl rfl rfl rfl rfl ?_
            refine h_aload_n (pc' := 1) rfl rfl rfl ?_
            refine h_getI (pc' := 4) (v := σ 66 9) rfl rfl rfl rfl rfl es96_3 (fun z101 hz101 => ?_)
            have tz101 := tf_66_9 hI
            refine h_iconst (pc' := 5) (x := (Int32.ofInt 3)) rfl rfl rfl ?_
            refine h_cge (tg := 48) (pc' := 8) rfl rfl rfl hz101 ci_3 (fun c102 => ?_) (fun c102 => absurd c102 (by omega))
            refine h_vret rfl rfl (h_Kn ?_)
            exact h_vret rfl rfl (kk _ Is96 Fs96 (Or.inr (Or.inr ⟨by omega, by omega, by omega⟩)))
def kf_v_readAct : List Nat := [64514, 64515, 65538, 65539, 65540, 65541, 67594, 80895]
set_option maxHeartbeats 100000000 in
theorem v_readAct {ns : Nat} (σ : h_S) (hI : h_I σ) (pr0 : (¬ σ 63 2 = 0 ∨ ¬ σ 64 3 = 2 ∨ (0 ≤ σ 64 5 ∧ σ 64 5 ≤ 99))) (pr1 : σ 63 2 = 0) (pr2 : σ 64 3 = 2) {Q : Option Value → h_S → Prop} (kk : ∀ (τ : h_S), h_I τ → h_F (k_in kf_v_readAct) τ σ → (((1 ≤ σ 63 2 ∧ σ 63 2 ≤ 6) ∧ (1 ≤ τ 63 2 ∧ τ 63 2 ≤ 6)) ∨ ((σ 63 2 = 0) ∧ (1 ≤ τ 63 2 ∧ τ 63 2 ≤ 6)) ∨ ((σ 63 2 = 0) ∧ (τ 63 2 = 0) ∧ (¬ τ 64 3 = 2 ∨ (0 ≤ τ 64 5 ∧ τ 64 5 ≤ 99)))) → Q none τ) : h_T g_P (g_Y ns) 63 0 [(0, .ref 63)] [] σ Q := by
  have F00 : h_F (k_in kf_v_readAct) σ σ := h_F.rf
  have ge0 := tf_63_2 hI
  refine h_aload_n (pc' := 1) rfl rfl rfl ?_
  refine h_getR (pc' := 4) rfl rfl rfl rfl rfl ?_
  refine h_getI (pc' := 7) (v := σ 64 5) rfl rfl rfl rfl rfl rfl (fun z1 hz1 => ?_)
  have tz1 := tf_64_5 hI
  refine h_istore_n (pc' := 8) (M := [(1, .int z1), (0, .ref 63)]) rfl rfl rfl rfl ?_
  refine h_aload_n (pc' := 9) rfl rfl rfl ?_
  refine h_getR (pc' := 12) rfl rfl rfl rfl rfl ?_
  refine h_getI (pc' := 15) (v := σ 66 10) rfl rfl rfl rfl rfl rfl (fun z2 hz2 => ?_)
  have tz2 := tf_66_10 hI
  refine h_bipush (pc' := 17) (x := (Int32.ofInt 8)) rfl rfl cb_8 ?_
  refine h_clt (tg := 35) (pc' := 20) rfl rfl rfl hz2 ci_8 (fun c3 => ?_) (fun c3 => ?_)
  · refine h_iload_n (pc' := 36) rfl rfl rfl ?_
    refine h_bipush (pc' := 38) (x := (Int32.ofInt 10)) rfl rfl cb_10 ?_
    refine h_idiv (pc' := 39) rfl rfl hz1 ci_10 (by omega) (by omega) (fun z4 hz4 => ?_)
    refine h_bipush (pc' := 41) (x := (Int32.ofInt 6)) rfl rfl cb_6 ?_
    refine h_cge (tg := 52) (pc' := 44) rfl rfl rfl hz4 ci_6 (fun c5 => ?_) (fun c5 => ?_)
    · refine h_aload_n (pc' := 53) rfl rfl rfl ?_
      refine h_iconst (pc' := 54) (x := (Int32.ofInt 3)) rfl rfl rfl ?_
      refine h_aload_n (pc' := 55) rfl rfl rfl ?_
      refine h_getR (pc' := 58) rfl rfl rfl rfl rfl ?_
      refine h_getI (pc' := 61) (v := σ 64 4) rfl rfl rfl rfl rfl rfl (fun z6 hz6 => ?_)
      have tz6 := tf_64_4 hI
      refine h_call (sp := false) (pc' := 64) (M := [(0, .ref 63), (1, .int (Int32.ofInt 3)), (2, .int z6)]) rfl rfl rfl rfl rfl rfl rfl rfl ?_
      refine h_aload_n (pc' := 1) rfl rfl rfl ?_
      refine h_getI (pc' := 4) (v := σ 63 2) rfl rfl rfl rfl rfl rfl (fun z7 hz7 => ?_)
      have tz7 := tf_63_2 hI
      refine h_zne (tg := 17) (pc' := 7) rfl rfl rfl hz7 (fun c8 => ?_) (fun c8 => ?_)
      · refine h_vret rfl rfl (h_Kn ?_)
        refine h_goto (pc' := 79) rfl rfl ?_
        exact h_vret rfl rfl (kk _ hI F00 (Or.inl ⟨by omega, by omega⟩))
      · refine h_aload_n (pc' := 8) rfl rfl rfl ?_
        refine h_iload_n (pc' := 9) rfl rfl rfl ?_
        refine h_put (pc' := 12) rfl rfl rfl rfl rfl rfl ci_3 rfl (h_fgt (E := fun s => s 63 2 = 3 ∧ s 64 3 = σ 64 3 ∧ s 64 5 = σ 64 5 ∧ s 66 10 = σ 66 10) _ (if_63_2 hI (by omega)) (F00.up rfl) ⟨rfl, rfl, rfl, rfl⟩ (fun s9 Is9 Fs9 (es9 : s9 63 2 = 3 ∧ s9 64 3 = σ 64 3 ∧ s9 64 5 = σ 64 5 ∧ s9 66 10 = σ 66 10) => ?_))
        refine h_aload_n (pc' := 13) rfl rfl rfl ?_
        refine h_iload_n (pc' := 14) rfl rfl rfl ?_
        refine h_put (pc' := 17) rfl rfl rfl rfl rfl rfl hz6 rfl (h_fgt (E := fun s => s 63 2 = 3 ∧ s 64 3 = σ 64 3 ∧ s 64 5 = σ 64 5 ∧ s 66 10 = σ 66 10) _ (if_63_3 Is9 (h_rgv hz6)) (Fs9.up rfl) ⟨es9.1, es9.2.1, es9.2.2.1, es9.2.2.2⟩ (fun s10 Is10 Fs10 (es10 : s10 63 2 = 3 ∧ s10 64 3 = σ 64 3 ∧ s10 64 5 = σ 64 5 ∧ s10 66 10 = σ 66 10) => ?_))
        clear es9
        refine h_vret rfl rfl (h_Kn ?_)
        refine h_goto (pc' := 79) rfl rfl ?_
        exact h_vret rfl rfl (kk _ Is10 Fs10 (Or.inr (Or.inl ⟨by omega, by omega⟩)))
    · refine h_iload_n (pc' := 45) rfl rfl rfl ?_
      refine h_bipush (pc' := 47) (x := (Int32.ofInt 10)) rfl rfl cb_10 ?_
      refine h_irem (pc' := 48) rfl rfl hz1 ci_10 (by omega) (by omega) (fun z11 hz11 => ?_)
      refine h_iconst (pc' := 49) (x := (Int32.ofInt 3)) rfl rfl rfl ?_
      refine h_clt (tg := 67) (pc' := 52) rfl rfl rfl hz11 ci_3 (fun c12 => ?_) (fun c12 => ?_)
      · refine h_aload_n (pc' := 68) rfl rfl rfl ?_
        refine h_getR (pc' := 71) rfl rfl rfl rfl rfl ?_
        refine h_iload_n (pc' := 72) rfl rfl rfl ?_
        refine h_call (sp := false) (pc' := 75) (M := [(0, .ref 66), (1, .int z1)]) rfl rfl rfl rfl rfl rfl rfl rfl ?_
        refine h_aload_n (pc' := 1) rfl rfl rfl ?_
        refine h_getI (pc' := 4) (v := σ 66 10) rfl rfl rfl rfl rfl rfl (fun z13 hz13 => ?_)
        have tz13 := tf_66_10 hI
        refine h_bipush (pc' := 6) (x := (Int32.ofInt 8)) rfl rfl cb_8 ?_
        refine h_cge (tg := 29) (pc' := 9) rfl rfl rfl hz13 ci_8 (fun c14 => absurd c14 (by omega)) (fun c14 => ?_)
        refine h_aload_n (pc' := 10) rfl rfl rfl ?_
        refine h_getR (pc' := 13) rfl rfl rfl rfl rfl ?_
        refine h_aload_n (pc' := 14) rfl rfl rfl ?_
        refine h_getI (pc' := 17) (v := σ 66 10) rfl rfl rfl rfl rfl rfl (fun z15 hz15 => ?_)
        have tz15 := tf_66_10 hI
        refine h_iload_n (pc' := 18) rfl rfl rfl ?_
        refine h_iast (pc' := 19) rfl rfl rfl rfl hz15 (by omega) (by omega) hz1 (h_fgt (E := fun s => s 63 2 = σ 63 2 ∧ s 64 3 = σ 64 3 ∧ s 64 5 = σ 64 5 ∧ s 66 10 = σ 66 10) _ (in_78 hI (by omega)) (F00.up rfl) ⟨rfl, rfl, rfl, rfl⟩ (fun s16 Is16 Fs16 (es16 : s16 63 2 = σ 63 2 ∧ s16 64 3 = σ 64 3 ∧ s16 64 5 = σ 64 5 ∧ s16 66 10 = σ 66 10) => ?_))
        refine h_aload_n (pc' := 20) rfl rfl rfl ?_
        refine h_dup (pc' := 21) rfl rfl rfl ?_
        refine h_getI (pc' := 24) (v := σ 66 10) rfl rfl rfl rfl rfl es16.2.2.2 (fun z17 hz17 => ?_)
        have tz17 := tf_66_10 hI
        refine h_iconst (pc' := 25) (x := (Int32.ofInt 1)) rfl rfl rfl ?_
        refine h_iadd (pc' := 26) rfl rfl hz17 ci_1 rfl (by omega) (by omega) (fun z18 hz18 => ?_)
        refine h_put (pc' := 29) rfl rfl rfl rfl rfl rfl hz18 rfl (h_fgt (E := fun s => s 63 2 = σ 63 2 ∧ s 64 3 = σ 64 3 ∧ s 64 5 = σ 64 5 ∧ s 66 10 = ((σ 66 10) + 1)) _ (if_66_10 Is16 (by omega)) (Fs16.up rfl) ⟨es16.1, es16.2.1, es16.2.2.1, rfl⟩ (fun s19 Is19 Fs19 (es19 : s19 63 2 = σ 63 2 ∧ s19 64 3 = σ 64 3 ∧ s19 64 5 = σ 64 5 ∧ s19 66 10 = ((σ 66 10) + 1)) => ?_))
        clear es16
        refine h_vret rfl rfl (h_Kn ?_)
        refine h_aload_n (pc' := 76) rfl rfl rfl ?_
        refine h_call (sp := false) (pc' := 79) (M := [(0, .ref 63)]) rfl rfl rfl rfl rfl rfl rfl rfl ?_
        refine v_stepX _ Is19  (fun s21 Is21 Gs21 pcs21 => h_Kn ?_)
        have Fs21 := (Gs21.mono (B := kf_v_readAct) rfl).tr Fs19
        have es21_3 : s21 66 10 = ((σ 66 10) + 1) := (Gs21 66 10 rfl).trans es19.2.2.2
        rcases pcs21 with pcs21 | pcs21 | pcs21
        · exact h_vret rfl rfl (kk _ Is21 Fs21 (Or.inl ⟨by omega, by omega⟩))
        · exact h_vret rfl rfl (kk _ Is21 Fs21 (Or.inr (Or.inl ⟨by omega, by omega⟩)))
        · exact h_vret rfl rfl (kk _ Is21 Fs21 (Or.inr (Or.inr ⟨by omega, by omega, by omega⟩)))
      · refine h_aload_n (pc' := 53) rfl rfl rfl ?_
        refine h_iconst (pc' := 54) (x := (Int32.ofInt 3)) rfl rfl rfl ?_
        refine h_aload_n (pc' := 55) rfl rfl rfl ?_
        refine h_getR (pc' := 58) rfl rfl rfl rfl rfl ?_
        refine h_getI (pc' := 61) (v := σ 64 4) rfl rfl rfl rfl rfl rfl (fun z22 hz22 => ?_)
        have tz22 := tf_64_4 hI
        refine h_call (sp := false) (pc' := 64) (M := [(0, .ref 63), (1, .int (Int32.ofInt 3)), (2, .int z22)]) rfl rfl rfl rfl rfl rfl rfl rfl ?_
        refine h_aload_n (pc' := 1) rfl rfl rfl ?_
        refine h_getI (pc' := 4) (v := σ 63 2) rfl rfl rfl rfl rfl rfl (fun z23 hz23 => ?_)
        have tz23 := tf_63_2 hI
        refine h_zne (tg := 17) (pc' := 7) rfl rfl rfl hz23 (fun c24 => ?_) (fun c24 => ?_)
        · refine h_vret rfl rfl (h_Kn ?_)
          refine h_goto (pc' := 79) rfl rfl ?_
          exact h_vret rfl rfl (kk _ hI F00 (Or.inl ⟨by omega, by omega⟩))
        · refine h_aload_n (pc' := 8) rfl rfl rfl ?_
          refine h_iload_n (pc' := 9) rfl rfl rfl ?_
          refine h_put (pc' := 12) rfl rfl rfl rfl rfl rfl ci_3 rfl (h_fgt (E := fun s => s 63 2 = 3 ∧ s 64 3 = σ 64 3 ∧ s 64 5 = σ 64 5 ∧ s 66 10 = σ 66 10) _ (if_63_2 hI (by omega)) (F00.up rfl) ⟨rfl, rfl, rfl, rfl⟩ (fun s25 Is25 Fs25 (es25 : s25 63 2 = 3 ∧ s25 64 3 = σ 64 3 ∧ s25 64 5 = σ 64 5 ∧ s25 66 10 = σ 66 10) => ?_))
          refine h_aload_n (pc' := 13) rfl rfl rfl ?_
          refine h_iload_n (pc' := 14) rfl rfl rfl ?_
          refine h_put (pc' := 17) rfl rfl rfl rfl rfl rfl hz22 rfl (h_fgt (E := fun s => s 63 2 = 3 ∧ s 64 3 = σ 64 3 ∧ s 64 5 = σ 64 5 ∧ s 66 10 = σ 66 10) _ (if_63_3 Is25 (h_rgv hz22)) (Fs25.up rfl) ⟨es25.1, es25.2.1, es25.2.2.1, es25.2.2.2⟩ (fun s26 Is26 Fs26 (es26 : s26 63 2 = 3 ∧ s26 64 3 = σ 64 3 ∧ s26 64 5 = σ 64 5 ∧ s26 66 10 = σ 66 10) => ?_))
          clear es25
          refine h_vret rfl rfl (h_Kn ?_)
          refine h_goto (pc' := 79) rfl rfl ?_
          exact h_vret rfl rfl (kk _ Is26 Fs26 (Or.inr (Or.inl ⟨by omega, by omega⟩)))
  · refine h_aload_n (pc' := 21) rfl rfl rfl ?_
    refine h_iconst (pc' := 22) (x := (Int32.ofInt 5)) rfl rfl rfl ?_
    refine h_aload_n (pc' := 23) rfl rfl rfl ?_
    refine h_getR (pc' := 26) rfl rfl rfl rfl rfl ?_
    refine h_getI (pc' := 29) (v := σ 64 4) rfl rfl rfl rfl rfl rfl (fun z27 hz27 => ?_)
    have tz27 := tf_64_4 hI
    refine h_call (sp := false) (pc' := 32) (M := [(0, .ref 63), (1, .int (Int32.ofInt 5)), (2, .int z27)]) rfl rfl rfl rfl rfl rfl rfl rfl ?_
    refine h_aload_n (pc' := 1) rfl rfl rfl ?_
    refine h_getI (pc' := 4) (v := σ 63 2) rfl rfl rfl rfl rfl rfl (fun z28 hz28 => ?_)
    have tz28 := tf_63_2 hI
    refine h_zne (tg := 17) (pc' := 7) rfl rfl rfl hz28 (fun c29 => ?_) (fun c29 => ?_)
    · refine h_vret rfl rfl (h_Kn ?_)
      refine h_goto (pc' := 79) rfl rfl ?_
      exact h_vret rfl rfl (kk _ hI F00 (Or.inl ⟨by omega, by omega⟩))
    · refine h_aload_n (pc' := 8) rfl rfl rfl ?_
      refine h_iload_n (pc' := 9) rfl rfl rfl ?_
      refine h_put (pc' := 12) rfl rfl rfl rfl rfl rfl ci_5 rfl (h_fgt (E := fun s => s 63 2 = 5 ∧ s 64 3 = σ 64 3 ∧ s 64 5 = σ 64 5 ∧ s 66 10 = σ 66 10) _ (if_63_2 hI (by omega)) (F00.up rfl) ⟨rfl, rfl, rfl, rfl⟩ (fun s30 Is30 Fs30 (es30 : s30 63 2 = 5 ∧ s30 64 3 = σ 64 3 ∧ s30 64 5 = σ 64 5 ∧ s30 66 10 = σ 66 10) => ?_))
      refine h_aload_n (pc' := 13) rfl rfl rfl ?_
      refine h_iload_n (pc' := 14) rfl rfl rfl ?_
      refine h_put (pc' := 17) rfl rfl rfl rfl rfl rfl hz27 rfl (h_fgt (E := fun s => s 63 2 = 5 ∧ s 64 3 = σ 64 3 ∧ s 64 5 = σ 64 5 ∧ s 66 10 = σ 66 10) _ (if_63_3 Is30 (h_rgv hz27)) (Fs30.up rfl) ⟨es30.1, es30.2.1, es30.2.2.1, es30.2.2.2⟩ (fun s31 Is31 Fs31 (es31 : s31 63 2 = 5 ∧ s31 64 3 = σ 64 3 ∧ s31 64 5 = σ 64 5 ∧ s31 66 10 = σ 66 10) => ?_))
      clear es30
      refine h_vret rfl rfl (h_Kn ?_)
      refine h_goto (pc' := 79) rfl rfl ?_
      exact h_vret rfl rfl (kk _ Is31 Fs31 (Or.inr (Or.inl ⟨by omega, by omega⟩)))
def kf_v_readPlanX : List Nat := [64514, 64515, 64517, 65538, 65539, 65540, 65541, 67594, 80895]
set_option maxHeartbeats 100000000 in
theorem v_readPlanX_l (ns : Nat) (σ : h_S) (hI : h_I σ) (pr0 : (¬ σ 63 2 = 0 ∨ ¬ σ 64 3 = 2 ∨ (0 ≤ σ 64 5 ∧ σ 64 5 ≤ 99))) {Q : Option Value → h_S → Prop} (kk : ∀ (τ : h_S), h_I τ → h_F (k_in kf_v_readPlanX) τ σ → (((1 ≤ σ 63 2 ∧ σ 63 2 ≤ 6) ∧ (1 ≤ τ 63 2 ∧ τ 63 2 ≤ 6)) ∨ ((σ 63 2 = 0) ∧ (1 ≤ τ 63 2 ∧ τ 63 2 ≤ 6)) ∨ ((σ 63 2 = 0) ∧ (τ 63 2 = 0) ∧ (¬ τ 64 3 = 2 ∨ (0 ≤ τ 64 5 ∧ τ 64 5 ≤ 99)))) → Q none τ) : ∀ n : Nat, (∀ (s0 : h_S), h_I s0 → h_F (k_in kf_v_readPlanX) s0 σ → ∀ (y1 : Int32) (b1 : Int), y1.toInt = b1 → (0 ≤ b1 ∧ b1 ≤ 9) → ((¬ s0 63 2 = 0 ∨ ¬ s0 64 3 = 2 ∨ (0 ≤ s0 64 5 ∧ s0 64 5 ≤ 99))) → (¬ σ 63 2 = 0 → ¬ s0 63 2 = 0) → (9 + 1 - b1) * 1000000 + 1000000000 ≤ (n : Int) → h_T g_P (g_Y ns) 62 30 [(0, .ref 63), (1, .int y1)] [] s0 Q) := by
  intro n
  induction n with
  | zero => exact by intro s0 I0 F0_ y1 b1 hy1 ry1 ex0 ex1 hm; have gh0 := tf_63_2 hI; have gh1 := tf_63_2 I0; exfalso; omega
  | succ n ih =>
    intro s0 I0 F0_ y1 b1 hy1 ry1 ex0 ex1 hm; have gh0 := tf_63_2 hI; have gh1 := tf_63_2 I0
    refine h_iload_n (pc' := 31) rfl rfl rfl ?_
    refine h_bipush (pc' := 33) (x := (Int32.ofInt 8)) rfl rfl cb_8 ?_
    refine h_cgt (tg := 53) (pc' := 36) rfl rfl rfl hy1 ci_8 (fun c1 => ?_) (fun c1 => ?_)
    · exact h_vret rfl rfl (kk _ I0 F0_ (by omega))
    · refine h_aload_n (pc' := 37) rfl rfl rfl ?_
      refine h_call (sp := false) (pc' := 40) (M := [(0, .ref 63)]) rfl rfl rfl rfl rfl rfl rfl rfl ?_
      refine h_aload_n (pc' := 1) rfl rfl rfl ?_
      refine h_getI (pc' := 4) (v := s0 63 2) rfl rfl rfl rfl rfl rfl (fun z2 hz2 => ?_)
      have tz2 := tf_63_2 I0
      refine h_zne (tg := 22) (pc' := 7) rfl rfl rfl hz2 (fun c3 => ?_) (fun c3 => ?_)
      · refine h_iconst (pc' := 23) (x := (Int32.ofInt 0)) rfl rfl rfl ?_
        refine h_zret rfl rfl ci_0 (by omega) (h_Kv ?_)
        refine h_zeq (tg := 53) (pc' := 43) rfl rfl rfl ci_0 (fun c4 => ?_) (fun c4 => absurd c4 (by omega))
        exact h_vret rfl rfl (kk _ I0 F0_ (by omega))
      · refine h_aload_n (pc' := 8) rfl rfl rfl ?_
        refine h_getR (pc' := 11) rfl rfl rfl rfl rfl ?_
        refine h_getI (pc' := 14) (v := s0 64 3) rfl rfl rfl rfl rfl rfl (fun z5 hz5 => ?_)
        have tz5 := tf_64_3 I0
        refine h_iconst (pc' := 15) (x := (Int32.ofInt 2)) rfl rfl rfl ?_
        refine h_cne (tg := 22) (pc' := 18) rfl rfl rfl hz5 ci_2 (fun c6 => ?_) (fun c6 => ?_)
        · refine h_iconst (pc' := 23) (x := (Int32.ofInt 0)) rfl rfl rfl ?_
          refine h_zret rfl rfl ci_0 (by omega) (h_Kv ?_)
          refine h_zeq (tg := 53) (pc' := 43) rfl rfl rfl ci_0 (fun c7 => ?_) (fun c7 => absurd c7 (by omega))
          exact h_vret rfl rfl (kk _ I0 F0_ (by omega))
        · refine h_iconst (pc' := 19) (x := (Int32.ofInt 1)) rfl rfl rfl ?_
          refine h_goto (pc' := 23) rfl rfl ?_
          refine h_zret rfl rfl ci_1 (by omega) (h_Kv ?_)
          refine h_zeq (tg := 53) (pc' := 43) rfl rfl rfl ci_1 (fun c8 => absurd c8 (by omega)) (fun c8 => ?_)
          refine h_aload_n (pc' := 44) rfl rfl rfl ?_
          refine h_call (sp := false) (pc' := 47) (M := [(0, .ref 63)]) rfl rfl rfl rfl rfl rfl rfl rfl ?_
          refine v_readAct _ I0  (by omega) (by omega) (by omega) (fun s10 Is10 Gs10 pcs10 => h_Kn ?_)
          have Fs10 := (Gs10.mono (B := kf_v_readPlanX) rfl).tr F0_
          rcases pcs10 with pcs10 | pcs10 | pcs10
          · exfalso; omega
          · refine h_iinc (pc' := 50) (M := fun z11 => [(1, .int z11), (0, .ref 63)]) rfl rfl rfl rfl hy1 ci_1 rfl (by omega) (by omega) (fun _ => rfl) (fun z11 hz11 => ?_)
            refine h_goto (pc' := 30) rfl rfl ?_
            exact h_wk [(0, .ref 63), (1, .int z11)] ⟨rfl, rfl, trivial⟩ (ih _ Is10 Fs10 z11 _ hz11 (by omega) (by omega) (by omega) (by omega))
          · refine h_iinc (pc' := 50) (M := fun z12 => [(1, .int z12), (0, .ref 63)]) rfl rfl rfl rfl hy1 ci_1 rfl (by omega) (by omega) (fun _ => rfl) (fun z12 hz12 => ?_)
            refine h_goto (pc' := 30) rfl rfl ?_
            exact h_wk [(0, .ref 63), (1, .int z12)] ⟨rfl, rfl, trivial⟩ (ih _ Is10 Fs10 z12 _ hz12 (by omega) (by omega) (by omega) (by omega))
set_option maxHeartbeats 100000000 in
theorem v_readPlanX {ns : Nat} (σ : h_S) (hI : h_I σ) (pr0 : (¬ σ 63 2 = 0 ∨ ¬ σ 64 3 = 2 ∨ (0 ≤ σ 64 5 ∧ σ 64 5 ≤ 99))) {Q : Option Value → h_S → Prop} (kk : ∀ (τ : h_S), h_I τ → h_F (k_in kf_v_readPlanX) τ σ → (((1 ≤ σ 63 2 ∧ σ 63 2 ≤ 6) ∧ (1 ≤ τ 63 2 ∧ τ 63 2 ≤ 6)) ∨ ((σ 63 2 = 0) ∧ (1 ≤ τ 63 2 ∧ τ 63 2 ≤ 6)) ∨ ((σ 63 2 = 0) ∧ (τ 63 2 = 0) ∧ (¬ τ 64 3 = 2 ∨ (0 ≤ τ 64 5 ∧ τ 64 5 ≤ 99)))) → Q none τ) : h_T g_P (g_Y ns) 62 0 [(0, .ref 63)] [] σ Q := by
  have F00 : h_F (k_in kf_v_readPlanX) σ σ := h_F.rf
  have ge0 := tf_63_2 hI
  refine h_aload_n (pc' := 1) rfl rfl rfl ?_
  refine h_getI (pc' := 4) (v := σ 63 5) rfl rfl rfl rfl rfl rfl (fun z1 hz1 => ?_)
  have tz1 := tf_63_5 hI
  refine h_zeq (tg := 19) (pc' := 7) rfl rfl rfl hz1 (fun c2 => ?_) (fun c2 => ?_)
  · refine h_aload_n (pc' := 20) rfl rfl rfl ?_
    refine h_iconst (pc' := 21) (x := (Int32.ofInt 1)) rfl rfl rfl ?_
    refine h_put (pc' := 24) rfl rfl rfl rfl rfl rfl ci_1 (h_fb ci_1 (by omega)) (h_fgt (E := fun s => s 63 2 = σ 63 2 ∧ s 64 3 = σ 64 3 ∧ s 64 5 = σ 64 5) _ (if_63_5 hI (by omega)) (F00.up rfl) ⟨rfl, rfl, rfl⟩ (fun s3 Is3 Fs3 (es3 : s3 63 2 = σ 63 2 ∧ s3 64 3 = σ 64 3 ∧ s3 64 5 = σ 64 5) => ?_))
    refine h_aload_n (pc' := 25) rfl rfl rfl ?_
    refine h_call (sp := false) (pc' := 28) (M := [(0, .ref 63)]) rfl rfl rfl rfl rfl rfl rfl rfl ?_
    refine v_stepX _ Is3  (fun s5 Is5 Gs5 pcs5 => h_Kn ?_)
    have Fs5 := (Gs5.mono (B := kf_v_readPlanX) rfl).tr Fs3
    rcases pcs5 with pcs5 | pcs5 | pcs5
    · refine h_iconst (pc' := 29) (x := (Int32.ofInt 0)) rfl rfl rfl ?_
      refine h_istore_n (pc' := 30) (M := [(1, .int (Int32.ofInt 0)), (0, .ref 63)]) rfl rfl rfl rfl ?_
      exact h_wk [(0, .ref 63), (1, .int (Int32.ofInt 0))] ⟨rfl, rfl, trivial⟩ ((v_readPlanX_l ns σ hI pr0 kk 1000000000000) _ Is5 Fs5 (Int32.ofInt 0) _ ci_0 (by omega) (by omega) (by omega) (by omega))
    · refine h_iconst (pc' := 29) (x := (Int32.ofInt 0)) rfl rfl rfl ?_
      refine h_istore_n (pc' := 30) (M := [(1, .int (Int32.ofInt 0)), (0, .ref 63)]) rfl rfl rfl rfl ?_
      exact h_wk [(0, .ref 63), (1, .int (Int32.ofInt 0))] ⟨rfl, rfl, trivial⟩ ((v_readPlanX_l ns σ hI pr0 kk 1000000000000) _ Is5 Fs5 (Int32.ofInt 0) _ ci_0 (by omega) (by omega) (by omega) (by omega))
    · refine h_iconst (pc' := 29) (x := (Int32.ofInt 0)) rfl rfl rfl ?_
      refine h_istore_n (pc' := 30) (M := [(1, .int (Int32.ofInt 0)), (0, .ref 63)]) rfl rfl rfl rfl ?_
      exact h_wk [(0, .ref 63), (1, .int (Int32.ofInt 0))] ⟨rfl, rfl, trivial⟩ ((v_readPlanX_l ns σ hI pr0 kk 1000000000000) _ Is5 Fs5 (Int32.ofInt 0) _ ci_0 (by omega) (by omega) (by omega) (by omega))
  · refine h_aload_n (pc' := 8) rfl rfl rfl ?_
    refine h_iconst (pc' := 9) (x := (Int32.ofInt 4)) rfl rfl rfl ?_
    refine h_aload_n (pc' := 10) rfl rfl rfl ?_
    refine h_getR (pc' := 13) rfl rfl rfl rfl rfl ?_
    refine h_getI (pc' := 16) (v := σ 64 4) rfl rfl rfl rfl rfl rfl (fun z6 hz6 => ?_)
    have tz6 := tf_64_4 hI
    refine h_call (sp := false) (pc' := 19) (M := [(0, .ref 63), (1, .int (Int32.ofInt 4)), (2, .int z6)]) rfl rfl rfl rfl rfl rfl rfl rfl ?_
    refine h_aload_n (pc' := 1) rfl rfl rfl ?_
    refine h_getI (pc' := 4) (v := σ 63 2) rfl rfl rfl rfl rfl rfl (fun z7 hz7 => ?_)
    have tz7 := tf_63_2 hI
    refine h_zne (tg := 17) (pc' := 7) rfl rfl rfl hz7 (fun c8 => ?_) (fun c8 => ?_)
    · refine h_vret rfl rfl (h_Kn ?_)
      refine h_aload_n (pc' := 20) rfl rfl rfl ?_
      refine h_iconst (pc' := 21) (x := (Int32.ofInt 1)) rfl rfl rfl ?_
      refine h_put (pc' := 24) rfl rfl rfl rfl rfl rfl ci_1 (h_fb ci_1 (by omega)) (h_fgt (E := fun s => s 63 2 = σ 63 2 ∧ s 64 3 = σ 64 3 ∧ s 64 5 = σ 64 5) _ (if_63_5 hI (by omega)) (F00.up rfl) ⟨rfl, rfl, rfl⟩ (fun s9 Is9 Fs9 (es9 : s9 63 2 = σ 63 2 ∧ s9 64 3 = σ 64 3 ∧ s9 64 5 = σ 64 5) => ?_))
      refine h_aload_n (pc' := 25) rfl rfl rfl ?_
      refine h_call (sp := false) (pc' := 28) (M := [(0, .ref 63)]) rfl rfl rfl rfl rfl rfl rfl rfl ?_
      refine v_stepX _ Is9  (fun s11 Is11 Gs11 pcs11 => h_Kn ?_)
      have Fs11 := (Gs11.mono (B := kf_v_readPlanX) rfl).tr Fs9
      rcases pcs11 with pcs11 | pcs11 | pcs11
      · refine h_iconst (pc' := 29) (x := (Int32.ofInt 0)) rfl rfl rfl ?_
        refine h_istore_n (pc' := 30) (M := [(1, .int (Int32.ofInt 0)), (0, .ref 63)]) rfl rfl rfl rfl ?_
        exact h_wk [(0, .ref 63), (1, .int (Int32.ofInt 0))] ⟨rfl, rfl, trivial⟩ ((v_readPlanX_l ns σ hI pr0 kk 1000000000000) _ Is11 Fs11 (Int32.ofInt 0) _ ci_0 (by omega) (by omega) (by omega) (by omega))
      · exfalso; omega
      · exfalso; omega
    · refine h_aload_n (pc' := 8) rfl rfl rfl ?_
      refine h_iload_n (pc' := 9) rfl rfl rfl ?_
      refine h_put (pc' := 12) rfl rfl rfl rfl rfl rfl ci_4 rfl (h_fgt (E := fun s => s 63 2 = 4 ∧ s 64 3 = σ 64 3 ∧ s 64 5 = σ 64 5) _ (if_63_2 hI (by omega)) (F00.up rfl) ⟨rfl, rfl, rfl⟩ (fun s12 Is12 Fs12 (es12 : s12 63 2 = 4 ∧ s12 64 3 = σ 64 3 ∧ s12 64 5 = σ 64 5) => ?_))
      refine h_aload_n (pc' := 13) rfl rfl rfl ?_
      refine h_iload_n (pc' := 14) rfl rfl rfl ?_
      refine h_put (pc' := 17) rfl rfl rfl rfl rfl rfl hz6 rfl (h_fgt (E := fun s => s 63 2 = 4 ∧ s 64 3 = σ 64 3 ∧ s 64 5 = σ 64 5) _ (if_63_3 Is12 (h_rgv hz6)) (Fs12.up rfl) ⟨es12.1, es12.2.1, es12.2.2⟩ (fun s13 Is13 Fs13 (es13 : s13 63 2 = 4 ∧ s13 64 3 = σ 64 3 ∧ s13 64 5 = σ 64 5) => ?_))
      clear es12
      refine h_vret rfl rfl (h_Kn ?_)
      refine h_aload_n (pc' := 20) rfl rfl rfl ?_
      refine h_iconst (pc' := 21) (x := (Int32.ofInt 1)) rfl rfl rfl ?_
      refine h_put (pc' := 24) rfl rfl rfl rfl rfl rfl ci_1 (h_fb ci_1 (by omega)) (h_fgt (E := fun s => s 63 2 = 4 ∧ s 64 3 = σ 64 3 ∧ s 64 5 = σ 64 5) _ (if_63_5 Is13 (by omega)) (Fs13.up rfl) ⟨es13.1, es13.2.1, es13.2.2⟩ (fun s14 Is14 Fs14 (es14 : s14 63 2 = 4 ∧ s14 64 3 = σ 64 3 ∧ s14 64 5 = σ 64 5) => ?_))
      clear es13
      refine h_aload_n (pc' := 25) rfl rfl rfl ?_
      refine h_call (sp := false) (pc' := 28) (M := [(0, .ref 63)]) rfl rfl rfl rfl rfl rfl rfl rfl ?_
      refine v_stepX _ Is14  (fun s16 Is16 Gs16 pcs16 => h_Kn ?_)
      have Fs16 := (Gs16.mono (B := kf_v_readPlanX) rfl).tr Fs14
      rcases pcs16 with pcs16 | pcs16 | pcs16
      · refine h_iconst (pc' := 29) (x := (Int32.ofInt 0)) rfl rfl rfl ?_
        refine h_istore_n (pc' := 30) (M := [(1, .int (Int32.ofInt 0)), (0, .ref 63)]) rfl rfl rfl rfl ?_
        exact h_wk [(0, .ref 63), (1, .int (Int32.ofInt 0))] ⟨rfl, rfl, trivial⟩ ((v_readPlanX_l ns σ hI pr0 kk 1000000000000) _ Is16 Fs16 (Int32.ofInt 0) _ ci_0 (by omega) (by omega) (by omega) (by omega))
      · exfalso; omega
      · exfalso; omega
def kf_v_readLineX : List Nat := [64514, 64515, 64517, 65538, 65539, 65540, 65541, 67592, 67593, 67594, 69631, 70655, 70658, 72703, 73727, 73730, 75775, 76799, 77823, 78847, 79871, 80895]
set_option maxHeartbeats 100000000 in
theorem v_readLineX_l (ns : Nat) (σ : h_S) (hI : h_I σ) (pr0 : (¬ σ 63 2 = 0 ∨ ¬ σ 64 3 = 2 ∨ (0 ≤ σ 64 5 ∧ σ 64 5 ≤ 99))) {Q : Option Value → h_S → Prop} (kk : ∀ (τ : h_S), h_I τ → h_F (k_in kf_v_readLineX) τ σ → (((1 ≤ σ 63 2 ∧ σ 63 2 ≤ 6) ∧ (1 ≤ τ 63 2 ∧ τ 63 2 ≤ 6)) ∨ ((σ 63 2 = 0) ∧ (1 ≤ τ 63 2 ∧ τ 63 2 ≤ 6)) ∨ ((σ 63 2 = 0) ∧ (τ 63 2 = 0) ∧ (¬ τ 64 3 = 2 ∨ (0 ≤ τ 64 5 ∧ τ 64 5 ≤ 99)))) → Q none τ) : ∀ n : Nat, (∀ (s0 : h_S), h_I s0 → h_F (k_in kf_v_readLineX) s0 σ → ∀ (y1 : Int32) (b1 : Int), y1.toInt = b1 → ((-4) ≤ b1 ∧ b1 ≤ 7) → ((¬ s0 63 2 = 0 ∨ ¬ s0 64 3 = 2 ∨ (0 ≤ s0 64 5 ∧ s0 64 5 ≤ 99))) → (¬ σ 63 2 = 0 → ¬ s0 63 2 = 0) → 1 ≤ (n : Int) → h_T g_P (g_Y ns) 56 150 [(0, .ref 63), (1, .int y1)] [] s0 Q) := by
  intro n
  induction n with
  | zero => exact by intro s0 I0 F0_ y1 b1 hy1 ry1 ex0 ex1 hm; have gh0 := tf_63_2 hI; have gh1 := tf_63_2 I0; exfalso; omega
  | succ n ih =>
    intro s0 I0 F0_ y1 b1 hy1 ry1 ex0 ex1 hm; have gh0 := tf_63_2 hI; have gh1 := tf_63_2 I0
    refine h_aload_n (pc' := 151) rfl rfl rfl ?_
    refine h_getI (pc' := 154) (v := s0 63 2) rfl rfl rfl rfl rfl rfl (fun z1 hz1 => ?_)
    have tz1 := tf_63_2 I0
    refine h_zne (tg := 180) (pc' := 157) rfl rfl rfl hz1 (fun c2 => ?_) (fun c2 => ?_)
    · exact h_vret rfl rfl (kk _ I0 F0_ (by omega))
    · refine h_aload_n (pc' := 158) rfl rfl rfl ?_
      refine h_getR (pc' := 161) rfl rfl rfl rfl rfl ?_
      refine h_getI (pc' := 164) (v := s0 64 3) rfl rfl rfl rfl rfl rfl (fun z3 hz3 => ?_)
      have tz3 := tf_64_3 I0
      refine h_iconst (pc' := 165) (x := (Int32.ofInt 3)) rfl rfl rfl ?_
      refine h_ceq (tg := 180) (pc' := 168) rfl rfl rfl hz3 ci_3 (fun c4 => ?_) (fun c4 => ?_)
      · exact h_vret rfl rfl (kk _ I0 F0_ (by omega))
      · refine h_aload_n (pc' := 169) rfl rfl rfl ?_
        refine h_iconst (pc' := 170) (x := (Int32.ofInt 2)) rfl rfl rfl ?_
        refine h_aload_n (pc' := 171) rfl rfl rfl ?_
        refine h_getR (pc' := 174) rfl rfl rfl rfl rfl ?_
        refine h_getI (pc' := 177) (v := s0 64 4) rfl rfl rfl rfl rfl rfl (fun z5 hz5 => ?_)
        have tz5 := tf_64_4 I0
        refine h_call (sp := false) (pc' := 180) (M := [(0, .ref 63), (1, .int (Int32.ofInt 2)), (2, .int z5)]) rfl rfl rfl rfl rfl rfl rfl rfl ?_
        refine h_aload_n (pc' := 1) rfl rfl rfl ?_
        refine h_getI (pc' := 4) (v := s0 63 2) rfl rfl rfl rfl rfl rfl (fun z6 hz6 => ?_)
        have tz6 := tf_63_2 I0
        refine h_zne (tg := 17) (pc' := 7) rfl rfl rfl hz6 (fun c7 => absurd c7 (by omega)) (fun c7 => ?_)
        refine h_aload_n (pc' := 8) rfl rfl rfl ?_
        refine h_iload_n (pc' := 9) rfl rfl rfl ?_
        refine h_put (pc' := 12) rfl rfl rfl rfl rfl rfl ci_2 rfl (h_fgt (E := fun s => s 63 2 = 2 ∧ s 64 3 = s0 64 3 ∧ s 64 5 = s0 64 5) _ (if_63_2 I0 (by omega)) (F0_.up rfl) ⟨rfl, rfl, rfl⟩ (fun s8 Is8 Fs8 (es8 : s8 63 2 = 2 ∧ s8 64 3 = s0 64 3 ∧ s8 64 5 = s0 64 5) => ?_))
        refine h_aload_n (pc' := 13) rfl rfl rfl ?_
        refine h_iload_n (pc' := 14) rfl rfl rfl ?_
        refine h_put (pc' := 17) rfl rfl rfl rfl rfl rfl hz5 rfl (h_fgt (E := fun s => s 63 2 = 2 ∧ s 64 3 = s0 64 3 ∧ s 64 5 = s0 64 5) _ (if_63_3 Is8 (h_rgv hz5)) (Fs8.up rfl) ⟨es8.1, es8.2.1, es8.2.2⟩ (fun s9 Is9 Fs9 (es9 : s9 63 2 = 2 ∧ s9 64 3 = s0 64 3 ∧ s9 64 5 = s0 64 5) => ?_))
        clear es8
        refine h_vret rfl rfl (h_Kn ?_)
        exact h_vret rfl rfl (kk _ Is9 Fs9 (by omega))
set_option maxHeartbeats 100000000 in
theorem v_readLineX {ns : Nat} (σ : h_S) (hI : h_I σ) (pr0 : (¬ σ 63 2 = 0 ∨ ¬ σ 64 3 = 2 ∨ (0 ≤ σ 64 5 ∧ σ 64 5 ≤ 99))) {Q : Option Value → h_S → Prop} (kk : ∀ (τ : h_S), h_I τ → h_F (k_in kf_v_readLineX) τ σ → (((1 ≤ σ 63 2 ∧ σ 63 2 ≤ 6) ∧ (1 ≤ τ 63 2 ∧ τ 63 2 ≤ 6)) ∨ ((σ 63 2 = 0) ∧ (1 ≤ τ 63 2 ∧ τ 63 2 ≤ 6)) ∨ ((σ 63 2 = 0) ∧ (τ 63 2 = 0) ∧ (¬ τ 64 3 = 2 ∨ (0 ≤ τ 64 5 ∧ τ 64 5 ≤ 99)))) → Q none τ) : h_T g_P (g_Y ns) 56 0 [(0, .ref 63)] [] σ Q := by
  have F00 : h_F (k_in kf_v_readLineX) σ σ := h_F.rf
  have ge0 := tf_63_2 hI
  refine h_aload_n (pc' := 1) rfl rfl rfl ?_
  refine h_getR (pc' := 4) rfl rfl rfl rfl rfl ?_
  refine h_getI (pc' := 7) (v := σ 64 3) rfl rfl rfl rfl rfl rfl (fun z1 hz1 => ?_)
  have tz1 := tf_64_3 hI
  refine h_iconst (pc' := 8) (x := (Int32.ofInt 1)) rfl rfl rfl ?_
  refine h_cne (tg := 21) (pc' := 11) rfl rfl rfl hz1 ci_1 (fun c2 => ?_) (fun c2 => ?_)
  · refine h_bipush (pc' := 23) (x := (Int32.ofInt (-4))) rfl rfl cb_m4 ?_
    refine h_istore_n (pc' := 24) (M := [(1, .int (Int32.ofInt (-4))), (0, .ref 63)]) rfl rfl rfl rfl ?_
    refine h_iload_n (pc' := 25) rfl rfl rfl ?_
    refine h_tsw (dt := 145) (ts := [130, 145, 145, 145, 145, 145, 145, 145, 88, 102, 116, 123]) rfl rfl rfl rfl ci_m4 (fun c3 => absurd c3 (by omega)) ⟨fun c3 => ?_, fun c3 => absurd c3 (by omega), fun c3 => absurd c3 (by omega), fun c3 => absurd c3 (by omega), fun c3 => absurd c3 (by omega), fun c3 => absurd c3 (by omega), fun c3 => absurd c3 (by omega), fun c3 => absurd c3 (by omega), fun c3 => absurd c3 (by omega), fun c3 => absurd c3 (by omega), fun c3 => absurd c3 (by omega), fun c3 => absurd c3 (by omega), trivial⟩
    refine h_aload_n (pc' := 131) rfl rfl rfl ?_
    refine h_iconst (pc' := 132) (x := (Int32.ofInt 2)) rfl rfl rfl ?_
    refine h_aload_n (pc' := 133) rfl rfl rfl ?_
    refine h_getR (pc' := 136) rfl rfl rfl rfl rfl ?_
    refine h_getI (pc' := 139) (v := σ 64 4) rfl rfl rfl rfl rfl rfl (fun z4 hz4 => ?_)
    have tz4 := tf_64_4 hI
    refine h_call (sp := false) (pc' := 142) (M := [(0, .ref 63), (1, .int (Int32.ofInt 2)), (2, .int z4)]) rfl rfl rfl rfl rfl rfl rfl rfl ?_
    refine h_aload_n (pc' := 1) rfl rfl rfl ?_
    refine h_getI (pc' := 4) (v := σ 63 2) rfl rfl rfl rfl rfl rfl (fun z5 hz5 => ?_)
    have tz5 := tf_63_2 hI
    refine h_zne (tg := 17) (pc' := 7) rfl rfl rfl hz5 (fun c6 => ?_) (fun c6 => ?_)
    · refine h_vret rfl rfl (h_Kn ?_)
      refine h_goto (pc' := 150) rfl rfl ?_
      exact h_wk [(0, .ref 63), (1, .int (Int32.ofInt (-4)))] ⟨rfl, rfl, trivial⟩ ((v_readLineX_l ns σ hI pr0 kk 1000000000000) _ hI F00 (Int32.ofInt (-4)) _ ci_m4 (by omega) (by omega) (by omega) (by omega))
    · refine h_aload_n (pc' := 8) rfl rfl rfl ?_
      refine h_iload_n (pc' := 9) rfl rfl rfl ?_
      refine h_put (pc' := 12) rfl rfl rfl rfl rfl rfl ci_2 rfl (h_fgt (E := fun s => s 63 2 = 2 ∧ s 64 3 = σ 64 3 ∧ s 64 5 = σ 64 5) _ (if_63_2 hI (by omega)) (F00.up rfl) ⟨rfl, rfl, rfl⟩ (fun s7 Is7 Fs7 (es7 : s7 63 2 = 2 ∧ s7 64 3 = σ 64 3 ∧ s7 64 5 = σ 64 5) => ?_))
      refine h_aload_n (pc' := 13) rfl rfl rfl ?_
      refine h_iload_n (pc' := 14) rfl rfl rfl ?_
      refine h_put (pc' := 17) rfl rfl rfl rfl rfl rfl hz4 rfl (h_fgt (E := fun s => s 63 2 = 2 ∧ s 64 3 = σ 64 3 ∧ s 64 5 = σ 64 5) _ (if_63_3 Is7 (h_rgv hz4)) (Fs7.up rfl) ⟨es7.1, es7.2.1, es7.2.2⟩ (fun s8 Is8 Fs8 (es8 : s8 63 2 = 2 ∧ s8 64 3 = σ 64 3 ∧ s8 64 5 = σ 64 5) => ?_))
      clear es7
      refine h_vret rfl rfl (h_Kn ?_)
      refine h_goto (pc' := 150) rfl rfl ?_
      exact h_wk [(0, .ref 63), (1, .int (Int32.ofInt (-4)))] ⟨rfl, rfl, trivial⟩ ((v_readLineX_l ns σ hI pr0 kk 1000000000000) _ Is8 Fs8 (Int32.ofInt (-4)) _ ci_m4 (by omega) (by omega) (by omega) (by omega))
  · refine h_aload_n (pc' := 12) rfl rfl rfl ?_
    refine h_getR (pc' := 15) rfl rfl rfl rfl rfl ?_
    refine h_call (sp := false) (pc' := 18) (M := [(0, .ref 64)]) rfl rfl rfl rfl rfl rfl rfl rfl ?_
    refine v_whichName _ hI  (fun r9 br9 hr9 tr9 ps10_0 => h_Kv ?_)
    refine h_goto (pc' := 23) rfl rfl ?_
    refine h_istore_n (pc' := 24) (M := [(1, .int r9), (0, .ref 63)]) rfl rfl rfl rfl ?_
    refine h_iload_n (pc' := 25) rfl rfl rfl ?_
    refine h_tsw (dt := 145) (ts := [130, 145, 145, 145, 145, 145, 145, 145, 88, 102, 116, 123]) rfl rfl rfl rfl hr9 (fun c11 => absurd c11 (by omega)) ⟨fun c11 => ?_, fun c11 => ?_, fun c11 => ?_, fun c11 => ?_, fun c11 => ?_, fun c11 => ?_, fun c11 => ?_, fun c11 => ?_, fun c11 => ?_, fun c11 => ?_, fun c11 => ?_, fun c11 => ?_, trivial⟩
    · refine h_aload_n (pc' := 131) rfl rfl rfl ?_
      refine h_iconst (pc' := 132) (x := (Int32.ofInt 2)) rfl rfl rfl ?_
      refine h_aload_n (pc' := 133) rfl rfl rfl ?_
      refine h_getR (pc' := 136) rfl rfl rfl rfl rfl ?_
      refine h_getI (pc' := 139) (v := σ 64 4) rfl rfl rfl rfl rfl rfl (fun z12 hz12 => ?_)
      have tz12 := tf_64_4 hI
      refine h_call (sp := false) (pc' := 142) (M := [(0, .ref 63), (1, .int (Int32.ofInt 2)), (2, .int z12)]) rfl rfl rfl rfl rfl rfl rfl rfl ?_
      refine h_aload_n (pc' := 1) rfl rfl rfl ?_
      refine h_getI (pc' := 4) (v := σ 63 2) rfl rfl rfl rfl rfl rfl (fun z13 hz13 => ?_)
      have tz13 := tf_63_2 hI
      refine h_zne (tg := 17) (pc' := 7) rfl rfl rfl hz13 (fun c14 => ?_) (fun c14 => ?_)
      · refine h_vret rfl rfl (h_Kn ?_)
        refine h_goto (pc' := 150) rfl rfl ?_
        exact h_wk [(0, .ref 63), (1, .int r9)] ⟨rfl, rfl, trivial⟩ ((v_readLineX_l ns σ hI pr0 kk 1000000000000) _ hI F00 r9 _ hr9 (by omega) (by omega) (by omega) (by omega))
      · refine h_aload_n (pc' := 8) rfl rfl rfl ?_
        refine h_iload_n (pc' := 9) rfl rfl rfl ?_
        refine h_put (pc' := 12) rfl rfl rfl rfl rfl rfl ci_2 rfl (h_fgt (E := fun s => s 63 2 = 2 ∧ s 64 3 = σ 64 3 ∧ s 64 5 = σ 64 5) _ (if_63_2 hI (by omega)) (F00.up rfl) ⟨rfl, rfl, rfl⟩ (fun s15 Is15 Fs15 (es15 : s15 63 2 = 2 ∧ s15 64 3 = σ 64 3 ∧ s15 64 5 = σ 64 5) => ?_))
        refine h_aload_n (pc' := 13) rfl rfl rfl ?_
        refine h_iload_n (pc' := 14) rfl rfl rfl ?_
        refine h_put (pc' := 17) rfl rfl rfl rfl rfl rfl hz12 rfl (h_fgt (E := fun s => s 63 2 = 2 ∧ s 64 3 = σ 64 3 ∧ s 64 5 = σ 64 5) _ (if_63_3 Is15 (h_rgv hz12)) (Fs15.up rfl) ⟨es15.1, es15.2.1, es15.2.2⟩ (fun s16 Is16 Fs16 (es16 : s16 63 2 = 2 ∧ s16 64 3 = σ 64 3 ∧ s16 64 5 = σ 64 5) => ?_))
        clear es15
        refine h_vret rfl rfl (h_Kn ?_)
        refine h_goto (pc' := 150) rfl rfl ?_
        exact h_wk [(0, .ref 63), (1, .int r9)] ⟨rfl, rfl, trivial⟩ ((v_readLineX_l ns σ hI pr0 kk 1000000000000) _ Is16 Fs16 r9 _ hr9 (by omega) (by omega) (by omega) (by omega))
    · refine h_aload_n (pc' := 146) rfl rfl rfl ?_
      refine h_iload_n (pc' := 147) rfl rfl rfl ?_
      refine h_call (sp := false) (pc' := 150) (M := [(0, .ref 63), (1, .int r9)]) rfl rfl rfl rfl rfl rfl rfl rfl ?_
      refine v_readOne _ hI r9 _ hr9 (by omega) (by omega) (fun s18 Is18 Gs18 pcs18 => h_Kn ?_)
      have Fs18 := (Gs18.mono (B := kf_v_readLineX) rfl).tr F00
      rcases pcs18 with pcs18 | pcs18 | pcs18
      · exact h_wk [(0, .ref 63), (1, .int r9)] ⟨rfl, rfl, trivial⟩ ((v_readLineX_l ns σ hI pr0 kk 1000000000000) _ Is18 Fs18 r9 _ hr9 (by omega) (by omega) (by omega) (by omega))
      · exact h_wk [(0, .ref 63), (1, .int r9)] ⟨rfl, rfl, trivial⟩ ((v_readLineX_l ns σ hI pr0 kk 1000000000000) _ Is18 Fs18 r9 _ hr9 (by omega) (by omega) (by omega) (by omega))
      · exact h_wk [(0, .ref 63), (1, .int r9)] ⟨rfl, rfl, trivial⟩ ((v_readLineX_l ns σ hI pr0 kk 1000000000000) _ Is18 Fs18 r9 _ hr9 (by omega) (by omega) (by omega) (by omega))
    · refine h_aload_n (pc' := 146) rfl rfl rfl ?_
      refine h_iload_n (pc' := 147) rfl rfl rfl ?_
      refine h_call (sp := false) (pc' := 150) (M := [(0, .ref 63), (1, .int r9)]) rfl rfl rfl rfl rfl rfl rfl rfl ?_
      refine v_readOne _ hI r9 _ hr9 (by omega) (by omega) (fun s20 Is20 Gs20 pcs20 => h_Kn ?_)
      have Fs20 := (Gs20.mono (B := kf_v_readLineX) rfl).tr F00
      rcases pcs20 with pcs20 | pcs20 | pcs20
      · exact h_wk [(0, .ref 63), (1, .int r9)] ⟨rfl, rfl, trivial⟩ ((v_readLineX_l ns σ hI pr0 kk 1000000000000) _ Is20 Fs20 r9 _ hr9 (by omega) (by omega) (by omega) (by omega))
      · exact h_wk [(0, .ref 63), (1, .int r9)] ⟨rfl, rfl, trivial⟩ ((v_readLineX_l ns σ hI pr0 kk 1000000000000) _ Is20 Fs20 r9 _ hr9 (by omega) (by omega) (by omega) (by omega))
      · exact h_wk [(0, .ref 63), (1, .int r9)] ⟨rfl, rfl, trivial⟩ ((v_readLineX_l ns σ hI pr0 kk 1000000000000) _ Is20 Fs20 r9 _ hr9 (by omega) (by omega) (by omega) (by omega))
    · refine h_aload_n (pc' := 146) rfl rfl rfl ?_
      refine h_iload_n (pc' := 147) rfl rfl rfl ?_
      refine h_call (sp := false) (pc' := 150) (M := [(0, .ref 63), (1, .int r9)]) rfl rfl rfl rfl rfl rfl rfl rfl ?_
      refine v_readOne _ hI r9 _ hr9 (by omega) (by omega) (fun s22 Is22 Gs22 pcs22 => h_Kn ?_)
      have Fs22 := (Gs22.mono (B := kf_v_readLineX) rfl).tr F00
      rcases pcs22 with pcs22 | pcs22 | pcs22
      · exact h_wk [(0, .ref 63), (1, .int r9)] ⟨rfl, rfl, trivial⟩ ((v_readLineX_l ns σ hI pr0 kk 1000000000000) _ Is22 Fs22 r9 _ hr9 (by omega) (by omega) (by omega) (by omega))
      · exact h_wk [(0, .ref 63), (1, .int r9)] ⟨rfl, rfl, trivial⟩ ((v_readLineX_l ns σ hI pr0 kk 1000000000000) _ Is22 Fs22 r9 _ hr9 (by omega) (by omega) (by omega) (by omega))
      · exact h_wk [(0, .ref 63), (1, .int r9)] ⟨rfl, rfl, trivial⟩ ((v_readLineX_l ns σ hI pr0 kk 1000000000000) _ Is22 Fs22 r9 _ hr9 (by omega) (by omega) (by omega) (by omega))
    · refine h_aload_n (pc' := 146) rfl rfl rfl ?_
      refine h_iload_n (pc' := 147) rfl rfl rfl ?_
      refine h_call (sp := false) (pc' := 150) (M := [(0, .ref 63), (1, .int r9)]) rfl rfl rfl rfl rfl rfl rfl rfl ?_
      refine v_readOne _ hI r9 _ hr9 (by omega) (by omega) (fun s24 Is24 Gs24 pcs24 => h_Kn ?_)
      have Fs24 := (Gs24.mono (B := kf_v_readLineX) rfl).tr F00
      rcases pcs24 with pcs24 | pcs24 | pcs24
      · exact h_wk [(0, .ref 63), (1, .int r9)] ⟨rfl, rfl, trivial⟩ ((v_readLineX_l ns σ hI pr0 kk 1000000000000) _ Is24 Fs24 r9 _ hr9 (by omega) (by omega) (by omega) (by omega))
      · exact h_wk [(0, .ref 63), (1, .int r9)] ⟨rfl, rfl, trivial⟩ ((v_readLineX_l ns σ hI pr0 kk 1000000000000) _ Is24 Fs24 r9 _ hr9 (by omega) (by omega) (by omega) (by omega))
      · exact h_wk [(0, .ref 63), (1, .int r9)] ⟨rfl, rfl, trivial⟩ ((v_readLineX_l ns σ hI pr0 kk 1000000000000) _ Is24 Fs24 r9 _ hr9 (by omega) (by omega) (by omega) (by omega))
    · refine h_aload_n (pc' := 146) rfl rfl rfl ?_
      refine h_iload_n (pc' := 147) rfl rfl rfl ?_
      refine h_call (sp := false) (pc' := 150) (M := [(0, .ref 63), (1, .int r9)]) rfl rfl rfl rfl rfl rfl rfl rfl ?_
      refine v_readOne _ hI r9 _ hr9 (by omega) (by omega) (fun s26 Is26 Gs26 pcs26 => h_Kn ?_)
      have Fs26 := (Gs26.mono (B := kf_v_readLineX) rfl).tr F00
      rcases pcs26 with pcs26 | pcs26 | pcs26
      · exact h_wk [(0, .ref 63), (1, .int r9)] ⟨rfl, rfl, trivial⟩ ((v_readLineX_l ns σ hI pr0 kk 1000000000000) _ Is26 Fs26 r9 _ hr9 (by omega) (by omega) (by omega) (by omega))
      · exact h_wk [(0, .ref 63), (1, .int r9)] ⟨rfl, rfl, trivial⟩ ((v_readLineX_l ns σ hI pr0 kk 1000000000000) _ Is26 Fs26 r9 _ hr9 (by omega) (by omega) (by omega) (by omega))
      · exact h_wk [(0, .ref 63), (1, .int r9)] ⟨rfl, rfl, trivial⟩ ((v_readLineX_l ns σ hI pr0 kk 1000000000000) _ Is26 Fs26 r9 _ hr9 (by omega) (by omega) (by omega) (by omega))
    · refine h_aload_n (pc' := 146) rfl rfl rfl ?_
      refine h_iload_n (pc' := 147) rfl rfl rfl ?_
      refine h_call (sp := false) (pc' := 150) (M := [(0, .ref 63), (1, .int r9)]) rfl rfl rfl rfl rfl rfl rfl rfl ?_
      refine v_readOne _ hI r9 _ hr9 (by omega) (by omega) (fun s28 Is28 Gs28 pcs28 => h_Kn ?_)
      have Fs28 := (Gs28.mono (B := kf_v_readLineX) rfl).tr F00
      rcases pcs28 with pcs28 | pcs28 | pcs28
      · exact h_wk [(0, .ref 63), (1, .int r9)] ⟨rfl, rfl, trivial⟩ ((v_readLineX_l ns σ hI pr0 kk 1000000000000) _ Is28 Fs28 r9 _ hr9 (by omega) (by omega) (by omega) (by omega))
      · exact h_wk [(0, .ref 63), (1, .int r9)] ⟨rfl, rfl, trivial⟩ ((v_readLineX_l ns σ hI pr0 kk 1000000000000) _ Is28 Fs28 r9 _ hr9 (by omega) (by omega) (by omega) (by omega))
      · exact h_wk [(0, .ref 63), (1, .int r9)] ⟨rfl, rfl, trivial⟩ ((v_readLineX_l ns σ hI pr0 kk 1000000000000) _ Is28 Fs28 r9 _ hr9 (by omega) (by omega) (by omega) (by omega))
    · refine h_aload_n (pc' := 146) rfl rfl rfl ?_
      refine h_iload_n (pc' := 147) rfl rfl rfl ?_
      refine h_call (sp := false) (pc' := 150) (M := [(0, .ref 63), (1, .int r9)]) rfl rfl rfl rfl rfl rfl rfl rfl ?_
      refine v_readOne _ hI r9 _ hr9 (by omega) (by omega) (fun s30 Is30 Gs30 pcs30 => h_Kn ?_)
      have Fs30 := (Gs30.mono (B := kf_v_readLineX) rfl).tr F00
      rcases pcs30 with pcs30 | pcs30 | pcs30
      · exact h_wk [(0, .ref 63), (1, .int r9)] ⟨rfl, rfl, trivial⟩ ((v_readLineX_l ns σ hI pr0 kk 1000000000000) _ Is30 Fs30 r9 _ hr9 (by omega) (by omega) (by omega) (by omega))
      · exact h_wk [(0, .ref 63), (1, .int r9)] ⟨rfl, rfl, trivial⟩ ((v_readLineX_l ns σ hI pr0 kk 1000000000000) _ Is30 Fs30 r9 _ hr9 (by omega) (by omega) (by omega) (by omega))
      · exact h_wk [(0, .ref 63), (1, .int r9)] ⟨rfl, rfl, trivial⟩ ((v_readLineX_l ns σ hI pr0 kk 1000000000000) _ Is30 Fs30 r9 _ hr9 (by omega) (by omega) (by omega) (by omega))
    · refine h_aload_n (pc' := 89) rfl rfl rfl ?_
      refine h_aload_n (pc' := 90) rfl rfl rfl ?_
      refine h_getR (pc' := 93) rfl rfl rfl rfl rfl ?_
      refine h_getR (pc' := 96) rfl rfl rfl rfl rfl ?_
      refine h_call (sp := false) (pc' := 99) (M := [(0, .ref 63), (1, .ref 69)]) rfl rfl rfl rfl rfl rfl rfl rfl ?_
      refine v_readPairX69 _ hI  (by omega) (fun s32 Is32 Gs32 pcs32 => h_Kn ?_)
      have Fs32 := (Gs32.mono (B := kf_v_readLineX) rfl).tr F00
      rcases pcs32 with pcs32 | pcs32 | pcs32
      · refine h_goto (pc' := 150) rfl rfl ?_
        exact h_wk [(0, .ref 63), (1, .int r9)] ⟨rfl, rfl, trivial⟩ ((v_readLineX_l ns σ hI pr0 kk 1000000000000) _ Is32 Fs32 r9 _ hr9 (by omega) (by omega) (by omega) (by omega))
      · refine h_goto (pc' := 150) rfl rfl ?_
        exact h_wk [(0, .ref 63), (1, .int r9)] ⟨rfl, rfl, trivial⟩ ((v_readLineX_l ns σ hI pr0 kk 1000000000000) _ Is32 Fs32 r9 _ hr9 (by omega) (by omega) (by omega) (by omega))
      · refine h_goto (pc' := 150) rfl rfl ?_
        exact h_wk [(0, .ref 63), (1, .int r9)] ⟨rfl, rfl, trivial⟩ ((v_readLineX_l ns σ hI pr0 kk 1000000000000) _ Is32 Fs32 r9 _ hr9 (by omega) (by omega) (by omega) (by omega))
    · refine h_aload_n (pc' := 103) rfl rfl rfl ?_
      refine h_aload_n (pc' := 104) rfl rfl rfl ?_
      refine h_getR (pc' := 107) rfl rfl rfl rfl rfl ?_
      refine h_getR (pc' := 110) rfl rfl rfl rfl rfl ?_
      refine h_call (sp := false) (pc' := 113) (M := [(0, .ref 63), (1, .ref 72)]) rfl rfl rfl rfl rfl rfl rfl rfl ?_
      refine v_readPairX72 _ hI  (by omega) (fun s34 Is34 Gs34 pcs34 => h_Kn ?_)
      have Fs34 := (Gs34.mono (B := kf_v_readLineX) rfl).tr F00
      rcases pcs34 with pcs34 | pcs34 | pcs34
      · refine h_goto (pc' := 150) rfl rfl ?_
        exact h_wk [(0, .ref 63), (1, .int r9)] ⟨rfl, rfl, trivial⟩ ((v_readLineX_l ns σ hI pr0 kk 1000000000000) _ Is34 Fs34 r9 _ hr9 (by omega) (by omega) (by omega) (by omega))
      · refine h_goto (pc' := 150) rfl rfl ?_
        exact h_wk [(0, .ref 63), (1, .int r9)] ⟨rfl, rfl, trivial⟩ ((v_readLineX_l ns σ hI pr0 kk 1000000000000) _ Is34 Fs34 r9 _ hr9 (by omega) (by omega) (by omega) (by omega))
      · refine h_goto (pc' := 150) rfl rfl ?_
        exact h_wk [(0, .ref 63), (1, .int r9)] ⟨rfl, rfl, trivial⟩ ((v_readLineX_l ns σ hI pr0 kk 1000000000000) _ Is34 Fs34 r9 _ hr9 (by omega) (by omega) (by omega) (by omega))
    · refine h_aload_n (pc' := 117) rfl rfl rfl ?_
      refine h_call (sp := false) (pc' := 120) (M := [(0, .ref 63)]) rfl rfl rfl rfl rfl rfl rfl rfl ?_
      refine v_readGate _ hI  (by omega) (fun s36 Is36 Gs36 pcs36 => h_Kn ?_)
      have Fs36 := (Gs36.mono (B := kf_v_readLineX) rfl).tr F00
      rcases pcs36 with pcs36 | pcs36 | pcs36
      · refine h_goto (pc' := 150) rfl rfl ?_
        exact h_wk [(0, .ref 63), (1, .int r9)] ⟨rfl, rfl, trivial⟩ ((v_readLineX_l ns σ hI pr0 kk 1000000000000) _ Is36 Fs36 r9 _ hr9 (by omega) (by omega) (by omega) (by omega))
      · refine h_goto (pc' := 150) rfl rfl ?_
        exact h_wk [(0, .ref 63), (1, .int r9)] ⟨rfl, rfl, trivial⟩ ((v_readLineX_l ns σ hI pr0 kk 1000000000000) _ Is36 Fs36 r9 _ hr9 (by omega) (by omega) (by omega) (by omega))
      · refine h_goto (pc' := 150) rfl rfl ?_
        exact h_wk [(0, .ref 63), (1, .int r9)] ⟨rfl, rfl, trivial⟩ ((v_readLineX_l ns σ hI pr0 kk 1000000000000) _ Is36 Fs36 r9 _ hr9 (by omega) (by omega) (by omega) (by omega))
    · refine h_aload_n (pc' := 124) rfl rfl rfl ?_
      refine h_call (sp := false) (pc' := 127) (M := [(0, .ref 63)]) rfl rfl rfl rfl rfl rfl rfl rfl ?_
      refine v_readPlanX _ hI  (by omega) (fun s38 Is38 Gs38 pcs38 => h_Kn ?_)
      have Fs38 := (Gs38.mono (B := kf_v_readLineX) rfl).tr F00
      rcases pcs38 with pcs38 | pcs38 | pcs38
      · refine h_goto (pc' := 150) rfl rfl ?_
        exact h_wk [(0, .ref 63), (1, .int r9)] ⟨rfl, rfl, trivial⟩ ((v_readLineX_l ns σ hI pr0 kk 1000000000000) _ Is38 Fs38 r9 _ hr9 (by omega) (by omega) (by omega) (by omega))
      · refine h_goto (pc' := 150) rfl rfl ?_
        exact h_wk [(0, .ref 63), (1, .int r9)] ⟨rfl, rfl, trivial⟩ ((v_readLineX_l ns σ hI pr0 kk 1000000000000) _ Is38 Fs38 r9 _ hr9 (by omega) (by omega) (by omega) (by omega))
      · refine h_goto (pc' := 150) rfl rfl ?_
        exact h_wk [(0, .ref 63), (1, .int r9)] ⟨rfl, rfl, trivial⟩ ((v_readLineX_l ns σ hI pr0 kk 1000000000000) _ Is38 Fs38 r9 _ hr9 (by omega) (by omega) (by omega) (by omega))
