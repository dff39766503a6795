def kf_v_readPlan : List Nat := [100360, 100361, 100365, 100366, 100367, 100368, 100369, 100370, 104447]
set_option maxHeartbeats 100000000 in
theorem v_readPlan_l (ns : Nat) (σ : h_S) (hI : h_I σ) {Q : Option Value → h_S → Prop} (kk : ∀ (τ : h_S), h_I τ → h_F (k_in kf_v_readPlan) τ σ → (((1 ≤ σ 98 13 ∧ σ 98 13 ≤ 6) ∧ (1 ≤ τ 98 13 ∧ τ 98 13 ≤ 6) ∧ (σ 98 15 ≤ τ 98 15)) ∨ ((σ 98 13 = 0) ∧ (1 ≤ τ 98 13 ∧ τ 98 13 ≤ 6) ∧ (σ 98 15 ≤ τ 98 15)) ∨ ((σ 98 13 = 0) ∧ (τ 98 13 = 0) ∧ (σ 98 15 ≤ τ 98 15))) → Q none τ) : ∀ n : Nat, (∀ (s0 : h_S), h_I s0 → h_F (k_in kf_v_readPlan) s0 σ → (σ 98 15 ≤ s0 98 15) → (σ 98 13 = 0 ∨ ¬ s0 98 13 = 0) → (161 - s0 98 15) * 100 - s0 98 13 * 10 + s0 98 17 + 61 ≤ (n : Int) → h_T g_P (g_Y ns) 152 0 [(0, .ref 98)] [] s0 Q) := by
  intro n
  induction n with
  | zero => exact by intro s0 I0 F0_ ex0 ex1 hm; have gh0 := tf_98_15 I0; have gh1 := tf_98_13 I0; have gh2 := tf_98_17 I0; have gh3 := tf_98_13 hI; exfalso; omega
  | succ n ih =>
    intro s0 I0 F0_ ex0 ex1 hm; have gh0 := tf_98_15 I0; have gh1 := tf_98_13 I0; have gh2 := tf_98_17 I0; have gh3 := tf_98_13 hI
    refine h_aload_n (pc' := 1) rfl rfl rfl ?_
    refine h_getI (pc' := 4) (v := s0 98 13) rfl rfl rfl rfl rfl rfl (fun z1 hz1 => ?_)
    have tz1 := tf_98_13 I0
    refine h_zne (tg := 167) (pc' := 7) rfl rfl rfl hz1 (fun c2 => ?_) (fun c2 => ?_)
    · exact h_vret rfl rfl (kk _ I0 F0_ (by omega))
    · refine h_aload_n (pc' := 8) rfl rfl rfl ?_
      refine h_getI (pc' := 11) (v := s0 98 17) rfl rfl rfl rfl rfl rfl (fun z3 hz3 => ?_)
      have tz3 := tf_98_17 I0
      refine h_iconst (pc' := 12) (x := (Int32.ofInt 2)) rfl rfl rfl ?_
      refine h_cne (tg := 167) (pc' := 15) rfl rfl rfl hz3 ci_2 (fun c4 => ?_) (fun c4 => ?_)
      · exact h_vret rfl rfl (kk _ I0 F0_ (by omega))
      · refine h_aload_n (pc' := 16) rfl rfl rfl ?_
        refine h_getR (pc' := 19) rfl rfl rfl rfl rfl ?_
        refine h_bipush (pc' := 21) (x := (Int32.ofInt 43)) rfl rfl cb_43 ?_
        refine h_iald (pc' := 22) (v := s0 101 43) rfl rfl rfl ci_43 (by omega) (by omega) rfl (fun z5 hz5 => ?_)
        have tz5 := ty_101_10 I0 43 (by omega)
        refine h_bipush (pc' := 24) (x := (Int32.ofInt 8)) rfl rfl cb_8 ?_
        refine h_cne (tg := 35) (pc' := 27) rfl rfl rfl hz5 ci_8 (fun c6 => ?_) (fun c6 => ?_)
        · refine h_aload_n (pc' := 36) rfl rfl rfl ?_
          refine h_getI (pc' := 39) (v := s0 98 18) rfl rfl rfl rfl rfl rfl (fun z7 hz7 => ?_)
          have tz7 := tf_98_18 I0
          refine h_bipush (pc' := 41) (x := (Int32.ofInt 10)) rfl rfl cb_10 ?_
          refine h_idiv (pc' := 42) rfl rfl hz7 ci_10 (by omega) (by omega) (fun z8 hz8 => ?_)
          refine h_bipush (pc' := 44) (x := (Int32.ofInt 6)) rfl rfl cb_6 ?_
          refine h_cge (tg := 58) (pc' := 47) rfl rfl rfl hz8 ci_6 (fun c9 => ?_) (fun c9 => ?_)
          · refine h_aload_n (pc' := 59) rfl rfl rfl ?_
            refine h_iconst (pc' := 60) (x := (Int32.ofInt 3)) rfl rfl rfl ?_
            refine h_call (sp := false) (pc' := 63) (M := [(0, .ref 98), (1, .int (Int32.ofInt 3))]) rfl rfl rfl rfl rfl rfl rfl rfl ?_
            refine h_aload_n (pc' := 1) rfl rfl rfl ?_
            refine h_getI (pc' := 4) (v := s0 98 13) rfl rfl rfl rfl rfl rfl (fun z10 hz10 => ?_)
            have tz10 := tf_98_13 I0
            refine h_zne (tg := 20) (pc' := 7) rfl rfl rfl hz10 (fun c11 => absurd c11 (by omega)) (fun c11 => ?_)
            refine h_aload_n (pc' := 8) rfl rfl rfl ?_
            refine h_iload_n (pc' := 9) rfl rfl rfl ?_
            refine h_put (pc' := 12) rfl rfl rfl rfl rfl rfl ci_3 rfl (h_fgt (E := fun s => s 98 15 = s0 98 15 ∧ s 98 16 = s0 98 16 ∧ s 98 17 = s0 98 17 ∧ s 98 18 = s0 98 18 ∧ s 98 13 = 3 ∧ s 101 43 = s0 101 43) _ (if_98_13 I0 (by omega)) (F0_.up rfl) ⟨rfl, rfl, rfl, rfl, rfl, rfl⟩ (fun s12 Is12 Fs12 (es12 : s12 98 15 = s0 98 15 ∧ s12 98 16 = s0 98 16 ∧ s12 98 17 = s0 98 17 ∧ s12 98 18 = s0 98 18 ∧ s12 98 13 = 3 ∧ s12 101 43 = s0 101 43) => ?_))
            refine h_aload_n (pc' := 13) rfl rfl rfl ?_
            refine h_aload_n (pc' := 14) rfl rfl rfl ?_
            refine h_getI (pc' := 17) (v := s0 98 16) rfl rfl rfl rfl rfl es12.2.1 (fun z13 hz13 => ?_)
            have tz13 := tf_98_16 I0
            refine h_put (pc' := 20) rfl rfl rfl rfl rfl rfl hz13 rfl (h_fgt (E := fun s => s 98 15 = s0 98 15 ∧ s 98 16 = s0 98 16 ∧ s 98 17 = s0 98 17 ∧ s 98 18 = s0 98 18 ∧ s 98 13 = 3 ∧ s 101 43 = s0 101 43) _ (if_98_14 Is12 (h_rgv hz13)) (Fs12.up rfl) ⟨es12.1, es12.2.1, es12.2.2.1, es12.2.2.2.1, es12.2.2.2.2.1, es12.2.2.2.2.2⟩ (fun s14 Is14 Fs14 (es14 : s14 98 15 = s0 98 15 ∧ s14 98 16 = s0 98 16 ∧ s14 98 17 = s0 98 17 ∧ s14 98 18 = s0 98 18 ∧ s14 98 13 = 3 ∧ s14 101 43 = s0 101 43) => ?_))
            clear es12
            refine h_vret rfl rfl (h_Kn ?_)
            refine h_goto (pc' := 0) rfl rfl ?_
            exact h_wk [(0, .ref 98)] ⟨rfl, trivial⟩ (ih _ Is14 Fs14  (by omega) (by omega) (by omega))
          · refine h_aload_n (pc' := 48) rfl rfl rfl ?_
            refine h_getI (pc' := 51) (v := s0 98 18) rfl rfl rfl rfl rfl rfl (fun z15 hz15 => ?_)
            have tz15 := tf_98_18 I0
            refine h_bipush (pc' := 53) (x := (Int32.ofInt 10)) rfl rfl cb_10 ?_
            refine h_irem (pc' := 54) rfl rfl hz15 ci_10 (by omega) (by omega) (fun z16 hz16 => ?_)
            refine h_iconst (pc' := 55) (x := (Int32.ofInt 3)) rfl rfl rfl ?_
            refine h_clt (tg := 66) (pc' := 58) rfl rfl rfl hz16 ci_3 (fun c17 => ?_) (fun c17 => ?_)
            · refine h_aload_n (pc' := 67) rfl rfl rfl ?_
              refine h_aload_n (pc' := 68) rfl rfl rfl ?_
              refine h_getI (pc' := 71) (v := s0 98 18) rfl rfl rfl rfl rfl rfl (fun z18 hz18 => ?_)
              have tz18 := tf_98_18 I0
              refine h_bipush (pc' := 73) (x := (Int32.ofInt 10)) rfl rfl cb_10 ?_
              refine h_idiv (pc' := 74) rfl rfl hz18 ci_10 (by omega) (by omega) (fun z19 hz19 => ?_)
              refine h_aload_n (pc' := 75) rfl rfl rfl ?_
              refine h_getI (pc' := 78) (v := s0 98 8) rfl rfl rfl rfl rfl rfl (fun z20 hz20 => ?_)
              have tz20 := tf_98_8 I0
              refine h_cle (tg := 91) (pc' := 81) rfl rfl rfl hz19 hz20 (fun c21 => ?_) (fun c21 => ?_)
              · refine h_aload_n (pc' := 92) rfl rfl rfl ?_
                refine h_getI (pc' := 95) (v := s0 98 8) rfl rfl rfl rfl rfl rfl (fun z22 hz22 => ?_)
                have tz22 := tf_98_8 I0
                refine h_put (pc' := 98) rfl rfl rfl rfl rfl rfl hz22 rfl (h_fgt (E := fun s => s 98 15 = s0 98 15 ∧ s 98 16 = s0 98 16 ∧ s 98 17 = s0 98 17 ∧ s 98 18 = s0 98 18 ∧ s 98 13 = s0 98 13 ∧ s 101 43 = s0 101 43) _ (if_98_8 I0 (by omega)) (F0_.up rfl) ⟨rfl, rfl, rfl, rfl, rfl, rfl⟩ (fun s23 Is23 Fs23 (es23 : s23 98 15 = s0 98 15 ∧ s23 98 16 = s0 98 16 ∧ s23 98 17 = s0 98 17 ∧ s23 98 18 = s0 98 18 ∧ s23 98 13 = s0 98 13 ∧ s23 101 43 = s0 101 43) => ?_))
                refine h_aload_n (pc' := 99) rfl rfl rfl ?_
                refine h_aload_n (pc' := 100) rfl rfl rfl ?_
                refine h_getI (pc' := 103) (v := s0 98 18) rfl rfl rfl rfl rfl es23.2.2.2.1 (fun z24 hz24 => ?_)
                have tz24 := tf_98_18 I0
                refine h_bipush (pc' := 105) (x := (Int32.ofInt 10)) rfl rfl cb_10 ?_
                refine h_irem (pc' := 106) rfl rfl hz24 ci_10 (by omega) (by omega) (fun z25 hz25 => ?_)
                refine h_aload_n (pc' := 107) rfl rfl rfl ?_
                refine h_getI (pc' := 110) (v := s23 98 9) rfl rfl rfl rfl rfl rfl (fun z26 hz26 => ?_)
                have tz26 := tf_98_9 Is23
                refine h_cle (tg := 123) (pc' := 113) rfl rfl rfl hz25 hz26 (fun c27 => ?_) (fun c27 => ?_)
                · refine h_aload_n (pc' := 124) rfl rfl rfl ?_
                  refine h_getI (pc' := 127) (v := s23 98 9) rfl rfl rfl rfl rfl rfl (fun z28 hz28 => ?_)
                  have tz28 := tf_98_9 Is23
                  refine h_put (pc' := 130) rfl rfl rfl rfl rfl rfl hz28 rfl (h_fgt (E := fun s => s 98 15 = s0 98 15 ∧ s 98 16 = s0 98 16 ∧ s 98 17 = s0 98 17 ∧ s 98 18 = s0 98 18 ∧ s 98 13 = s0 98 13 ∧ s 101 43 = s0 101 43) _ (if_98_9 Is23 (by omega)) (Fs23.up rfl) ⟨es23.1, es23.2.1, es23.2.2.1, es23.2.2.2.1, es23.2.2.2.2.1, es23.2.2.2.2.2⟩ (fun s29 Is29 Fs29 (es29 : s29 98 15 = s0 98 15 ∧ s29 98 16 = s0 98 16 ∧ s29 98 17 = s0 98 17 ∧ s29 98 18 = s0 98 18 ∧ s29 98 13 = s0 98 13 ∧ s29 101 43 = s0 101 43) => ?_))
                  clear es23
                  refine h_aload_n (pc' := 131) rfl rfl rfl ?_
                  refine h_getR (pc' := 134) rfl rfl rfl rfl rfl ?_
                  refine h_bipush (pc' := 136) (x := (Int32.ofInt 35)) rfl rfl cb_35 ?_
                  refine h_aload_n (pc' := 137) rfl rfl rfl ?_
                  refine h_getR (pc' := 140) rfl rfl rfl rfl rfl ?_
                  refine h_bipush (pc' := 142) (x := (Int32.ofInt 43)) rfl rfl cb_43 ?_
                  refine h_iald (pc' := 143) (v := s0 101 43) rfl rfl rfl ci_43 (by omega) (by omega) es29.2.2.2.2.2 (fun z30 hz30 => ?_)
                  have tz30 := ty_101_10 I0 43 (by omega)
                  refine h_iadd (pc' := 144) rfl rfl ci_35 hz30 rfl (by omega) (by omega) (fun z31 hz31 => ?_)
                  refine h_aload_n (pc' := 145) rfl rfl rfl ?_
                  refine h_getI (pc' := 148) (v := s0 98 18) rfl rfl rfl rfl rfl es29.2.2.2.1 (fun z32 hz32 => ?_)
                  have tz32 := tf_98_18 I0
                  refine h_iast (pc' := 149) rfl rfl rfl rfl hz31 (by omega) (by omega) hz32 (h_fgt (E := fun s => s 98 15 = s0 98 15 ∧ s 98 16 = s0 98 16 ∧ s 98 17 = s0 98 17 ∧ s 98 18 = s0 98 18 ∧ s 98 13 = s0 98 13 ∧ s 101 43 = s0 101 43) _ (ip_101_9 Is29 (by omega) (by omega)) (Fs29.up rfl) ⟨es29.1, es29.2.1, es29.2.2.1, es29.2.2.2.1, es29.2.2.2.2.1, h_up_n2 (by omega) es29.2.2.2.2.2⟩ (fun s33 Is33 Fs33 (es33 : s33 98 15 = s0 98 15 ∧ s33 98 16 = s0 98 16 ∧ s33 98 17 = s0 98 17 ∧ s33 98 18 = s0 98 18 ∧ s33 98 13 = s0 98 13 ∧ s33 101 43 = s0 101 43) => ?_))
                  clear es29
                  refine h_aload_n (pc' := 150) rfl rfl rfl ?_
                  refine h_getR (pc' := 153) rfl rfl rfl rfl rfl ?_
                  refine h_bipush (pc' := 155) (x := (Int32.ofInt 43)) rfl rfl cb_43 ?_
                  refine h_dup2 (pc' := 156) rfl rfl rfl ?_
                  refine h_iald (pc' := 157) (v := s0 101 43) rfl rfl rfl ci_43 (by omega) (by omega) es33.2.2.2.2.2 (fun z34 hz34 => ?_)
                  have tz34 := ty_101_10 I0 43 (by omega)
                  refine h_iconst (pc' := 158) (x := (Int32.ofInt 1)) rfl rfl rfl ?_
                  refine h_iadd (pc' := 159) rfl rfl hz34 ci_1 rfl (by omega) (by omega) (fun z35 hz35 => ?_)
                  refine h_iast (pc' := 160) rfl rfl rfl rfl ci_43 (by omega) (by omega) hz35 (h_fgt (E := fun s => s 98 15 = s0 98 15 ∧ s 98 16 = s0 98 16 ∧ s 98 17 = s0 98 17 ∧ s 98 18 = s0 98 18 ∧ s 98 13 = s0 98 13 ∧ s 101 43 = ((s0 101 43) + 1)) _ (ip_101_10 Is33 (by omega) (by omega)) (Fs33.up rfl) ⟨es33.1, es33.2.1, es33.2.2.1, es33.2.2.2.1, es33.2.2.2.2.1, rfl⟩ (fun s36 Is36 Fs36 (es36 : s36 98 15 = s0 98 15 ∧ s36 98 16 = s0 98 16 ∧ s36 98 17 = s0 98 17 ∧ s36 98 18 = s0 98 18 ∧ s36 98 13 = s0 98 13 ∧ s36 101 43 = ((s0 101 43) + 1)) => ?_))
                  clear es33
                  refine h_aload_n (pc' := 161) rfl rfl rfl ?_
                  refine h_call (sp := false) (pc' := 164) (M := [(0, .ref 98)]) rfl rfl rfl rfl rfl rfl rfl rfl ?_
                  refine v_step _ Is36  (fun s38 Is38 Gs38 pcs38 => h_Kn ?_)
                  have Fs38 := (Gs38.mono (B := kf_v_readPlan) rfl).tr Fs36
                  have es38_5 : s38 101 43 = ((s0 101 43) + 1) := (Gs38 101 43 rfl).trans es36.2.2.2.2.2
                  rcases pcs38 with pcs38 | pcs38 | pcs38 | pcs38
                  · exfalso; omega
                  · refine h_goto (pc' := 0) rfl rfl ?_
                    exact h_wk [(0, .ref 98)] ⟨rfl, trivial⟩ (ih _ Is38 Fs38  (by omega) (by omega) (by omega))
                  · refine h_goto (pc' := 0) rfl rfl ?_
                    exact h_wk [(0, .ref 98)] ⟨rfl, trivial⟩ (ih _ Is38 Fs38  (by omega) (by omega) (by omega))
                  · refine h_goto (pc' := 0) rfl rfl ?_
                    exact h_wk [(0, .ref 98)] ⟨rfl, trivial⟩ (ih _ Is38 Fs38  (by omega) (by omega) (by omega))
                · refine h_aload_n (pc' := 114) rfl rfl rfl ?_
                  refine h_getI (pc' := 117) (v := s0 98 18) rfl rfl rfl rfl rfl es23.2.2.2.1 (fun z39 hz39 => ?_)
                  have tz39 := tf_98_18 I0
                  refine h_bipush (pc' := 119) (x := (Int32.ofInt 10)) rfl rfl cb_10 ?_
                  refine h_irem (pc' := 120) rfl rfl hz39 ci_10 (by omega) (by omega) (fun z40 hz40 => ?_)
                  refine h_goto (pc' := 127) rfl rfl ?_
                  refine h_put (pc' := 130) rfl rfl rfl rfl rfl rfl hz40 rfl (h_fgt (E := fun s => s 98 15 = s0 98 15 ∧ s 98 16 = s0 98 16 ∧ s 98 17 = s0 98 17 ∧ s 98 18 = s0 98 18 ∧ s 98 13 = s0 98 13 ∧ s 101 43 = s0 101 43) _ (if_98_9 Is23 (by omega)) (Fs23.up rfl) ⟨es23.1, es23.2.1, es23.2.2.1, es23.2.2.2.1, es23.2.2.2.2.1, es23.2.2.2.2.2⟩ (fun s41 Is41 Fs41 (es41 : s41 98 15 = s0 98 15 ∧ s41 98 16 = s0 98 16 ∧ s41 98 17 = s0 98 17 ∧ s41 98 18 = s0 98 18 ∧ s41 98 13 = s0 98 13 ∧ s41 101 43 = s0 101 43) => ?_))
                  clear es23
                  refine h_aload_n (pc' := 131) rfl rfl rfl ?_
                  refine h_getR (pc' := 134) rfl rfl rfl rfl rfl ?_
                  refine h_bipush (pc' := 136) (x := (Int32.ofInt 35)) rfl rfl cb_35 ?_
                  refine h_aload_n (pc' := 137) rfl rfl rfl ?_
                  refine h_getR (pc' := 140) rfl rfl rfl rfl rfl ?_
                  refine h_bipush (pc' := 142) (x := (Int32.ofInt 43)) rfl rfl cb_43 ?_
                  refine h_iald (pc' := 143) (v := s0 101 43) rfl rfl rfl ci_43 (by omega) (by omega) es41.2.2.2.2.2 (fun z42 hz42 => ?_)
                  have tz42 := ty_101_10 I0 43 (by omega)
                  refine h_iadd (pc' := 144) rfl rfl ci_35 hz42 rfl (by omega) (by omega) (fun z43 hz43 => ?_)
                  refine h_aload_n (pc' := 145) rfl rfl rfl ?_
                  refine h_getI (pc' := 148) (v := s0 98 18) rfl rfl rfl rfl rfl es41.2.2.2.1 (fun z44 hz44 => ?_)
                  have tz44 := tf_98_18 I0
                  refine h_iast (pc' := 149) rfl rfl rfl rfl hz43 (by omega) (by omega) hz44 (h_fgt (E := fun s => s 98 15 = s0 98 15 ∧ s 98 16 = s0 98 16 ∧ s 98 17 = s0 98 17 ∧ s 98 18 = s0 98 18 ∧ s 98 13 = s0 98 13 ∧ s 101 43 = s0 101 43) _ (ip_101_9 Is41 (by omega) (by omega)) (Fs41.up rfl) ⟨es41.1, es41.2.1, es41.2.2.1, es41.2.2.2.1, es41.2.2.2.2.1, h_up_n2 (by omega) es41.2.2.2.2.2⟩ (fun s45 Is45 Fs45 (es45 : s45 98 15 = s0 98 15 ∧ s45 98 16 = s0 98 16 ∧ s45 98 17 = s0 98 17 ∧ s45 98 18 = s0 98 18 ∧ s45 98 13 = s0 98 13 ∧ s45 101 43 = s0 101 43) => ?_))
                  clear es41
                  refine h_aload_n (pc' := 150) rfl rfl rfl ?_
                  refine h_getR (pc' := 153) rfl rfl rfl rfl rfl ?_
                  refine h_bipush (pc' := 155) (x := (Int32.ofInt 43)) rfl rfl cb_43 ?_
                  refine h_dup2 (pc' := 156) rfl rfl rfl ?_
                  refine h_iald (pc' := 157) (v := s0 101 43) rfl rfl rfl ci_43 (by omega) (by omega) es45.2.2.2.2.2 (fun z46 hz46 => ?_)
                  have tz46 := ty_101_10 I0 43 (by omega)
                  refine h_iconst (pc' := 158) (x := (Int32.ofInt 1)) rfl rfl rfl ?_
                  refine h_iadd (pc' := 159) rfl rfl hz46 ci_1 rfl (by omega) (by omega) (fun z47 hz47 => ?_)
                  refine h_iast (pc' := 160) rfl rfl rfl rfl ci_43 (by omega) (by omega) hz47 (h_fgt (E := fun s => s 98 15 = s0 98 15 ∧ s 98 16 = s0 98 16 ∧ s 98 17 = s0 98 17 ∧ s 98 18 = s0 98 18 ∧ s 98 13 = s0 98 13 ∧ s 101 43 = ((s0 101 43) + 1)) _ (ip_101_10 Is45 (by omega) (by omega)) (Fs45.up rfl) ⟨es45.1, es45.2.1, es45.2.2.1, es45.2.2.2.1, es45.2.2.2.2.1, rfl⟩ (fun s48 Is48 Fs48 (es48 : s48 98 15 = s0 98 15 ∧ s48 98 16 = s0 98 16 ∧ s48 98 17 = s0 98 17 ∧ s48 98 18 = s0 98 18 ∧ s48 98 13 = s0 98 13 ∧ s48 101 43 = ((s0 101 43) + 1)) => ?_))
                  clear es45
                  refine h_aload_n (pc' := 161) rfl rfl rfl ?_
                  refine h_call (sp := false) (pc' := 164) (M := [(0, .ref 98)]) rfl rfl rfl rfl rfl rfl rfl rfl ?_
                  refine v_step _ Is48  (fun s50 Is50 Gs50 pcs50 => h_Kn ?_)
                  have Fs50 := (Gs50.mono (B := kf_v_readPlan) rfl).tr Fs48
                  have es50_5 : s50 101 43 = ((s0 101 43) + 1) := (Gs50 101 43 rfl).trans es48.2.2.2.2.2
                  rcases pcs50 with pcs50 | pcs50 | pcs50 | pcs50
                  · exfalso; omega
                  · refine h_goto (pc' := 0) rfl rfl ?_
                    exact h_wk [(0, .ref 98)] ⟨rfl, trivial⟩ (ih _ Is50 Fs50  (by omega) (by omega) (by omega))
                  · refine h_goto (pc' := 0) rfl rfl ?_
                    exact h_wk [(0, .ref 98)] ⟨rfl, trivial⟩ (ih _ Is50 Fs50  (by omega) (by omega) (by omega))
                  · refine h_goto (pc' := 0) rfl rfl ?_
                    exact h_wk [(0, .ref 98)] ⟨rfl, trivial⟩ (ih _ Is50 Fs50  (by omega) (by omega) (by omega))
              · refine h_aload_n (pc' := 82) rfl rfl rfl ?_
                refine h_getI (pc' := 85) (v := s0 98 18) rfl rfl rfl rfl rfl rfl (fun z51 hz51 => ?_)
                have tz51 := tf_98_18 I0
                refine h_bipush (pc' := 87) (x := (Int32.ofInt 10)) rfl rfl cb_10 ?_
                refine h_idiv (pc' := 88) rfl rfl hz51 ci_10 (by omega) (by omega) (fun z52 hz52 => ?_)
                refine h_goto (pc' := 95) rfl rfl ?_
                refine h_put (pc' := 98) rfl rfl rfl rfl rfl rfl hz52 rfl (h_fgt (E := fun s => s 98 15 = s0 98 15 ∧ s 98 16 = s0 98 16 ∧ s 98 17 = s0 98 17 ∧ s 98 18 = s0 98 18 ∧ s 98 13 = s0 98 13 ∧ s 101 43 = s0 101 43) _ (if_98_8 I0 (by omega)) (F0_.up rfl) ⟨rfl, rfl, rfl, rfl, rfl, rfl⟩ (fun s53 Is53 Fs53 (es53 : s53 98 15 = s0 98 15 ∧ s53 98 16 = s0 98 16 ∧ s53 98 17 = s0 98 17 ∧ s53 98 18 = s0 98 18 ∧ s53 98 13 = s0 98 13 ∧ s53 101 43 = s0 101 43) => ?_))
                refine h_aload_n (pc' := 99) rfl rfl rfl ?_
                refine h_aload_n (pc' := 100) rfl rfl rfl ?_
                refine h_getI (pc' := 103) (v := s0 98 18) rfl rfl rfl rfl rfl es53.2.2.2.1 (fun z54 hz54 => ?_)
                have tz54 := tf_98_18 I0
                refine h_bipush (pc' := 105) (x := (Int32.ofInt 10)) rfl rfl cb_10 ?_
                refine h_irem (pc' := 106) rfl rfl hz54 ci_10 (by omega) (by omega) (fun z55 hz55 => ?_)
                refine h_aload_n (pc' := 107) rfl rfl rfl ?_
                refine h_getI (pc' := 110) (v := s53 98 9) rfl rfl rfl rfl rfl rfl (fun z56 hz56 => ?_)
                have tz56 := tf_98_9 Is53
                refine h_cle (tg := 123) (pc' := 113) rfl rfl rfl hz55 hz56 (fun c57 => ?_) (fun c57 => ?_)
                · refine h_aload_n (pc' := 124) rfl rfl rfl ?_
                  refine h_getI (pc' := 127) (v := s53 98 9) rfl rfl rfl rfl rfl rfl (fun z58 hz58 => ?_)
                  have tz58 := tf_98_9 Is53
                  refine h_put (pc' := 130) rfl rfl rfl rfl rfl rfl hz58 rfl (h_fgt (E := fun s => s 98 15 = s0 98 15 ∧ s 98 16 = s0 98 16 ∧ s 98 17 = s0 98 17 ∧ s 98 18 = s0 98 18 ∧ s 98 13 = s0 98 13 ∧ s 101 43 = s0 101 43) _ (if_98_9 Is53 (by omega)) (Fs53.up rfl) ⟨es53.1, es53.2.1, es53.2.2.1, es53.2.2.2.1, es53.2.2.2.2.1, es53.2.2.2.2.2⟩ (fun s59 Is59 Fs59 (es59 : s59 98 15 = s0 98 15 ∧ s59 98 16 = s0 98 16 ∧ s59 98 17 = s0 98 17 ∧ s59 98 18 = s0 98 18 ∧ s59 98 13 = s0 98 13 ∧ s59 101 43 = s0 101 43) => ?_))
                  clear es53
                  refine h_aload_n (pc' := 131) rfl rfl rfl ?_
                  refine h_getR (pc' := 134) rfl rfl rfl rfl rfl ?_
                  refine h_bipush (pc' := 136) (x := (Int32.ofInt 35)) rfl rfl cb_35 ?_
                  refine h_aload_n (pc' := 137) rfl rfl rfl ?_
                  refine h_getR (pc' := 140) rfl rfl rfl rfl rfl ?_
                  refine h_bipush (pc' := 142) (x := (Int32.ofInt 43)) rfl rfl cb_43 ?_
                  refine h_iald (pc' := 143) (v := s0 101 43) rfl rfl rfl ci_43 (by omega) (by omega) es59.2.2.2.2.2 (fun z60 hz60 => ?_)
                  have tz60 := ty_101_10 I0 43 (by omega)
                  refine h_iadd (pc' := 144) rfl rfl ci_35 hz60 rfl (by omega) (by omega) (fun z61 hz61 => ?_)
                  refine h_aload_n (pc' := 145) rfl rfl rfl ?_
                  refine h_getI (pc' := 148) (v := s0 98 18) rfl rfl rfl rfl rfl es59.2.2.2.1 (fun z62 hz62 => ?_)
                  have tz62 := tf_98_18 I0
                  refine h_iast (pc' := 149) rfl rfl rfl rfl hz61 (by omega) (by omega) hz62 (h_fgt (E := fun s => s 98 15 = s0 98 15 ∧ s 98 16 = s0 98 16 ∧ s 98 17 = s0 98 17 ∧ s 98 18 = s0 98 18 ∧ s 98 13 = s0 98 13 ∧ s 101 43 = s0 101 43) _ (ip_101_9 Is59 (by omega) (by omega)) (Fs59.up rfl) ⟨es59.1, es59.2.1, es59.2.2.1, es59.2.2.2.1, es59.2.2.2.2.1, h_up_n2 (by omega) es59.2.2.2.2.2⟩ (fun s63 Is63 Fs63 (es63 : s63 98 15 = s0 98 15 ∧ s63 98 16 = s0 98 16 ∧ s63 98 17 = s0 98 17 ∧ s63 98 18 = s0 98 18 ∧ s63 98 13 = s0 98 13 ∧ s63 101 43 = s0 101 43) => ?_))
                  clear es59
                  refine h_aload_n (pc' := 150) rfl rfl rfl ?_
                  refine h_getR (pc' := 153) rfl rfl rfl rfl rfl ?_
                  refine h_bipush (pc' := 155) (x := (Int32.ofInt 43)) rfl rfl cb_43 ?_
                  refine h_dup2 (pc' := 156) rfl rfl rfl ?_
                  refine h_iald (pc' := 157) (v := s0 101 43) rfl rfl rfl ci_43 (by omega) (by omega) es63.2.2.2.2.2 (fun z64 hz64 => ?_)
                  have tz64 := ty_101_10 I0 43 (by omega)
                  refine h_iconst (pc' := 158) (x := (Int32.ofInt 1)) rfl rfl rfl ?_
                  refine h_iadd (pc' := 159) rfl rfl hz64 ci_1 rfl (by omega) (by omega) (fun z65 hz65 => ?_)
                  refine h_iast (pc' := 160) rfl rfl rfl rfl ci_43 (by omega) (by omega) hz65 (h_fgt (E := fun s => s 98 15 = s0 98 15 ∧ s 98 16 = s0 98 16 ∧ s 98 17 = s0 98 17 ∧ s 98 18 = s0 98 18 ∧ s 98 13 = s0 98 13 ∧ s 101 43 = ((s0 101 43) + 1)) _ (ip_101_10 Is63 (by omega) (by omega)) (Fs63.up rfl) ⟨es63.1, es63.2.1, es63.2.2.1, es63.2.2.2.1, es63.2.2.2.2.1, rfl⟩ (fun s66 Is66 Fs66 (es66 : s66 98 15 = s0 98 15 ∧ s66 98 16 = s0 98 16 ∧ s66 98 17 = s0 98 17 ∧ s66 98 18 = s0 98 18 ∧ s66 98 13 = s0 98 13 ∧ s66 101 43 = ((s0 101 43) + 1)) => ?_))
                  clear es63
                  refine h_aload_n (pc' := 161) rfl rfl rfl ?_
                  refine h_call (sp := false) (pc' := 164) (M := [(0, .ref 98)]) rfl rfl rfl rfl rfl rfl rfl rfl ?_
                  refine v_step _ Is66  (fun s68 Is68 Gs68 pcs68 => h_Kn ?_)
                  have Fs68 := (Gs68.mono (B := kf_v_readPlan) rfl).tr Fs66
                  have es68_5 : s68 101 43 = ((s0 101 43) + 1) := (Gs68 101 43 rfl).trans es66.2.2.2.2.2
                  rcases pcs68 with pcs68 | pcs68 | pcs68 | pcs68
                  · exfalso; omega
                  · refine h_goto (pc' := 0) rfl rfl ?_
                    exact h_wk [(0, .ref 98)] ⟨rfl, trivial⟩ (ih _ Is68 Fs68  (by omega) (by omega) (by omega))
                  · refine h_goto (pc' := 0) rfl rfl ?_
                    exact h_wk [(0, .ref 98)] ⟨rfl, trivial⟩ (ih _ Is68 Fs68  (by omega) (by omega) (by omega))
                  · refine h_goto (pc' := 0) rfl rfl ?_
                    exact h_wk [(0, .ref 98)] ⟨rfl, trivial⟩ (ih _ Is68 Fs68  (by omega) (by omega) (by omega))
                · refine h_aload_n (pc' := 114) rfl rfl rfl ?_
                  refine h_getI (pc' := 117) (v := s0 98 18) rfl rfl rfl rfl rfl es53.2.2.2.1 (fun z69 hz69 => ?_)
                  have tz69 := tf_98_18 I0
                  refine h_bipush (pc' := 119) (x := (Int32.ofInt 10)) rfl rfl cb_10 ?_
                  refine h_irem (pc' := 120) rfl rfl hz69 ci_10 (by omega) (by omega) (fun z70 hz70 => ?_)
                  refine h_goto (pc' := 127) rfl rfl ?_
                  refine h_put (pc' := 130) rfl rfl rfl rfl rfl rfl hz70 rfl (h_fgt (E := fun s => s 98 15 = s0 98 15 ∧ s 98 16 = s0 98 16 ∧ s 98 17 = s0 98 17 ∧ s 98 18 = s0 98 18 ∧ s 98 13 = s0 98 13 ∧ s 101 43 = s0 101 43) _ (if_98_9 Is53 (by omega)) (Fs53.up rfl) ⟨es53.1, es53.2.1, es53.2.2.1, es53.2.2.2.1, es53.2.2.2.2.1, es53.2.2.2.2.2⟩ (fun s71 Is71 Fs71 (es71 : s71 98 15 = s0 98 15 ∧ s71 98 16 = s0 98 16 ∧ s71 98 17 = s0 98 17 ∧ s71 98 18 = s0 98 18 ∧ s71 98 13 = s0 98 13 ∧ s71 101 43 = s0 101 43) => ?_))
                  clear es53
                  refine h_aload_n (pc' := 131) rfl rfl rfl ?_
                  refine h_getR (pc' := 134) rfl rfl rfl rfl rfl ?_
                  refine h_bipush (pc' := 136) (x := (Int32.ofInt 35)) rfl rfl cb_35 ?_
                  refine h_aload_n (pc' := 137) rfl rfl rfl ?_
                  refine h_getR (pc' := 140) rfl rfl rfl rfl rfl ?_
                  refine h_bipush (pc' := 142) (x := (Int32.ofInt 43)) rfl rfl cb_43 ?_
                  refine h_iald (pc' := 143) (v := s0 101 43) rfl rfl rfl ci_43 (by omega) (by omega) es71.2.2.2.2.2 (fun z72 hz72 => ?_)
                  have tz72 := ty_101_10 I0 43 (by omega)
                  refine h_iadd (pc' := 144) rfl rfl ci_35 hz72 rfl (by omega) (by omega) (fun z73 hz73 => ?_)
                  refine h_aload_n (pc' := 145) rfl rfl rfl ?_
                  refine h_getI (pc' := 148) (v := s0 98 18) rfl rfl rfl rfl rfl es71.2.2.2.1 (fun z74 hz74 => ?_)
                  have tz74 := tf_98_18 I0
                  refine h_iast (pc' := 149) rfl rfl rfl rfl hz73 (by omega) (by omega) hz74 (h_fgt (E := fun s => s 98 15 = s0 98 15 ∧ s 98 16 = s0 98 16 ∧ s 98 17 = s0 98 17 ∧ s 98 18 = s0 98 18 ∧ s 98 13 = s0 98 13 ∧ s 101 43 = s0 101 43) _ (ip_101_9 Is71 (by omega) (by omega)) (Fs71.up rfl) ⟨es71.1, es71.2.1, es71.2.2.1, es71.2.2.2.1, es71.2.2.2.2.1, h_up_n2 (by omega) es71.2.2.2.2.2⟩ (fun s75 Is75 Fs75 (es75 : s75 98 15 = s0 98 15 ∧ s75 98 16 = s0 98 16 ∧ s75 98 17 = s0 98 17 ∧ s75 98 18 = s0 98 18 ∧ s75 98 13 = s0 98 13 ∧ s75 101 43 = s0 101 43) => ?_))
                  clear es71
                  refine h_aload_n (pc' := 150) rfl rfl rfl ?_
                  refine h_getR (pc' := 153) rfl rfl rfl rfl rfl ?_
                  refine h_bipush (pc' := 155) (x := (Int32.ofInt 43)) rfl rfl cb_43 ?_
                  refine h_dup2 (pc' := 156) rfl rfl rfl ?_
                  refine h_iald (pc' := 157) (v := s0 101 43) rfl rfl rfl ci_43 (by omega) (by omega) es75.2.2.2.2.2 (fun z76 hz76 => ?_)
                  have tz76 := ty_101_10 I0 43 (by omega)
                  refine h_iconst (pc' := 158) (x := (Int32.ofInt 1)) rfl rfl rfl ?_
                  refine h_iadd (pc' := 159) rfl rfl hz76 ci_1 rfl (by omega) (by omega) (fun z77 hz77 => ?_)
                  refine h_iast (pc' := 160) rfl rfl rfl rfl ci_43 (by omega) (by omega) hz77 (h_fgt (E := fun s => s 98 15 = s0 98 15 ∧ s 98 16 = s0 98 16 ∧ s 98 17 = s0 98 17 ∧ s 98 18 = s0 98 18 ∧ s 98 13 = s0 98 13 ∧ s 101 43 = ((s0 101 43) + 1)) _ (ip_101_10 Is75 (by omega) (by omega)) (Fs75.up rfl) ⟨es75.1, es75.2.1, es75.2.2.1, es75.2.2.2.1, es75.2.2.2.2.1, rfl⟩ (fun s78 Is78 Fs78 (es78 : s78 98 15 = s0 98 15 ∧ s78 98 16 = s0 98 16 ∧ s78 98 17 = s0 98 17 ∧ s78 98 18 = s0 98 18 ∧ s78 98 13 = s0 98 13 ∧ s78 101 43 = ((s0 101 43) + 1)) => ?_))
                  clear es75
                  refine h_aload_n (pc' := 161) rfl rfl rfl ?_
                  refine h_call (sp := false) (pc' := 164) (M := [(0, .ref 98)]) rfl rfl rfl rfl rfl rfl rfl rfl ?_
                  refine v_step _ Is78  (fun s80 Is80 Gs80 pcs80 => h_Kn ?_)
                  have Fs80 := (Gs80.mono (B := kf_v_readPlan) rfl).tr Fs78
                  have es80_5 : s80 101 43 = ((s0 101 43) + 1) := (Gs80 101 43 rfl).trans es78.2.2.2.2.2
                  rcases pcs80 with pcs80 | pcs80 | pcs80 | pcs80
                  · exfalso; omega
                  · refine h_goto (pc' := 0) rfl rfl ?_
                    exact h_wk [(0, .ref 98)] ⟨rfl, trivial⟩ (ih _ Is80 Fs80  (by omega) (by omega) (by omega))
                  · refine h_goto (pc' := 0) rfl rfl ?_
                    exact h_wk [(0, .ref 98)] ⟨rfl, trivial⟩ (ih _ Is80 Fs80  (by omega) (by omega) (by omega))
                  · refine h_goto (pc' := 0) rfl rfl ?_
                    exact h_wk [(0, .ref 98)] ⟨rfl, trivial⟩ (ih _ Is80 Fs80  (by omega) (by omega) (by omega))
            · refine h_aload_n (pc' := 59) rfl rfl rfl ?_
              refine h_iconst (pc' := 60) (x := (Int32.ofInt 3)) rfl rfl rfl ?_
              refine h_call (sp := false) (pc' := 63) (M := [(0, .ref 98), (1, .int (Int32.ofInt 3))]) rfl rfl rfl rfl rfl rfl rfl rfl ?_
              refine h_aload_n (pc' := 1) rfl rfl rfl ?_
              refine h_getI (pc' := 4) (v := s0 98 13) rfl rfl rfl rfl rfl rfl (fun z81 hz81 => ?_)
              have tz81 := tf_98_13 I0
              refine h_zne (tg := 20) (pc' := 7) rfl rfl rfl hz81 (fun c82 => absurd c82 (by omega)) (fun c82 => ?_)
              refine h_aload_n (pc' := 8) rfl rfl rfl ?_
              refine h_iload_n (pc' := 9) rfl rfl rfl ?_
              refine h_put (pc' := 12) rfl rfl rfl rfl rfl rfl ci_3 rfl (h_fgt (E := fun s => s 98 15 = s0 98 15 ∧ s 98 16 = s0 98 16 ∧ s 98 17 = s0 98 17 ∧ s 98 18 = s0 98 18 ∧ s 98 13 = 3 ∧ s 101 43 = s0 101 43) _ (if_98_13 I0 (by omega)) (F0_.up rfl) ⟨rfl, rfl, rfl, rfl, rfl, rfl⟩ (fun s83 Is83 Fs83 (es83 : s83 98 15 = s0 98 15 ∧ s83 98 16 = s0 98 16 ∧ s83 98 17 = s0 98 17 ∧ s83 98 18 = s0 98 18 ∧ s83 98 13 = 3 ∧ s83 101 43 = s0 101 43) => ?_))
              refine h_aload_n (pc' := 13) rfl rfl rfl ?_
              refine h_aload_n (pc' := 14) rfl rfl rfl ?_
              refine h_getI (pc' := 17) (v := s0 98 16) rfl rfl rfl rfl rfl es83.2.1 (fun z84 hz84 => ?_)
              have tz84 := tf_98_16 I0
              refine h_put (pc' := 20) rfl rfl rfl rfl rfl rfl hz84 rfl (h_fgt (E := fun s => s 98 15 = s0 98 15 ∧ s 98 16 = s0 98 16 ∧ s 98 17 = s0 98 17 ∧ s 98 18 = s0 98 18 ∧ s 98 13 = 3 ∧ s 101 43 = s0 101 43) _ (if_98_14 Is83 (h_rgv hz84)) (Fs83.up rfl) ⟨es83.1, es83.2.1, es83.2.2.1, es83.2.2.2.1, es83.2.2.2.2.1, es83.2.2.2.2.2⟩ (fun s85 Is85 Fs85 (es85 : s85 98 15 = s0 98 15 ∧ s85 98 16 = s0 98 16 ∧ s85 98 17 = s0 98 17 ∧ s85 98 18 = s0 98 18 ∧ s85 98 13 = 3 ∧ s85 101 43 = s0 101 43) => ?_))
              clear es83
              refine h_vret rfl rfl (h_Kn ?_)
              refine h_goto (pc' := 0) rfl rfl ?_
              exact h_wk [(0, .ref 98)] ⟨rfl, trivial⟩ (ih _ Is85 Fs85  (by omega) (by omega) (by omega))
        · refine h_aload_n (pc' := 28) rfl rfl rfl ?_
          refine h_iconst (pc' := 29) (x := (Int32.ofInt 5)) rfl rfl rfl ?_
          refine h_call (sp := false) (pc' := 32) (M := [(0, .ref 98), (1, .int (Int32.ofInt 5))]) rfl rfl rfl rfl rfl rfl rfl rfl ?_
          refine h_aload_n (pc' := 1) rfl rfl rfl ?_
          refine h_getI (pc' := 4) (v := s0 98 13) rfl rfl rfl rfl rfl rfl (fun z86 hz86 => ?_)
          have tz86 := tf_98_13 I0
          refine h_zne (tg := 20) (pc' := 7) rfl rfl rfl hz86 (fun c87 => absurd c87 (by omega)) (fun c87 => ?_)
          refine h_aload_n (pc' := 8) rfl rfl rfl ?_
          refine h_iload_n (pc' := 9) rfl rfl rfl ?_
          refine h_put (pc' := 12) rfl rfl rfl rfl rfl rfl ci_5 rfl (h_fgt (E := fun s => s 98 15 = s0 98 15 ∧ s 98 16 = s0 98 16 ∧ s 98 17 = s0 98 17 ∧ s 98 18 = s0 98 18 ∧ s 98 13 = 5 ∧ s 101 43 = s0 101 43) _ (if_98_13 I0 (by omega)) (F0_.up rfl) ⟨rfl, rfl, rfl, rfl, rfl, rfl⟩ (fun s88 Is88 Fs88 (es88 : s88 98 15 = s0 98 15 ∧ s88 98 16 = s0 98 16 ∧ s88 98 17 = s0 98 17 ∧ s88 98 18 = s0 98 18 ∧ s88 98 13 = 5 ∧ s88 101 43 = s0 101 43) => ?_))
          refine h_aload_n (pc' := 13) rfl rfl rfl ?_
          refine h_aload_n (pc' := 14) rfl rfl rfl ?_
          refine h_getI (pc' := 17) (v := s0 98 16) rfl rfl rfl rfl rfl es88.2.1 (fun z89 hz89 => ?_)
          have tz89 := tf_98_16 I0
          refine h_put (pc' := 20) rfl rfl rfl rfl rfl rfl hz89 rfl (h_fgt (E := fun s => s 98 15 = s0 98 15 ∧ s 98 16 = s0 98 16 ∧ s 98 17 = s0 98 17 ∧ s 98 18 = s0 98 18 ∧ s 98 13 = 5 ∧ s 101 43 = s0 101 43) _ (if_98_14 Is88 (h_rgv hz89)) (Fs88.up rfl) ⟨es88.1, es88.2.1, es88.2.2.1, es88.2.2.2.1, es88.2.2.2.2.1, es88.2.2.2.2.2⟩ (fun s90 Is90 Fs90 (es90 : s90 98 15 = s0 98 15 ∧ s90 98 16 = s0 98 16 ∧ s90 98 17 = s0 98 17 ∧ s90 98 18 = s0 98 18 ∧ s90 98 13 = 5 ∧ s90 101 43 = s0 101 43) => ?_))
          clear es88
          refine h_vret rfl rfl (h_Kn ?_)
          refine h_goto (pc' := 0) rfl rfl ?_
          exact h_wk [(0, .ref 98)] ⟨rfl, trivial⟩ (ih _ Is90 Fs90  (by omega) (by omega) (by omega))
set_option maxHeartbeats 100000000 in
theorem v_readPlan {ns : Nat} (σ : h_S) (hI : h_I σ) {Q : Option Value → h_S → Prop} (kk : ∀ (τ : h_S), h_I τ → h_F (k_in kf_v_readPlan) τ σ → (((1 ≤ σ 98 13 ∧ σ 98 13 ≤ 6) ∧ (1 ≤ τ 98 13 ∧ τ 98 13 ≤ 6) ∧ (σ 98 15 ≤ τ 98 15)) ∨ ((σ 98 13 = 0) ∧ (1 ≤ τ 98 13 ∧ τ 98 13 ≤ 6) ∧ (σ 98 15 ≤ τ 98 15)) ∨ ((σ 98 13 = 0) ∧ (τ 98 13 = 0) ∧ (σ 98 15 ≤ τ 98 15))) → Q none τ) : h_T g_P (g_Y ns) 152 0 [(0, .ref 98)] [] σ Q := by
  have F00 : h_F (k_in kf_v_readPlan) σ σ := h_F.rf
  have ge0 := tf_98_15 hI
  have ge1 := tf_98_13 hI
  have ge2 := tf_98_17 hI
  exact h_wk [(0, .ref 98)] ⟨rfl, trivial⟩ ((v_readPlan_l ns σ hI  kk 1000000000000) _ hI F00  (by omega) (by omega) (by omega))
def kf_v_readMore : List Nat := [100357, 100358, 100360, 100361, 100365, 100366, 100367, 100368, 100369, 100370, 104447]
set_option maxHeartbeats 100000000 in
theorem v_readMore {ns : Nat} (σ : h_S) (hI : h_I σ) (x0 : Int32) (a0 : Int) (hx0 : x0.toInt = a0) (ra0 : 0 ≤ a0 ∧ a0 ≤ 7) (pr0 : a0 ≤ 3 → σ 98 5 ≤ 5) (pr1 : a0 = 4 → σ 101 18 ≤ 2) (pr2 : a0 = 5 → σ 101 25 ≤ 2) (pr3 : a0 = 6 → σ 98 6 ≤ 2) {Q : Option Value → h_S → Prop} (kk : ∀ (τ : h_S), h_I τ → h_F (k_in kf_v_readMore) τ σ → (((1 ≤ σ 98 13 ∧ σ 98 13 ≤ 6) ∧ (1 ≤ τ 98 13 ∧ τ 98 13 ≤ 6) ∧ (σ 98 15 ≤ τ 98 15)) ∨ ((σ 98 13 = 0) ∧ (1 ≤ τ 98 13 ∧ τ 98 13 ≤ 6) ∧ (σ 98 15 ≤ τ 98 15)) ∨ ((σ 98 13 = 0) ∧ (τ 98 13 = 0) ∧ (σ 98 15 ≤ τ 98 15))) → Q none τ) : h_T g_P (g_Y ns) 153 0 [(0, .ref 98), (1, .int x0)] [] σ Q := by
  have F00 : h_F (k_in kf_v_readMore) σ σ := h_F.rf
  have ge0 := tf_98_13 hI
  refine h_iload_n (pc' := 1) rfl rfl rfl ?_
  refine h_iconst (pc' := 2) (x := (Int32.ofInt 3)) rfl rfl rfl ?_
  refine h_cgt (tg := 61) (pc' := 5) rfl rfl rfl hx0 ci_3 (fun c1 => ?_) (fun c1 => ?_)
  · refine h_iload_n (pc' := 62) rfl rfl rfl ?_
    refine h_iconst (pc' := 63) (x := (Int32.ofInt 4)) rfl rfl rfl ?_
    refine h_cne (tg := 82) (pc' := 66) rfl rfl rfl hx0 ci_4 (fun c2 => ?_) (fun c2 => ?_)
    · refine h_iload_n (pc' := 83) rfl rfl rfl ?_
      refine h_iconst (pc' := 84) (x := (Int32.ofInt 5)) rfl rfl rfl ?_
      refine h_cne (tg := 103) (pc' := 87) rfl rfl rfl hx0 ci_5 (fun c3 => ?_) (fun c3 => ?_)
      · refine h_iload_n (pc' := 104) rfl rfl rfl ?_
        refine h_bipush (pc' := 106) (x := (Int32.ofInt 6)) rfl rfl cb_6 ?_
        refine h_cne (tg := 174) (pc' := 109) rfl rfl rfl hx0 ci_6 (fun c4 => ?_) (fun c4 => ?_)
        · refine h_aload_n (pc' := 175) rfl rfl rfl ?_
          refine h_call (sp := false) (pc' := 178) (M := [(0, .ref 98)]) rfl rfl rfl rfl rfl rfl rfl rfl ?_
          refine v_readPlan _ hI  (fun s6 Is6 Gs6 pcs6 => h_Kn ?_)
          have Fs6 := (Gs6.mono (B := kf_v_readMore) rfl).tr F00
          have es6_5 : s6 98 5 = σ 98 5 := (Gs6 98 5 rfl).trans rfl
          have es6_6 : s6 98 6 = σ 98 6 := (Gs6 98 6 rfl).trans rfl
          rcases pcs6 with pcs6 | pcs6 | pcs6
          · exact h_vret rfl rfl (kk _ Is6 Fs6 (Or.inl ⟨by omega, by omega, by omega⟩))
          · exact h_vret rfl rfl (kk _ Is6 Fs6 (Or.inr (Or.inl ⟨by omega, by omega, by omega⟩)))
          · exact h_vret rfl rfl (kk _ Is6 Fs6 (Or.inr (Or.inr ⟨by omega, by omega, by omega⟩)))
        · refine h_aload_n (pc' := 110) rfl rfl rfl ?_
          refine h_getR (pc' := 113) rfl rfl rfl rfl rfl ?_
          refine h_bipush (pc' := 115) (x := (Int32.ofInt 26)) rfl rfl cb_26 ?_
          refine h_aload_n (pc' := 116) rfl rfl rfl ?_
          refine h_getI (pc' := 119) (v := σ 98 6) rfl rfl rfl rfl rfl rfl (fun z7 hz7 => ?_)
          have tz7 := tf_98_6 hI
          refine h_iadd (pc' := 120) rfl rfl ci_26 hz7 rfl (by omega) (by omega) (fun z8 hz8 => ?_)
          refine h_aload_n (pc' := 121) rfl rfl rfl ?_
          refine h_iconst (pc' := 122) (x := (Int32.ofInt 0)) rfl rfl rfl ?_
          refine h_bipush (pc' := 124) (x := (Int32.ofInt 9)) rfl rfl cb_9 ?_
          refine h_call (sp := false) (pc' := 127) (M := [(0, .ref 98), (1, .int (Int32.ofInt 0)), (2, .int (Int32.ofInt 9))]) rfl rfl rfl rfl rfl rfl rfl rfl ?_
          refine v_number _ hI  (Int32.ofInt 9) _ ci_9 (by omega) (fun r9 br9 hr9 s10 Is10 Gs10 tr9 ps10_0 ps10_1 pcs10 => h_Kv ?_)
          have Fs10 := (Gs10.mono (B := kf_v_readMore) rfl).tr F00
          have es10_5 : s10 98 5 = σ 98 5 := (Gs10 98 5 rfl).trans rfl
          have es10_6 : s10 98 6 = σ 98 6 := (Gs10 98 6 rfl).trans rfl
          have es10_7 : s10 101 18 = σ 101 18 := (Gs10 101 18 rfl).trans rfl
          have es10_8 : s10 101 25 = σ 101 25 := (Gs10 101 25 rfl).trans rfl
          rcases pcs10 with pcs10 | pcs10 | pcs10
          · refine h_iast (pc' := 128) rfl rfl rfl rfl hz8 (by omega) (by omega) hr9 (h_fgt (E := fun s => s 98 15 = s10 98 15 ∧ s 98 16 = s10 98 16 ∧ s 98 17 = s10 98 17 ∧ s 98 18 = s10 98 18 ∧ s 98 13 = s10 98 13 ∧ s 98 5 = σ 98 5 ∧ s 98 6 = σ 98 6 ∧ s 101 18 = σ 101 18 ∧ s 101 25 = σ 101 25) _ (ip_101_6 Is10 (by omega) (by omega)) (Fs10.up rfl) ⟨rfl, rfl, rfl, rfl, rfl, es10_5, es10_6, h_up_n2 (by omega) es10_7, h_up_n2 (by omega) es10_8⟩ (fun s11 Is11 Fs11 (es11 : s11 98 15 = s10 98 15 ∧ s11 98 16 = s10 98 16 ∧ s11 98 17 = s10 98 17 ∧ s11 98 18 = s10 98 18 ∧ s11 98 13 = s10 98 13 ∧ s11 98 5 = σ 98 5 ∧ s11 98 6 = σ 98 6 ∧ s11 101 18 = σ 101 18 ∧ s11 101 25 = σ 101 25) => ?_))
            clear es10_5 es10_6 es10_7 es10_8
            refine h_aload_n (pc' := 129) rfl rfl rfl ?_
            refine h_getI (pc' := 132) (v := s10 98 13) rfl rfl rfl rfl rfl es11.2.2.2.2.1 (fun z12 hz12 => ?_)
            have tz12 := tf_98_13 Is10
            refine h_zne (tg := 161) (pc' := 135) rfl rfl rfl hz12 (fun c13 => ?_) (fun c13 => absurd c13 (by omega))
            refine h_aload_n (pc' := 162) rfl rfl rfl ?_
            refine h_dup (pc' := 163) rfl rfl rfl ?_
            refine h_getI (pc' := 166) (v := σ 98 6) rfl rfl rfl rfl rfl es11.2.2.2.2.2.2.1 (fun z14 hz14 => ?_)
            have tz14 := tf_98_6 hI
            refine h_iconst (pc' := 167) (x := (Int32.ofInt 1)) rfl rfl rfl ?_
            refine h_iadd (pc' := 168) rfl rfl hz14 ci_1 rfl (by omega) (by omega) (fun z15 hz15 => ?_)
            refine h_put (pc' := 171) rfl rfl rfl rfl rfl rfl hz15 rfl (h_fgt (E := fun s => s 98 15 = s10 98 15 ∧ s 98 16 = s10 98 16 ∧ s 98 17 = s10 98 17 ∧ s 98 18 = s10 98 18 ∧ s 98 13 = s10 98 13 ∧ s 98 5 = σ 98 5 ∧ s 98 6 = ((σ 98 6) + 1) ∧ s 101 18 = σ 101 18 ∧ s 101 25 = σ 101 25) _ (if_98_6 Is11 (by omega)) (Fs11.up rfl) ⟨es11.1, es11.2.1, es11.2.2.1, es11.2.2.2.1, es11.2.2.2.2.1, es11.2.2.2.2.2.1, rfl, es11.2.2.2.2.2.2.2.1, es11.2.2.2.2.2.2.2.2⟩ (fun s16 Is16 Fs16 (es16 : s16 98 15 = s10 98 15 ∧ s16 98 16 = s10 98 16 ∧ s16 98 17 = s10 98 17 ∧ s16 98 18 = s10 98 18 ∧ s16 98 13 = s10 98 13 ∧ s16 98 5 = σ 98 5 ∧ s16 98 6 = ((σ 98 6) + 1) ∧ s16 101 18 = σ 101 18 ∧ s16 101 25 = σ 101 25) => ?_))
            clear es11
            refine h_goto (pc' := 178) rfl rfl ?_
            exact h_vret rfl rfl (kk _ Is16 Fs16 (Or.inl ⟨by omega, by omega, by omega⟩))
          · refine h_iast (pc' := 128) rfl rfl rfl rfl hz8 (by omega) (by omega) hr9 (h_fgt (E := fun s => s 98 15 = s10 98 15 ∧ s 98 16 = s10 98 16 ∧ s 98 17 = s10 98 17 ∧ s 98 18 = s10 98 18 ∧ s 98 13 = s10 98 13 ∧ s 98 5 = σ 98 5 ∧ s 98 6 = σ 98 6 ∧ s 101 18 = σ 101 18 ∧ s 101 25 = σ 101 25) _ (ip_101_6 Is10 (by omega) (by omega)) (Fs10.up rfl) ⟨rfl, rfl, rfl, rfl, rfl, es10_5, es10_6, h_up_n2 (by omega) es10_7, h_up_n2 (by omega) es10_8⟩ (fun s17 Is17 Fs17 (es17 : s17 98 15 = s10 98 15 ∧ s17 98 16 = s10 98 16 ∧ s17 98 17 = s10 98 17 ∧ s17 98 18 = s10 98 18 ∧ s17 98 13 = s10 98 13 ∧ s17 98 5 = σ 98 5 ∧ s17 98 6 = σ 98 6 ∧ s17 101 18 = σ 101 18 ∧ s17 101 25 = σ 101 25) => ?_))
            clear es10_5 es10_6 es10_7 es10_8
            refine h_aload_n (pc' := 129) rfl rfl rfl ?_
            refine h_getI (pc' := 132) (v := s10 98 13) rfl rfl rfl rfl rfl es17.2.2.2.2.1 (fun z18 hz18 => ?_)
            have tz18 := tf_98_13 Is10
            refine h_zne (tg := 161) (pc' := 135) rfl rfl rfl hz18 (fun c19 => ?_) (fun c19 => absurd c19 (by omega))
            refine h_aload_n (pc' := 162) rfl rfl rfl ?_
            refine h_dup (pc' := 163) rfl rfl rfl ?_
            refine h_getI (pc' := 166) (v := σ 98 6) rfl rfl rfl rfl rfl es17.2.2.2.2.2.2.1 (fun z20 hz20 => ?_)
            have tz20 := tf_98_6 hI
            refine h_iconst (pc' := 167) (x := (Int32.ofInt 1)) rfl rfl rfl ?_
            refine h_iadd (pc' := 168) rfl rfl hz20 ci_1 rfl (by omega) (by omega) (fun z21 hz21 => ?_)
            refine h_put (pc' := 171) rfl rfl rfl rfl rfl rfl hz21 rfl (h_fgt (E := fun s => s 98 15 = s10 98 15 ∧ s 98 16 = s10 98 16 ∧ s 98 17 = s10 98 17 ∧ s 98 18 = s10 98 18 ∧ s 98 13 = s10 98 13 ∧ s 98 5 = σ 98 5 ∧ s 98 6 = ((σ 98 6) + 1) ∧ s 101 18 = σ 101 18 ∧ s 101 25 = σ 101 25) _ (if_98_6 Is17 (by omega)) (Fs17.up rfl) ⟨es17.1, es17.2.1, es17.2.2.1, es17.2.2.2.1, es17.2.2.2.2.1, es17.2.2.2.2.2.1, rfl, es17.2.2.2.2.2.2.2.1, es17.2.2.2.2.2.2.2.2⟩ (fun s22 Is22 Fs22 (es22 : s22 98 15 = s10 98 15 ∧ s22 98 16 = s10 98 16 ∧ s22 98 17 = s10 98 17 ∧ s22 98 18 = s10 98 18 ∧ s22 98 13 = s10 98 13 ∧ s22 98 5 = σ 98 5 ∧ s22 98 6 = ((σ 98 6) + 1) ∧ s22 101 18 = σ 101 18 ∧ s22 101 25 = σ 101 25) => ?_))
            clear es17
            refine h_goto (pc' := 178) rfl rfl ?_
            exact h_vret rfl rfl (kk _ Is22 Fs22 (Or.inr (Or.inl ⟨by omega, by omega, by omega⟩)))
          · refine h_iast (pc' := 128) rfl rfl rfl rfl hz8 (by omega) (by omega) hr9 (h_fgt (E := fun s => s 98 15 = s10 98 15 ∧ s 98 16 = s10 98 16 ∧ s 98 17 = s10 98 17 ∧ s 98 18 = s10 98 18 ∧ s 98 13 = s10 98 13 ∧ s 98 5 = σ 98 5 ∧ s 98 6 = σ 98 6 ∧ s 101 18 = σ 101 18 ∧ s 101 25 = σ 101 25) _ (ip_101_6 Is10 (by omega) (by omega)) (Fs10.up rfl) ⟨rfl, rfl, rfl, rfl, rfl, es10_5, es10_6, h_up_n2 (by omega) es10_7, h_up_n2 (by omega) es10_8⟩ (fun s23 Is23 Fs23 (es23 : s23 98 15 = s10 98 15 ∧ s23 98 16 = s10 98 16 ∧ s23 98 17 = s10 98 17 ∧ s23 98 18 = s10 98 18 ∧ s23 98 13 = s10 98 13 ∧ s23 98 5 = σ 98 5 ∧ s23 98 6 = σ 98 6 ∧ s23 101 18 = σ 101 18 ∧ s23 101 25 = σ 101 25) => ?_))
            clear es10_5 es10_6 es10_7 es10_8
            refine h_aload_n (pc' := 129) rfl rfl rfl ?_
            refine h_getI (pc' := 132) (v := s10 98 13) rfl rfl rfl rfl rfl es23.2.2.2.2.1 (fun z24 hz24 => ?_)
            have tz24 := tf_98_13 Is10
            refine h_zne (tg := 161) (pc' := 135) rfl rfl rfl hz24 (fun c25 => absurd c25 (by omega)) (fun c25 => ?_)
            refine h_aload_n (pc' := 136) rfl rfl rfl ?_
            refine h_getI (pc' := 139) (v := s10 98 17) rfl rfl rfl rfl rfl es23.2.2.1 (fun z26 hz26 => ?_)
            have tz26 := tf_98_17 Is10
            refine h_iconst (pc' := 140) (x := (Int32.ofInt 2)) rfl rfl rfl ?_
            refine h_cne (tg := 161) (pc' := 143) rfl rfl rfl hz26 ci_2 (fun c27 => ?_) (fun c27 => ?_)
            · refine h_aload_n (pc' := 162) rfl rfl rfl ?_
              refine h_dup (pc' := 163) rfl rfl rfl ?_
              refine h_getI (pc' := 166) (v := σ 98 6) rfl rfl rfl rfl rfl es23.2.2.2.2.2.2.1 (fun z28 hz28 => ?_)
              have tz28 := tf_98_6 hI
              refine h_iconst (pc' := 167) (x := (Int32.ofInt 1)) rfl rfl rfl ?_
              refine h_iadd (pc' := 168) rfl rfl hz28 ci_1 rfl (by omega) (by omega) (fun z29 hz29 => ?_)
              refine h_put (pc' := 171) rfl rfl rfl rfl rfl rfl hz29 rfl (h_fgt (E := fun s => s 98 15 = s10 98 15 ∧ s 98 16 = s10 98 16 ∧ s 98 17 = s10 98 17 ∧ s 98 18 = s10 98 18 ∧ s 98 13 = s10 98 13 ∧ s 98 5 = σ 98 5 ∧ s 98 6 = ((σ 98 6) + 1) ∧ s 101 18 = σ 101 18 ∧ s 101 25 = σ 101 25) _ (if_98_6 Is23 (by omega)) (Fs23.up rfl) ⟨es23.1, es23.2.1, es23.2.2.1, es23.2.2.2.1, es23.2.2.2.2.1, es23.2.2.2.2.2.1, rfl, es23.2.2.2.2.2.2.2.1, es23.2.2.2.2.2.2.2.2⟩ (fun s30 Is30 Fs30 (es30 : s30 98 15 = s10 98 15 ∧ s30 98 16 = s10 98 16 ∧ s30 98 17 = s10 98 17 ∧ s30 98 18 = s10 98 18 ∧ s30 98 13 = s10 98 13 ∧ s30 98 5 = σ 98 5 ∧ s30 98 6 = ((σ 98 6) + 1) ∧ s30 101 18 = σ 101 18 ∧ s30 101 25 = σ 101 25) => ?_))
              clear es23
              refine h_goto (pc' := 178) rfl rfl ?_
              exact h_vret rfl rfl (kk _ Is30 Fs30 (Or.inr (Or.inr ⟨by omega, by omega, by omega⟩)))
            · refine h_aload_n (pc' := 144) rfl rfl rfl ?_
              refine h_getR (pc' := 147) rfl rfl rfl rfl rfl ?_
              refine h_bipush (pc' := 149) (x := (Int32.ofInt 29)) rfl rfl cb_29 ?_
              refine h_aload_n (pc' := 150) rfl rfl rfl ?_
              refine h_getI (pc' := 153) (v := σ 98 6) rfl rfl rfl rfl rfl es23.2.2.2.2.2.2.1 (fun z31 hz31 => ?_)
              have tz31 := tf_98_6 hI
              refine h_iadd (pc' := 154) rfl rfl ci_29 hz31 rfl (by omega) (by omega) (fun z32 hz32 => ?_)
              refine h_aload_n (pc' := 155) rfl rfl rfl ?_
              refine h_call (sp := false) (pc' := 158) (M := [(0, .ref 98)]) rfl rfl rfl rfl rfl rfl rfl rfl ?_
              refine v_oneHere _ Is23  (fun r33 br33 hr33 s34 Is34 Gs34 tr33 ps34_0 pcs34 => h_Kv ?_)
              have Fs34 := (Gs34.mono (B := kf_v_readMore) rfl).tr Fs23
              have es34_5 : s34 98 5 = σ 98 5 := (Gs34 98 5 rfl).trans es23.2.2.2.2.2.1
              have es34_6 : s34 98 6 = σ 98 6 := (Gs34 98 6 rfl).trans es23.2.2.2.2.2.2.1
              have es34_7 : s34 101 18 = σ 101 18 := (Gs34 101 18 rfl).trans es23.2.2.2.2.2.2.2.1
              have es34_8 : s34 101 25 = σ 101 25 := (Gs34 101 25 rfl).trans es23.2.2.2.2.2.2.2.2
              rcases pcs34 with pcs34 | pcs34 | pcs34
              · exfalso; omega
              · refine h_iconst (pc' := 159) (x := (Int32.ofInt 1)) rfl rfl rfl ?_
                refine h_iadd (pc' := 160) rfl rfl hr33 ci_1 rfl (by omega) (by omega) (fun z35 hz35 => ?_)
                refine h_iast (pc' := 161) rfl rfl rfl rfl hz32 (by omega) (by omega) hz35 (h_fgt (E := fun s => s 98 15 = s34 98 15 ∧ s 98 16 = s34 98 16 ∧ s 98 17 = s34 98 17 ∧ s 98 18 = s34 98 18 ∧ s 98 13 = s34 98 13 ∧ s 98 5 = σ 98 5 ∧ s 98 6 = σ 98 6 ∧ s 101 18 = σ 101 18 ∧ s 101 25 = σ 101 25) _ (ip_101_7 Is34 (by omega) (by omega)) (Fs34.up rfl) ⟨rfl, rfl, rfl, rfl, rfl, es34_5, es34_6, h_up_n2 (by omega) es34_7, h_up_n2 (by omega) es34_8⟩ (fun s36 Is36 Fs36 (es36 : s36 98 15 = s34 98 15 ∧ s36 98 16 = s34 98 16 ∧ s36 98 17 = s34 98 17 ∧ s36 98 18 = s34 98 18 ∧ s36 98 13 = s34 98 13 ∧ s36 98 5 = σ 98 5 ∧ s36 98 6 = σ 98 6 ∧ s36 101 18 = σ 101 18 ∧ s36 101 25 = σ 101 25) => ?_))
                clear es34_5 es34_6 es34_7 es34_8
                refine h_aload_n (pc' := 162) rfl rfl rfl ?_
                refine h_dup (pc' := 163) rfl rfl rfl ?_
                refine h_getI (pc' := 166) (v := σ 98 6) rfl rfl rfl rfl rfl es36.2.2.2.2.2.2.1 (fun z37 hz37 => ?_)
                have tz37 := tf_98_6 hI
                refine h_iconst (pc' := 167) (x := (Int32.ofInt 1)) rfl rfl rfl ?_
                refine h_iadd (pc' := 168) rfl rfl hz37 ci_1 rfl (by omega) (by omega) (fun z38 hz38 => ?_)
                refine h_put (pc' := 171) rfl rfl rfl rfl rfl rfl hz38 rfl (h_fgt (E := fun s => s 98 15 = s34 98 15 ∧ s 98 16 = s34 98 16 ∧ s 98 17 = s34 98 17 ∧ s 98 18 = s34 98 18 ∧ s 98 13 = s34 98 13 ∧ s 98 5 = σ 98 5 ∧ s 98 6 = ((σ 98 6) + 1) ∧ s 101 18 = σ 101 18 ∧ s 101 25 = σ 101 25) _ (if_98_6 Is36 (by omega)) (Fs36.up rfl) ⟨es36.1, es36.2.1, es36.2.2.1, es36.2.2.2.1, es36.2.2.2.2.1, es36.2.2.2.2.2.1, rfl, es36.2.2.2.2.2.2.2.1, es36.2.2.2.2.2.2.2.2⟩ (fun s39 Is39 Fs39 (es39 : s39 98 15 = s34 98 15 ∧ s39 98 16 = s34 98 16 ∧ s39 98 17 = s34 98 17 ∧ s39 98 18 = s34 98 18 ∧ s39 98 13 = s34 98 13 ∧ s39 98 5 = σ 98 5 ∧ s39 98 6 = ((σ 98 6) + 1) ∧ s39 101 18 = σ 101 18 ∧ s39 101 25 = σ 101 25) => ?_))
                clear es36
                refine h_goto (pc' := 178) rfl rfl ?_
                exact h_vret rfl rfl (kk _ Is39 Fs39 (Or.inr (Or.inl ⟨by omega, by omega, by omega⟩)))
              · refine h_iconst (pc' := 159) (x := (Int32.ofInt 1)) rfl rfl rfl ?_
                refine h_iadd (pc' := 160) rfl rfl hr33 ci_1 rfl (by omega) (by omega) (fun z40 hz40 => ?_)
                refine h_iast (pc' := 161) rfl rfl rfl rfl hz32 (by omega) (by omega) hz40 (h_fgt (E := fun s => s 98 15 = s34 98 15 ∧ s 98 16 = s34 98 16 ∧ s 98 17 = s34 98 17 ∧ s 98 18 = s34 98 18 ∧ s 98 13 = s34 98 13 ∧ s 98 5 = σ 98 5 ∧ s 98 6 = σ 98 6 ∧ s 101 18 = σ 101 18 ∧ s 101 25 = σ 101 25) _ (ip_101_7 Is34 (by omega) (by omega)) (Fs34.up rfl) ⟨rfl, rfl, rfl, rfl, rfl, es34_5, es34_6, h_up_n2 (by omega) es34_7, h_up_n2 (by omega) es34_8⟩ (fun s41 Is41 Fs41 (es41 : s41 98 15 = s34 98 15 ∧ s41 98 16 = s34 98 16 ∧ s41 98 17 = s34 98 17 ∧ s41 98 18 = s34 98 18 ∧ s41 98 13 = s34 98 13 ∧ s41 98 5 = σ 98 5 ∧ s41 98 6 = σ 98 6 ∧ s41 101 18 = σ 101 18 ∧ s41 101 25 = σ 101 25) => ?_))
                clear es34_5 es34_6 es34_7 es34_8
                refine h_aload_n (pc' := 162) rfl rfl rfl ?_
                refine h_dup (pc' := 163) rfl rfl rfl ?_
                refine h_getI (pc' := 166) (v := σ 98 6) rfl rfl rfl rfl rfl es41.2.2.2.2.2.2.1 (fun z42 hz42 => ?_)
                have tz42 := tf_98_6 hI
                refine h_iconst (pc' := 167) (x := (Int32.ofInt 1)) rfl rfl rfl ?_
                refine h_iadd (pc' := 168) rfl rfl hz42 ci_1 rfl (by omega) (by omega) (fun z43 hz43 => ?_)
                refine h_put (pc' := 171) rfl rfl rfl rfl rfl rfl hz43 rfl (h_fgt (E := fun s => s 98 15 = s34 98 15 ∧ s 98 16 = s34 98 16 ∧ s 98 17 = s34 98 17 ∧ s 98 18 = s34 98 18 ∧ s 98 13 = s34 98 13 ∧ s 98 5 = σ 98 5 ∧ s 98 6 = ((σ 98 6) + 1) ∧ s 101 18 = σ 101 18 ∧ s 101 25 = σ 101 25) _ (if_98_6 Is41 (by omega)) (Fs41.up rfl) ⟨es41.1, es41.2.1, es41.2.2.1, es41.2.2.2.1, es41.2.2.2.2.1, es41.2.2.2.2.2.1, rfl, es41.2.2.2.2.2.2.2.1, es41.2.2.2.2.2.2.2.2⟩ (fun s44 Is44 Fs44 (es44 : s44 98 15 = s34 98 15 ∧ s44 98 16 = s34 98 16 ∧ s44 98 17 = s34 98 17 ∧ s44 98 18 = s34 98 18 ∧ s44 98 13 = s34 98 13 ∧ s44 98 5 = σ 98 5 ∧ s44 98 6 = ((σ 98 6) + 1) ∧ s44 101 18 = σ 101 18 ∧ s44 101 25 = σ 101 25) => ?_))
                clear es41
                refine h_goto (pc' := 178) rfl rfl ?_
                exact h_vret rfl rfl (kk _ Is44 Fs44 (Or.inr (Or.inr ⟨by omega, by omega, by omega⟩)))
      · refine h_aload_n (pc' := 88) rfl rfl rfl ?_
        refine h_bipush (pc' := 90) (x := (Int32.ofInt 19)) rfl rfl cb_19 ?_
        refine h_aload_n (pc' := 91) rfl rfl rfl ?_
        refine h_getR (pc' := 94) rfl rfl rfl rfl rfl ?_
        refine h_bipush (pc' := 96) (x := (Int32.ofInt 25)) rfl rfl cb_25 ?_
        refine h_iald (pc' := 97) (v := σ 101 25) rfl rfl rfl ci_25 (by omega) (by omega) rfl (fun z45 hz45 => ?_)
        have tz45 := ty_101_5 hI 25 (by omega)
        refine h_call (sp := false) (pc' := 100) (M := [(0, .ref 98), (1, .int (Int32.ofInt 19)), (2, .int z45)]) rfl rfl rfl rfl rfl rfl rfl rfl ?_
        refine v_readPair19 _ hI  z45 _ hz45 (by omega) (by omega) (fun s47 Is47 Gs47 pcs47 => h_Kn ?_)
        have Fs47 := (Gs47.mono (B := kf_v_readMore) rfl).tr F00
        have es47_5 : s47 98 5 = σ 98 5 := (Gs47 98 5 rfl).trans rfl
        have es47_6 : s47 98 6 = σ 98 6 := (Gs47 98 6 rfl).trans rfl
        rcases pcs47 with pcs47 | pcs47 | pcs47
        · refine h_goto (pc' := 178) rfl rfl ?_
          exact h_vret rfl rfl (kk _ Is47 Fs47 (Or.inl ⟨by omega, by omega, by omega⟩))
        · refine h_goto (pc' := 178) rfl rfl ?_
          exact h_vret rfl rfl (kk _ Is47 Fs47 (Or.inr (Or.inl ⟨by omega, by omega, by omega⟩)))
        · refine h_goto (pc' := 178) rfl rfl ?_
          exact h_vret rfl rfl (kk _ Is47 Fs47 (Or.inr (Or.inr ⟨by omega, by omega, by omega⟩)))
    · refine h_aload_n (pc' := 67) rfl rfl rfl ?_
      refine h_bipush (pc' := 69) (x := (Int32.ofInt 12)) rfl rfl cb_12 ?_
      refine h_aload_n (pc' := 70) rfl rfl rfl ?_
      refine h_getR (pc' := 73) rfl rfl rfl rfl rfl ?_
      refine h_bipush (pc' := 75) (x := (Int32.ofInt 18)) rfl rfl cb_18 ?_
      refine h_iald (pc' := 76) (v := σ 101 18) rfl rfl rfl ci_18 (by omega) (by omega) rfl (fun z48 hz48 => ?_)
      have tz48 := ty_101_3 hI 18 (by omega)
      refine h_call (sp := false) (pc' := 79) (M := [(0, .ref 98), (1, .int (Int32.ofInt 12)), (2, .int z48)]) rfl rfl rfl rfl rfl rfl rfl rfl ?_
      refine v_readPair12 _ hI  z48 _ hz48 (by omega) (by omega) (fun s50 Is50 Gs50 pcs50 => h_Kn ?_)
      have Fs50 := (Gs50.mono (B := kf_v_readMore) rfl).tr F00
      have es50_5 : s50 98 5 = σ 98 5 := (Gs50 98 5 rfl).trans rfl
      have es50_6 : s50 98 6 = σ 98 6 := (Gs50 98 6 rfl).trans rfl
      rcases pcs50 with pcs50 | pcs50 | pcs50
      · refine h_goto (pc' := 178) rfl rfl ?_
        exact h_vret rfl rfl (kk _ Is50 Fs50 (Or.inl ⟨by omega, by omega, by omega⟩))
      · refine h_goto (pc' := 178) rfl rfl ?_
        exact h_vret rfl rfl (kk _ Is50 Fs50 (Or.inr (Or.inl ⟨by omega, by omega, by omega⟩)))
      · refine h_goto (pc' := 178) rfl rfl ?_
        exact h_vret rfl rfl (kk _ Is50 Fs50 (Or.inr (Or.inr ⟨by omega, by omega, by omega⟩)))
  · refine h_aload_n (pc' := 6) rfl rfl rfl ?_
    refine h_getR (pc' := 9) rfl rfl rfl rfl rfl ?_
    refine h_aload_n (pc' := 10) rfl rfl rfl ?_
    refine h_getI (pc' := 13) (v := σ 98 5) rfl rfl rfl rfl rfl rfl (fun z51 hz51 => ?_)
    have tz51 := tf_98_5 hI
    refine h_iload_n (pc' := 14) rfl rfl rfl ?_
    refine h_iast (pc' := 15) rfl rfl rfl rfl hz51 (by omega) (by omega) hx0 (h_fgt (E := fun s => s 98 15 = σ 98 15 ∧ s 98 16 = σ 98 16 ∧ s 98 17 = σ 98 17 ∧ s 98 18 = σ 98 18 ∧ s 98 13 = σ 98 13 ∧ s 98 5 = σ 98 5 ∧ s 98 6 = σ 98 6 ∧ s 101 18 = σ 101 18 ∧ s 101 25 = σ 101 25) _ (ip_101_0 hI (by omega) (by omega)) (F00.up rfl) ⟨rfl, rfl, rfl, rfl, rfl, rfl, rfl, h_up_n2 (by omega) rfl, h_up_n2 (by omega) rfl⟩ (fun s52 Is52 Fs52 (es52 : s52 98 15 = σ 98 15 ∧ s52 98 16 = σ 98 16 ∧ s52 98 17 = σ 98 17 ∧ s52 98 18 = σ 98 18 ∧ s52 98 13 = σ 98 13 ∧ s52 98 5 = σ 98 5 ∧ s52 98 6 = σ 98 6 ∧ s52 101 18 = σ 101 18 ∧ s52 101 25 = σ 101 25) => ?_))
    refine h_aload_n (pc' := 16) rfl rfl rfl ?_
    refine h_getI (pc' := 19) (v := σ 98 17) rfl rfl rfl rfl rfl es52.2.2.1 (fun z53 hz53 => ?_)
    have tz53 := tf_98_17 hI
    refine h_iconst (pc' := 20) (x := (Int32.ofInt 2)) rfl rfl rfl ?_
    refine h_cne (tg := 48) (pc' := 23) rfl rfl rfl hz53 ci_2 (fun c54 => ?_) (fun c54 => ?_)
    · refine h_aload_n (pc' := 49) rfl rfl rfl ?_
      refine h_dup (pc' := 50) rfl rfl rfl ?_
      refine h_getI (pc' := 53) (v := σ 98 5) rfl rfl rfl rfl rfl es52.2.2.2.2.2.1 (fun z55 hz55 => ?_)
      have tz55 := tf_98_5 hI
      refine h_iconst (pc' := 54) (x := (Int32.ofInt 1)) rfl rfl rfl ?_
      refine h_iadd (pc' := 55) rfl rfl hz55 ci_1 rfl (by omega) (by omega) (fun z56 hz56 => ?_)
      refine h_put (pc' := 58) rfl rfl rfl rfl rfl rfl hz56 rfl (h_fgt (E := fun s => s 98 15 = σ 98 15 ∧ s 98 16 = σ 98 16 ∧ s 98 17 = σ 98 17 ∧ s 98 18 = σ 98 18 ∧ s 98 13 = σ 98 13 ∧ s 98 5 = ((σ 98 5) + 1) ∧ s 98 6 = σ 98 6 ∧ s 101 18 = σ 101 18 ∧ s 101 25 = σ 101 25) _ (if_98_5 Is52 (by omega)) (Fs52.up rfl) ⟨es52.1, es52.2.1, es52.2.2.1, es52.2.2.2.1, es52.2.2.2.2.1, rfl, es52.2.2.2.2.2.2.1, es52.2.2.2.2.2.2.2.1, es52.2.2.2.2.2.2.2.2⟩ (fun s57 Is57 Fs57 (es57 : s57 98 15 = σ 98 15 ∧ s57 98 16 = σ 98 16 ∧ s57 98 17 = σ 98 17 ∧ s57 98 18 = σ 98 18 ∧ s57 98 13 = σ 98 13 ∧ s57 98 5 = ((σ 98 5) + 1) ∧ s57 98 6 = σ 98 6 ∧ s57 101 18 = σ 101 18 ∧ s57 101 25 = σ 101 25) => ?_))
      clear es52
      refine h_goto (pc' := 178) rfl rfl ?_
      exact h_vret rfl rfl (kk _ Is57 Fs57 (by omega))
    · refine h_aload_n (pc' := 24) rfl rfl rfl ?_
      refine h_getR (pc' := 27) rfl rfl rfl rfl rfl ?_
      refine h_bipush (pc' := 29) (x := (Int32.ofInt 6)) rfl rfl cb_6 ?_
      refine h_aload_n (pc' := 30) rfl rfl rfl ?_
      refine h_getI (pc' := 33) (v := σ 98 5) rfl rfl rfl rfl rfl es52.2.2.2.2.2.1 (fun z58 hz58 => ?_)
      have tz58 := tf_98_5 hI
      refine h_iadd (pc' := 34) rfl rfl ci_6 hz58 rfl (by omega) (by omega) (fun z59 hz59 => ?_)
      refine h_aload_n (pc' := 35) rfl rfl rfl ?_
      refine h_iconst (pc' := 36) (x := (Int32.ofInt 0)) rfl rfl rfl ?_
      refine h_aload_n (pc' := 37) rfl rfl rfl ?_
      refine h_getI (pc' := 40) (v := σ 98 5) rfl rfl rfl rfl rfl es52.2.2.2.2.2.1 (fun z60 hz60 => ?_)
      have tz60 := tf_98_5 hI
      refine h_iconst (pc' := 41) (x := (Int32.ofInt 1)) rfl rfl rfl ?_
      refine h_isub (pc' := 42) rfl rfl hz60 ci_1 rfl (by omega) (by omega) (fun z61 hz61 => ?_)
      refine h_call (sp := false) (pc' := 45) (M := [(0, .ref 98), (1, .int (Int32.ofInt 0)), (2, .int z61)]) rfl rfl rfl rfl rfl rfl rfl rfl ?_
      refine v_number _ Is52  z61 _ hz61 (by omega) (fun r62 br62 hr62 s63 Is63 Gs63 tr62 ps63_0 ps63_1 pcs63 => h_Kv ?_)
      have Fs63 := (Gs63.mono (B := kf_v_readMore) rfl).tr Fs52
      have es63_5 : s63 98 5 = σ 98 5 := (Gs63 98 5 rfl).trans es52.2.2.2.2.2.1
      have es63_6 : s63 98 6 = σ 98 6 := (Gs63 98 6 rfl).trans es52.2.2.2.2.2.2.1
      have es63_7 : s63 101 18 = σ 101 18 := (Gs63 101 18 rfl).trans es52.2.2.2.2.2.2.2.1
      have es63_8 : s63 101 25 = σ 101 25 := (Gs63 101 25 rfl).trans es52.2.2.2.2.2.2.2.2
      rcases pcs63 with pcs63 | pcs63 | pcs63
      · refine h_iconst (pc' := 46) (x := (Int32.ofInt 1)) rfl rfl rfl ?_
        refine h_iadd (pc' := 47) rfl rfl hr62 ci_1 rfl (by omega) (by omega) (fun z64 hz64 => ?_)
        refine h_iast (pc' := 48) rfl rfl rfl rfl hz59 (by omega) (by omega) hz64 (h_fgt (E := fun s => s 98 15 = s63 98 15 ∧ s 98 16 = s63 98 16 ∧ s 98 17 = s63 98 17 ∧ s 98 18 = s63 98 18 ∧ s 98 13 = s63 98 13 ∧ s 98 5 = σ 98 5 ∧ s 98 6 = σ 98 6 ∧ s 101 18 = σ 101 18 ∧ s 101 25 = σ 101 25) _ (ip_101_1 Is63 (by omega) (by omega)) (Fs63.up rfl) ⟨rfl, rfl, rfl, rfl, rfl, es63_5, es63_6, h_up_n2 (by omega) es63_7, h_up_n2 (by omega) es63_8⟩ (fun s65 Is65 Fs65 (es65 : s65 98 15 = s63 98 15 ∧ s65 98 16 = s63 98 16 ∧ s65 98 17 = s63 98 17 ∧ s65 98 18 = s63 98 18 ∧ s65 98 13 = s63 98 13 ∧ s65 98 5 = σ 98 5 ∧ s65 98 6 = σ 98 6 ∧ s65 101 18 = σ 101 18 ∧ s65 101 25 = σ 101 25) => ?_))
        clear es63_5 es63_6 es63_7 es63_8
        refine h_aload_n (pc' := 49) rfl rfl rfl ?_
        refine h_dup (pc' := 50) rfl rfl rfl ?_
        refine h_getI (pc' := 53) (v := σ 98 5) rfl rfl rfl rfl rfl es65.2.2.2.2.2.1 (fun z66 hz66 => ?_)
        have tz66 := tf_98_5 hI
        refine h_iconst (pc' := 54) (x := (Int32.ofInt 1)) rfl rfl rfl ?_
        refine h_iadd (pc' := 55) rfl rfl hz66 ci_1 rfl (by omega) (by omega) (fun z67 hz67 => ?_)
        refine h_put (pc' := 58) rfl rfl rfl rfl rfl rfl hz67 rfl (h_fgt (E := fun s => s 98 15 = s63 98 15 ∧ s 98 16 = s63 98 16 ∧ s 98 17 = s63 98 17 ∧ s 98 18 = s63 98 18 ∧ s 98 13 = s63 98 13 ∧ s 98 5 = ((σ 98 5) + 1) ∧ s 98 6 = σ 98 6 ∧ s 101 18 = σ 101 18 ∧ s 101 25 = σ 101 25) _ (if_98_5 Is65 (by omega)) (Fs65.up rfl) ⟨es65.1, es65.2.1, es65.2.2.1, es65.2.2.2.1, es65.2.2.2.2.1, rfl, es65.2.2.2.2.2.2.1, es65.2.2.2.2.2.2.2.1, es65.2.2.2.2.2.2.2.2⟩ (fun s68 Is68 Fs68 (es68 : s68 98 15 = s63 98 15 ∧ s68 98 16 = s63 98 16 ∧ s68 98 17 = s63 98 17 ∧ s68 98 18 = s63 98 18 ∧ s68 98 13 = s63 98 13 ∧ s68 98 5 = ((σ 98 5) + 1) ∧ s68 98 6 = σ 98 6 ∧ s68 101 18 = σ 101 18 ∧ s68 101 25 = σ 101 25) => ?_))
        clear es65
        refine h_goto (pc' := 178) rfl rfl ?_
        exact h_vret rfl rfl (kk _ Is68 Fs68 (Or.inl ⟨by omega, by omega, by omega⟩))
      · refine h_iconst (pc' := 46) (x := (Int32.ofInt 1)) rfl rfl rfl ?_
        refine h_iadd (pc' := 47) rfl rfl hr62 ci_1 rfl (by omega) (by omega) (fun z69 hz69 => ?_)
        refine h_iast (pc' := 48) rfl rfl rfl rfl hz59 (by omega) (by omega) hz69 (h_fgt (E := fun s => s 98 15 = s63 98 15 ∧ s 98 16 = s63 98 16 ∧ s 98 17 = s63 98 17 ∧ s 98 18 = s63 98 18 ∧ s 98 13 = s63 98 13 ∧ s 98 5 = σ 98 5 ∧ s 98 6 = σ 98 6 ∧ s 101 18 = σ 101 18 ∧ s 101 25 = σ 101 25) _ (ip_101_1 Is63 (by omega) (by omega)) (Fs63.up rfl) ⟨rfl, rfl, rfl, rfl, rfl, es63_5, es63_6, h_up_n2 (by omega) es63_7, h_up_n2 (by omega) es63_8⟩ (fun s70 Is70 Fs70 (es70 : s70 98 15 = s63 98 15 ∧ s70 98 16 = s63 98 16 ∧ s70 98 17 = s63 98 17 ∧ s70 98 18 = s63 98 18 ∧ s70 98 13 = s63 98 13 ∧ s70 98 5 = σ 98 5 ∧ s70 98 6 = σ 98 6 ∧ s70 101 18 = σ 101 18 ∧ s70 101 25 = σ 101 25) => ?_))
        clear es63_5 es63_6 es63_7 es63_8
        refine h_aload_n (pc' := 49) rfl rfl rfl ?_
        refine h_dup (pc' := 50) rfl rfl rfl ?_
        refine h_getI (pc' := 53) (v := σ 98 5) rfl rfl rfl rfl rfl es70.2.2.2.2.2.1 (fun z71 hz71 => ?_)
        have tz71 := tf_98_5 hI
        refine h_iconst (pc' := 54) (x := (Int32.ofInt 1)) rfl rfl rfl ?_
        refine h_iadd (pc' := 55) rfl rfl hz71 ci_1 rfl (by omega) (by omega) (fun z72 hz72 => ?_)
        refine h_put (pc' := 58) rfl rfl rfl rfl rfl rfl hz72 rfl (h_fgt (E := fun s => s 98 15 = s63 98 15 ∧ s 98 16 = s63 98 16 ∧ s 98 17 = s63 98 17 ∧ s 98 18 = s63 98 18 ∧ s 98 13 = s63 98 13 ∧ s 98 5 = ((σ 98 5) + 1) ∧ s 98 6 = σ 98 6 ∧ s 101 18 = σ 101 18 ∧ s 101 25 = σ 101 25) _ (if_98_5 Is70 (by omega)) (Fs70.up rfl) ⟨es70.1, es70.2.1, es70.2.2.1, es70.2.2.2.1, es70.2.2.2.2.1, rfl, es70.2.2.2.2.2.2.1, es70.2.2.2.2.2.2.2.1, es70.2.2.2.2.2.2.2.2⟩ (fun s73 Is73 Fs73 (es73 : s73 98 15 = s63 98 15 ∧ s73 98 16 = s63 98 16 ∧ s73 98 17 = s63 98 17 ∧ s73 98 18 = s63 98 18 ∧ s73 98 13 = s63 98 13 ∧ s73 98 5 = ((σ 98 5) + 1) ∧ s73 98 6 = σ 98 6 ∧ s73 101 18 = σ 101 18 ∧ s73 101 25 = σ 101 25) => ?_))
        clear es70
        refine h_goto (pc' := 178) rfl rfl ?_
        exact h_vret rfl rfl (kk _ Is73 Fs73 (Or.inr (Or.inl ⟨by omega, by omega, by omega⟩)))
      · refine h_iconst (pc' := 46) (x := (Int32.ofInt 1)) rfl rfl rfl ?_
        refine h_iadd (pc' := 47) rfl rfl hr62 ci_1 rfl (by omega) (by omega) (fun z74 hz74 => ?_)
        refine h_iast (pc' := 48) rfl rfl rfl rfl hz59 (by omega) (by omega) hz74 (h_fgt (E := fun s => s 98 15 = s63 98 15 ∧ s 98 16 = s63 98 16 ∧ s 98 17 = s63 98 17 ∧ s 98 18 = s63 98 18 ∧ s 98 13 = s63 98 13 ∧ s 98 5 = σ 98 5 ∧ s 98 6 = σ 98 6 ∧ s 101 18 = σ 101 18 ∧ s 101 25 = σ 101 25) _ (ip_101_1 Is63 (by omega) (by omega)) (Fs63.up rfl) ⟨rfl, rfl, rfl, rfl, rfl, es63_5, es63_6, h_up_n2 (by omega) es63_7, h_up_n2 (by omega) es63_8⟩ (fun s75 Is75 Fs75 (es75 : s75 98 15 = s63 98 15 ∧ s75 98 16 = s63 98 16 ∧ s75 98 17 = s63 98 17 ∧ s75 98 18 = s63 98 18 ∧ s75 98 13 = s63 98 13 ∧ s75 98 5 = σ 98 5 ∧ s75 98 6 = σ 98 6 ∧ s75 101 18 = σ 101 18 ∧ s75 101 25 = σ 101 25) => ?_))
        clear es63_5 es63_6 es63_7 es63_8
        refine h_aload_n (pc' := 49) rfl rfl rfl ?_
        refine h_dup (pc' := 50) rfl rfl rfl ?_
        refine h_getI (pc' := 53) (v := σ 98 5) rfl rfl rfl rfl rfl es75.2.2.2.2.2.1 (fun z76 hz76 => ?_)
        have tz76 := tf_98_5 hI
        refine h_iconst (pc' := 54) (x := (Int32.ofInt 1)) rfl rfl rfl ?_
        refine h_iadd (pc' := 55) rfl rfl hz76 ci_1 rfl (by omega) (by omega) (fun z77 hz77 => ?_)
        refine h_put (pc' := 58) rfl rfl rfl rfl rfl rfl hz77 rfl (h_fgt (E := fun s => s 98 15 = s63 98 15 ∧ s 98 16 = s63 98 16 ∧ s 98 17 = s63 98 17 ∧ s 98 18 = s63 98 18 ∧ s 98 13 = s63 98 13 ∧ s 98 5 = ((σ 98 5) + 1) ∧ s 98 6 = σ 98 6 ∧ s 101 18 = σ 101 18 ∧ s 101 25 = σ 101 25) _ (if_98_5 Is75 (by omega)) (Fs75.up rfl) ⟨es75.1, es75.2.1, es75.2.2.1, es75.2.2.2.1, es75.2.2.2.2.1, rfl, es75.2.2.2.2.2.2.1, es75.2.2.2.2.2.2.2.1, es75.2.2.2.2.2.2.2.2⟩ (fun s78 Is78 Fs78 (es78 : s78 98 15 = s63 98 15 ∧ s78 98 16 = s63 98 16 ∧ s78 98 17 = s63 98 17 ∧ s78 98 18 = s63 98 18 ∧ s78 98 13 = s63 98 13 ∧ s78 98 5 = ((σ 98 5) + 1) ∧ s78 98 6 = σ 98 6 ∧ s78 101 18 = σ 101 18 ∧ s78 101 25 = σ 101 25) => ?_))
        clear es75
        refine h_goto (pc' := 178) rfl rfl ?_
        exact h_vret rfl rfl (kk _ Is78 Fs78 (Or.inr (Or.inr ⟨by omega, by omega, by omega⟩)))
def kf_v_readLine : List Nat := [100357, 100358, 100359, 100360, 100361, 100365, 100366, 100367, 100368, 100369, 100370, 104447]
set_option maxHeartbeats 100000000 in
theorem v_readLine_l (ns : Nat) (σ : h_S) (hI : h_I σ) (pr0 : σ 98 13 = 0) {Q : Option Value → h_S → Prop} (kk : ∀ (τ : h_S), h_I τ → h_F (k_in kf_v_readLine) τ σ → (((1 ≤ τ 98 13 ∧ τ 98 13 ≤ 6) ∧ (σ 98 15 ≤ τ 98 15)) ∨ ((τ 98 13 = 0) ∧ (τ 98 17 = 0) ∧ (σ 98 15 ≤ τ 98 15)) ∨ ((τ 98 13 = 0) ∧ (1 ≤ τ 98 17 ∧ τ 98 17 ≤ 3) ∧ (σ 98 15 < τ 98 15))) → Q none τ) : ∀ n : Nat, (∀ (s0 : h_S), h_I s0 → h_F (k_in kf_v_readLine) s0 σ → ∀ (y1 : Int32) (b1 : Int), y1.toInt = b1 → (0 ≤ b1 ∧ b1 ≤ 7) → (σ 98 15 ≤ s0 98 15) → (¬ s0 98 13 = 0 ∨ ¬ b1 ≤ 3 ∨ s0 98 5 ≤ 5) → (¬ s0 98 13 = 0 ∨ ¬ b1 = 4 ∨ s0 101 18 ≤ 2) → (¬ s0 98 13 = 0 ∨ ¬ b1 = 5 ∨ s0 101 25 ≤ 2) → (¬ s0 98 13 = 0 ∨ ¬ b1 = 6 ∨ s0 98 6 ≤ 2) → 3 ≤ (n : Int) → h_T g_P (g_Y ns) 154 88 [(0, .ref 98), (1, .int y1)] [] s0 Q) ∧ (∀ (s0 : h_S), h_I s0 → h_F (k_in kf_v_readLine) s0 σ → ∀ (y1 : Int32) (b1 : Int), y1.toInt = b1 → (0 ≤ b1 ∧ b1 ≤ 7) → (σ 98 15 ≤ s0 98 15) → (¬ s0 98 13 = 0 ∨ ¬ b1 ≤ 3 ∨ s0 98 5 ≤ 5) → (¬ s0 98 13 = 0 ∨ ¬ b1 = 4 ∨ s0 101 18 ≤ 2) → (¬ s0 98 13 = 0 ∨ ¬ b1 = 5 ∨ s0 101 25 ≤ 2) → (¬ s0 98 13 = 0 ∨ ¬ b1 = 6 ∨ s0 98 6 ≤ 2) → 2 ≤ (n : Int) → h_T g_P (g_Y ns) 154 128 [(0, .ref 98), (1, .int y1)] [] s0 Q) ∧ (∀ (s0 : h_S), h_I s0 → h_F (k_in kf_v_readLine) s0 σ → ∀ (y1 : Int32) (b1 : Int), y1.toInt = b1 → (0 ≤ b1 ∧ b1 ≤ 7) → (σ 98 15 ≤ s0 98 15) → 1 ≤ (n : Int) → h_T g_P (g_Y ns) 154 165 [(0, .ref 98), (1, .int y1)] [] s0 Q) := by
  intro n
  induction n with
  | zero => exact ⟨by intro s0 I0 F0_ y1 b1 hy1 ry1 ex0 ex1 ex2 ex3 ex4 hm; have gh0 := tf_98_13 hI; exfalso; omega, by intro s0 I0 F0_ y1 b1 hy1 ry1 ex0 ex1 ex2 ex3 ex4 hm; have gh0 := tf_98_13 hI; exfalso; omega, by intro s0 I0 F0_ y1 b1 hy1 ry1 ex0 hm; have gh0 := tf_98_13 hI; exfalso; omega⟩
  | succ n ih =>
    refine ⟨?_, ?_, ?_⟩
    · intro s0 I0 F0_ y1 b1 hy1 ry1 ex0 ex1 ex2 ex3 ex4 hm; have gh0 := tf_98_13 hI
      refine h_iload_n (pc' := 89) rfl rfl rfl ?_
      refine h_bipush (pc' := 91) (x := (Int32.ofInt 7)) rfl rfl cb_7 ?_
      refine h_cne (tg := 106) (pc' := 94) rfl rfl rfl hy1 ci_7 (fun c1 => ?_) (fun c1 => ?_)
      · refine h_aload_n (pc' := 107) rfl rfl rfl ?_
        refine h_aload_n (pc' := 108) rfl rfl rfl ?_
        refine h_getI (pc' := 111) (v := s0 98 7) rfl rfl rfl rfl rfl rfl (fun z2 hz2 => ?_)
        have tz2 := tf_98_7 I0
        refine h_zne (tg := 120) (pc' := 114) rfl rfl rfl hz2 (fun c3 => ?_) (fun c3 => ?_)
        · refine h_iconst (pc' := 121) (x := (Int32.ofInt 1)) rfl rfl rfl ?_
          refine h_goto (pc' := 125) rfl rfl ?_
          refine h_put (pc' := 128) rfl rfl rfl rfl rfl rfl ci_1 (h_fb ci_1 (by omega)) (h_fgt (E := fun s => s 98 15 = s0 98 15 ∧ s 98 16 = s0 98 16 ∧ s 98 17 = s0 98 17 ∧ s 98 18 = s0 98 18 ∧ s 98 13 = s0 98 13 ∧ s 98 5 = s0 98 5 ∧ s 98 6 = s0 98 6 ∧ s 101 18 = s0 101 18 ∧ s 101 25 = s0 101 25) _ (if_98_7 I0 (by omega)) (F0_.up rfl) ⟨rfl, rfl, rfl, rfl, rfl, rfl, rfl, rfl, rfl⟩ (fun s4 Is4 Fs4 (es4 : s4 98 15 = s0 98 15 ∧ s4 98 16 = s0 98 16 ∧ s4 98 17 = s0 98 17 ∧ s4 98 18 = s0 98 18 ∧ s4 98 13 = s0 98 13 ∧ s4 98 5 = s0 98 5 ∧ s4 98 6 = s0 98 6 ∧ s4 101 18 = s0 101 18 ∧ s4 101 25 = s0 101 25) => ?_))
          exact h_wk [(0, .ref 98), (1, .int y1)] ⟨rfl, rfl, trivial⟩ (ih.2.1 _ Is4 Fs4 y1 _ hy1 (by omega) (by omega) (by omega) (by omega) (by omega) (by omega) (by omega))
        · refine h_iload_n (pc' := 115) rfl rfl rfl ?_
          refine h_bipush (pc' := 117) (x := (Int32.ofInt 7)) rfl rfl cb_7 ?_
          refine h_cne (tg := 124) (pc' := 120) rfl rfl rfl hy1 ci_7 (fun c5 => ?_) (fun c5 => absurd c5 (by omega))
          refine h_iconst (pc' := 125) (x := (Int32.ofInt 0)) rfl rfl rfl ?_
          refine h_put (pc' := 128) rfl rfl rfl rfl rfl rfl ci_0 (h_fb ci_0 (by omega)) (h_fgt (E := fun s => s 98 15 = s0 98 15 ∧ s 98 16 = s0 98 16 ∧ s 98 17 = s0 98 17 ∧ s 98 18 = s0 98 18 ∧ s 98 13 = s0 98 13 ∧ s 98 5 = s0 98 5 ∧ s 98 6 = s0 98 6 ∧ s 101 18 = s0 101 18 ∧ s 101 25 = s0 101 25) _ (if_98_7 I0 (by omega)) (F0_.up rfl) ⟨rfl, rfl, rfl, rfl, rfl, rfl, rfl, rfl, rfl⟩ (fun s6 Is6 Fs6 (es6 : s6 98 15 = s0 98 15 ∧ s6 98 16 = s0 98 16 ∧ s6 98 17 = s0 98 17 ∧ s6 98 18 = s0 98 18 ∧ s6 98 13 = s0 98 13 ∧ s6 98 5 = s0 98 5 ∧ s6 98 6 = s0 98 6 ∧ s6 101 18 = s0 101 18 ∧ s6 101 25 = s0 101 25) => ?_))
          exact h_wk [(0, .ref 98), (1, .int y1)] ⟨rfl, rfl, trivial⟩ (ih.2.1 _ Is6 Fs6 y1 _ hy1 (by omega) (by omega) (by omega) (by omega) (by omega) (by omega) (by omega))
      · refine h_aload_n (pc' := 95) rfl rfl rfl ?_
        refine h_getI (pc' := 98) (v := s0 98 7) rfl rfl rfl rfl rfl rfl (fun z7 hz7 => ?_)
        have tz7 := tf_98_7 I0
        refine h_zeq (tg := 106) (pc' := 101) rfl rfl rfl hz7 (fun c8 => ?_) (fun c8 => ?_)
        · refine h_aload_n (pc' := 107) rfl rfl rfl ?_
          refine h_aload_n (pc' := 108) rfl rfl rfl ?_
          refine h_getI (pc' := 111) (v := s0 98 7) rfl rfl rfl rfl rfl rfl (fun z9 hz9 => ?_)
          have tz9 := tf_98_7 I0
          refine h_zne (tg := 120) (pc' := 114) rfl rfl rfl hz9 (fun c10 => absurd c10 (by omega)) (fun c10 => ?_)
          refine h_iload_n (pc' := 115) rfl rfl rfl ?_
          refine h_bipush (pc' := 117) (x := (Int32.ofInt 7)) rfl rfl cb_7 ?_
          refine h_cne (tg := 124) (pc' := 120) rfl rfl rfl hy1 ci_7 (fun c11 => absurd c11 (by omega)) (fun c11 => ?_)
          refine h_iconst (pc' := 121) (x := (Int32.ofInt 1)) rfl rfl rfl ?_
          refine h_goto (pc' := 125) rfl rfl ?_
          refine h_put (pc' := 128) rfl rfl rfl rfl rfl rfl ci_1 (h_fb ci_1 (by omega)) (h_fgt (E := fun s => s 98 15 = s0 98 15 ∧ s 98 16 = s0 98 16 ∧ s 98 17 = s0 98 17 ∧ s 98 18 = s0 98 18 ∧ s 98 13 = s0 98 13 ∧ s 98 5 = s0 98 5 ∧ s 98 6 = s0 98 6 ∧ s 101 18 = s0 101 18 ∧ s 101 25 = s0 101 25) _ (if_98_7 I0 (by omega)) (F0_.up rfl) ⟨rfl, rfl, rfl, rfl, rfl, rfl, rfl, rfl, rfl⟩ (fun s12 Is12 Fs12 (es12 : s12 98 15 = s0 98 15 ∧ s12 98 16 = s0 98 16 ∧ s12 98 17 = s0 98 17 ∧ s12 98 18 = s0 98 18 ∧ s12 98 13 = s0 98 13 ∧ s12 98 5 = s0 98 5 ∧ s12 98 6 = s0 98 6 ∧ s12 101 18 = s0 101 18 ∧ s12 101 25 = s0 101 25) => ?_))
          exact h_wk [(0, .ref 98), (1, .int y1)] ⟨rfl, rfl, trivial⟩ (ih.2.1 _ Is12 Fs12 y1 _ hy1 (by omega) (by omega) (by omega) (by omega) (by omega) (by omega) (by omega))
        · refine h_aload_n (pc' := 102) rfl rfl rfl ?_
          refine h_iconst (pc' := 103) (x := (Int32.ofInt 4)) rfl rfl rfl ?_
          refine h_call (sp := false) (pc' := 106) (M := [(0, .ref 98), (1, .int (Int32.ofInt 4))]) rfl rfl rfl rfl rfl rfl rfl rfl ?_
          refine h_aload_n (pc' := 1) rfl rfl rfl ?_
          refine h_getI (pc' := 4) (v := s0 98 13) rfl rfl rfl rfl rfl rfl (fun z13 hz13 => ?_)
          have tz13 := tf_98_13 I0
          refine h_zne (tg := 20) (pc' := 7) rfl rfl rfl hz13 (fun c14 => ?_) (fun c14 => ?_)
          · refine h_vret rfl rfl (h_Kn ?_)
            refine h_aload_n (pc' := 107) rfl rfl rfl ?_
            refine h_aload_n (pc' := 108) rfl rfl rfl ?_
            refine h_getI (pc' := 111) (v := s0 98 7) rfl rfl rfl rfl rfl rfl (fun z15 hz15 => ?_)
            have tz15 := tf_98_7 I0
            refine h_zne (tg := 120) (pc' := 114) rfl rfl rfl hz15 (fun c16 => ?_) (fun c16 => absurd c16 (by omega))
            refine h_iconst (pc' := 121) (x := (Int32.ofInt 1)) rfl rfl rfl ?_
            refine h_goto (pc' := 125) rfl rfl ?_
            refine h_put (pc' := 128) rfl rfl rfl rfl rfl rfl ci_1 (h_fb ci_1 (by omega)) (h_fgt (E := fun s => s 98 15 = s0 98 15 ∧ s 98 16 = s0 98 16 ∧ s 98 17 = s0 98 17 ∧ s 98 18 = s0 98 18 ∧ s 98 13 = s0 98 13 ∧ s 98 5 = s0 98 5 ∧ s 98 6 = s0 98 6 ∧ s 101 18 = s0 101 18 ∧ s 101 25 = s0 101 25) _ (if_98_7 I0 (by omega)) (F0_.up rfl) ⟨rfl, rfl, rfl, rfl, rfl, rfl, rfl, rfl, rfl⟩ (fun s17 Is17 Fs17 (es17 : s17 98 15 = s0 98 15 ∧ s17 98 16 = s0 98 16 ∧ s17 98 17 = s0 98 17 ∧ s17 98 18 = s0 98 18 ∧ s17 98 13 = s0 98 13 ∧ s17 98 5 = s0 98 5 ∧ s17 98 6 = s0 98 6 ∧ s17 101 18 = s0 101 18 ∧ s17 101 25 = s0 101 25) => ?_))
            exact h_wk [(0, .ref 98), (1, .int y1)] ⟨rfl, rfl, trivial⟩ (ih.2.1 _ Is17 Fs17 y1 _ hy1 (by omega) (by omega) (by omega) (by omega) (by omega) (by omega) (by omega))
          · refine h_aload_n (pc' := 8) rfl rfl rfl ?_
            refine h_iload_n (pc' := 9) rfl rfl rfl ?_
            refine h_put (pc' := 12) rfl rfl rfl rfl rfl rfl ci_4 rfl (h_fgt (E := fun s => s 98 15 = s0 98 15 ∧ s 98 16 = s0 98 16 ∧ s 98 17 = s0 98 17 ∧ s 98 18 = s0 98 18 ∧ s 98 13 = 4 ∧ s 98 5 = s0 98 5 ∧ s 98 6 = s0 98 6 ∧ s 101 18 = s0 101 18 ∧ s 101 25 = s0 101 25) _ (if_98_13 I0 (by omega)) (F0_.up rfl) ⟨rfl, rfl, rfl, rfl, rfl, rfl, rfl, rfl, rfl⟩ (fun s18 Is18 Fs18 (es18 : s18 98 15 = s0 98 15 ∧ s18 98 16 = s0 98 16 ∧ s18 98 17 = s0 98 17 ∧ s18 98 18 = s0 98 18 ∧ s18 98 13 = 4 ∧ s18 98 5 = s0 98 5 ∧ s18 98 6 = s0 98 6 ∧ s18 101 18 = s0 101 18 ∧ s18 101 25 = s0 101 25) => ?_))
            refine h_aload_n (pc' := 13) rfl rfl rfl ?_
            refine h_aload_n (pc' := 14) rfl rfl rfl ?_
            refine h_getI (pc' := 17) (v := s0 98 16) rfl rfl rfl rfl rfl es18.2.1 (fun z19 hz19 => ?_)
            have tz19 := tf_98_16 I0
            refine h_put (pc' := 20) rfl rfl rfl rfl rfl rfl hz19 rfl (h_fgt (E := fun s => s 98 15 = s0 98 15 ∧ s 98 16 = s0 98 16 ∧ s 98 17 = s0 98 17 ∧ s 98 18 = s0 98 18 ∧ s 98 13 = 4 ∧ s 98 5 = s0 98 5 ∧ s 98 6 = s0 98 6 ∧ s 101 18 = s0 101 18 ∧ s 101 25 = s0 101 25) _ (if_98_14 Is18 (h_rgv hz19)) (Fs18.up rfl) ⟨es18.1, es18.2.1, es18.2.2.1, es18.2.2.2.1, es18.2.2.2.2.1, es18.2.2.2.2.2.1, es18.2.2.2.2.2.2.1, es18.2.2.2.2.2.2.2.1, es18.2.2.2.2.2.2.2.2⟩ (fun s20 Is20 Fs20 (es20 : s20 98 15 = s0 98 15 ∧ s20 98 16 = s0 98 16 ∧ s20 98 17 = s0 98 17 ∧ s20 98 18 = s0 98 18 ∧ s20 98 13 = 4 ∧ s20 98 5 = s0 98 5 ∧ s20 98 6 = s0 98 6 ∧ s20 101 18 = s0 101 18 ∧ s20 101 25 = s0 101 25) => ?_))
            clear es18
            refine h_vret rfl rfl (h_Kn ?_)
            refine h_aload_n (pc' := 107) rfl rfl rfl ?_
            refine h_aload_n (pc' := 108) rfl rfl rfl ?_
            refine h_getI (pc' := 111) (v := s20 98 7) rfl rfl rfl rfl rfl rfl (fun z21 hz21 => ?_)
            have tz21 := tf_98_7 Is20
            refine h_zne (tg := 120) (pc' := 114) rfl rfl rfl hz21 (fun c22 => ?_) (fun c22 => ?_)
            · refine h_iconst (pc' := 121) (x := (Int32.ofInt 1)) rfl rfl rfl ?_
              refine h_goto (pc' := 125) rfl rfl ?_
              refine h_put (pc' := 128) rfl rfl rfl rfl rfl rfl ci_1 (h_fb ci_1 (by omega)) (h_fgt (E := fun s => s 98 15 = s0 98 15 ∧ s 98 16 = s0 98 16 ∧ s 98 17 = s0 98 17 ∧ s 98 18 = s0 98 18 ∧ s 98 13 = 4 ∧ s 98 5 = s0 98 5 ∧ s 98 6 = s0 98 6 ∧ s 101 18 = s0 101 18 ∧ s 101 25 = s0 101 25) _ (if_98_7 Is20 (by omega)) (Fs20.up rfl) ⟨es20.1, es20.2.1, es20.2.2.1, es20.2.2.2.1, es20.2.2.2.2.1, es20.2.2.2.2.2.1, es20.2.2.2.2.2.2.1, es20.2.2.2.2.2.2.2.1, es20.2.2.2.2.2.2.2.2⟩ (fun s23 Is23 Fs23 (es23 : s23 98 15 = s0 98 15 ∧ s23 98 16 = s0 98 16 ∧ s23 98 17 = s0 98 17 ∧ s23 98 18 = s0 98 18 ∧ s23 98 13 = 4 ∧ s23 98 5 = s0 98 5 ∧ s23 98 6 = s0 98 6 ∧ s23 101 18 = s0 101 18 ∧ s23 101 25 = s0 101 25) => ?_))
              clear es20
              exact h_wk [(0, .ref 98), (1, .int y1)] ⟨rfl, rfl, trivial⟩ (ih.2.1 _ Is23 Fs23 y1 _ hy1 (by omega) (by omega) (by omega) (by omega) (by omega) (by omega) (by omega))
            · refine h_iload_n (pc' := 115) rfl rfl rfl ?_
              refine h_bipush (pc' := 117) (x := (Int32.ofInt 7)) rfl rfl cb_7 ?_
              refine h_cne (tg := 124) (pc' := 120) rfl rfl rfl hy1 ci_7 (fun c24 => absurd c24 (by omega)) (fun c24 => ?_)
              refine h_iconst (pc' := 121) (x := (Int32.ofInt 1)) rfl rfl rfl ?_
              refine h_goto (pc' := 125) rfl rfl ?_
              refine h_put (pc' := 128) rfl rfl rfl rfl rfl rfl ci_1 (h_fb ci_1 (by omega)) (h_fgt (E := fun s => s 98 15 = s0 98 15 ∧ s 98 16 = s0 98 16 ∧ s 98 17 = s0 98 17 ∧ s 98 18 = s0 98 18 ∧ s 98 13 = 4 ∧ s 98 5 = s0 98 5 ∧ s 98 6 = s0 98 6 ∧ s 101 18 = s0 101 18 ∧ s 101 25 = s0 101 25) _ (if_98_7 Is20 (by omega)) (Fs20.up rfl) ⟨es20.1, es20.2.1, es20.2.2.1, es20.2.2.2.1, es20.2.2.2.2.1, es20.2.2.2.2.2.1, es20.2.2.2.2.2.2.1, es20.2.2.2.2.2.2.2.1, es20.2.2.2.2.2.2.2.2⟩ (fun s25 Is25 Fs25 (es25 : s25 98 15 = s0 98 15 ∧ s25 98 16 = s0 98 16 ∧ s25 98 17 = s0 98 17 ∧ s25 98 18 = s0 98 18 ∧ s25 98 13 = 4 ∧ s25 98 5 = s0 98 5 ∧ s25 98 6 = s0 98 6 ∧ s25 101 18 = s0 101 18 ∧ s25 101 25 = s0 101 25) => ?_))
              clear es20
              exact h_wk [(0, .ref 98), (1, .int y1)] ⟨rfl, rfl, trivial⟩ (ih.2.1 _ Is25 Fs25 y1 _ hy1 (by omega) (by omega) (by omega) (by omega) (by omega) (by omega) (by omega))
    · intro s0 I0 F0_ y1 b1 hy1 ry1 ex0 ex1 ex2 ex3 ex4 hm; have gh0 := tf_98_13 hI
      refine h_aload_n (pc' := 129) rfl rfl rfl ?_
      refine h_call (sp := false) (pc' := 132) (M := [(0, .ref 98)]) rfl rfl rfl rfl rfl rfl rfl rfl ?_
      refine v_step _ I0  (fun s2 Is2 Gs2 pcs2 => h_Kn ?_)
      have Fs2 := (Gs2.mono (B := kf_v_readLine) rfl).tr F0_
      have es2_5 : s2 98 5 = s0 98 5 := (Gs2 98 5 rfl).trans rfl
      have es2_6 : s2 98 6 = s0 98 6 := (Gs2 98 6 rfl).trans rfl
      have es2_7 : s2 101 18 = s0 101 18 := (Gs2 101 18 rfl).trans rfl
      have es2_8 : s2 101 25 = s0 101 25 := (Gs2 101 25 rfl).trans rfl
      rcases pcs2 with pcs2 | pcs2 | pcs2 | pcs2
      · refine h_aload_n (pc' := 133) rfl rfl rfl ?_
        refine h_getI (pc' := 136) (v := s2 98 13) rfl rfl rfl rfl rfl rfl (fun z3 hz3 => ?_)
        have tz3 := tf_98_13 Is2
        refine h_zle (tg := 140) (pc' := 139) rfl rfl rfl hz3 (fun c4 => absurd c4 (by omega)) (fun c4 => ?_)
        exact h_vret rfl rfl (kk _ Is2 Fs2 (Or.inl ⟨by omega, by omega⟩))
      · refine h_aload_n (pc' := 133) rfl rfl rfl ?_
        refine h_getI (pc' := 136) (v := s2 98 13) rfl rfl rfl rfl rfl rfl (fun z5 hz5 => ?_)
        have tz5 := tf_98_13 Is2
        refine h_zle (tg := 140) (pc' := 139) rfl rfl rfl hz5 (fun c6 => absurd c6 (by omega)) (fun c6 => ?_)
        exact h_vret rfl rfl (kk _ Is2 Fs2 (Or.inl ⟨by omega, by omega⟩))
      · refine h_aload_n (pc' := 133) rfl rfl rfl ?_
        refine h_getI (pc' := 136) (v := s2 98 13) rfl rfl rfl rfl rfl rfl (fun z7 hz7 => ?_)
        have tz7 := tf_98_13 Is2
        refine h_zle (tg := 140) (pc' := 139) rfl rfl rfl hz7 (fun c8 => ?_) (fun c8 => absurd c8 (by omega))
        refine h_aload_n (pc' := 141) rfl rfl rfl ?_
        refine h_iload_n (pc' := 142) rfl rfl rfl ?_
        refine h_call (sp := false) (pc' := 145) (M := [(0, .ref 98), (1, .int y1)]) rfl rfl rfl rfl rfl rfl rfl rfl ?_
        refine v_readMore _ Is2 y1 _ hy1 (by omega) (by omega) (by omega) (by omega) (by omega) (fun s10 Is10 Gs10 pcs10 => h_Kn ?_)
        have Fs10 := (Gs10.mono (B := kf_v_readLine) rfl).tr Fs2
        rcases pcs10 with pcs10 | pcs10 | pcs10
        · exfalso; omega
        · refine h_aload_n (pc' := 146) rfl rfl rfl ?_
          refine h_getI (pc' := 149) (v := s10 98 13) rfl rfl rfl rfl rfl rfl (fun z11 hz11 => ?_)
          have tz11 := tf_98_13 Is10
          refine h_zne (tg := 165) (pc' := 152) rfl rfl rfl hz11 (fun c12 => ?_) (fun c12 => absurd c12 (by omega))
          exact h_wk [(0, .ref 98), (1, .int y1)] ⟨rfl, rfl, trivial⟩ (ih.2.2 _ Is10 Fs10 y1 _ hy1 (by omega) (by omega) (by omega))
        · refine h_aload_n (pc' := 146) rfl rfl rfl ?_
          refine h_getI (pc' := 149) (v := s10 98 13) rfl rfl rfl rfl rfl rfl (fun z13 hz13 => ?_)
          have tz13 := tf_98_13 Is10
          refine h_zne (tg := 165) (pc' := 152) rfl rfl rfl hz13 (fun c14 => absurd c14 (by omega)) (fun c14 => ?_)
          refine h_aload_n (pc' := 153) rfl rfl rfl ?_
          refine h_getI (pc' := 156) (v := s10 98 17) rfl rfl rfl rfl rfl rfl (fun z15 hz15 => ?_)
          have tz15 := tf_98_17 Is10
          refine h_iconst (pc' := 157) (x := (Int32.ofInt 3)) rfl rfl rfl ?_
          refine h_ceq (tg := 165) (pc' := 160) rfl rfl rfl hz15 ci_3 (fun c16 => ?_) (fun c16 => ?_)
          · exact h_wk [(0, .ref 98), (1, .int y1)] ⟨rfl, rfl, trivial⟩ (ih.2.2 _ Is10 Fs10 y1 _ hy1 (by omega) (by omega) (by omega))
          · refine h_aload_n (pc' := 161) rfl rfl rfl ?_
            refine h_iconst (pc' := 162) (x := (Int32.ofInt 2)) rfl rfl rfl ?_
            refine h_call (sp := false) (pc' := 165) (M := [(0, .ref 98), (1, .int (Int32.ofInt 2))]) rfl rfl rfl rfl rfl rfl rfl rfl ?_
            refine h_aload_n (pc' := 1) rfl rfl rfl ?_
            refine h_getI (pc' := 4) (v := s10 98 13) rfl rfl rfl rfl rfl rfl (fun z17 hz17 => ?_)
            have tz17 := tf_98_13 Is10
            refine h_zne (tg := 20) (pc' := 7) rfl rfl rfl hz17 (fun c18 => absurd c18 (by omega)) (fun c18 => ?_)
            refine h_aload_n (pc' := 8) rfl rfl rfl ?_
            refine h_iload_n (pc' := 9) rfl rfl rfl ?_
            refine h_put (pc' := 12) rfl rfl rfl rfl rfl rfl ci_2 rfl (h_fgt (E := fun s => s 98 15 = s10 98 15 ∧ s 98 16 = s10 98 16 ∧ s 98 17 = s10 98 17 ∧ s 98 18 = s10 98 18 ∧ s 98 13 = 2 ∧ s 98 5 = s10 98 5 ∧ s 98 6 = s10 98 6 ∧ s 101 18 = s10 101 18 ∧ s 101 25 = s10 101 25) _ (if_98_13 Is10 (by omega)) (Fs10.up rfl) ⟨rfl, rfl, rfl, rfl, rfl, rfl, rfl, rfl, rfl⟩ (fun s19 Is19 Fs19 (es19 : s19 98 15 = s10 98 15 ∧ s19 98 16 = s10 98 16 ∧ s19 98 17 = s10 98 17 ∧ s19 98 18 = s10 98 18 ∧ s19 98 13 = 2 ∧ s19 98 5 = s10 98 5 ∧ s19 98 6 = s10 98 6 ∧ s19 101 18 = s10 101 18 ∧ s19 101 25 = s10 101 25) => ?_))
            refine h_aload_n (pc' := 13) rfl rfl rfl ?_
            refine h_aload_n (pc' := 14) rfl rfl rfl ?_
            refine h_getI (pc' := 17) (v := s10 98 16) rfl rfl rfl rfl rfl es19.2.1 (fun z20 hz20 => ?_)
            have tz20 := tf_98_16 Is10
            refine h_put (pc' := 20) rfl rfl rfl rfl rfl rfl hz20 rfl (h_fgt (E := fun s => s 98 15 = s10 98 15 ∧ s 98 16 = s10 98 16 ∧ s 98 17 = s10 98 17 ∧ s 98 18 = s10 98 18 ∧ s 98 13 = 2 ∧ s 98 5 = s10 98 5 ∧ s 98 6 = s10 98 6 ∧ s 101 18 = s10 101 18 ∧ s 101 25 = s10 101 25) _ (if_98_14 Is19 (h_rgv hz20)) (Fs19.up rfl) ⟨es19.1, es19.2.1, es19.2.2.1, es19.2.2.2.1, es19.2.2.2.2.1, es19.2.2.2.2.2.1, es19.2.2.2.2.2.2.1, es19.2.2.2.2.2.2.2.1, es19.2.2.2.2.2.2.2.2⟩ (fun s21 Is21 Fs21 (es21 : s21 98 15 = s10 98 15 ∧ s21 98 16 = s10 98 16 ∧ s21 98 17 = s10 98 17 ∧ s21 98 18 = s10 98 18 ∧ s21 98 13 = 2 ∧ s21 98 5 = s10 98 5 ∧ s21 98 6 = s10 98 6 ∧ s21 101 18 = s10 101 18 ∧ s21 101 25 = s10 101 25) => ?_))
            clear es19
            refine h_vret rfl rfl (h_Kn ?_)
            exact h_wk [(0, .ref 98), (1, .int y1)] ⟨rfl, rfl, trivial⟩ (ih.2.2 _ Is21 Fs21 y1 _ hy1 (by omega) (by omega) (by omega))
      · refine h_aload_n (pc' := 133) rfl rfl rfl ?_
        refine h_getI (pc' := 136) (v := s2 98 13) rfl rfl rfl rfl rfl rfl (fun z22 hz22 => ?_)
        have tz22 := tf_98_13 Is2
        refine h_zle (tg := 140) (pc' := 139) rfl rfl rfl hz22 (fun c23 => ?_) (fun c23 => absurd c23 (by omega))
        refine h_aload_n (pc' := 141) rfl rfl rfl ?_
        refine h_iload_n (pc' := 142) rfl rfl rfl ?_
        refine h_call (sp := false) (pc' := 145) (M := [(0, .ref 98), (1, .int y1)]) rfl rfl rfl rfl rfl rfl rfl rfl ?_
        refine v_readMore _ Is2 y1 _ hy1 (by omega) (by omega) (by omega) (by omega) (by omega) (fun s25 Is25 Gs25 pcs25 => h_Kn ?_)
        have Fs25 := (Gs25.mono (B := kf_v_readLine) rfl).tr Fs2
        rcases pcs25 with pcs25 | pcs25 | pcs25
        · exfalso; omega
        · refine h_aload_n (pc' := 146) rfl rfl rfl ?_
          refine h_getI (pc' := 149) (v := s25 98 13) rfl rfl rfl rfl rfl rfl (fun z26 hz26 => ?_)
          have tz26 := tf_98_13 Is25
          refine h_zne (tg := 165) (pc' := 152) rfl rfl rfl hz26 (fun c27 => ?_) (fun c27 => absurd c27 (by omega))
          exact h_wk [(0, .ref 98), (1, .int y1)] ⟨rfl, rfl, trivial⟩ (ih.2.2 _ Is25 Fs25 y1 _ hy1 (by omega) (by omega) (by omega))
        · refine h_aload_n (pc' := 146) rfl rfl rfl ?_
          refine h_getI (pc' := 149) (v := s25 98 13) rfl rfl rfl rfl rfl rfl (fun z28 hz28 => ?_)
          have tz28 := tf_98_13 Is25
          refine h_zne (tg := 165) (pc' := 152) rfl rfl rfl hz28 (fun c29 => absurd c29 (by omega)) (fun c29 => ?_)
          refine h_aload_n (pc' := 153) rfl rfl rfl ?_
          refine h_getI (pc' := 156) (v := s25 98 17) rfl rfl rfl rfl rfl rfl (fun z30 hz30 => ?_)
          have tz30 := tf_98_17 Is25
          refine h_iconst (pc' := 157) (x := (Int32.ofInt 3)) rfl rfl rfl ?_
          refine h_ceq (tg := 165) (pc' := 160) rfl rfl rfl hz30 ci_3 (fun c31 => ?_) (fun c31 => ?_)
          · exact h_wk [(0, .ref 98), (1, .int y1)] ⟨rfl, rfl, trivial⟩ (ih.2.2 _ Is25 Fs25 y1 _ hy1 (by omega) (by omega) (by omega))
          · refine h_aload_n (pc' := 161) rfl rfl rfl ?_
            refine h_iconst (pc' := 162) (x := (Int32.ofInt 2)) rfl rfl rfl ?_
            refine h_call (sp := false) (pc' := 165) (M := [(0, .ref 98), (1, .int (Int32.ofInt 2))]) rfl rfl rfl rfl rfl rfl rfl rfl ?_
            refine h_aload_n (pc' := 1) rfl rfl rfl ?_
            refine h_getI (pc' := 4) (v := s25 98 13) rfl rfl rfl rfl rfl rfl (fun z32 hz32 => ?_)
            have tz32 := tf_98_13 Is25
            refine h_zne (tg := 20) (pc' := 7) rfl rfl rfl hz32 (fun c33 => absurd c33 (by omega)) (fun c33 => ?_)
            refine h_aload_n (pc' := 8) rfl rfl rfl ?_
            refine h_iload_n (pc' := 9) rfl rfl rfl ?_
            refine h_put (pc' := 12) rfl rfl rfl rfl rfl rfl ci_2 rfl (h_fgt (E := fun s => s 98 15 = s25 98 15 ∧ s 98 16 = s25 98 16 ∧ s 98 17 = s25 98 17 ∧ s 98 18 = s25 98 18 ∧ s 98 13 = 2 ∧ s 98 5 = s25 98 5 ∧ s 98 6 = s25 98 6 ∧ s 101 18 = s25 101 18 ∧ s 101 25 = s25 101 25) _ (if_98_13 Is25 (by omega)) (Fs25.up rfl) ⟨rfl, rfl, rfl, rfl, rfl, rfl, rfl, rfl, rfl⟩ (fun s34 Is34 Fs34 (es34 : s34 98 15 = s25 98 15 ∧ s34 98 16 = s25 98 16 ∧ s34 98 17 = s25 98 17 ∧ s34 98 18 = s25 98 18 ∧ s34 98 13 = 2 ∧ s34 98 5 = s25 98 5 ∧ s34 98 6 = s25 98 6 ∧ s34 101 18 = s25 101 18 ∧ s34 101 25 = s25 101 25) => ?_))
            refine h_aload_n (pc' := 13) rfl rfl rfl ?_
            refine h_aload_n (pc' := 14) rfl rfl rfl ?_
            refine h_getI (pc' := 17) (v := s25 98 16) rfl rfl rfl rfl rfl es34.2.1 (fun z35 hz35 => ?_)
            have tz35 := tf_98_16 Is25
            refine h_put (pc' := 20) rfl rfl rfl rfl rfl rfl hz35 rfl (h_fgt (E := fun s => s 98 15 = s25 98 15 ∧ s 98 16 = s25 98 16 ∧ s 98 17 = s25 98 17 ∧ s 98 18 = s25 98 18 ∧ s 98 13 = 2 ∧ s 98 5 = s25 98 5 ∧ s 98 6 = s25 98 6 ∧ s 101 18 = s25 101 18 ∧ s 101 25 = s25 101 25) _ (if_98_14 Is34 (h_rgv hz35)) (Fs34.up rfl) ⟨es34.1, es34.2.1, es34.2.2.1, es34.2.2.2.1, es34.2.2.2.2.1, es34.2.2.2.2.2.1, es34.2.2.2.2.2.2.1, es34.2.2.2.2.2.2.2.1, es34.2.2.2.2.2.2.2.2⟩ (fun s36 Is36 Fs36 (es36 : s36 98 15 = s25 98 15 ∧ s36 98 16 = s25 98 16 ∧ s36 98 17 = s25 98 17 ∧ s36 98 18 = s25 98 18 ∧ s36 98 13 = 2 ∧ s36 98 5 = s25 98 5 ∧ s36 98 6 = s25 98 6 ∧ s36 101 18 = s25 101 18 ∧ s36 101 25 = s25 101 25) => ?_))
            clear es34
            refine h_vret rfl rfl (h_Kn ?_)
            exact h_wk [(0, .ref 98), (1, .int y1)] ⟨rfl, rfl, trivial⟩ (ih.2.2 _ Is36 Fs36 y1 _ hy1 (by omega) (by omega) (by omega))
    · intro s0 I0 F0_ y1 b1 hy1 ry1 ex0 hm; have gh0 := tf_98_13 hI
      refine h_aload_n (pc' := 166) rfl rfl rfl ?_
      refine h_call (sp := false) (pc' := 169) (M := [(0, .ref 98)]) rfl rfl rfl rfl rfl rfl rfl rfl ?_
      refine v_step _ I0  (fun s2 Is2 Gs2 pcs2 => h_Kn ?_)
      have Fs2 := (Gs2.mono (B := kf_v_readLine) rfl).tr F0_
      have es2_5 : s2 98 5 = s0 98 5 := (Gs2 98 5 rfl).trans rfl
      have es2_6 : s2 98 6 = s0 98 6 := (Gs2 98 6 rfl).trans rfl
      have es2_7 : s2 101 18 = s0 101 18 := (Gs2 101 18 rfl).trans rfl
      have es2_8 : s2 101 25 = s0 101 25 := (Gs2 101 25 rfl).trans rfl
      rcases pcs2 with pcs2 | pcs2 | pcs2 | pcs2
      · exact h_vret rfl rfl (kk _ Is2 Fs2 (Or.inl ⟨by omega, by omega⟩))
      · exact h_vret rfl rfl (kk _ Is2 Fs2 (Or.inl ⟨by omega, by omega⟩))
      · exact h_vret rfl rfl (kk _ Is2 Fs2 (Or.inr (Or.inl ⟨by omega, by omega, by omega⟩)))
      · exact h_vret rfl rfl (kk _ Is2 Fs2 (Or.inr (Or.inr ⟨by omega, by omega, by omega⟩)))
set_option maxHeartbeats 100000000 in
theorem v_readLine {ns : Nat} (σ : h_S) (hI : h_I σ) (pr0 : σ 98 13 = 0) {Q : Option Value → h_S → Prop} (kk : ∀ (τ : h_S), h_I τ → h_F (k_in kf_v_readLine) τ σ → (((1 ≤ τ 98 13 ∧ τ 98 13 ≤ 6) ∧ (σ 98 15 ≤ τ 98 15)) ∨ ((τ 98 13 = 0) ∧ (τ 98 17 = 0) ∧ (σ 98 15 ≤ τ 98 15)) ∨ ((τ 98 13 = 0) ∧ (1 ≤ τ 98 17 ∧ τ 98 17 ≤ 3) ∧ (σ 98 15 < τ 98 15))) → Q none τ) : h_T g_P (g_Y ns) 154 0 [(0, .ref 98)] [] σ Q := by
  have F00 : h_F (k_in kf_v_readLine) σ σ := h_F.rf
  have ge0 := tf_98_13 hI
  refine h_aload_n (pc' := 1) rfl rfl rfl ?_
  refine h_call (sp := false) (pc' := 4) (M := [(0, .ref 98)]) rfl rfl rfl rfl rfl rfl rfl rfl ?_
  refine v_nameHere _ hI  (fun r1 br1 hr1 tr1 ps2_0 => h_Kv ?_)
  refine h_istore_n (pc' := 5) (M := [(1, .int r1), (0, .ref 98)]) rfl rfl rfl rfl ?_
  refine h_iload_n (pc' := 6) rfl rfl rfl ?_
  refine h_i2l (pc' := 7) rfl rfl hr1 (fun z3 hz3 => ?_)
  refine h_lconst (pc' := 8) (x := (Int64.ofInt 0)) rfl rfl rfl ?_
  refine h_ldc2 (pc' := 11) (x := (Int64.ofInt 7)) rfl rfl rfl ?_
  refine h_calls (pc' := 14) (M := [(0, .long z3), (2, .long (Int64.ofInt 0)), (4, .long (Int64.ofInt 7))]) rfl rfl rfl rfl rfl rfl ?_
  refine h_lload_n (pc' := 1) rfl rfl rfl ?_
  refine h_lload_n (pc' := 2) rfl rfl rfl ?_
  refine h_lcmp (pc' := 3) rfl rfl hz3 cl_0 (fun z4 hz4 => ?_)
  refine h_zlt (tg := 17) (pc' := 6) rfl rfl rfl rfl (fun c5 => ?_) (fun c5 => ?_)
  · replace c5 := (h_lcr hz4).1 c5
    clear hz4
    refine h_iconst (pc' := 18) (x := (Int32.ofInt 0)) rfl rfl rfl ?_
    refine h_zret rfl rfl ci_0 (by omega) (h_Kv ?_)
    refine h_zne (tg := 23) (pc' := 17) rfl rfl rfl ci_0 (fun c6 => absurd c6 (by omega)) (fun c6 => ?_)
    refine h_aload_n (pc' := 18) rfl rfl rfl ?_
    refine h_iconst (pc' := 19) (x := (Int32.ofInt 2)) rfl rfl rfl ?_
    refine h_call (sp := false) (pc' := 22) (M := [(0, .ref 98), (1, .int (Int32.ofInt 2))]) rfl rfl rfl rfl rfl rfl rfl rfl ?_
    refine h_aload_n (pc' := 1) rfl rfl rfl ?_
    refine h_getI (pc' := 4) (v := σ 98 13) rfl rfl rfl rfl rfl rfl (fun z7 hz7 => ?_)
    have tz7 := tf_98_13 hI
    refine h_zne (tg := 20) (pc' := 7) rfl rfl rfl hz7 (fun c8 => absurd c8 (by omega)) (fun c8 => ?_)
    refine h_aload_n (pc' := 8) rfl rfl rfl ?_
    refine h_iload_n (pc' := 9) rfl rfl rfl ?_
    refine h_put (pc' := 12) rfl rfl rfl rfl rfl rfl ci_2 rfl (h_fgt (E := fun s => s 98 15 = σ 98 15 ∧ s 98 16 = σ 98 16 ∧ s 98 17 = σ 98 17 ∧ s 98 18 = σ 98 18 ∧ s 98 13 = 2 ∧ s 98 5 = σ 98 5 ∧ s 98 6 = σ 98 6 ∧ s 101 18 = σ 101 18 ∧ s 101 25 = σ 101 25) _ (if_98_13 hI (by omega)) (F00.up rfl) ⟨rfl, rfl, rfl, rfl, rfl, rfl, rfl, rfl, rfl⟩ (fun s9 Is9 Fs9 (es9 : s9 98 15 = σ 98 15 ∧ s9 98 16 = σ 98 16 ∧ s9 98 17 = σ 98 17 ∧ s9 98 18 = σ 98 18 ∧ s9 98 13 = 2 ∧ s9 98 5 = σ 98 5 ∧ s9 98 6 = σ 98 6 ∧ s9 101 18 = σ 101 18 ∧ s9 101 25 = σ 101 25) => ?_))
    refine h_aload_n (pc' := 13) rfl rfl rfl ?_
    refine h_aload_n (pc' := 14) rfl rfl rfl ?_
    refine h_getI (pc' := 17) (v := σ 98 16) rfl rfl rfl rfl rfl es9.2.1 (fun z10 hz10 => ?_)
    have tz10 := tf_98_16 hI
    refine h_put (pc' := 20) rfl rfl rfl rfl rfl rfl hz10 rfl (h_fgt (E := fun s => s 98 15 = σ 98 15 ∧ s 98 16 = σ 98 16 ∧ s 98 17 = σ 98 17 ∧ s 98 18 = σ 98 18 ∧ s 98 13 = 2 ∧ s 98 5 = σ 98 5 ∧ s 98 6 = σ 98 6 ∧ s 101 18 = σ 101 18 ∧ s 101 25 = σ 101 25) _ (if_98_14 Is9 (h_rgv hz10)) (Fs9.up rfl) ⟨es9.1, es9.2.1, es9.2.2.1, es9.2.2.2.1, es9.2.2.2.2.1, es9.2.2.2.2.2.1, es9.2.2.2.2.2.2.1, es9.2.2.2.2.2.2.2.1, es9.2.2.2.2.2.2.2.2⟩ (fun s11 Is11 Fs11 (es11 : s11 98 15 = σ 98 15 ∧ s11 98 16 = σ 98 16 ∧ s11 98 17 = σ 98 17 ∧ s11 98 18 = σ 98 18 ∧ s11 98 13 = 2 ∧ s11 98 5 = σ 98 5 ∧ s11 98 6 = σ 98 6 ∧ s11 101 18 = σ 101 18 ∧ s11 101 25 = σ 101 25) => ?_))
    clear es9
    refine h_vret rfl rfl (h_Kn ?_)
    exact h_vret rfl rfl (kk _ Is11 Fs11 (Or.inl ⟨by omega, by omega⟩))
  · replace c5 := (h_lcr hz4).2.1 c5
    clear hz4
    refine h_lload_n (pc' := 7) rfl rfl rfl ?_
    refine h_lload (pc' := 9) rfl rfl rfl ?_
    refine h_lcmp (pc' := 10) rfl rfl hz3 cl_7 (fun z12 hz12 => ?_)
    refine h_zgt (tg := 17) (pc' := 13) rfl rfl rfl rfl (fun c13 => absurd c13 (by omega)) (fun c13 => ?_)
    replace c13 := (h_lcr hz12).2.2.1 c13
    clear hz12
    refine h_iconst (pc' := 14) (x := (Int32.ofInt 1)) rfl rfl rfl ?_
    refine h_goto (pc' := 18) rfl rfl ?_
    refine h_zret rfl rfl ci_1 (by omega) (h_Kv ?_)
    refine h_zne (tg := 23) (pc' := 17) rfl rfl rfl ci_1 (fun c14 => ?_) (fun c14 => absurd c14 (by omega))
    refine h_iload_n (pc' := 24) rfl rfl rfl ?_
    refine h_iconst (pc' := 25) (x := (Int32.ofInt 3)) rfl rfl rfl ?_
    refine h_cgt (tg := 37) (pc' := 28) rfl rfl rfl hr1 ci_3 (fun c15 => ?_) (fun c15 => ?_)
    · refine h_iload_n (pc' := 38) rfl rfl rfl ?_
      refine h_iconst (pc' := 39) (x := (Int32.ofInt 4)) rfl rfl rfl ?_
      refine h_cne (tg := 53) (pc' := 42) rfl rfl rfl hr1 ci_4 (fun c16 => ?_) (fun c16 => ?_)
      · refine h_iload_n (pc' := 54) rfl rfl rfl ?_
        refine h_iconst (pc' := 55) (x := (Int32.ofInt 5)) rfl rfl rfl ?_
        refine h_cne (tg := 69) (pc' := 58) rfl rfl rfl hr1 ci_5 (fun c17 => ?_) (fun c17 => ?_)
        · refine h_iload_n (pc' := 70) rfl rfl rfl ?_
          refine h_bipush (pc' := 72) (x := (Int32.ofInt 6)) rfl rfl cb_6 ?_
          refine h_cne (tg := 88) (pc' := 75) rfl rfl rfl hr1 ci_6 (fun c18 => ?_) (fun c18 => ?_)
          · exact h_wk [(0, .ref 98), (1, .int r1)] ⟨rfl, rfl, trivial⟩ ((v_readLine_l ns σ hI pr0 kk 1000000000000).1 _ hI F00 r1 _ hr1 (by omega) (by omega) (by omega) (by omega) (by omega) (by omega) (by omega))
          · refine h_aload_n (pc' := 76) rfl rfl rfl ?_
            refine h_getI (pc' := 79) (v := σ 98 6) rfl rfl rfl rfl rfl rfl (fun z19 hz19 => ?_)
            have tz19 := tf_98_6 hI
            refine h_iconst (pc' := 80) (x := (Int32.ofInt 3)) rfl rfl rfl ?_
            refine h_cne (tg := 88) (pc' := 83) rfl rfl rfl hz19 ci_3 (fun c20 => ?_) (fun c20 => ?_)
            · exact h_wk [(0, .ref 98), (1, .int r1)] ⟨rfl, rfl, trivial⟩ ((v_readLine_l ns σ hI pr0 kk 1000000000000).1 _ hI F00 r1 _ hr1 (by omega) (by omega) (by omega) (by omega) (by omega) (by omega) (by omega))
            · refine h_aload_n (pc' := 84) rfl rfl rfl ?_
              refine h_iconst (pc' := 85) (x := (Int32.ofInt 5)) rfl rfl rfl ?_
              refine h_call (sp := false) (pc' := 88) (M := [(0, .ref 98), (1, .int (Int32.ofInt 5))]) rfl rfl rfl rfl rfl rfl rfl rfl ?_
              refine h_aload_n (pc' := 1) rfl rfl rfl ?_
              refine h_getI (pc' := 4) (v := σ 98 13) rfl rfl rfl rfl rfl rfl (fun z21 hz21 => ?_)
              have tz21 := tf_98_13 hI
              refine h_zne (tg := 20) (pc' := 7) rfl rfl rfl hz21 (fun c22 => absurd c22 (by omega)) (fun c22 => ?_)
              refine h_aload_n (pc' := 8) rfl rfl rfl ?_
              refine h_iload_n (pc' := 9) rfl rfl rfl ?_
              refine h_put (pc' := 12) rfl rfl rfl rfl rfl rfl ci_5 rfl (h_fgt (E := fun s => s 98 15 = σ 98 15 ∧ s 98 16 = σ 98 16 ∧ s 98 17 = σ 98 17 ∧ s 98 18 = σ 98 18 ∧ s 98 13 = 5 ∧ s 98 5 = σ 98 5 ∧ s 98 6 = σ 98 6 ∧ s 101 18 = σ 101 18 ∧ s 101 25 = σ 101 25) _ (if_98_13 hI (by omega)) (F00.up rfl) ⟨rfl, rfl, rfl, rfl, rfl, rfl, rfl, rfl, rfl⟩ (fun s23 Is23 Fs23 (es23 : s23 98 15 = σ 98 15 ∧ s23 98 16 = σ 98 16 ∧ s23 98 17 = σ 98 17 ∧ s23 98 18 = σ 98 18 ∧ s23 98 13 = 5 ∧ s23 98 5 = σ 98 5 ∧ s23 98 6 = σ 98 6 ∧ s23 101 18 = σ 101 18 ∧ s23 101 25 = σ 101 25) => ?_))
              refine h_aload_n (pc' := 13) rfl rfl rfl ?_
              refine h_aload_n (pc' := 14) rfl rfl rfl ?_
              refine h_getI (pc' := 17) (v := σ 98 16) rfl rfl rfl rfl rfl es23.2.1 (fun z24 hz24 => ?_)
              have tz24 := tf_98_16 hI
              refine h_put (pc' := 20) rfl rfl rfl rfl rfl rfl hz24 rfl (h_fgt (E := fun s => s 98 15 = σ 98 15 ∧ s 98 16 = σ 98 16 ∧ s 98 17 = σ 98 17 ∧ s 98 18 = σ 98 18 ∧ s 98 13 = 5 ∧ s 98 5 = σ 98 5 ∧ s 98 6 = σ 98 6 ∧ s 101 18 = σ 101 18 ∧ s 101 25 = σ 101 25) _ (if_98_14 Is23 (h_rgv hz24)) (Fs23.up rfl) ⟨es23.1, es23.2.1, es23.2.2.1, es23.2.2.2.1, es23.2.2.2.2.1, es23.2.2.2.2.2.1, es23.2.2.2.2.2.2.1, es23.2.2.2.2.2.2.2.1, es23.2.2.2.2.2.2.2.2⟩ (fun s25 Is25 Fs25 (es25 : s25 98 15 = σ 98 15 ∧ s25 98 16 = σ 98 16 ∧ s25 98 17 = σ 98 17 ∧ s25 98 18 = σ 98 18 ∧ s25 98 13 = 5 ∧ s25 98 5 = σ 98 5 ∧ s25 98 6 = σ 98 6 ∧ s25 101 18 = σ 101 18 ∧ s25 101 25 = σ 101 25) => ?_))
              clear es23
              refine h_vret rfl rfl (h_Kn ?_)
              exact h_wk [(0, .ref 98), (1, .int r1)] ⟨rfl, rfl, trivial⟩ ((v_readLine_l ns σ hI pr0 kk 1000000000000).1 _ Is25 Fs25 r1 _ hr1 (by omega) (by omega) (by omega) (by omega) (by omega) (by omega) (by omega))
        · refine h_aload_n (pc' := 59) rfl rfl rfl ?_
          refine h_getR (pc' := 62) rfl rfl rfl rfl rfl ?_
          refine h_bipush (pc' := 64) (x := (Int32.ofInt 25)) rfl rfl cb_25 ?_
          refine h_iald (pc' := 65) (v := σ 101 25) rfl rfl rfl ci_25 (by omega) (by omega) rfl (fun z26 hz26 => ?_)
          have tz26 := ty_101_5 hI 25 (by omega)
          refine h_iconst (pc' := 66) (x := (Int32.ofInt 3)) rfl rfl rfl ?_
          refine h_ceq (tg := 83) (pc' := 69) rfl rfl rfl hz26 ci_3 (fun c27 => ?_) (fun c27 => ?_)
          · refine h_aload_n (pc' := 84) rfl rfl rfl ?_
            refine h_iconst (pc' := 85) (x := (Int32.ofInt 5)) rfl rfl rfl ?_
            refine h_call (sp := false) (pc' := 88) (M := [(0, .ref 98), (1, .int (Int32.ofInt 5))]) rfl rfl rfl rfl rfl rfl rfl rfl ?_
            refine h_aload_n (pc' := 1) rfl rfl rfl ?_
            refine h_getI (pc' := 4) (v := σ 98 13) rfl rfl rfl rfl rfl rfl (fun z28 hz28 => ?_)
            have tz28 := tf_98_13 hI
            refine h_zne (tg := 20) (pc' := 7) rfl rfl rfl hz28 (fun c29 => absurd c29 (by omega)) (fun c29 => ?_)
            refine h_aload_n (pc' := 8) rfl rfl rfl ?_
            refine h_iload_n (pc' := 9) rfl rfl rfl ?_
            refine h_put (pc' := 12) rfl rfl rfl rfl rfl rfl ci_5 rfl (h_fgt (E := fun s => s 98 15 = σ 98 15 ∧ s 98 16 = σ 98 16 ∧ s 98 17 = σ 98 17 ∧ s 98 18 = σ 98 18 ∧ s 98 13 = 5 ∧ s 98 5 = σ 98 5 ∧ s 98 6 = σ 98 6 ∧ s 101 18 = σ 101 18 ∧ s 101 25 = σ 101 25) _ (if_98_13 hI (by omega)) (F00.up rfl) ⟨rfl, rfl, rfl, rfl, rfl, rfl, rfl, rfl, rfl⟩ (fun s30 Is30 Fs30 (es30 : s30 98 15 = σ 98 15 ∧ s30 98 16 = σ 98 16 ∧ s30 98 17 = σ 98 17 ∧ s30 98 18 = σ 98 18 ∧ s30 98 13 = 5 ∧ s30 98 5 = σ 98 5 ∧ s30 98 6 = σ 98 6 ∧ s30 101 18 = σ 101 18 ∧ s30 101 25 = σ 101 25) => ?_))
            refine h_aload_n (pc' := 13) rfl rfl rfl ?_
            refine h_aload_n (pc' := 14) rfl rfl rfl ?_
            refine h_getI (pc' := 17) (v := σ 98 16) rfl rfl rfl rfl rfl es30.2.1 (fun z31 hz31 => ?_)
            have tz31 := tf_98_16 hI
            refine h_put (pc' := 20) rfl rfl rfl rfl rfl rfl hz31 rfl (h_fgt (E := fun s => s 98 15 = σ 98 15 ∧ s 98 16 = σ 98 16 ∧ s 98 17 = σ 98 17 ∧ s 98 18 = σ 98 18 ∧ s 98 13 = 5 ∧ s 98 5 = σ 98 5 ∧ s 98 6 = σ 98 6 ∧ s 101 18 = σ 101 18 ∧ s 101 25 = σ 101 25) _ (if_98_14 Is30 (h_rgv hz31)) (Fs30.up rfl) ⟨es30.1, es30.2.1, es30.2.2.1, es30.2.2.2.1, es30.2.2.2.2.1, es30.2.2.2.2.2.1, es30.2.2.2.2.2.2.1, es30.2.2.2.2.2.2.2.1, es30.2.2.2.2.2.2.2.2⟩ (fun s32 Is32 Fs32 (es32 : s32 98 15 = σ 98 15 ∧ s32 98 16 = σ 98 16 ∧ s32 98 17 = σ 98 17 ∧ s32 98 18 = σ 98 18 ∧ s32 98 13 = 5 ∧ s32 98 5 = σ 98 5 ∧ s32 98 6 = σ 98 6 ∧ s32 101 18 = σ 101 18 ∧ s32 101 25 = σ 101 25) => ?_))
            clear es30
            refine h_vret rfl rfl (h_Kn ?_)
            exact h_wk [(0, .ref 98), (1, .int r1)] ⟨rfl, rfl, trivial⟩ ((v_readLine_l ns σ hI pr0 kk 1000000000000).1 _ Is32 Fs32 r1 _ hr1 (by omega) (by omega) (by omega) (by omega) (by omega) (by omega) (by omega))
          · refine h_iload_n (pc' := 70) rfl rfl rfl ?_
            refine h_bipush (pc' := 72) (x := (Int32.ofInt 6)) rfl rfl cb_6 ?_
            refine h_cne (tg := 88) (pc' := 75) rfl rfl rfl hr1 ci_6 (fun c33 => ?_) (fun c33 => absurd c33 (by omega))
            exact h_wk [(0, .ref 98), (1, .int r1)] ⟨rfl, rfl, trivial⟩ ((v_readLine_l ns σ hI pr0 kk 1000000000000).1 _ hI F00 r1 _ hr1 (by omega) (by omega) (by omega) (by omega) (by omega) (by omega) (by omega))
      · refine h_aload_n (pc' := 43) rfl rfl rfl ?_
        refine h_getR (pc' := 46) rfl rfl rfl rfl rfl ?_
        refine h_bipush (pc' := 48) (x := (Int32.ofInt 18)) rfl rfl cb_18 ?_
        refine h_iald (pc' := 49) (v := σ 101 18) rfl rfl rfl ci_18 (by omega) (by omega) rfl (fun z34 hz34 => ?_)
        have tz34 := ty_101_3 hI 18 (by omega)
        refine h_iconst (pc' := 50) (x := (Int32.ofInt 3)) rfl rfl rfl ?_
        refine h_ceq (tg := 83) (pc' := 53) rfl rfl rfl hz34 ci_3 (fun c35 => ?_) (fun c35 => ?_)
        · refine h_aload_n (pc' := 84) rfl rfl rfl ?_
          refine h_iconst (pc' := 85) (x := (Int32.ofInt 5)) rfl rfl rfl ?_
          refine h_call (sp := false) (pc' := 88) (M := [(0, .ref 98), (1, .int (Int32.ofInt 5))]) rfl rfl rfl rfl rfl rfl rfl rfl ?_
          refine h_aload_n (pc' := 1) rfl rfl rfl ?_
          refine h_getI (pc' := 4) (v := σ 98 13) rfl rfl rfl rfl rfl rfl (fun z36 hz36 => ?_)
          have tz36 := tf_98_13 hI
          refine h_zne (tg := 20) (pc' := 7) rfl rfl rfl hz36 (fun c37 => absurd c37 (by omega)) (fun c37 => ?_)
          refine h_aload_n (pc' := 8) rfl rfl rfl ?_
          refine h_iload_n (pc' := 9) rfl rfl rfl ?_
          refine h_put (pc' := 12) rfl rfl rfl rfl rfl rfl ci_5 rfl (h_fgt (E := fun s => s 98 15 = σ 98 15 ∧ s 98 16 = σ 98 16 ∧ s 98 17 = σ 98 17 ∧ s 98 18 = σ 98 18 ∧ s 98 13 = 5 ∧ s 98 5 = σ 98 5 ∧ s 98 6 = σ 98 6 ∧ s 101 18 = σ 101 18 ∧ s 101 25 = σ 101 25) _ (if_98_13 hI (by omega)) (F00.up rfl) ⟨rfl, rfl, rfl, rfl, rfl, rfl, rfl, rfl, rfl⟩ (fun s38 Is38 Fs38 (es38 : s38 98 15 = σ 98 15 ∧ s38 98 16 = σ 98 16 ∧ s38 98 17 = σ 98 17 ∧ s38 98 18 = σ 98 18 ∧ s38 98 13 = 5 ∧ s38 98 5 = σ 98 5 ∧ s38 98 6 = σ 98 6 ∧ s38 101 18 = σ 101 18 ∧ s38 101 25 = σ 101 25) => ?_))
          refine h_aload_n (pc' := 13) rfl rfl rfl ?_
          refine h_aload_n (pc' := 14) rfl rfl rfl ?_
          refine h_getI (pc' := 17) (v := σ 98 16) rfl rfl rfl rfl rfl es38.2.1 (fun z39 hz39 => ?_)
          have tz39 := tf_98_16 hI
          refine h_put (pc' := 20) rfl rfl rfl rfl rfl rfl hz39 rfl (h_fgt (E := fun s => s 98 15 = σ 98 15 ∧ s 98 16 = σ 98 16 ∧ s 98 17 = σ 98 17 ∧ s 98 18 = σ 98 18 ∧ s 98 13 = 5 ∧ s 98 5 = σ 98 5 ∧ s 98 6 = σ 98 6 ∧ s 101 18 = σ 101 18 ∧ s 101 25 = σ 101 25) _ (if_98_14 Is38 (h_rgv hz39)) (Fs38.up rfl) ⟨es38.1, es38.2.1, es38.2.2.1, es38.2.2.2.1, es38.2.2.2.2.1, es38.2.2.2.2.2.1, es38.2.2.2.2.2.2.1, es38.2.2.2.2.2.2.2.1, es38.2.2.2.2.2.2.2.2⟩ (fun s40 Is40 Fs40 (es40 : s40 98 15 = σ 98 15 ∧ s40 98 16 = σ 98 16 ∧ s40 98 17 = σ 98 17 ∧ s40 98 18 = σ 98 18 ∧ s40 98 13 = 5 ∧ s40 98 5 = σ 98 5 ∧ s40 98 6 = σ 98 6 ∧ s40 101 18 = σ 101 18 ∧ s40 101 25 = σ 101 25) => ?_))
          clear es38
          refine h_vret rfl rfl (h_Kn ?_)
          exact h_wk [(0, .ref 98), (1, .int r1)] ⟨rfl, rfl, trivial⟩ ((v_readLine_l ns σ hI pr0 kk 1000000000000).1 _ Is40 Fs40 r1 _ hr1 (by omega) (by omega) (by omega) (by omega) (by omega) (by omega) (by omega))
        · refine h_iload_n (pc' := 54) rfl rfl rfl ?_
          refine h_iconst (pc' := 55) (x := (Int32.ofInt 5)) rfl rfl rfl ?_
          refine h_cne (tg := 69) (pc' := 58) rfl rfl rfl hr1 ci_5 (fun c41 => ?_) (fun c41 => absurd c41 (by omega))
          refine h_iload_n (pc' := 70) rfl rfl rfl ?_
          refine h_bipush (pc' := 72) (x := (Int32.ofInt 6)) rfl rfl cb_6 ?_
          refine h_cne (tg := 88) (pc' := 75) rfl rfl rfl hr1 ci_6 (fun c42 => ?_) (fun c42 => absurd c42 (by omega))
          exact h_wk [(0, .ref 98), (1, .int r1)] ⟨rfl, rfl, trivial⟩ ((v_readLine_l ns σ hI pr0 kk 1000000000000).1 _ hI F00 r1 _ hr1 (by omega) (by omega) (by omega) (by omega) (by omega) (by omega) (by omega))
    · refine h_aload_n (pc' := 29) rfl rfl rfl ?_
      refine h_getI (pc' := 32) (v := σ 98 5) rfl rfl rfl rfl rfl rfl (fun z43 hz43 => ?_)
      have tz43 := tf_98_5 hI
      refine h_bipush (pc' := 34) (x := (Int32.ofInt 6)) rfl rfl cb_6 ?_
      refine h_ceq (tg := 83) (pc' := 37) rfl rfl rfl hz43 ci_6 (fun c44 => ?_) (fun c44 => ?_)
      · refine h_aload_n (pc' := 84) rfl rfl rfl ?_
        refine h_iconst (pc' := 85) (x := (Int32.ofInt 5)) rfl rfl rfl ?_
        refine h_call (sp := false) (pc' := 88) (M := [(0, .ref 98), (1, .int (Int32.ofInt 5))]) rfl rfl rfl rfl rfl rfl rfl rfl ?_
        refine h_aload_n (pc' := 1) rfl rfl rfl ?_
        refine h_getI (pc' := 4) (v := σ 98 13) rfl rfl rfl rfl rfl rfl (fun z45 hz45 => ?_)
        have tz45 := tf_98_13 hI
        refine h_zne (tg := 20) (pc' := 7) rfl rfl rfl hz45 (fun c46 => absurd c46 (by omega)) (fun c46 => ?_)
        refine h_aload_n (pc' := 8) rfl rfl rfl ?_
        refine h_iload_n (pc' := 9) rfl rfl rfl ?_
        refine h_put (pc' := 12) rfl rfl rfl rfl rfl rfl ci_5 rfl (h_fgt (E := fun s => s 98 15 = σ 98 15 ∧ s 98 16 = σ 98 16 ∧ s 98 17 = σ 98 17 ∧ s 98 18 = σ 98 18 ∧ s 98 13 = 5 ∧ s 98 5 = σ 98 5 ∧ s 98 6 = σ 98 6 ∧ s 101 18 = σ 101 18 ∧ s 101 25 = σ 101 25) _ (if_98_13 hI (by omega)) (F00.up rfl) ⟨rfl, rfl, rfl, rfl, rfl, rfl, rfl, rfl, rfl⟩ (fun s47 Is47 Fs47 (es47 : s47 98 15 = σ 98 15 ∧ s47 98 16 = σ 98 16 ∧ s47 98 17 = σ 98 17 ∧ s47 98 18 = σ 98 18 ∧ s47 98 13 = 5 ∧ s47 98 5 = σ 98 5 ∧ s47 98 6 = σ 98 6 ∧ s47 101 18 = σ 101 18 ∧ s47 101 25 = σ 101 25) => ?_))
        refine h_aload_n (pc' := 13) rfl rfl rfl ?_
        refine h_aload_n (pc' := 14) rfl rfl rfl ?_
        refine h_getI (pc' := 17) (v := σ 98 16) rfl rfl rfl rfl rfl es47.2.1 (fun z48 hz48 => ?_)
        have tz48 := tf_98_16 hI
        refine h_put (pc' := 20) rfl rfl rfl rfl rfl rfl hz48 rfl (h_fgt (E := fun s => s 98 15 = σ 98 15 ∧ s 98 16 = σ 98 16 ∧ s 98 17 = σ 98 17 ∧ s 98 18 = σ 98 18 ∧ s 98 13 = 5 ∧ s 98 5 = σ 98 5 ∧ s 98 6 = σ 98 6 ∧ s 101 18 = σ 101 18 ∧ s 101 25 = σ 101 25) _ (if_98_14 Is47 (h_rgv hz48)) (Fs47.up rfl) ⟨es47.1, es47.2.1, es47.2.2.1, es47.2.2.2.1, es47.2.2.2.2.1, es47.2.2.2.2.2.1, es47.2.2.2.2.2.2.1, es47.2.2.2.2.2.2.2.1, es47.2.2.2.2.2.2.2.2⟩ (fun s49 Is49 Fs49 (es49 : s49 98 15 = σ 98 15 ∧ s49 98 16 = σ 98 16 ∧ s49 98 17 = σ 98 17 ∧ s49 98 18 = σ 98 18 ∧ s49 98 13 = 5 ∧ s49 98 5 = σ 98 5 ∧ s49 98 6 = σ 98 6 ∧ s49 101 18 = σ 101 18 ∧ s49 101 25 = σ 101 25) => ?_))
        clear es47
        refine h_vret rfl rfl (h_Kn ?_)
        exact h_wk [(0, .ref 98), (1, .int r1)] ⟨rfl, rfl, trivial⟩ ((v_readLine_l ns σ hI pr0 kk 1000000000000).1 _ Is49 Fs49 r1 _ hr1 (by omega) (by omega) (by omega) (by omega) (by omega) (by omega) (by omega))
      · refine h_iload_n (pc' := 38) rfl rfl rfl ?_
        refine h_iconst (pc' := 39) (x := (Int32.ofInt 4)) rfl rfl rfl ?_
        refine h_cne (tg := 53) (pc' := 42) rfl rfl rfl hr1 ci_4 (fun c50 => ?_) (fun c50 => absurd c50 (by omega))
        refine h_iload_n (pc' := 54) rfl rfl rfl ?_
        refine h_iconst (pc' := 55) (x := (Int32.ofInt 5)) rfl rfl rfl ?_
        refine h_cne (tg := 69) (pc' := 58) rfl rfl rfl hr1 ci_5 (fun c51 => ?_) (fun c51 => absurd c51 (by omega))
        refine h_iload_n (pc' := 70) rfl rfl rfl ?_
        refine h_bipush (pc' := 72) (x := (Int32.ofInt 6)) rfl rfl cb_6 ?_
        refine h_cne (tg := 88) (pc' := 75) rfl rfl rfl hr1 ci_6 (fun c52 => ?_) (fun c52 => absurd c52 (by omega))
        exact h_wk [(0, .ref 98), (1, .int r1)] ⟨rfl, rfl, trivial⟩ ((v_readLine_l ns σ hI pr0 kk 1000000000000).1 _ hI F00 r1 _ hr1 (by omega) (by omega) (by omega) (by omega) (by omega) (by omega) (by omega))
