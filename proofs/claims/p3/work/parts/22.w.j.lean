theorem v_readToken_l (ns : Nat) (σ : h_S) (hI : h_I σ) {Q : Option Value → h_S → Prop} (kk : ∀ (τ : h_S), h_I τ → h_F k_lx τ σ → (¬ τ 64 3 = 2 ∨ (0 ≤ τ 64 5 ∧ τ 64 5 ≤ 99)) → Q none τ) : ∀ n : Nat, (∀ (s0 : h_S), h_I s0 → h_F k_lx s0 σ → (161 - s0 64 2) + 1000 ≤ (n : Int) → h_T g_P (g_Y ns) 75 0 [(0, .ref 64)] [] s0 Q) ∧ (∀ (s0 : h_S), h_I s0 → h_F k_lx s0 σ → ∀ (y1 : Int32) (b1 : Int), y1.toInt = b1 → (97 ≤ b1 ∧ b1 ≤ 122) → (161 - s0 64 2) ≤ (n : Int) → h_T g_P (g_Y ns) 75 100 [(0, .ref 64), (1, .int y1)] [] s0 Q) ∧ (∀ (s0 : h_S), h_I s0 → h_F k_lx s0 σ → ∀ (y1 : Int32) (b1 : Int), y1.toInt = b1 → (48 ≤ b1 ∧ b1 ≤ 57) → (s0 64 4 ≤ s0 64 2) → ((s0 64 2 = s0 64 4 → s0 64 5 = 0)) → ((s0 64 2 = s0 64 4 + 1 → (0 ≤ s0 64 5 ∧ s0 64 5 ≤ 9))) → ((s0 64 2 = s0 64 4 + 2 → (0 ≤ s0 64 5 ∧ s0 64 5 ≤ 99))) → (161 - s0 64 2) ≤ (n : Int) → h_T g_P (g_Y ns) 75 172 [(0, .ref 64), (1, .int y1)] [] s0 Q) := by
  intro n
  induction n with
  | zero => exact ⟨by intro s0 I0 F0_ hm; have gh0 := tf_64_2 I0; exfalso; omega, by intro s0 I0 F0_ y1 b1 hy1 ry1 hm; have gh0 := tf_64_2 I0; exfalso; omega, by intro s0 I0 F0_ y1 b1 hy1 ry1 ex0 ex1 ex2 ex3 hm; have gh0 := tf_64_2 I0; exfalso; omega⟩
  | succ n ih =>
    refine ⟨?_, ?_, ?_⟩
    · intro s0 I0 F0_ hm; have gh0 := tf_64_2 I0
      refine h_aload_n (pc' := 1) rfl rfl rfl ?_
      refine h_getI (pc' := 4) (v := s0 64 2) rfl rfl rfl rfl rfl rfl (fun z1 hz1 => ?_)
      have tz1 := tf_64_2 I0
      refine h_aload_n (pc' := 5) rfl rfl rfl ?_
      refine h_getI (pc' := 8) (v := σ 64 1) rfl rfl rfl rfl rfl (F0_ 64 1 rfl) (fun z2 hz2 => ?_)
      have tz2 := tf_64_1 hI
      refine h_cge (tg := 38) (pc' := 11) rfl rfl rfl hz1 hz2 (fun c3 => ?_) (fun c3 => ?_)
      · refine h_aload_n (pc' := 39) rfl rfl rfl ?_
        refine h_aload_n (pc' := 40) rfl rfl rfl ?_
        refine h_getI (pc' := 43) (v := s0 64 2) rfl rfl rfl rfl rfl rfl (fun z4 hz4 => ?_)
        have tz4 := tf_64_2 I0
        refine h_put (pc' := 46) rfl rfl rfl rfl rfl rfl hz4 rfl (h_fgt (E := fun s => s 64 2 = s0 64 2 ∧ s 64 4 = (s0 64 2) ∧ s 64 3 = s0 64 3 ∧ s 64 5 = s0 64 5) _ (if_64_4 I0 (by omega)) (F0_.up rfl) ⟨rfl, rfl, rfl, rfl⟩ (fun s5 Is5 Fs5 ⟨es5_0, es5_1, es5_2, es5_3⟩ => ?_))
        refine h_aload_n (pc' := 47) rfl rfl rfl ?_
        refine h_iconst (pc' := 48) (x := (Int32.ofInt 0)) rfl rfl rfl ?_
        refine h_put (pc' := 51) rfl rfl rfl rfl rfl rfl ci_0 rfl (h_fgt (E := fun s => s 64 2 = s0 64 2 ∧ s 64 4 = (s0 64 2) ∧ s 64 3 = s0 64 3 ∧ s 64 5 = 0) _ (if_64_5 Is5 (h_rgv ci_0)) (Fs5.up rfl) ⟨es5_0, es5_1, es5_2, rfl⟩ (fun s6 Is6 Fs6 ⟨es6_0, es6_1, es6_2, es6_3⟩ => ?_))
        clear es5_0 es5_1 es5_2 es5_3
        refine h_aload_n (pc' := 52) rfl rfl rfl ?_
        refine h_getI (pc' := 55) (v := s0 64 2) rfl rfl rfl rfl rfl es6_0 (fun z7 hz7 => ?_)
        have tz7 := tf_64_2 I0
        refine h_aload_n (pc' := 56) rfl rfl rfl ?_
        refine h_getI (pc' := 59) (v := σ 64 1) rfl rfl rfl rfl rfl (Fs6 64 1 rfl) (fun z8 hz8 => ?_)
        have tz8 := tf_64_1 hI
        refine h_cge (tg := 74) (pc' := 62) rfl rfl rfl hz7 hz8 (fun c9 => ?_) (fun c9 => ?_)
        · refine h_iconst (pc' := 75) (x := (Int32.ofInt (-1))) rfl rfl rfl ?_
          refine h_istore_n (pc' := 76) (M := [(1, .int (Int32.ofInt (-1))), (0, .ref 64)]) rfl rfl rfl rfl ?_
          refine h_iload_n (pc' := 77) rfl rfl rfl ?_
          refine h_zge (tg := 88) (pc' := 80) rfl rfl rfl ci_m1 (fun c10 => absurd c10 (by omega)) (fun c10 => ?_)
          refine h_aload_n (pc' := 81) rfl rfl rfl ?_
          refine h_iconst (pc' := 82) (x := (Int32.ofInt 0)) rfl rfl rfl ?_
          refine h_put (pc' := 85) rfl rfl rfl rfl rfl rfl ci_0 rfl (h_fgt (E := fun s => s 64 2 = s0 64 2 ∧ s 64 4 = (s0 64 2) ∧ s 64 3 = 0 ∧ s 64 5 = 0) _ (if_64_3 Is6 (by omega)) (Fs6.up rfl) ⟨es6_0, es6_1, rfl, es6_3⟩ (fun s11 Is11 Fs11 ⟨es11_0, es11_1, es11_2, es11_3⟩ => ?_))
          clear es6_0 es6_1 es6_2 es6_3
          refine h_goto (pc' := 298) rfl rfl ?_
          exact h_vret rfl rfl (kk _ Is11 Fs11 (by omega))
        · refine h_aload_n (pc' := 63) rfl rfl rfl ?_
          refine h_getR (pc' := 66) rfl rfl rfl rfl rfl ?_
          refine h_aload_n (pc' := 67) rfl rfl rfl ?_
          refine h_getI (pc' := 70) (v := s0 64 2) rfl rfl rfl rfl rfl es6_0 (fun z12 hz12 => ?_)
          have tz12 := tf_64_2 I0
          refine h_iald (pc' := 71) (v := σ 65 (s0 64 2)) rfl rfl rfl hz12 (by omega) (by omega) (Fs6 65 _ rfl) (fun z13 hz13 => ?_)
          have tz13 := ty_65 hI (s0 64 2)
          refine h_goto (pc' := 75) rfl rfl ?_
          refine h_istore_n (pc' := 76) (M := [(1, .int z13), (0, .ref 64)]) rfl rfl rfl rfl ?_
          refine h_iload_n (pc' := 77) rfl rfl rfl ?_
          refine h_zge (tg := 88) (pc' := 80) rfl rfl rfl hz13 (fun c14 => ?_) (fun c14 => absurd c14 (by omega))
          refine h_iload_n (pc' := 89) rfl rfl rfl ?_
          refine h_bipush (pc' := 91) (x := (Int32.ofInt 97)) rfl rfl cb_97 ?_
          refine h_clt (tg := 160) (pc' := 94) rfl rfl rfl hz13 ci_97 (fun c15 => ?_) (fun c15 => ?_)
          · refine h_iload_n (pc' := 161) rfl rfl rfl ?_
            refine h_bipush (pc' := 163) (x := (Int32.ofInt 48)) rfl rfl cb_48 ?_
            refine h_clt (tg := 273) (pc' := 166) rfl rfl rfl hz13 ci_48 (fun c16 => ?_) (fun c16 => ?_)
            · refine h_aload_n (pc' := 274) rfl rfl rfl ?_
              refine h_dup (pc' := 275) rfl rfl rfl ?_
              refine h_getI (pc' := 278) (v := s0 64 2) rfl rfl rfl rfl rfl es6_0 (fun z17 hz17 => ?_)
              have tz17 := tf_64_2 I0
              refine h_iconst (pc' := 279) (x := (Int32.ofInt 1)) rfl rfl rfl ?_
              refine h_iadd (pc' := 280) rfl rfl hz17 ci_1 rfl (by omega) (by omega) (fun z18 hz18 => ?_)
              refine h_put (pc' := 283) rfl rfl rfl rfl rfl rfl hz18 rfl (h_fgt (E := fun s => s 64 2 = ((s0 64 2) + 1) ∧ s 64 4 = (s0 64 2) ∧ s 64 3 = s0 64 3 ∧ s 64 5 = 0) _ (if_64_2 Is6 (by omega)) (Fs6.up rfl) ⟨rfl, es6_1, es6_2, es6_3⟩ (fun s19 Is19 Fs19 ⟨es19_0, es19_1, es19_2, es19_3⟩ => ?_))
              clear es6_0 es6_1 es6_2 es6_3
              refine h_aload_n (pc' := 284) rfl rfl rfl ?_
              refine h_iload_n (pc' := 285) rfl rfl rfl ?_
              refine h_bipush (pc' := 287) (x := (Int32.ofInt 59)) rfl rfl cb_59 ?_
              refine h_cne (tg := 294) (pc' := 290) rfl rfl rfl hz13 ci_59 (fun c20 => ?_) (fun c20 => absurd c20 (by omega))
              refine h_iconst (pc' := 295) (x := (Int32.ofInt 4)) rfl rfl rfl ?_
              refine h_put (pc' := 298) rfl rfl rfl rfl rfl rfl ci_4 rfl (h_fgt (E := fun s => s 64 2 = ((s0 64 2) + 1) ∧ s 64 4 = (s0 64 2) ∧ s 64 3 = 4 ∧ s 64 5 = 0) _ (if_64_3 Is19 (by omega)) (Fs19.up rfl) ⟨es19_0, es19_1, rfl, es19_3⟩ (fun s21 Is21 Fs21 ⟨es21_0, es21_1, es21_2, es21_3⟩ => ?_))
              clear es19_0 es19_1 es19_2 es19_3
              exact h_vret rfl rfl (kk _ Is21 Fs21 (by omega))
            · refine h_iload_n (pc' := 167) rfl rfl rfl ?_
              refine h_bipush (pc' := 169) (x := (Int32.ofInt 57)) rfl rfl cb_57 ?_
              refine h_cgt (tg := 273) (pc' := 172) rfl rfl rfl hz13 ci_57 (fun c22 => ?_) (fun c22 => ?_)
              · refine h_aload_n (pc' := 274) rfl rfl rfl ?_
                refine h_dup (pc' := 275) rfl rfl rfl ?_
                refine h_getI (pc' := 278) (v := s0 64 2) rfl rfl rfl rfl rfl es6_0 (fun z23 hz23 => ?_)
                have tz23 := tf_64_2 I0
                refine h_iconst (pc' := 279) (x := (Int32.ofInt 1)) rfl rfl rfl ?_
                refine h_iadd (pc' := 280) rfl rfl hz23 ci_1 rfl (by omega) (by omega) (fun z24 hz24 => ?_)
                refine h_put (pc' := 283) rfl rfl rfl rfl rfl rfl hz24 rfl (h_fgt (E := fun s => s 64 2 = ((s0 64 2) + 1) ∧ s 64 4 = (s0 64 2) ∧ s 64 3 = s0 64 3 ∧ s 64 5 = 0) _ (if_64_2 Is6 (by omega)) (Fs6.up rfl) ⟨rfl, es6_1, es6_2, es6_3⟩ (fun s25 Is25 Fs25 ⟨es25_0, es25_1, es25_2, es25_3⟩ => ?_))
                clear es6_0 es6_1 es6_2 es6_3
                refine h_aload_n (pc' := 284) rfl rfl rfl ?_
                refine h_iload_n (pc' := 285) rfl rfl rfl ?_
                refine h_bipush (pc' := 287) (x := (Int32.ofInt 59)) rfl rfl cb_59 ?_
                refine h_cne (tg := 294) (pc' := 290) rfl rfl rfl hz13 ci_59 (fun c26 => ?_) (fun c26 => ?_)
                · refine h_iconst (pc' := 295) (x := (Int32.ofInt 4)) rfl rfl rfl ?_
                  refine h_put (pc' := 298) rfl rfl rfl rfl rfl rfl ci_4 rfl (h_fgt (E := fun s => s 64 2 = ((s0 64 2) + 1) ∧ s 64 4 = (s0 64 2) ∧ s 64 3 = 4 ∧ s 64 5 = 0) _ (if_64_3 Is25 (by omega)) (Fs25.up rfl) ⟨es25_0, es25_1, rfl, es25_3⟩ (fun s27 Is27 Fs27 ⟨es27_0, es27_1, es27_2, es27_3⟩ => ?_))
                  clear es25_0 es25_1 es25_2 es25_3
                  exact h_vret rfl rfl (kk _ Is27 Fs27 (by omega))
                · refine h_iconst (pc' := 291) (x := (Int32.ofInt 3)) rfl rfl rfl ?_
                  refine h_goto (pc' := 295) rfl rfl ?_
                  refine h_put (pc' := 298) rfl rfl rfl rfl rfl rfl ci_3 rfl (h_fgt (E := fun s => s 64 2 = ((s0 64 2) + 1) ∧ s 64 4 = (s0 64 2) ∧ s 64 3 = 3 ∧ s 64 5 = 0) _ (if_64_3 Is25 (by omega)) (Fs25.up rfl) ⟨es25_0, es25_1, rfl, es25_3⟩ (fun s28 Is28 Fs28 ⟨es28_0, es28_1, es28_2, es28_3⟩ => ?_))
                  clear es25_0 es25_1 es25_2 es25_3
                  exact h_vret rfl rfl (kk _ Is28 Fs28 (by omega))
              · exact h_wk [(0, .ref 64), (1, .int z13)] ⟨rfl, rfl, trivial⟩ (ih.2.2 _ Is6 Fs6 z13 _ hz13 (by omega) (by omega) (by omega) (by omega) (by omega) (by omega))
          · refine h_iload_n (pc' := 95) rfl rfl rfl ?_
            refine h_bipush (pc' := 97) (x := (Int32.ofInt 122)) rfl rfl cb_122 ?_
            refine h_cgt (tg := 160) (pc' := 100) rfl rfl rfl hz13 ci_122 (fun c29 => ?_) (fun c29 => ?_)
            · refine h_iload_n (pc' := 161) rfl rfl rfl ?_
              refine h_bipush (pc' := 163) (x := (Int32.ofInt 48)) rfl rfl cb_48 ?_
              refine h_clt (tg := 273) (pc' := 166) rfl rfl rfl hz13 ci_48 (fun c30 => absurd c30 (by omega)) (fun c30 => ?_)
              refine h_iload_n (pc' := 167) rfl rfl rfl ?_
              refine h_bipush (pc' := 169) (x := (Int32.ofInt 57)) rfl rfl cb_57 ?_
              refine h_cgt (tg := 273) (pc' := 172) rfl rfl rfl hz13 ci_57 (fun c31 => ?_) (fun c31 => absurd c31 (by omega))
              refine h_aload_n (pc' := 274) rfl rfl rfl ?_
              refine h_dup (pc' := 275) rfl rfl rfl ?_
              refine h_getI (pc' := 278) (v := s0 64 2) rfl rfl rfl rfl rfl es6_0 (fun z32 hz32 => ?_)
              have tz32 := tf_64_2 I0
              refine h_iconst (pc' := 279) (x := (Int32.ofInt 1)) rfl rfl rfl ?_
              refine h_iadd (pc' := 280) rfl rfl hz32 ci_1 rfl (by omega) (by omega) (fun z33 hz33 => ?_)
              refine h_put (pc' := 283) rfl rfl rfl rfl rfl rfl hz33 rfl (h_fgt (E := fun s => s 64 2 = ((s0 64 2) + 1) ∧ s 64 4 = (s0 64 2) ∧ s 64 3 = s0 64 3 ∧ s 64 5 = 0) _ (if_64_2 Is6 (by omega)) (Fs6.up rfl) ⟨rfl, es6_1, es6_2, es6_3⟩ (fun s34 Is34 Fs34 ⟨es34_0, es34_1, es34_2, es34_3⟩ => ?_))
              clear es6_0 es6_1 es6_2 es6_3
              refine h_aload_n (pc' := 284) rfl rfl rfl ?_
              refine h_iload_n (pc' := 285) rfl rfl rfl ?_
              refine h_bipush (pc' := 287) (x := (Int32.ofInt 59)) rfl rfl cb_59 ?_
              refine h_cne (tg := 294) (pc' := 290) rfl rfl rfl hz13 ci_59 (fun c35 => ?_) (fun c35 => absurd c35 (by omega))
              refine h_iconst (pc' := 295) (x := (Int32.ofInt 4)) rfl rfl rfl ?_
              refine h_put (pc' := 298) rfl rfl rfl rfl rfl rfl ci_4 rfl (h_fgt (E := fun s => s 64 2 = ((s0 64 2) + 1) ∧ s 64 4 = (s0 64 2) ∧ s 64 3 = 4 ∧ s 64 5 = 0) _ (if_64_3 Is34 (by omega)) (Fs34.up rfl) ⟨es34_0, es34_1, rfl, es34_3⟩ (fun s36 Is36 Fs36 ⟨es36_0, es36_1, es36_2, es36_3⟩ => ?_))
              clear es34_0 es34_1 es34_2 es34_3
              exact h_vret rfl rfl (kk _ Is36 Fs36 (by omega))
            · exact h_wk [(0, .ref 64), (1, .int z13)] ⟨rfl, rfl, trivial⟩ (ih.2.1 _ Is6 Fs6 z13 _ hz13 (by omega) (by omega))
      · refine h_aload_n (pc' := 12) rfl rfl rfl ?_
        refine h_getR (pc' := 15) rfl rfl rfl rfl rfl ?_
        refine h_aload_n (pc' := 16) rfl rfl rfl ?_
        refine h_getI (pc' := 19) (v := s0 64 2) rfl rfl rfl rfl rfl rfl (fun z37 hz37 => ?_)
        have tz37 := tf_64_2 I0
        refine h_iald (pc' := 20) (v := σ 65 (s0 64 2)) rfl rfl rfl hz37 (by omega) (by omega) (F0_ 65 _ rfl) (fun z38 hz38 => ?_)
        have tz38 := ty_65 hI (s0 64 2)
        refine h_bipush (pc' := 22) (x := (Int32.ofInt 32)) rfl rfl cb_32 ?_
        refine h_cne (tg := 38) (pc' := 25) rfl rfl rfl hz38 ci_32 (fun c39 => ?_) (fun c39 => ?_)
        · refine h_aload_n (pc' := 39) rfl rfl rfl ?_
          refine h_aload_n (pc' := 40) rfl rfl rfl ?_
          refine h_getI (pc' := 43) (v := s0 64 2) rfl rfl rfl rfl rfl rfl (fun z40 hz40 => ?_)
          have tz40 := tf_64_2 I0
          refine h_put (pc' := 46) rfl rfl rfl rfl rfl rfl hz40 rfl (h_fgt (E := fun s => s 64 2 = s0 64 2 ∧ s 64 4 = (s0 64 2) ∧ s 64 3 = s0 64 3 ∧ s 64 5 = s0 64 5) _ (if_64_4 I0 (by omega)) (F0_.up rfl) ⟨rfl, rfl, rfl, rfl⟩ (fun s41 Is41 Fs41 ⟨es41_0, es41_1, es41_2, es41_3⟩ => ?_))
          refine h_aload_n (pc' := 47) rfl rfl rfl ?_
          refine h_iconst (pc' := 48) (x := (Int32.ofInt 0)) rfl rfl rfl ?_
          refine h_put (pc' := 51) rfl rfl rfl rfl rfl rfl ci_0 rfl (h_fgt (E := fun s => s 64 2 = s0 64 2 ∧ s 64 4 = (s0 64 2) ∧ s 64 3 = s0 64 3 ∧ s 64 5 = 0) _ (if_64_5 Is41 (h_rgv ci_0)) (Fs41.up rfl) ⟨es41_0, es41_1, es41_2, rfl⟩ (fun s42 Is42 Fs42 ⟨es42_0, es42_1, es42_2, es42_3⟩ => ?_))
          clear es41_0 es41_1 es41_2 es41_3
          refine h_aload_n (pc' := 52) rfl rfl rfl ?_
          refine h_getI (pc' := 55) (v := s0 64 2) rfl rfl rfl rfl rfl es42_0 (fun z43 hz43 => ?_)
          have tz43 := tf_64_2 I0
          refine h_aload_n (pc' := 56) rfl rfl rfl ?_
          refine h_getI (pc' := 59) (v := σ 64 1) rfl rfl rfl rfl rfl (Fs42 64 1 rfl) (fun z44 hz44 => ?_)
          have tz44 := tf_64_1 hI
          refine h_cge (tg := 74) (pc' := 62) rfl rfl rfl hz43 hz44 (fun c45 => ?_) (fun c45 => ?_)
          · refine h_iconst (pc' := 75) (x := (Int32.ofInt (-1))) rfl rfl rfl ?_
            refine h_istore_n (pc' := 76) (M := [(1, .int (Int32.ofInt (-1))), (0, .ref 64)]) rfl rfl rfl rfl ?_
            refine h_iload_n (pc' := 77) rfl rfl rfl ?_
            refine h_zge (tg := 88) (pc' := 80) rfl rfl rfl ci_m1 (fun c46 => absurd c46 (by omega)) (fun c46 => ?_)
            refine h_aload_n (pc' := 81) rfl rfl rfl ?_
            refine h_iconst (pc' := 82) (x := (Int32.ofInt 0)) rfl rfl rfl ?_
            refine h_put (pc' := 85) rfl rfl rfl rfl rfl rfl ci_0 rfl (h_fgt (E := fun s => s 64 2 = s0 64 2 ∧ s 64 4 = (s0 64 2) ∧ s 64 3 = 0 ∧ s 64 5 = 0) _ (if_64_3 Is42 (by omega)) (Fs42.up rfl) ⟨es42_0, es42_1, rfl, es42_3⟩ (fun s47 Is47 Fs47 ⟨es47_0, es47_1, es47_2, es47_3⟩ => ?_))
            clear es42_0 es42_1 es42_2 es42_3
            refine h_goto (pc' := 298) rfl rfl ?_
            exact h_vret rfl rfl (kk _ Is47 Fs47 (by omega))
          · refine h_aload_n (pc' := 63) rfl rfl rfl ?_
            refine h_getR (pc' := 66) rfl rfl rfl rfl rfl ?_
            refine h_aload_n (pc' := 67) rfl rfl rfl ?_
            refine h_getI (pc' := 70) (v := s0 64 2) rfl rfl rfl rfl rfl es42_0 (fun z48 hz48 => ?_)
            have tz48 := tf_64_2 I0
            refine h_iald (pc' := 71) (v := σ 65 (s0 64 2)) rfl rfl rfl hz48 (by omega) (by omega) (Fs42 65 _ rfl) (fun z49 hz49 => ?_)
            have tz49 := ty_65 hI (s0 64 2)
            refine h_goto (pc' := 75) rfl rfl ?_
            refine h_istore_n (pc' := 76) (M := [(1, .int z49), (0, .ref 64)]) rfl rfl rfl rfl ?_
            refine h_iload_n (pc' := 77) rfl rfl rfl ?_
            refine h_zge (tg := 88) (pc' := 80) rfl rfl rfl hz49 (fun c50 => ?_) (fun c50 => absurd c50 (by omega))
            refine h_iload_n (pc' := 89) rfl rfl rfl ?_
            refine h_bipush (pc' := 91) (x := (Int32.ofInt 97)) rfl rfl cb_97 ?_
            refine h_clt (tg := 160) (pc' := 94) rfl rfl rfl hz49 ci_97 (fun c51 => ?_) (fun c51 => ?_)
            · refine h_iload_n (pc' := 161) rfl rfl rfl ?_
              refine h_bipush (pc' := 163) (x := (Int32.ofInt 48)) rfl rfl cb_48 ?_
              refine h_clt (tg := 273) (pc' := 166) rfl rfl rfl hz49 ci_48 (fun c52 => ?_) (fun c52 => ?_)
              · refine h_aload_n (pc' := 274) rfl rfl rfl ?_
                refine h_dup (pc' := 275) rfl rfl rfl ?_
                refine h_getI (pc' := 278) (v := s0 64 2) rfl rfl rfl rfl rfl es42_0 (fun z53 hz53 => ?_)
                have tz53 := tf_64_2 I0
                refine h_iconst (pc' := 279) (x := (Int32.ofInt 1)) rfl rfl rfl ?_
                refine h_iadd (pc' := 280) rfl rfl hz53 ci_1 rfl (by omega) (by omega) (fun z54 hz54 => ?_)
                refine h_put (pc' := 283) rfl rfl rfl rfl rfl rfl hz54 rfl (h_fgt (E := fun s => s 64 2 = ((s0 64 2) + 1) ∧ s 64 4 = (s0 64 2) ∧ s 64 3 = s0 64 3 ∧ s 64 5 = 0) _ (if_64_2 Is42 (by omega)) (Fs42.up rfl) ⟨rfl, es42_1, es42_2, es42_3⟩ (fun s55 Is55 Fs55 ⟨es55_0, es55_1, es55_2, es55_3⟩ => ?_))
                clear es42_0 es42_1 es42_2 es42_3
                refine h_aload_n (pc' := 284) rfl rfl rfl ?_
                refine h_iload_n (pc' := 285) rfl rfl rfl ?_
                refine h_bipush (pc' := 287) (x := (Int32.ofInt 59)) rfl rfl cb_59 ?_
                refine h_cne (tg := 294) (pc' := 290) rfl rfl rfl hz49 ci_59 (fun c56 => ?_) (fun c56 => absurd c56 (by omega))
                refine h_iconst (pc' := 295) (x := (Int32.ofInt 4)) rfl rfl rfl ?_
                refine h_put (pc' := 298) rfl rfl rfl rfl rfl rfl ci_4 rfl (h_fgt (E := fun s => s 64 2 = ((s0 64 2) + 1) ∧ s 64 4 = (s0 64 2) ∧ s 64 3 = 4 ∧ s 64 5 = 0) _ (if_64_3 Is55 (by omega)) (Fs55.up rfl) ⟨es55_0, es55_1, rfl, es55_3⟩ (fun s57 Is57 Fs57 ⟨es57_0, es57_1, es57_2, es57_3⟩ => ?_))
                clear es55_0 es55_1 es55_2 es55_3
                exact h_vret rfl rfl (kk _ Is57 Fs57 (by omega))
              · refine h_iload_n (pc' := 167) rfl rfl rfl ?_
                refine h_bipush (pc' := 169) (x := (Int32.ofInt 57)) rfl rfl cb_57 ?_
                refine h_cgt (tg := 273) (pc' := 172) rfl rfl rfl hz49 ci_57 (fun c58 => ?_) (fun c58 => ?_)
                · refine h_aload_n (pc' := 274) rfl rfl rfl ?_
                  refine h_dup (pc' := 275) rfl rfl rfl ?_
                  refine h_getI (pc' := 278) (v := s0 64 2) rfl rfl rfl rfl rfl es42_0 (fun z59 hz59 => ?_)
                  have tz59 := tf_64_2 I0
                  refine h_iconst (pc' := 279) (x := (Int32.ofInt 1)) rfl rfl rfl ?_
                  refine h_iadd (pc' := 280) rfl rfl hz59 ci_1 rfl (by omega) (by omega) (fun z60 hz60 => ?_)
                  refine h_put (pc' := 283) rfl rfl rfl rfl rfl rfl hz60 rfl (h_fgt (E := fun s => s 64 2 = ((s0 64 2) + 1) ∧ s 64 4 = (s0 64 2) ∧ s 64 3 = s0 64 3 ∧ s 64 5 = 0) _ (if_64_2 Is42 (by omega)) (Fs42.up rfl) ⟨rfl, es42_1, es42_2, es42_3⟩ (fun s61 Is61 Fs61 ⟨es61_0, es61_1, es61_2, es61_3⟩ => ?_))
                  clear es42_0 es42_1 es42_2 es42_3
                  refine h_aload_n (pc' := 284) rfl rfl rfl ?_
                  refine h_iload_n (pc' := 285) rfl rfl rfl ?_
                  refine h_bipush (pc' := 287) (x := (Int32.ofInt 59)) rfl rfl cb_59 ?_
                  refine h_cne (tg := 294) (pc' := 290) rfl rfl rfl hz49 ci_59 (fun c62 => ?_) (fun c62 => ?_)
                  · refine h_iconst (pc' := 295) (x := (Int32.ofInt 4)) rfl rfl rfl ?_
                    refine h_put (pc' := 298) rfl rfl rfl rfl rfl rfl ci_4 rfl (h_fgt (E := fun s => s 64 2 = ((s0 64 2) + 1) ∧ s 64 4 = (s0 64 2) ∧ s 64 3 = 4 ∧ s 64 5 = 0) _ (if_64_3 Is61 (by omega)) (Fs61.up rfl) ⟨es61_0, es61_1, rfl, es61_3⟩ (fun s63 Is63 Fs63 ⟨es63_0, es63_1, es63_2, es63_3⟩ => ?_))
                    clear es61_0 es61_1 es61_2 es61_3
                    exact h_vret rfl rfl (kk _ Is63 Fs63 (by omega))
                  · refine h_iconst (pc' := 291) (x := (Int32.ofInt 3)) rfl rfl rfl ?_
                    refine h_goto (pc' := 295) rfl rfl ?_
                    refine h_put (pc' := 298) rfl rfl rfl rfl rfl rfl ci_3 rfl (h_fgt (E := fun s => s 64 2 = ((s0 64 2) + 1) ∧ s 64 4 = (s0 64 2) ∧ s 64 3 = 3 ∧ s 64 5 = 0) _ (if_64_3 Is61 (by omega)) (Fs61.up rfl) ⟨es61_0, es61_1, rfl, es61_3⟩ (fun s64 Is64 Fs64 ⟨es64_0, es64_1, es64_2, es64_3⟩ => ?_))
                    clear es61_0 es61_1 es61_2 es61_3
                    exact h_vret rfl rfl (kk _ Is64 Fs64 (by omega))
                · exact h_wk [(0, .ref 64), (1, .int z49)] ⟨rfl, rfl, trivial⟩ (ih.2.2 _ Is42 Fs42 z49 _ hz49 (by omega) (by omega) (by omega) (by omega) (by omega) (by omega))
            · refine h_iload_n (pc' := 95) rfl rfl rfl ?_
              refine h_bipush (pc' := 97) (x := (Int32.ofInt 122)) rfl rfl cb_122 ?_
              refine h_cgt (tg := 160) (pc' := 100) rfl rfl rfl hz49 ci_122 (fun c65 => ?_) (fun c65 => ?_)
              · refine h_iload_n (pc' := 161) rfl rfl rfl ?_
                refine h_bipush (pc' := 163) (x := (Int32.ofInt 48)) rfl rfl cb_48 ?_
                refine h_clt (tg := 273) (pc' := 166) rfl rfl rfl hz49 ci_48 (fun c66 => absurd c66 (by omega)) (fun c66 => ?_)
                refine h_iload_n (pc' := 167) rfl rfl rfl ?_
                refine h_bipush (pc' := 169) (x := (Int32.ofInt 57)) rfl rfl cb_57 ?_
                refine h_cgt (tg := 273) (pc' := 172) rfl rfl rfl hz49 ci_57 (fun c67 => ?_) (fun c67 => absurd c67 (by omega))
                refine h_aload_n (pc' := 274) rfl rfl rfl ?_
                refine h_dup (pc' := 275) rfl rfl rfl ?_
                refine h_getI (pc' := 278) (v := s0 64 2) rfl rfl rfl rfl rfl es42_0 (fun z68 hz68 => ?_)
                have tz68 := tf_64_2 I0
                refine h_iconst (pc' := 279) (x := (Int32.ofInt 1)) rfl rfl rfl ?_
                refine h_iadd (pc' := 280) rfl rfl hz68 ci_1 rfl (by omega) (by omega) (fun z69 hz69 => ?_)
                refine h_put (pc' := 283) rfl rfl rfl rfl rfl rfl hz69 rfl (h_fgt (E := fun s => s 64 2 = ((s0 64 2) + 1) ∧ s 64 4 = (s0 64 2) ∧ s 64 3 = s0 64 3 ∧ s 64 5 = 0) _ (if_64_2 Is42 (by omega)) (Fs42.up rfl) ⟨rfl, es42_1, es42_2, es42_3⟩ (fun s70 Is70 Fs70 ⟨es70_0, es70_1, es70_2, es70_3⟩ => ?_))
                clear es42_0 es42_1 es42_2 es42_3
                refine h_aload_n (pc' := 284) rfl rfl rfl ?_
                refine h_iload_n (pc' := 285) rfl rfl rfl ?_
                refine h_bipush (pc' := 287) (x := (Int32.ofInt 59)) rfl rfl cb_59 ?_
                refine h_cne (tg := 294) (pc' := 290) rfl rfl rfl hz49 ci_59 (fun c71 => ?_) (fun c71 => absurd c71 (by omega))
                refine h_iconst (pc' := 295) (x := (Int32.ofInt 4)) rfl rfl rfl ?_
                refine h_put (pc' := 298) rfl rfl rfl rfl rfl rfl ci_4 rfl (h_fgt (E := fun s => s 64 2 = ((s0 64 2) + 1) ∧ s 64 4 = (s0 64 2) ∧ s 64 3 = 4 ∧ s 64 5 = 0) _ (if_64_3 Is70 (by omega)) (Fs70.up rfl) ⟨es70_0, es70_1, rfl, es70_3⟩ (fun s72 Is72 Fs72 ⟨es72_0, es72_1, es72_2, es72_3⟩ => ?_))
                clear es70_0 es70_1 es70_2 es70_3
                exact h_vret rfl rfl (kk _ Is72 Fs72 (by omega))
              · exact h_wk [(0, .ref 64), (1, .int z49)] ⟨rfl, rfl, trivial⟩ (ih.2.1 _ Is42 Fs42 z49 _ hz49 (by omega) (by omega))
        · refine h_aload_n (pc' := 26) rfl rfl rfl ?_
          refine h_dup (pc' := 27) rfl rfl rfl ?_
          refine h_getI (pc' := 30) (v := s0 64 2) rfl rfl rfl rfl rfl rfl (fun z73 hz73 => ?_)
          have tz73 := tf_64_2 I0
          refine h_iconst (pc' := 31) (x := (Int32.ofInt 1)) rfl rfl rfl ?_
          refine h_iadd (pc' := 32) rfl rfl hz73 ci_1 rfl (by omega) (by omega) (fun z74 hz74 => ?_)
          refine h_put (pc' := 35) rfl rfl rfl rfl rfl rfl hz74 rfl (h_fgt (E := fun s => s 64 2 = ((s0 64 2) + 1) ∧ s 64 4 = s0 64 4 ∧ s 64 3 = s0 64 3 ∧ s 64 5 = s0 64 5) _ (if_64_2 I0 (by omega)) (F0_.up rfl) ⟨rfl, rfl, rfl, rfl⟩ (fun s75 Is75 Fs75 ⟨es75_0, es75_1, es75_2, es75_3⟩ => ?_))
          refine h_goto (pc' := 0) rfl rfl ?_
          exact h_wk [(0, .ref 64)] ⟨rfl, trivial⟩ (ih.1 _ Is75 Fs75  (by omega))
    · intro s0 I0 F0_ y1 b1 hy1 ry1 hm; have gh0 := tf_64_2 I0
      refine h_aload_n (pc' := 101) rfl rfl rfl ?_
      refine h_getI (pc' := 104) (v := s0 64 2) rfl rfl rfl rfl rfl rfl (fun z1 hz1 => ?_)
      have tz1 := tf_64_2 I0
      refine h_aload_n (pc' := 105) rfl rfl rfl ?_
      refine h_getI (pc' := 108) (v := σ 64 1) rfl rfl rfl rfl rfl (F0_ 64 1 rfl) (fun z2 hz2 => ?_)
      have tz2 := tf_64_1 hI
      refine h_cge (tg := 152) (pc' := 111) rfl rfl rfl hz1 hz2 (fun c3 => ?_) (fun c3 => ?_)
      · refine h_aload_n (pc' := 153) rfl rfl rfl ?_
        refine h_iconst (pc' := 154) (x := (Int32.ofInt 1)) rfl rfl rfl ?_
        refine h_put (pc' := 157) rfl rfl rfl rfl rfl rfl ci_1 rfl (h_fgt (E := fun s => s 64 2 = s0 64 2 ∧ s 64 4 = s0 64 4 ∧ s 64 3 = 1 ∧ s 64 5 = s0 64 5) _ (if_64_3 I0 (by omega)) (F0_.up rfl) ⟨rfl, rfl, rfl, rfl⟩ (fun s4 Is4 Fs4 ⟨es4_0, es4_1, es4_2, es4_3⟩ => ?_))
        refine h_goto (pc' := 298) rfl rfl ?_
        exact h_vret rfl rfl (kk _ Is4 Fs4 (by omega))
      · refine h_aload_n (pc' := 112) rfl rfl rfl ?_
        refine h_getR (pc' := 115) rfl rfl rfl rfl rfl ?_
        refine h_aload_n (pc' := 116) rfl rfl rfl ?_
        refine h_getI (pc' := 119) (v := s0 64 2) rfl rfl rfl rfl rfl rfl (fun z5 hz5 => ?_)
        have tz5 := tf_64_2 I0
        refine h_iald (pc' := 120) (v := σ 65 (s0 64 2)) rfl rfl rfl hz5 (by omega) (by omega) (F0_ 65 _ rfl) (fun z6 hz6 => ?_)
        have tz6 := ty_65 hI (s0 64 2)
        refine h_bipush (pc' := 122) (x := (Int32.ofInt 97)) rfl rfl cb_97 ?_
        refine h_clt (tg := 152) (pc' := 125) rfl rfl rfl hz6 ci_97 (fun c7 => ?_) (fun c7 => ?_)
        · refine h_aload_n (pc' := 153) rfl rfl rfl ?_
          refine h_iconst (pc' := 154) (x := (Int32.ofInt 1)) rfl rfl rfl ?_
          refine h_put (pc' := 157) rfl rfl rfl rfl rfl rfl ci_1 rfl (h_fgt (E := fun s => s 64 2 = s0 64 2 ∧ s 64 4 = s0 64 4 ∧ s 64 3 = 1 ∧ s 64 5 = s0 64 5) _ (if_64_3 I0 (by omega)) (F0_.up rfl) ⟨rfl, rfl, rfl, rfl⟩ (fun s8 Is8 Fs8 ⟨es8_0, es8_1, es8_2, es8_3⟩ => ?_))
          refine h_goto (pc' := 298) rfl rfl ?_
          exact h_vret rfl rfl (kk _ Is8 Fs8 (by omega))
        · refine h_aload_n (pc' := 126) rfl rfl rfl ?_
          refine h_getR (pc' := 129) rfl rfl rfl rfl rfl ?_
          refine h_aload_n (pc' := 130) rfl rfl rfl ?_
          refine h_getI (pc' := 133) (v := s0 64 2) rfl rfl rfl rfl rfl rfl (fun z9 hz9 => ?_)
          have tz9 := tf_64_2 I0
          refine h_iald (pc' := 134) (v := σ 65 (s0 64 2)) rfl rfl rfl hz9 (by omega) (by omega) (F0_ 65 _ rfl) (fun z10 hz10 => ?_)
          have tz10 := ty_65 hI (s0 64 2)
          refine h_bipush (pc' := 136) (x := (Int32.ofInt 122)) rfl rfl cb_122 ?_
          refine h_cgt (tg := 152) (pc' := 139) rfl rfl rfl hz10 ci_122 (fun c11 => ?_) (fun c11 => ?_)
          · refine h_aload_n (pc' := 153) rfl rfl rfl ?_
            refine h_iconst (pc' := 154) (x := (Int32.ofInt 1)) rfl rfl rfl ?_
            refine h_put (pc' := 157) rfl rfl rfl rfl rfl rfl ci_1 rfl (h_fgt (E := fun s => s 64 2 = s0 64 2 ∧ s 64 4 = s0 64 4 ∧ s 64 3 = 1 ∧ s 64 5 = s0 64 5) _ (if_64_3 I0 (by omega)) (F0_.up rfl) ⟨rfl, rfl, rfl, rfl⟩ (fun s12 Is12 Fs12 ⟨es12_0, es12_1, es12_2, es12_3⟩ => ?_))
            refine h_goto (pc' := 298) rfl rfl ?_
            exact h_vret rfl rfl (kk _ Is12 Fs12 (by omega))
          · refine h_aload_n (pc' := 140) rfl rfl rfl ?_
            refine h_dup (pc' := 141) rfl rfl rfl ?_
            refine h_getI (pc' := 144) (v := s0 64 2) rfl rfl rfl rfl rfl rfl (fun z13 hz13 => ?_)
            have tz13 := tf_64_2 I0
            refine h_iconst (pc' := 145) (x := (Int32.ofInt 1)) rfl rfl rfl ?_
            refine h_iadd (pc' := 146) rfl rfl hz13 ci_1 rfl (by omega) (by omega) (fun z14 hz14 => ?_)
            refine h_put (pc' := 149) rfl rfl rfl rfl rfl rfl hz14 rfl (h_fgt (E := fun s => s 64 2 = ((s0 64 2) + 1) ∧ s 64 4 = s0 64 4 ∧ s 64 3 = s0 64 3 ∧ s 64 5 = s0 64 5) _ (if_64_2 I0 (by omega)) (F0_.up rfl) ⟨rfl, rfl, rfl, rfl⟩ (fun s15 Is15 Fs15 ⟨es15_0, es15_1, es15_2, es15_3⟩ => ?_))
            refine h_goto (pc' := 100) rfl rfl ?_
            exact h_wk [(0, .ref 64), (1, .int y1)] ⟨rfl, rfl, trivial⟩ (ih.2.1 _ Is15 Fs15 y1 _ hy1 (by omega) (by omega))
    · intro s0 I0 F0_ y1 b1 hy1 ry1 ex0 ex1 ex2 ex3 hm; have gh0 := tf_64_2 I0
      refine h_aload_n (pc' := 173) rfl rfl rfl ?_
      refine h_getI (pc' := 176) (v := s0 64 2) rfl rfl rfl rfl rfl rfl (fun z1 hz1 => ?_)
      have tz1 := tf_64_2 I0
      refine h_aload_n (pc' := 177) rfl rfl rfl ?_
      refine h_getI (pc' := 180) (v := σ 64 1) rfl rfl rfl rfl rfl (F0_ 64 1 rfl) (fun z2 hz2 => ?_)
      have tz2 := tf_64_1 hI
      refine h_cge (tg := 248) (pc' := 183) rfl rfl rfl hz1 hz2 (fun c3 => ?_) (fun c3 => ?_)
      · refine h_aload_n (pc' := 249) rfl rfl rfl ?_
        refine h_aload_n (pc' := 250) rfl rfl rfl ?_
        refine h_getI (pc' := 253) (v := s0 64 2) rfl rfl rfl rfl rfl rfl (fun z4 hz4 => ?_)
        have tz4 := tf_64_2 I0
        refine h_aload_n (pc' := 254) rfl rfl rfl ?_
        refine h_getI (pc' := 257) (v := s0 64 4) rfl rfl rfl rfl rfl rfl (fun z5 hz5 => ?_)
        have tz5 := tf_64_4 I0
        refine h_isub (pc' := 258) rfl rfl hz4 hz5 rfl (by omega) (by omega) (fun z6 hz6 => ?_)
        refine h_iconst (pc' := 259) (x := (Int32.ofInt 2)) rfl rfl rfl ?_
        refine h_cgt (tg := 266) (pc' := 262) rfl rfl rfl hz6 ci_2 (fun c7 => ?_) (fun c7 => ?_)
        · refine h_iconst (pc' := 267) (x := (Int32.ofInt 4)) rfl rfl rfl ?_
          refine h_put (pc' := 270) rfl rfl rfl rfl rfl rfl ci_4 rfl (h_fgt (E := fun s => s 64 2 = s0 64 2 ∧ s 64 4 = s0 64 4 ∧ s 64 3 = 4 ∧ s 64 5 = s0 64 5) _ (if_64_3 I0 (by omega)) (F0_.up rfl) ⟨rfl, rfl, rfl, rfl⟩ (fun s8 Is8 Fs8 ⟨es8_0, es8_1, es8_2, es8_3⟩ => ?_))
          refine h_goto (pc' := 298) rfl rfl ?_
          exact h_vret rfl rfl (kk _ Is8 Fs8 (by omega))
        · refine h_iconst (pc' := 263) (x := (Int32.ofInt 2)) rfl rfl rfl ?_
          refine h_goto (pc' := 267) rfl rfl ?_
          refine h_put (pc' := 270) rfl rfl rfl rfl rfl rfl ci_2 rfl (h_fgt (E := fun s => s 64 2 = s0 64 2 ∧ s 64 4 = s0 64 4 ∧ s 64 3 = 2 ∧ s 64 5 = s0 64 5) _ (if_64_3 I0 (by omega)) (F0_.up rfl) ⟨rfl, rfl, rfl, rfl⟩ (fun s9 Is9 Fs9 ⟨es9_0, es9_1, es9_2, es9_3⟩ => ?_))
          refine h_goto (pc' := 298) rfl rfl ?_
          exact h_vret rfl rfl (kk _ Is9 Fs9 (by omega))
      · refine h_aload_n (pc' := 184) rfl rfl rfl ?_
        refine h_getR (pc' := 187) rfl rfl rfl rfl rfl ?_
        refine h_aload_n (pc' := 188) rfl rfl rfl ?_
        refine h_getI (pc' := 191) (v := s0 64 2) rfl rfl rfl rfl rfl rfl (fun z10 hz10 => ?_)
        have tz10 := tf_64_2 I0
        refine h_iald (pc' := 192) (v := σ 65 (s0 64 2)) rfl rfl rfl hz10 (by omega) (by omega) (F0_ 65 _ rfl) (fun z11 hz11 => ?_)
        have tz11 := ty_65 hI (s0 64 2)
        refine h_bipush (pc' := 194) (x := (Int32.ofInt 48)) rfl rfl cb_48 ?_
        refine h_clt (tg := 248) (pc' := 197) rfl rfl rfl hz11 ci_48 (fun c12 => ?_) (fun c12 => ?_)
        · refine h_aload_n (pc' := 249) rfl rfl rfl ?_
          refine h_aload_n (pc' := 250) rfl rfl rfl ?_
          refine h_getI (pc' := 253) (v := s0 64 2) rfl rfl rfl rfl rfl rfl (fun z13 hz13 => ?_)
          have tz13 := tf_64_2 I0
          refine h_aload_n (pc' := 254) rfl rfl rfl ?_
          refine h_getI (pc' := 257) (v := s0 64 4) rfl rfl rfl rfl rfl rfl (fun z14 hz14 => ?_)
          have tz14 := tf_64_4 I0
          refine h_isub (pc' := 258) rfl rfl hz13 hz14 rfl (by omega) (by omega) (fun z15 hz15 => ?_)
          refine h_iconst (pc' := 259) (x := (Int32.ofInt 2)) rfl rfl rfl ?_
          refine h_cgt (tg := 266) (pc' := 262) rfl rfl rfl hz15 ci_2 (fun c16 => ?_) (fun c16 => ?_)
          · refine h_iconst (pc' := 267) (x := (Int32.ofInt 4)) rfl rfl rfl ?_
            refine h_put (pc' := 270) rfl rfl rfl rfl rfl rfl ci_4 rfl (h_fgt (E := fun s => s 64 2 = s0 64 2 ∧ s 64 4 = s0 64 4 ∧ s 64 3 = 4 ∧ s 64 5 = s0 64 5) _ (if_64_3 I0 (by omega)) (F0_.up rfl) ⟨rfl, rfl, rfl, rfl⟩ (fun s17 Is17 Fs17 ⟨es17_0, es17_1, es17_2, es17_3⟩ => ?_))
            refine h_goto (pc' := 298) rfl rfl ?_
            exact h_vret rfl rfl (kk _ Is17 Fs17 (by omega))
          · refine h_iconst (pc' := 263) (x := (Int32.ofInt 2)) rfl rfl rfl ?_
            refine h_goto (pc' := 267) rfl rfl ?_
            refine h_put (pc' := 270) rfl rfl rfl rfl rfl rfl ci_2 rfl (h_fgt (E := fun s => s 64 2 = s0 64 2 ∧ s 64 4 = s0 64 4 ∧ s 64 3 = 2 ∧ s 64 5 = s0 64 5) _ (if_64_3 I0 (by omega)) (F0_.up rfl) ⟨rfl, rfl, rfl, rfl⟩ (fun s18 Is18 Fs18 ⟨es18_0, es18_1, es18_2, es18_3⟩ => ?_))
            refine h_goto (pc' := 298) rfl rfl ?_
            exact h_vret rfl rfl (kk _ Is18 Fs18 (by omega))
        · refine h_aload_n (pc' := 198) rfl rfl rfl ?_
          refine h_getR (pc' := 201) rfl rfl rfl rfl rfl ?_
          refine h_aload_n (pc' := 202) rfl rfl rfl ?_
          refine h_getI (pc' := 205) (v := s0 64 2) rfl rfl rfl rfl rfl rfl (fun z19 hz19 => ?_)
          have tz19 := tf_64_2 I0
          refine h_iald (pc' := 206) (v := σ 65 (s0 64 2)) rfl rfl rfl hz19 (by omega) (by omega) (F0_ 65 _ rfl) (fun z20 hz20 => ?_)
          have tz20 := ty_65 hI (s0 64 2)
          refine h_bipush (pc' := 208) (x := (Int32.ofInt 57)) rfl rfl cb_57 ?_
          refine h_cgt (tg := 248) (pc' := 211) rfl rfl rfl hz20 ci_57 (fun c21 => ?_) (fun c21 => ?_)
          · refine h_aload_n (pc' := 249) rfl rfl rfl ?_
            refine h_aload_n (pc' := 250) rfl rfl rfl ?_
            refine h_getI (pc' := 253) (v := s0 64 2) rfl rfl rfl rfl rfl rfl (fun z22 hz22 => ?_)
            have tz22 := tf_64_2 I0
            refine h_aload_n (pc' := 254) rfl rfl rfl ?_
            refine h_getI (pc' := 257) (v := s0 64 4) rfl rfl rfl rfl rfl rfl (fun z23 hz23 => ?_)
            have tz23 := tf_64_4 I0
            refine h_isub (pc' := 258) rfl rfl hz22 hz23 rfl (by omega) (by omega) (fun z24 hz24 => ?_)
            refine h_iconst (pc' := 259) (x := (Int32.ofInt 2)) rfl rfl rfl ?_
            refine h_cgt (tg := 266) (pc' := 262) rfl rfl rfl hz24 ci_2 (fun c25 => ?_) (fun c25 => ?_)
            · refine h_iconst (pc' := 267) (x := (Int32.ofInt 4)) rfl rfl rfl ?_
              refine h_put (pc' := 270) rfl rfl rfl rfl rfl rfl ci_4 rfl (h_fgt (E := fun s => s 64 2 = s0 64 2 ∧ s 64 4 = s0 64 4 ∧ s 64 3 = 4 ∧ s 64 5 = s0 64 5) _ (if_64_3 I0 (by omega)) (F0_.up rfl) ⟨rfl, rfl, rfl, rfl⟩ (fun s26 Is26 Fs26 ⟨es26_0, es26_1, es26_2, es26_3⟩ => ?_))
              refine h_goto (pc' := 298) rfl rfl ?_
              exact h_vret rfl rfl (kk _ Is26 Fs26 (by omega))
            · refine h_iconst (pc' := 263) (x := (Int32.ofInt 2)) rfl rfl rfl ?_
              refine h_goto (pc' := 267) rfl rfl ?_
              refine h_put (pc' := 270) rfl rfl rfl rfl rfl rfl ci_2 rfl (h_fgt (E := fun s => s 64 2 = s0 64 2 ∧ s 64 4 = s0 64 4 ∧ s 64 3 = 2 ∧ s 64 5 = s0 64 5) _ (if_64_3 I0 (by omega)) (F0_.up rfl) ⟨rfl, rfl, rfl, rfl⟩ (fun s27 Is27 Fs27 ⟨es27_0, es27_1, es27_2, es27_3⟩ => ?_))
              refine h_goto (pc' := 298) rfl rfl ?_
              exact h_vret rfl rfl (kk _ Is27 Fs27 (by omega))
          · refine h_aload_n (pc' := 212) rfl rfl rfl ?_
            refine h_aload_n (pc' := 213) rfl rfl rfl ?_
            refine h_getI (pc' := 216) (v := s0 64 5) rfl rfl rfl rfl rfl rfl (fun z28 hz28 => ?_)
            have tz28 := tf_64_5 I0
            refine h_bipush (pc' := 218) (x := (Int32.ofInt 10)) rfl rfl cb_10 ?_
            refine h_imulA (pc' := 219) rfl rfl (fun z29 hz29 => ?_)
            have dz29 := h_imulC hz28 ci_10 hz29
            refine h_aload_n (pc' := 220) rfl rfl rfl ?_
            refine h_getR (pc' := 223) rfl rfl rfl rfl rfl ?_
            refine h_aload_n (pc' := 224) rfl rfl rfl ?_
            refine h_getI (pc' := 227) (v := s0 64 2) rfl rfl rfl rfl rfl rfl (fun z30 hz30 => ?_)
            have tz30 := tf_64_2 I0
            refine h_iald (pc' := 228) (v := σ 65 (s0 64 2)) rfl rfl rfl hz30 (by omega) (by omega) (F0_ 65 _ rfl) (fun z31 hz31 => ?_)
            have tz31 := ty_65 hI (s0 64 2)
            refine h_iaddA (pc' := 229) rfl rfl (fun z32 hz32 => ?_)
            have dz32 := h_iaddC (rfl : z29.toInt = _) hz31 hz32
            refine h_bipush (pc' := 231) (x := (Int32.ofInt 48)) rfl rfl cb_48 ?_
            refine h_isubA (pc' := 232) rfl rfl (fun z33 hz33 => ?_)
            have dz33 := h_isubC (rfl : z32.toInt = _) ci_48 hz33
            refine h_put (pc' := 235) rfl rfl rfl rfl rfl rfl rfl rfl (h_fgt (E := fun s => s 64 2 = s0 64 2 ∧ s 64 4 = s0 64 4 ∧ s 64 3 = s0 64 3 ∧ s 64 5 = z33.toInt) _ (if_64_5 I0 (h_rgv rfl)) (F0_.up rfl) ⟨rfl, rfl, rfl, rfl⟩ (fun s34 Is34 Fs34 ⟨es34_0, es34_1, es34_2, es34_3⟩ => ?_))
            refine h_aload_n (pc' := 236) rfl rfl rfl ?_
            refine h_dup (pc' := 237) rfl rfl rfl ?_
            refine h_getI (pc' := 240) (v := s0 64 2) rfl rfl rfl rfl rfl es34_0 (fun z35 hz35 => ?_)
            have tz35 := tf_64_2 I0
            refine h_iconst (pc' := 241) (x := (Int32.ofInt 1)) rfl rfl rfl ?_
            refine h_iadd (pc' := 242) rfl rfl hz35 ci_1 rfl (by omega) (by omega) (fun z36 hz36 => ?_)
            refine h_put (pc' := 245) rfl rfl rfl rfl rfl rfl hz36 rfl (h_fgt (E := fun s => s 64 2 = ((s0 64 2) + 1) ∧ s 64 4 = s0 64 4 ∧ s 64 3 = s0 64 3 ∧ s 64 5 = z33.toInt) _ (if_64_2 Is34 (by omega)) (Fs34.up rfl) ⟨rfl, es34_1, es34_2, es34_3⟩ (fun s37 Is37 Fs37 ⟨es37_0, es37_1, es37_2, es37_3⟩ => ?_))
            clear es34_0 es34_1 es34_2 es34_3
            refine h_goto (pc' := 172) rfl rfl ?_
            exact h_wk [(0, .ref 64), (1, .int y1)] ⟨rfl, rfl, trivial⟩ (ih.2.2 _ Is37 Fs37 y1 _ hy1 (by omega) (by omega) (by omega) (by omega) (by omega) (by omega))
theorem v_readToken {ns : Nat} (σ : h_S) (hI : h_I σ) {Q : Option Value → h_S → Prop} (kk : ∀ (τ : h_S), h_I τ → h_F k_lx τ σ → (¬ τ 64 3 = 2 ∨ (0 ≤ τ 64 5 ∧ τ 64 5 ≤ 99)) → Q none τ) : h_T g_P (g_Y ns) 75 0 [(0, .ref 64)] [] σ Q := by
  have F00 : h_F k_lx σ σ := h_F.rf
  exact h_wk [(0, .ref 64)] ⟨rfl, trivial⟩ ((v_readToken_l ns σ hI  kk 1000000000000).1 _ hI F00  (by omega))
theorem v_isName0_l (ns : Nat) (σ : h_S) (hI : h_I σ) {Q : Option Value → h_S → Prop} (kk : ∀ (r : Int32) (b : Int) (hb : r.toInt = b), (0 ≤ b ∧ b ≤ 1) → Q (some (.int r)) σ) : ∀ n : Nat, (∀ (y2 : Int32) (b2 : Int), y2.toInt = b2 → (0 ≤ b2 ∧ b2 ≤ 5) → (5 + 1 - b2) * 1000000 + 1000000000 ≤ (n : Int) → h_T g_P (g_Y ns) 77 20 [(0, .ref 64), (1, .ref 1), (2, .int y2)] [] σ Q) := by
  intro n
  induction n with
  | zero => exact by intro  y2 b2 hy2 ry2 hm; exfalso; omega
  | succ n ih =>
    intro  y2 b2 hy2 ry2 hm
    refine h_iload_n (pc' := 21) rfl rfl rfl ?_
    refine h_aload_n (pc' := 22) rfl rfl rfl ?_
    refine h_str (pc' := 25) (x := (Int32.ofInt 5)) rfl rfl rfl rfl rfl ?_
    refine h_cge (tg := 55) (pc' := 28) rfl rfl rfl hy2 ci_5 (fun c1 => ?_) (fun c1 => ?_)
    · refine h_iconst (pc' := 56) (x := (Int32.ofInt 1)) rfl rfl rfl ?_
      exact h_zret rfl rfl ci_1 (by omega) (kk _ _ ci_1 (by omega))
    · refine h_aload_n (pc' := 29) rfl rfl rfl ?_
      refine h_getR (pc' := 32) rfl rfl rfl rfl rfl ?_
      refine h_aload_n (pc' := 33) rfl rfl rfl ?_
      refine h_getI (pc' := 36) (v := σ 64 4) rfl rfl rfl rfl rfl rfl (fun z2 hz2 => ?_)
      have tz2 := tf_64_4 hI
      refine h_iload_n (pc' := 37) rfl rfl rfl ?_
      refine h_iadd (pc' := 38) rfl rfl hz2 hy2 rfl (by omega) (by omega) (fun z3 hz3 => ?_)
      refine h_iald (pc' := 39) (v := σ 65 ((σ 64 4) + b2)) rfl rfl rfl hz3 (by omega) (by omega) rfl (fun z4 hz4 => ?_)
      have tz4 := ty_65 hI ((σ 64 4) + b2)
      refine h_aload_n (pc' := 40) rfl rfl rfl ?_
      refine h_iload_n (pc' := 41) rfl rfl rfl ?_
      refine h_chr (pc' := 44) (b := g_tx 1) rfl rfl rfl rfl hy2 (by omega) (by show _ < ((5 : Nat) : Int); omega) rfl (fun z5 hz5 => ?_)
      refine h_ceq (tg := 49) (pc' := 47) rfl rfl rfl hz4 rfl (fun c6 => ?_) (fun c6 => ?_)
      · refine h_iinc (pc' := 52) (M := fun z7 => [(2, .int z7), (0, .ref 64), (1, .ref 1)]) rfl rfl rfl rfl hy2 ci_1 rfl (by omega) (by omega) (fun _ => rfl) (fun z7 hz7 => ?_)
        refine h_goto (pc' := 20) rfl rfl ?_
        exact h_wk [(0, .ref 64), (1, .ref 1), (2, .int z7)] ⟨rfl, rfl, rfl, trivial⟩ (ih z7 _ hz7 (by omega) (by omega))
      · refine h_iconst (pc' := 48) (x := (Int32.ofInt 0)) rfl rfl rfl ?_
        exact h_zret rfl rfl ci_0 (by omega) (kk _ _ ci_0 (by omega))
theorem v_isName0 {ns : Nat} (σ : h_S) (hI : h_I σ) {Q : Option Value → h_S → Prop} (kk : ∀ (r : Int32) (b : Int) (hb : r.toInt = b), (0 ≤ b ∧ b ≤ 1) → Q (some (.int r)) σ) : h_T g_P (g_Y ns) 77 0 [(0, .ref 64), (1, .ref 1)] [] σ Q := by
  have F00 : h_F k_sc σ σ := h_F.rf
  refine h_aload_n (pc' := 1) rfl rfl rfl ?_
  refine h_getI (pc' := 4) (v := σ 64 2) rfl rfl rfl rfl rfl rfl (fun z1 hz1 => ?_)
  have tz1 := tf_64_2 hI
  refine h_aload_n (pc' := 5) rfl rfl rfl ?_
  refine h_getI (pc' := 8) (v := σ 64 4) rfl rfl rfl rfl rfl rfl (fun z2 hz2 => ?_)
  have tz2 := tf_64_4 hI
  refine h_isub (pc' := 9) rfl rfl hz1 hz2 rfl (by omega) (by omega) (fun z3 hz3 => ?_)
  refine h_aload_n (pc' := 10) rfl rfl rfl ?_
  refine h_str (pc' := 13) (x := (Int32.ofInt 5)) rfl rfl rfl rfl rfl ?_
  refine h_ceq (tg := 18) (pc' := 16) rfl rfl rfl hz3 ci_5 (fun c4 => ?_) (fun c4 => ?_)
  · refine h_iconst (pc' := 19) (x := (Int32.ofInt 0)) rfl rfl rfl ?_
    refine h_istore_n (pc' := 20) (M := [(2, .int (Int32.ofInt 0)), (0, .ref 64), (1, .ref 1)]) rfl rfl rfl rfl ?_
    exact h_wk [(0, .ref 64), (1, .ref 1), (2, .int (Int32.ofInt 0))] ⟨rfl, rfl, rfl, trivial⟩ ((v_isName0_l ns σ hI  kk 1000000000000) (Int32.ofInt 0) _ ci_0 (by omega) (by omega))
  · refine h_iconst (pc' := 17) (x := (Int32.ofInt 0)) rfl rfl rfl ?_
    exact h_zret rfl rfl ci_0 (by omega) (kk _ _ ci_0 (by omega))
theorem v_isName1_l (ns : Nat) (σ : h_S) (hI : h_I σ) {Q : Option Value → h_S → Prop} (kk : ∀ (r : Int32) (b : Int) (hb : r.toInt = b), (0 ≤ b ∧ b ≤ 1) → Q (some (.int r)) σ) : ∀ n : Nat, (∀ (y2 : Int32) (b2 : Int), y2.toInt = b2 → (0 ≤ b2 ∧ b2 ≤ 7) → (7 + 1 - b2) * 1000000 + 1000000000 ≤ (n : Int) → h_T g_P (g_Y ns) 77 20 [(0, .ref 64), (1, .ref 2), (2, .int y2)] [] σ Q) := by
  intro n
  induction n with
  | zero => exact by intro  y2 b2 hy2 ry2 hm; exfalso; omega
  | succ n ih =>
    intro  y2 b2 hy2 ry2 hm
    refine h_iload_n (pc' := 21) rfl rfl rfl ?_
    refine h_aload_n (pc' := 22) rfl rfl rfl ?_
    refine h_str (pc' := 25) (x := (Int32.ofInt 7)) rfl rfl rfl rfl rfl ?_
    refine h_cge (tg := 55) (pc' := 28) rfl rfl rfl hy2 ci_7 (fun c1 => ?_) (fun c1 => ?_)
    · refine h_iconst (pc' := 56) (x := (Int32.ofInt 1)) rfl rfl rfl ?_
      exact h_zret rfl rfl ci_1 (by omega) (kk _ _ ci_1 (by omega))
    · refine h_aload_n (pc' := 29) rfl rfl rfl ?_
      refine h_getR (pc' := 32) rfl rfl rfl rfl rfl ?_
      refine h_aload_n (pc' := 33) rfl rfl rfl ?_
      refine h_getI (pc' := 36) (v := σ 64 4) rfl rfl rfl rfl rfl rfl (fun z2 hz2 => ?_)
      have tz2 := tf_64_4 hI
      refine h_iload_n (pc' := 37) rfl rfl rfl ?_
      refine h_iadd (pc' := 38) rfl rfl hz2 hy2 rfl (by omega) (by omega) (fun z3 hz3 => ?_)
      refine h_iald (pc' := 39) (v := σ 65 ((σ 64 4) + b2)) rfl rfl rfl hz3 (by omega) (by omega) rfl (fun z4 hz4 => ?_)
      have tz4 := ty_65 hI ((σ 64 4) + b2)
      refine h_aload_n (pc' := 40) rfl rfl rfl ?_
      refine h_iload_n (pc' := 41) rfl rfl rfl ?_
      refine h_chr (pc' := 44) (b := g_tx 2) rfl rfl rfl rfl hy2 (by omega) (by show _ < ((7 : Nat) : Int); omega) rfl (fun z5 hz5 => ?_)
      refine h_ceq (tg := 49) (pc' := 47) rfl rfl rfl hz4 rfl (fun c6 => ?_) (fun c6 => ?_)
      · refine h_iinc (pc' := 52) (M := fun z7 => [(2, .int z7), (0, .ref 64), (1, .ref 2)]) rfl rfl rfl rfl hy2 ci_1 rfl (by omega) (by omega) (fun _ => rfl) (fun z7 hz7 => ?_)
        refine h_goto (pc' := 20) rfl rfl ?_
        exact h_wk [(0, .ref 64), (1, .ref 2), (2, .int z7)] ⟨rfl, rfl, rfl, trivial⟩ (ih z7 _ hz7 (by omega) (by omega))
      · refine h_iconst (pc' := 48) (x := (Int32.ofInt 0)) rfl rfl rfl ?_
        exact h_zret rfl rfl ci_0 (by omega) (kk _ _ ci_0 (by omega))
theorem v_isName1 {ns : Nat} (σ : h_S) (hI : h_I σ) {Q : Option Value → h_S → Prop} (kk : ∀ (r : Int32) (b : Int) (hb : r.toInt = b), (0 ≤ b ∧ b ≤ 1) → Q (some (.int r)) σ) : h_T g_P (g_Y ns) 77 0 [(0, .ref 64), (1, .ref 2)] [] σ Q := by
  have F00 : h_F k_sc σ σ := h_F.rf
  refine h_aload_n (pc' := 1) rfl rfl rfl ?_
  refine h_getI (pc' := 4) (v := σ 64 2) rfl rfl rfl rfl rfl rfl (fun z1 hz1 => ?_)
  have tz1 := tf_64_2 hI
  refine h_aload_n (pc' := 5) rfl rfl rfl ?_
  refine h_getI (pc' := 8) (v := σ 64 4) rfl rfl rfl rfl rfl rfl (fun z2 hz2 => ?_)
  have tz2 := tf_64_4 hI
  refine h_isub (pc' := 9) rfl rfl hz1 hz2 rfl (by omega) (by omega) (fun z3 hz3 => ?_)
  refine h_aload_n (pc' := 10) rfl rfl rfl ?_
  refine h_str (pc' := 13) (x := (Int32.ofInt 7)) rfl rfl rfl rfl rfl ?_
  refine h_ceq (tg := 18) (pc' := 16) rfl rfl rfl hz3 ci_7 (fun c4 => ?_) (fun c4 => ?_)
  · refine h_iconst (pc' := 19) (x := (Int32.ofInt 0)) rfl rfl rfl ?_
    refine h_istore_n (pc' := 20) (M := [(2, .int (Int32.ofInt 0)), (0, .ref 64), (1, .ref 2)]) rfl rfl rfl rfl ?_
    exact h_wk [(0, .ref 64), (1, .ref 2), (2, .int (Int32.ofInt 0))] ⟨rfl, rfl, rfl, trivial⟩ ((v_isName1_l ns σ hI  kk 1000000000000) (Int32.ofInt 0) _ ci_0 (by omega) (by omega))
  · refine h_iconst (pc' := 17) (x := (Int32.ofInt 0)) rfl rfl rfl ?_
    exact h_zret rfl rfl ci_0 (by omega) (kk _ _ ci_0 (by omega))
theorem v_isName2_l (ns : Nat) (σ : h_S) (hI : h_I σ) {Q : Option Value → h_S → Prop} (kk : ∀ (r : Int32) (b : Int) (hb : r.toInt = b), (0 ≤ b ∧ b ≤ 1) → Q (some (.int r)) σ) : ∀ n : Nat, (∀ (y2 : Int32) (b2 : Int), y2.toInt = b2 → (0 ≤ b2 ∧ b2 ≤ 7) → (7 + 1 - b2) * 1000000 + 1000000000 ≤ (n : Int) → h_T g_P (g_Y ns) 77 20 [(0, .ref 64), (1, .ref 3), (2, .int y2)] [] σ Q) := by
  intro n
  induction n with
  | zero => exact by intro  y2 b2 hy2 ry2 hm; exfalso; omega
  | succ n ih =>
    intro  y2 b2 hy2 ry2 hm
    refine h_iload_n (pc' := 21) rfl rfl rfl ?_
    refine h_aload_n (pc' := 22) rfl rfl rfl ?_
    refine h_str (pc' := 25) (x := (Int32.ofInt 7)) rfl rfl rfl rfl rfl ?_
    refine h_cge (tg := 55) (pc' := 28) rfl rfl rfl hy2 ci_7 (fun c1 => ?_) (fun c1 => ?_)
    · refine h_iconst (pc' := 56) (x := (Int32.ofInt 1)) rfl rfl rfl ?_
      exact h_zret rfl rfl ci_1 (by omega) (kk _ _ ci_1 (by omega))
    · refine h_aload_n (pc' := 29) rfl rfl rfl ?_
      refine h_getR (pc' := 32) rfl rfl rfl rfl rfl ?_
      refine h_aload_n (pc' := 33) rfl rfl rfl ?_
      refine h_getI (pc' := 36) (v := σ 64 4) rfl rfl rfl rfl rfl rfl (fun z2 hz2 => ?_)
      have tz2 := tf_64_4 hI
      refine h_iload_n (pc' := 37) rfl rfl rfl ?_
      refine h_iadd (pc' := 38) rfl rfl hz2 hy2 rfl (by omega) (by omega) (fun z3 hz3 => ?_)
      refine h_iald (pc' := 39) (v := σ 65 ((σ 64 4) + b2)) rfl rfl rfl hz3 (by omega) (by omega) rfl (fun z4 hz4 => ?_)
      have tz4 := ty_65 hI ((σ 64 4) + b2)
      refine h_aload_n (pc' := 40) rfl rfl rfl ?_
      refine h_iload_n (pc' := 41) rfl rfl rfl ?_
      refine h_chr (pc' := 44) (b := g_tx 3) rfl rfl rfl rfl hy2 (by omega) (by show _ < ((7 : Nat) : Int); omega) rfl (fun z5 hz5 => ?_)
      refine h_ceq (tg := 49) (pc' := 47) rfl rfl rfl hz4 rfl (fun c6 => ?_) (fun c6 => ?_)
      · refine h_iinc (pc' := 52) (M := fun z7 => [(2, .int z7), (0, .ref 64), (1, .ref 3)]) rfl rfl rfl rfl hy2 ci_1 rfl (by omega) (by omega) (fun _ => rfl) (fun z7 hz7 => ?_)
        refine h_goto (pc' := 20) rfl rfl ?_
        exact h_wk [(0, .ref 64), (1, .ref 3), (2, .int z7)] ⟨rfl, rfl, rfl, trivial⟩ (ih z7 _ hz7 (by omega) (by omega))
      · refine h_iconst (pc' := 48) (x := (Int32.ofInt 0)) rfl rfl rfl ?_
        exact h_zret rfl rfl ci_0 (by omega) (kk _ _ ci_0 (by omega))
theorem v_isName2 {ns : Nat} (σ : h_S) (hI : h_I σ) {Q : Option Value → h_S → Prop} (kk : ∀ (r : Int32) (b : Int) (hb : r.toInt = b), (0 ≤ b ∧ b ≤ 1) → Q (some (.int r)) σ) : h_T g_P (g_Y ns) 77 0 [(0, .ref 64), (1, .ref 3)] [] σ Q := by
  have F00 : h_F k_sc σ σ := h_F.rf
  refine h_aload_n (pc' := 1) rfl rfl rfl ?_
  refine h_getI (pc' := 4) (v := σ 64 2) rfl rfl rfl rfl rfl rfl (fun z1 hz1 => ?_)
  have tz1 := tf_64_2 hI
  refine h_aload_n (pc' := 5) rfl rfl rfl ?_
  refine h_getI (pc' := 8) (v := σ 64 4) rfl rfl rfl rfl rfl rfl (fun z2 hz2 => ?_)
  have tz2 := tf_64_4 hI
  refine h_isub (pc' := 9) rfl rfl hz1 hz2 rfl (by omega) (by omega) (fun z3 hz3 => ?_)
  refine h_aload_n (pc' := 10) rfl rfl rfl ?_
  refine h_str (pc' := 13) (x := (Int32.ofInt 7)) rfl rfl rfl rfl rfl ?_
  refine h_ceq (tg := 18) (pc' := 16) rfl rfl rfl hz3 ci_7 (fun c4 => ?_) (fun c4 => ?_)
  · refine h_iconst (pc' := 19) (x := (Int32.ofInt 0)) rfl rfl rfl ?_
    refine h_istore_n (pc' := 20) (M := [(2, .int (Int32.ofInt 0)), (0, .ref 64), (1, .ref 3)]) rfl rfl rfl rfl ?_
    exact h_wk [(0, .ref 64), (1, .ref 3), (2, .int (Int32.ofInt 0))] ⟨rfl, rfl, rfl, trivial⟩ ((v_isName2_l ns σ hI  kk 1000000000000) (Int32.ofInt 0) _ ci_0 (by omega) (by omega))
  · refine h_iconst (pc' := 17) (x := (Int32.ofInt 0)) rfl rfl rfl ?_
    exact h_zret rfl rfl ci_0 (by omega) (kk _ _ ci_0 (by omega))
theorem v_isName3_l (ns : Nat) (σ : h_S) (hI : h_I σ) {Q : Option Value → h_S → Prop} (kk : ∀ (r : Int32) (b : Int) (hb : r.toInt = b), (0 ≤ b ∧ b ≤ 1) → Q (some (.int r)) σ) : ∀ n : Nat, (∀ (y2 : Int32) (b2 : Int), y2.toInt = b2 → (0 ≤ b2 ∧ b2 ≤ 8) → (8 + 1 - b2) * 1000000 + 1000000000 ≤ (n : Int) → h_T g_P (g_Y ns) 77 20 [(0, .ref 64), (1, .ref 4), (2, .int y2)] [] σ Q) := by
  intro n
  induction n with
  | zero => exact by intro  y2 b2 hy2 ry2 hm; exfalso; omega
  | succ n ih =>
    intro  y2 b2 hy2 ry2 hm
    refine h_iload_n (pc' := 21) rfl rfl rfl ?_
    refine h_aload_n (pc' := 22) rfl rfl rfl ?_
    refine h_str (pc' := 25) (x := (Int32.ofInt 8)) rfl rfl rfl rfl rfl ?_
    refine h_cge (tg := 55) (pc' := 28) rfl rfl rfl hy2 ci_8 (fun c1 => ?_) (fun c1 => ?_)
    · refine h_iconst (pc' := 56) (x := (Int32.ofInt 1)) rfl rfl rfl ?_
      exact h_zret rfl rfl ci_1 (by omega) (kk _ _ ci_1 (by omega))
    · refine h_aload_n (pc' := 29) rfl rfl rfl ?_
      refine h_getR (pc' := 32) rfl rfl rfl rfl rfl ?_
      refine h_aload_n (pc' := 33) rfl rfl rfl ?_
      refine h_getI (pc' := 36) (v := σ 64 4) rfl rfl rfl rfl rfl rfl (fun z2 hz2 => ?_)
      have tz2 := tf_64_4 hI
      refine h_iload_n (pc' := 37) rfl rfl rfl ?_
      refine h_iadd (pc' := 38) rfl rfl hz2 hy2 rfl (by omega) (by omega) (fun z3 hz3 => ?_)
      refine h_iald (pc' := 39) (v := σ 65 ((σ 64 4) + b2)) rfl rfl rfl hz3 (by omega) (by omega) rfl (fun z4 hz4 => ?_)
      have tz4 := ty_65 hI ((σ 64 4) + b2)
      refine h_aload_n (pc' := 40) rfl rfl rfl ?_
      refine h_iload_n (pc' := 41) rfl rfl rfl ?_
      refine h_chr (pc' := 44) (b := g_tx 4) rfl rfl rfl rfl hy2 (by omega) (by show _ < ((8 : Nat) : Int); omega) rfl (fun z5 hz5 => ?_)
      refine h_ceq (tg := 49) (pc' := 47) rfl rfl rfl hz4 rfl (fun c6 => ?_) (fun c6 => ?_)
      · refine h_iinc (pc' := 52) (M := fun z7 => [(2, .int z7), (0, .ref 64), (1, .ref 4)]) rfl rfl rfl rfl hy2 ci_1 rfl (by omega) (by omega) (fun _ => rfl) (fun z7 hz7 => ?_)
        refine h_goto (pc' := 20) rfl rfl ?_
        exact h_wk [(0, .ref 64), (1, .ref 4), (2, .int z7)] ⟨rfl, rfl, rfl, trivial⟩ (ih z7 _ hz7 (by omega) (by omega))
      · refine h_iconst (pc' := 48) (x := (Int32.ofInt 0)) rfl rfl rfl ?_
        exact h_zret rfl rfl ci_0 (by omega) (kk _ _ ci_0 (by omega))
theorem v_isName3 {ns : Nat} (σ : h_S) (hI : h_I σ) {Q : Option Value → h_S → Prop} (kk : ∀ (r : Int32) (b : Int) (hb : r.toInt = b), (0 ≤ b ∧ b ≤ 1) → Q (some (.int r)) σ) : h_T g_P (g_Y ns) 77 0 [(0, .ref 64), (1, .ref 4)] [] σ Q := by
  have F00 : h_F k_sc σ σ := h_F.rf
  refine h_aload_n (pc' := 1) rfl rfl rfl ?_
  refine h_getI (pc' := 4) (v := σ 64 2) rfl rfl rfl rfl rfl rfl (fun z1 hz1 => ?_)
  have tz1 := tf_64_2 hI
  refine h_aload_n (pc' := 5) rfl rfl rfl ?_
  refine h_getI (pc' := 8) (v := σ 64 4) rfl rfl rfl rfl rfl rfl (fun z2 hz2 => ?_)
  have tz2 := tf_64_4 hI
  refine h_isub (pc' := 9) rfl rfl hz1 hz2 rfl (by omega) (by omega) (fun z3 hz3 => ?_)
  refine h_aload_n (pc' := 10) rfl rfl rfl ?_
  refine h_str (pc' := 13) (x := (Int32.ofInt 8)) rfl rfl rfl rfl rfl ?_
  refine h_ceq (tg := 18) (pc' := 16) rfl rfl rfl hz3 ci_8 (fun c4 => ?_) (fun c4 => ?_)
  · refine h_iconst (pc' := 19) (x := (Int32.ofInt 0)) rfl rfl rfl ?_
    refine h_istore_n (pc' := 20) (M := [(2, .int (Int32.ofInt 0)), (0, .ref 64), (1, .ref 4)]) rfl rfl rfl rfl ?_
    exact h_wk [(0, .ref 64), (1, .ref 4), (2, .int (Int32.ofInt 0))] ⟨rfl, rfl, rfl, trivial⟩ ((v_isName3_l ns σ hI  kk 1000000000000) (Int32.ofInt 0) _ ci_0 (by omega) (by omega))
  · refine h_iconst (pc' := 17) (x := (Int32.ofInt 0)) rfl rfl rfl ?_
    exact h_zret rfl rfl ci_0 (by omega) (kk _ _ ci_0 (by omega))
theorem v_isName4_l (ns : Nat) (σ : h_S) (hI : h_I σ) {Q : Option Value → h_S → Prop} (kk : ∀ (r : Int32) (b : Int) (hb : r.toInt = b), (0 ≤ b ∧ b ≤ 1) → Q (some (.int r)) σ) : ∀ n : Nat, (∀ (y2 : Int32) (b2 : Int), y2.toInt = b2 → (0 ≤ b2 ∧ b2 ≤ 5) → (5 + 1 - b2) * 1000000 + 1000000000 ≤ (n : Int) → h_T g_P (g_Y ns) 77 20 [(0, .ref 64), (1, .ref 5), (2, .int y2)] [] σ Q) := by
  intro n
  induction n with
  | zero => exact by intro  y2 b2 hy2 ry2 hm; exfalso; omega
  | succ n ih =>
    intro  y2 b2 hy2 ry2 hm
    refine h_iload_n (pc' := 21) rfl rfl rfl ?_
    refine h_aload_n (pc' := 22) rfl rfl rfl ?_
    refine h_str (pc' := 25) (x := (Int32.ofInt 5)) rfl rfl rfl rfl rfl ?_
    refine h_cge (tg := 55) (pc' := 28) rfl rfl rfl hy2 ci_5 (fun c1 => ?_) (fun c1 => ?_)
    · refine h_iconst (pc' := 56) (x := (Int32.ofInt 1)) rfl rfl rfl ?_
      exact h_zret rfl rfl ci_1 (by omega) (kk _ _ ci_1 (by omega))
    · refine h_aload_n (pc' := 29) rfl rfl rfl ?_
      refine h_getR (pc' := 32) rfl rfl rfl rfl rfl ?_
      refine h_aload_n (pc' := 33) rfl rfl rfl ?_
      refine h_getI (pc' := 36) (v := σ 64 4) rfl rfl rfl rfl rfl rfl (fun z2 hz2 => ?_)
      have tz2 := tf_64_4 hI
      refine h_iload_n (pc' := 37) rfl rfl rfl ?_
      refine h_iadd (pc' := 38) rfl rfl hz2 hy2 rfl (by omega) (by omega) (fun z3 hz3 => ?_)
      refine h_iald (pc' := 39) (v := σ 65 ((σ 64 4) + b2)) rfl rfl rfl hz3 (by omega) (by omega) rfl (fun z4 hz4 => ?_)
      have tz4 := ty_65 hI ((σ 64 4) + b2)
      refine h_aload_n (pc' := 40) rfl rfl rfl ?_
      refine h_iload_n (pc' := 41) rfl rfl rfl ?_
      refine h_chr (pc' := 44) (b := g_tx 5) rfl rfl rfl rfl hy2 (by omega) (by show _ < ((5 : Nat) : Int); omega) rfl (fun z5 hz5 => ?_)
      refine h_ceq (tg := 49) (pc' := 47) rfl rfl rfl hz4 rfl (fun c6 => ?_) (fun c6 => ?_)
      · refine h_iinc (pc' := 52) (M := fun z7 => [(2, .int z7), (0, .ref 64), (1, .ref 5)]) rfl rfl rfl rfl hy2 ci_1 rfl (by omega) (by omega) (fun _ => rfl) (fun z7 hz7 => ?_)
        refine h_goto (pc' := 20) rfl rfl ?_
        exact h_wk [(0, .ref 64), (1, .ref 5), (2, .int z7)] ⟨rfl, rfl, rfl, trivial⟩ (ih z7 _ hz7 (by omega) (by omega))
      · refine h_iconst (pc' := 48) (x := (Int32.ofInt 0)) rfl rfl rfl ?_
        exact h_zret rfl rfl ci_0 (by omega) (kk _ _ ci_0 (by omega))
theorem v_isName4 {ns : Nat} (σ : h_S) (hI : h_I σ) {Q : Option Value → h_S → Prop} (kk : ∀ (r : Int32) (b : Int) (hb : r.toInt = b), (0 ≤ b ∧ b ≤ 1) → Q (some (.int r)) σ) : h_T g_P (g_Y ns) 77 0 [(0, .ref 64), (1, .ref 5)] [] σ Q := by
  have F00 : h_F k_sc σ σ := h_F.rf
  refine h_aload_n (pc' := 1) rfl rfl rfl ?_
  refine h_getI (pc' := 4) (v := σ 64 2) rfl rfl rfl rfl rfl rfl (fun z1 hz1 => ?_)
  have tz1 := tf_64_2 hI
  refine h_aload_n (pc' := 5) rfl rfl rfl ?_
  refine h_getI (pc' := 8) (v := σ 64 4) rfl rfl rfl rfl rfl rfl (fun z2 hz2 => ?_)
  have tz2 := tf_64_4 hI
  refine h_isub (pc' := 9) rfl rfl hz1 hz2 rfl (by omega) (by omega) (fun z3 hz3 => ?_)
  refine h_aload_n (pc' := 10) rfl rfl rfl ?_
  refine h_str (pc' := 13) (x := (Int32.ofInt 5)) rfl rfl rfl rfl rfl ?_
  refine h_ceq (tg := 18) (pc' := 16) rfl rfl rfl hz3 ci_5 (fun c4 => ?_) (fun c4 => ?_)
  · refine h_iconst (pc' := 19) (x := (Int32.ofInt 0)) rfl rfl rfl ?_
    refine h_istore_n (pc' := 20) (M := [(2, .int (Int32.ofInt 0)), (0, .ref 64), (1, .ref 5)]) rfl rfl rfl rfl ?_
    exact h_wk [(0, .ref 64), (1, .ref 5), (2, .int (Int32.ofInt 0))] ⟨rfl, rfl, rfl, trivial⟩ ((v_isName4_l ns σ hI  kk 1000000000000) (Int32.ofInt 0) _ ci_0 (by omega) (by omega))
  · refine h_iconst (pc' := 17) (x := (Int32.ofInt 0)) rfl rfl rfl ?_
    exact h_zret rfl rfl ci_0 (by omega) (kk _ _ ci_0 (by omega))
theorem v_isName5_l (ns : Nat) (σ : h_S) (hI : h_I σ) {Q : Option Value → h_S → Prop} (kk : ∀ (r : Int32) (b : Int) (hb : r.toInt = b), (0 ≤ b ∧ b ≤ 1) → Q (some (.int r)) σ) : ∀ n : Nat, (∀ (y2 : Int32) (b2 : Int), y2.toInt = b2 → (0 ≤ b2 ∧ b2 ≤ 4) → (4 + 1 - b2) * 1000000 + 1000000000 ≤ (n : Int) → h_T g_P (g_Y ns) 77 20 [(0, .ref 64), (1, .ref 6), (2, .int y2)] [] σ Q) := by
  intro n
  induction n with
  | zero => exact by intro  y2 b2 hy2 ry2 hm; exfalso; omega
  | succ n ih =>
    intro  y2 b2 hy2 ry2 hm
    refine h_iload_n (pc' := 21) rfl rfl rfl ?_
    refine h_aload_n (pc' := 22) rfl rfl rfl ?_
    refine h_str (pc' := 25) (x := (Int32.ofInt 4)) rfl rfl rfl rfl rfl ?_
    refine h_cge (tg := 55) (pc' := 28) rfl rfl rfl hy2 ci_4 (fun c1 => ?_) (fun c1 => ?_)
    · refine h_iconst (pc' := 56) (x := (Int32.ofInt 1)) rfl rfl rfl ?_
      exact h_zret rfl rfl ci_1 (by omega) (kk _ _ ci_1 (by omega))
    · refine h_aload_n (pc' := 29) rfl rfl rfl ?_
      refine h_getR (pc' := 32) rfl rfl rfl rfl rfl ?_
      refine h_aload_n (pc' := 33) rfl rfl rfl ?_
      refine h_getI (pc' := 36) (v := σ 64 4) rfl rfl rfl rfl rfl rfl (fun z2 hz2 => ?_)
      have tz2 := tf_64_4 hI
      refine h_iload_n (pc' := 37) rfl rfl rfl ?_
      refine h_iadd (pc' := 38) rfl rfl hz2 hy2 rfl (by omega) (by omega) (fun z3 hz3 => ?_)
      refine h_iald (pc' := 39) (v := σ 65 ((σ 64 4) + b2)) rfl rfl rfl hz3 (by omega) (by omega) rfl (fun z4 hz4 => ?_)
      have tz4 := ty_65 hI ((σ 64 4) + b2)
      refine h_aload_n (pc' := 40) rfl rfl rfl ?_
      refine h_iload_n (pc' := 41) rfl rfl rfl ?_
      refine h_chr (pc' := 44) (b := g_tx 6) rfl rfl rfl rfl hy2 (by omega) (by show _ < ((4 : Nat) : Int); omega) rfl (fun z5 hz5 => ?_)
      refine h_ceq (tg := 49) (pc' := 47) rfl rfl rfl hz4 rfl (fun c6 => ?_) (fun c6 => ?_)
      · refine h_iinc (pc' := 52) (M := fun z7 => [(2, .int z7), (0, .ref 64), (1, .ref 6)]) rfl rfl rfl rfl hy2 ci_1 rfl (by omega) (by omega) (fun _ => rfl) (fun z7 hz7 => ?_)
        refine h_goto (pc' := 20) rfl rfl ?_
        exact h_wk [(0, .ref 64), (1, .ref 6), (2, .int z7)] ⟨rfl, rfl, rfl, trivial⟩ (ih z7 _ hz7 (by omega) (by omega))
      · refine h_iconst (pc' := 48) (x := (Int32.ofInt 0)) rfl rfl rfl ?_
        exact h_zret rfl rfl ci_0 (by omega) (kk _ _ ci_0 (by omega))
theorem v_isName5 {ns : Nat} (σ : h_S) (hI : h_I σ) {Q : Option Value → h_S → Prop} (kk : ∀ (r : Int32) (b : Int) (hb : r.toInt = b), (0 ≤ b ∧ b ≤ 1) → Q (some (.int r)) σ) : h_T g_P (g_Y ns) 77 0 [(0, .ref 64), (1, .ref 6)] [] σ Q := by
  have F00 : h_F k_sc σ σ := h_F.rf
  refine h_aload_n (pc' := 1) rfl rfl rfl ?_
  refine h_getI (pc' := 4) (v := σ 64 2) rfl rfl rfl rfl rfl rfl (fun z1 hz1 => ?_)
  have tz1 := tf_64_2 hI
  refine h_aload_n (pc' := 5) rfl rfl rfl ?_
  refine h_getI (pc' := 8) (v := σ 64 4) rfl rfl rfl rfl rfl rfl (fun z2 hz2 => ?_)
  have tz2 := tf_64_4 hI
  refine h_isub (pc' := 9) rfl rfl hz1 hz2 rfl (by omega) (by omega) (fun z3 hz3 => ?_)
  refine h_aload_n (pc' := 10) rfl rfl rfl ?_
  refine h_str (pc' := 13) (x := (Int32.ofInt 4)) rfl rfl rfl rfl rfl ?_
  refine h_ceq (tg := 18) (pc' := 16) rfl rfl rfl hz3 ci_4 (fun c4 => ?_) (fun c4 => ?_)
  · refine h_iconst (pc' := 19) (x := (Int32.ofInt 0)) rfl rfl rfl ?_
    refine h_istore_n (pc' := 20) (M := [(2, .int (Int32.ofInt 0)), (0, .ref 64), (1, .ref 6)]) rfl rfl rfl rfl ?_
    exact h_wk [(0, .ref 64), (1, .ref 6), (2, .int (Int32.ofInt 0))] ⟨rfl, rfl, rfl, trivial⟩ ((v_isName5_l ns σ hI  kk 1000000000000) (Int32.ofInt 0) _ ci_0 (by omega) (by omega))
  · refine h_iconst (pc' := 17) (x := (Int32.ofInt 0)) rfl rfl rfl ?_
    exact h_zret rfl rfl ci_0 (by omega) (kk _ _ ci_0 (by omega))
theorem v_isName6_l (ns : Nat) (σ : h_S) (hI : h_I σ) {Q : Option Value → h_S → Prop} (kk : ∀ (r : Int32) (b : Int) (hb : r.toInt = b), (0 ≤ b ∧ b ≤ 1) → Q (some (.int r)) σ) : ∀ n : Nat, (∀ (y2 : Int32) (b2 : Int), y2.toInt = b2 → (0 ≤ b2 ∧ b2 ≤ 4) → (4 + 1 - b2) * 1000000 + 1000000000 ≤ (n : Int) → h_T g_P (g_Y ns) 77 20 [(0, .ref 64), (1, .ref 7), (2, .int y2)] [] σ Q) := by
  intro n
  induction n with
  | zero => exact by intro  y2 b2 hy2 ry2 hm; exfalso; omega
  | succ n ih =>
    intro  y2 b2 hy2 ry2 hm
    refine h_iload_n (pc' := 21) rfl rfl rfl ?_
    refine h_aload_n (pc' := 22) rfl rfl rfl ?_
    refine h_str (pc' := 25) (x := (Int32.ofInt 4)) rfl rfl rfl rfl rfl ?_
    refine h_cge (tg := 55) (pc' := 28) rfl rfl rfl hy2 ci_4 (fun c1 => ?_) (fun c1 => ?_)
    · refine h_iconst (pc' := 56) (x := (Int32.ofInt 1)) rfl rfl rfl ?_
      exact h_zret rfl rfl ci_1 (by omega) (kk _ _ ci_1 (by omega))
    · refine h_aload_n (pc' := 29) rfl rfl rfl ?_
      refine h_getR (pc' := 32) rfl rfl rfl rfl rfl ?_
      refine h_aload_n (pc' := 33) rfl rfl rfl ?_
      refine h_getI (pc' := 36) (v := σ 64 4) rfl rfl rfl rfl rfl rfl (fun z2 hz2 => ?_)
      have tz2 := tf_64_4 hI
      refine h_iload_n (pc' := 37) rfl rfl rfl ?_
      refine h_iadd (pc' := 38) rfl rfl hz2 hy2 rfl (by omega) (by omega) (fun z3 hz3 => ?_)
      refine h_iald (pc' := 39) (v := σ 65 ((σ 64 4) + b2)) rfl rfl rfl hz3 (by omega) (by omega) rfl (fun z4 hz4 => ?_)
      have tz4 := ty_65 hI ((σ 64 4) + b2)
      refine h_aload_n (pc' := 40) rfl rfl rfl ?_
      refine h_iload_n (pc' := 41) rfl rfl rfl ?_
      refine h_chr (pc' := 44) (b := g_tx 7) rfl rfl rfl rfl hy2 (by omega) (by show _ < ((4 : Nat) : Int); omega) rfl (fun z5 hz5 => ?_)
      refine h_ceq (tg := 49) (pc' := 47) rfl rfl rfl hz4 rfl (fun c6 => ?_) (fun c6 => ?_)
      · refine h_iinc (pc' := 52) (M := fun z7 => [(2, .int z7), (0, .ref 64), (1, .ref 7)]) rfl rfl rfl rfl hy2 ci_1 rfl (by omega) (by omega) (fun _ => rfl) (fun z7 hz7 => ?_)
        refine h_goto (pc' := 20) rfl rfl ?_
        exact h_wk [(0, .ref 64), (1, .ref 7), (2, .int z7)] ⟨rfl, rfl, rfl, trivial⟩ (ih z7 _ hz7 (by omega) (by omega))
      · refine h_iconst (pc' := 48) (x := (Int32.ofInt 0)) rfl rfl rfl ?_
        exact h_zret rfl rfl ci_0 (by omega) (kk _ _ ci_0 (by omega))
theorem v_isName6 {ns : Nat} (σ : h_S) (hI : h_I σ) {Q : Option Value → h_S → Prop} (kk : ∀ (r : Int32) (b : Int) (hb : r.toInt = b), (0 ≤ b ∧ b ≤ 1) → Q (some (.int r)) σ) : h_T g_P (g_Y ns) 77 0 [(0, .ref 64), (1, .ref 7)] [] σ Q := by
  have F00 : h_F k_sc σ σ := h_F.rf
  refine h_aload_n (pc' := 1) rfl rfl rfl ?_
  refine h_getI (pc' := 4) (v := σ 64 2) rfl rfl rfl rfl rfl rfl (fun z1 hz1 => ?_)
  have tz1 := tf_64_2 hI
  refine h_aload_n (pc' := 5) rfl rfl rfl ?_
  refine h_getI (pc' := 8) (v := σ 64 4) rfl rfl rfl rfl rfl rfl (fun z2 hz2 => ?_)
  have tz2 := tf_64_4 hI
  refine h_isub (pc' := 9) rfl rfl hz1 hz2 rfl (by omega) (by omega) (fun z3 hz3 => ?_)
  refine h_aload_n (pc' := 10) rfl rfl rfl ?_
  refine h_str (pc' := 13) (x := (Int32.ofInt 4)) rfl rfl rfl rfl rfl ?_
  refine h_ceq (tg := 18) (pc' := 16) rfl rfl rfl hz3 ci_4 (fun c4 => ?_) (fun c4 => ?_)
  · refine h_iconst (pc' := 19) (x := (Int32.ofInt 0)) rfl rfl rfl ?_
    refine h_istore_n (pc' := 20) (M := [(2, .int (Int32.ofInt 0)), (0, .ref 64), (1, .ref 7)]) rfl rfl rfl rfl ?_
    exact h_wk [(0, .ref 64), (1, .ref 7), (2, .int (Int32.ofInt 0))] ⟨rfl, rfl, rfl, trivial⟩ ((v_isName6_l ns σ hI  kk 1000000000000) (Int32.ofInt 0) _ ci_0 (by omega) (by omega))
  · refine h_iconst (pc' := 17) (x := (Int32.ofInt 0)) rfl rfl rfl ?_
    exact h_zret rfl rfl ci_0 (by omega) (kk _ _ ci_0 (by omega))
theorem v_isName7_l (ns : Nat) (σ : h_S) (hI : h_I σ) {Q : Option Value → h_S → Prop} (kk : ∀ (r : Int32) (b : Int) (hb : r.toInt = b), (0 ≤ b ∧ b ≤ 1) → Q (some (.int r)) σ) : ∀ n : Nat, (∀ (y2 : Int32) (b2 : Int), y2.toInt = b2 → (0 ≤ b2 ∧ b2 ≤ 4) → (4 + 1 - b2) * 1000000 + 1000000000 ≤ (n : Int) → h_T g_P (g_Y ns) 77 20 [(0, .ref 64), (1, .ref 8), (2, .int y2)] [] σ Q) := by
  intro n
  induction n with
  | zero => exact by intro  y2 b2 hy2 ry2 hm; exfalso; omega
  | succ n ih =>
    intro  y2 b2 hy2 ry2 hm
    refine h_iload_n (pc' := 21) rfl rfl rfl ?_
    refine h_aload_n (pc' := 22) rfl rfl rfl ?_
    refine h_str (pc' := 25) (x := (Int32.ofInt 4)) rfl rfl rfl rfl rfl ?_
    refine h_cge (tg := 55) (pc' := 28) rfl rfl rfl hy2 ci_4 (fun c1 => ?_) (fun c1 => ?_)
    · refine h_iconst (pc' := 56) (x := (Int32.ofInt 1)) rfl rfl rfl ?_
      exact h_zret rfl rfl ci_1 (by omega) (kk _ _ ci_1 (by omega))
    · refine h_aload_n (pc' := 29) rfl rfl rfl ?_
      refine h_getR (pc' := 32) rfl rfl rfl rfl rfl ?_
      refine h_aload_n (pc' := 33) rfl rfl rfl ?_
      refine h_getI (pc' := 36) (v := σ 64 4) rfl rfl rfl rfl rfl rfl (fun z2 hz2 => ?_)
      have tz2 := tf_64_4 hI
      refine h_iload_n (pc' := 37) rfl rfl rfl ?_
      refine h_iadd (pc' := 38) rfl rfl hz2 hy2 rfl (by omega) (by omega) (fun z3 hz3 => ?_)
      refine h_iald (pc' := 39) (v := σ 65 ((σ 64 4) + b2)) rfl rfl rfl hz3 (by omega) (by omega) rfl (fun z4 hz4 => ?_)
      have tz4 := ty_65 hI ((σ 64 4) + b2)
      refine h_aload_n (pc' := 40) rfl rfl rfl ?_
      refine h_iload_n (pc' := 41) rfl rfl rfl ?_
      refine h_chr (pc' := 44) (b := g_tx 8) rfl rfl rfl rfl hy2 (by omega) (by show _ < ((4 : Nat) : Int); omega) rfl (fun z5 hz5 => ?_)
      refine h_ceq (tg := 49) (pc' := 47) rfl rfl rfl hz4 rfl (fun c6 => ?_) (fun c6 => ?_)
      · refine h_iinc (pc' := 52) (M := fun z7 => [(2, .int z7), (0, .ref 64), (1, .ref 8)]) rfl rfl rfl rfl hy2 ci_1 rfl (by omega) (by omega) (fun _ => rfl) (fun z7 hz7 => ?_)
        refine h_goto (pc' := 20) rfl rfl ?_
        exact h_wk [(0, .ref 64), (1, .ref 8), (2, .int z7)] ⟨rfl, rfl, rfl, trivial⟩ (ih z7 _ hz7 (by omega) (by omega))
      · refine h_iconst (pc' := 48) (x := (Int32.ofInt 0)) rfl rfl rfl ?_
        exact h_zret rfl rfl ci_0 (by omega) (kk _ _ ci_0 (by omega))
theorem v_isName7 {ns : Nat} (σ : h_S) (hI : h_I σ) {Q : Option Value → h_S → Prop} (kk : ∀ (r : Int32) (b : Int) (hb : r.toInt = b), (0 ≤ b ∧ b ≤ 1) → Q (some (.int r)) σ) : h_T g_P (g_Y ns) 77 0 [(0, .ref 64), (1, .ref 8)] [] σ Q := by
  have F00 : h_F k_sc σ σ := h_F.rf
  refine h_aload_n (pc' := 1) rfl rfl rfl ?_
  refine h_getI (pc' := 4) (v := σ 64 2) rfl rfl rfl rfl rfl rfl (fun z1 hz1 => ?_)
  have tz1 := tf_64_2 hI
  refine h_aload_n (pc' := 5) rfl rfl rfl ?_
  refine h_getI (pc' := 8) (v := σ 64 4) rfl rfl rfl rfl rfl rfl (fun z2 hz2 => ?_)
  have tz2 := tf_64_4 hI
  refine h_isub (pc' := 9) rfl rfl hz1 hz2 rfl (by omega) (by omega) (fun z3 hz3 => ?_)
  refine h_aload_n (pc' := 10) rfl rfl rfl ?_
  refine h_str (pc' := 13) (x := (Int32.ofInt 4)) rfl rfl rfl rfl rfl ?_
  refine h_ceq (tg := 18) (pc' := 16) rfl rfl rfl hz3 ci_4 (fun c4 => ?_) (fun c4 => ?_)
  · refine h_iconst (pc' := 19) (x := (Int32.ofInt 0)) rfl rfl rfl ?_
    refine h_istore_n (pc' := 20) (M := [(2, .int (Int32.ofInt 0)), (0, .ref 64), (1, .ref 8)]) rfl rfl rfl rfl ?_
    exact h_wk [(0, .ref 64), (1, .ref 8), (2, .int (Int32.ofInt 0))] ⟨rfl, rfl, rfl, trivial⟩ ((v_isName7_l ns σ hI  kk 1000000000000) (Int32.ofInt 0) _ ci_0 (by omega) (by omega))
  · refine h_iconst (pc' := 17) (x := (Int32.ofInt 0)) rfl rfl rfl ?_
    exact h_zret rfl rfl ci_0 (by omega) (kk _ _ ci_0 (by omega))
theorem v_whichName {ns : Nat} (σ : h_S) (hI : h_I σ) {Q : Option Value → h_S → Prop} (kk : ∀ (r : Int32) (b : Int) (hb : r.toInt = b), ((-4) ≤ b ∧ b ≤ 7) → (b = -4 ∨ 0 ≤ b) → Q (some (.int r)) σ) : h_T g_P (g_Y ns) 76 0 [(0, .ref 64)] [] σ Q := by
  have F00 : h_F k_sc σ σ := h_F.rf
  refine h_aload_n (pc' := 1) rfl rfl rfl ?_
  refine h_ldcS (pc' := 3) (q := 1) rfl rfl rfl ?_
  refine h_call (sp := false) (pc' := 6) (M := [(0, .ref 64), (1, .ref 1)]) rfl rfl rfl rfl rfl rfl rfl rfl ?_
  refine v_isName0 _ hI  (fun r1 br1 hr1 tr1 => h_Kv ?_)
  refine h_zeq (tg := 11) (pc' := 9) rfl rfl rfl hr1 (fun c3 => ?_) (fun c3 => ?_)
  · refine h_aload_n (pc' := 12) rfl rfl rfl ?_
    refine h_ldcS (pc' := 14) (q := 2) rfl rfl rfl ?_
    refine h_call (sp := false) (pc' := 17) (M := [(0, .ref 64), (1, .ref 2)]) rfl rfl rfl rfl rfl rfl rfl rfl ?_
    refine v_isName1 _ hI  (fun r4 br4 hr4 tr4 => h_Kv ?_)
    refine h_zeq (tg := 22) (pc' := 20) rfl rfl rfl hr4 (fun c6 => ?_) (fun c6 => ?_)
    · refine h_aload_n (pc' := 23) rfl rfl rfl ?_
      refine h_ldcS (pc' := 25) (q := 3) rfl rfl rfl ?_
      refine h_call (sp := false) (pc' := 28) (M := [(0, .ref 64), (1, .ref 3)]) rfl rfl rfl rfl rfl rfl rfl rfl ?_
      refine v_isName2 _ hI  (fun r7 br7 hr7 tr7 => h_Kv ?_)
      refine h_zeq (tg := 33) (pc' := 31) rfl rfl rfl hr7 (fun c9 => ?_) (fun c9 => ?_)
      · refine h_aload_n (pc' := 34) rfl rfl rfl ?_
        refine h_ldcS (pc' := 36) (q := 4) rfl rfl rfl ?_
        refine h_call (sp := false) (pc' := 39) (M := [(0, .ref 64), (1, .ref 4)]) rfl rfl rfl rfl rfl rfl rfl rfl ?_
        refine v_isName3 _ hI  (fun r10 br10 hr10 tr10 => h_Kv ?_)
        refine h_zeq (tg := 44) (pc' := 42) rfl rfl rfl hr10 (fun c12 => ?_) (fun c12 => ?_)
        · refine h_aload_n (pc' := 45) rfl rfl rfl ?_
          refine h_ldcS (pc' := 47) (q := 5) rfl rfl rfl ?_
          refine h_call (sp := false) (pc' := 50) (M := [(0, .ref 64), (1, .ref 5)]) rfl rfl rfl rfl rfl rfl rfl rfl ?_
          refine v_isName4 _ hI  (fun r13 br13 hr13 tr13 => h_Kv ?_)
          refine h_zeq (tg := 55) (pc' := 53) rfl rfl rfl hr13 (fun c15 => ?_) (fun c15 => ?_)
          · refine h_aload_n (pc' := 56) rfl rfl rfl ?_
            refine h_ldcS (pc' := 58) (q := 6) rfl rfl rfl ?_
            refine h_call (sp := false) (pc' := 61) (M := [(0, .ref 64), (1, .ref 6)]) rfl rfl rfl rfl rfl rfl rfl rfl ?_
            refine v_isName5 _ hI  (fun r16 br16 hr16 tr16 => h_Kv ?_)
            refine h_zeq (tg := 66) (pc' := 64) rfl rfl rfl hr16 (fun c18 => ?_) (fun c18 => ?_)
            · refine h_aload_n (pc' := 67) rfl rfl rfl ?_
              refine h_ldcS (pc' := 69) (q := 7) rfl rfl rfl ?_
              refine h_call (sp := false) (pc' := 72) (M := [(0, .ref 64), (1, .ref 7)]) rfl rfl rfl rfl rfl rfl rfl rfl ?_
              refine v_isName6 _ hI  (fun r19 br19 hr19 tr19 => h_Kv ?_)
              refine h_zeq (tg := 78) (pc' := 75) rfl rfl rfl hr19 (fun c21 => ?_) (fun c21 => ?_)
              · refine h_aload_n (pc' := 79) rfl rfl rfl ?_
                refine h_ldcS (pc' := 81) (q := 8) rfl rfl rfl ?_
                refine h_call (sp := false) (pc' := 84) (M := [(0, .ref 64), (1, .ref 8)]) rfl rfl rfl rfl rfl rfl rfl rfl ?_
                refine v_isName7 _ hI  (fun r22 br22 hr22 tr22 => h_Kv ?_)
                refine h_zeq (tg := 92) (pc' := 87) rfl rfl rfl hr22 (fun c24 => ?_) (fun c24 => ?_)
                · refine h_bipush (pc' := 94) (x := (Int32.ofInt (-4))) rfl rfl cb_m4 ?_
                  exact h_iret rfl rfl (kk _ _ ci_m4 (by omega) (by omega))
                · refine h_bipush (pc' := 89) (x := (Int32.ofInt 7)) rfl rfl cb_7 ?_
                  refine h_goto (pc' := 94) rfl rfl ?_
                  exact h_iret rfl rfl (kk _ _ ci_7 (by omega) (by omega))
              · refine h_bipush (pc' := 77) (x := (Int32.ofInt 6)) rfl rfl cb_6 ?_
                exact h_iret rfl rfl (kk _ _ ci_6 (by omega) (by omega))
            · refine h_iconst (pc' := 65) (x := (Int32.ofInt 5)) rfl rfl rfl ?_
              exact h_iret rfl rfl (kk _ _ ci_5 (by omega) (by omega))
          · refine h_iconst (pc' := 54) (x := (Int32.ofInt 4)) rfl rfl rfl ?_
            exact h_iret rfl rfl (kk _ _ ci_4 (by omega) (by omega))
        · refine h_iconst (pc' := 43) (x := (Int32.ofInt 3)) rfl rfl rfl ?_
          exact h_iret rfl rfl (kk _ _ ci_3 (by omega) (by omega))
      · refine h_iconst (pc' := 32) (x := (Int32.ofInt 2)) rfl rfl rfl ?_
        exact h_iret rfl rfl (kk _ _ ci_2 (by omega) (by omega))
    · refine h_iconst (pc' := 21) (x := (Int32.ofInt 1)) rfl rfl rfl ?_
      exact h_iret rfl rfl (kk _ _ ci_1 (by omega) (by omega))
  · refine h_iconst (pc' := 10) (x := (Int32.ofInt 0)) rfl rfl rfl ?_
    exact h_iret rfl rfl (kk _ _ ci_0 (by omega) (by omega))
theorem v_stepX {ns : Nat} (σ : h_S) (hI : h_I σ) {Q : Option Value → h_S → Prop} (kk : ∀ (τ : h_S), h_I τ → h_F k_lx τ σ → ((¬ τ 63 2 = 0 ∨ ¬ τ 64 3 = 2 ∨ (0 ≤ τ 64 5 ∧ τ 64 5 ≤ 99))) → (¬ σ 63 2 = 0 → τ 63 2 = σ 63 2) → Q none τ) : h_T g_P (g_Y ns) 54 0 [(0, .ref 63)] [] σ Q := by
  have F00 : h_F k_lx σ σ := h_F.rf
  refine h_aload_n (pc' := 1) rfl rfl rfl ?_
  refine h_getI (pc' := 4) (v := σ 63 2) rfl rfl rfl rfl rfl rfl (fun z1 hz1 => ?_)
  have tz1 := tf_63_2 hI
  refine h_zne (tg := 37) (pc' := 7) rfl rfl rfl hz1 (fun c2 => ?_) (fun c2 => ?_)
  · exact h_vret rfl rfl (kk _ hI F00 (by omega) (by omega))
  · refine h_aload_n (pc' := 8) rfl rfl rfl ?_
    refine h_getR (pc' := 11) rfl rfl rfl rfl rfl ?_
    refine h_call (sp := false) (pc' := 14) (M := [(0, .ref 64)]) rfl rfl rfl rfl rfl rfl rfl rfl ?_
    refine v_readToken _ hI  (fun s4 Is4 Gs4 ps4_0 => h_Kn ?_)
    have Fs4 := (Gs4).tr F00
    refine h_aload_n (pc' := 15) rfl rfl rfl ?_
    refine h_getR (pc' := 18) rfl rfl rfl rfl rfl ?_
    refine h_getI (pc' := 21) (v := s4 64 3) rfl rfl rfl rfl rfl rfl (fun z5 hz5 => ?_)
    have tz5 := tf_64_3 Is4
    refine h_iconst (pc' := 22) (x := (Int32.ofInt 4)) rfl rfl rfl ?_
    refine h_cne (tg := 37) (pc' := 25) rfl rfl rfl hz5 ci_4 (fun c6 => ?_) (fun c6 => ?_)
    · exact h_vret rfl rfl (kk _ Is4 Fs4 (by omega) (by omega))
    · refine h_aload_n (pc' := 26) rfl rfl rfl ?_
      refine h_iconst (pc' := 27) (x := (Int32.ofInt 1)) rfl rfl rfl ?_
      refine h_aload_n (pc' := 28) rfl rfl rfl ?_
      refine h_getR (pc' := 31) rfl rfl rfl rfl rfl ?_
      refine h_getI (pc' := 34) (v := s4 64 4) rfl rfl rfl rfl rfl rfl (fun z7 hz7 => ?_)
      have tz7 := tf_64_4 Is4
      refine h_call (sp := false) (pc' := 37) (M := [(0, .ref 63), (1, .int (Int32.ofInt 1)), (2, .int z7)]) rfl rfl rfl rfl rfl rfl rfl rfl ?_
      refine h_aload_n (pc' := 1) rfl rfl rfl ?_
      refine h_getI (pc' := 4) (v := s4 63 2) rfl rfl rfl rfl rfl rfl (fun z8 hz8 => ?_)
      have tz8 := tf_63_2 Is4
      refine h_zne (tg := 17) (pc' := 7) rfl rfl rfl hz8 (fun c9 => ?_) (fun c9 => ?_)
      · refine h_vret rfl rfl (h_Kn ?_)
        exact h_vret rfl rfl (kk _ Is4 Fs4 (by omega) (by omega))
      · refine h_aload_n (pc' := 8) rfl rfl rfl ?_
        refine h_iload_n (pc' := 9) rfl rfl rfl ?_
        refine h_put (pc' := 12) rfl rfl rfl rfl rfl rfl ci_1 rfl (h_fgt (E := fun s => s 63 2 = 1 ∧ s 64 3 = s4 64 3 ∧ s 64 5 = s4 64 5) _ (if_63_2 Is4 (by omega)) (Fs4.up rfl) ⟨rfl, rfl, rfl⟩ (fun s10 Is10 Fs10 ⟨es10_0, es10_1, es10_2⟩ => ?_))
        refine h_aload_n (pc' := 13) rfl rfl rfl ?_
        refine h_iload_n (pc' := 14) rfl rfl rfl ?_
        refine h_put (pc' := 17) rfl rfl rfl rfl rfl rfl hz7 rfl (h_fgt (E := fun s => s 63 2 = 1 ∧ s 64 3 = s4 64 3 ∧ s 64 5 = s4 64 5) _ (if_63_3 Is10 (h_rgv hz7)) (Fs10.up rfl) ⟨es10_0, es10_1, es10_2⟩ (fun s11 Is11 Fs11 ⟨es11_0, es11_1, es11_2⟩ => ?_))
        clear es10_0 es10_1 es10_2
        refine h_vret rfl rfl (h_Kn ?_)
        exact h_vret rfl rfl (kk _ Is11 Fs11 (by omega) (by omega))
theorem v_takeName {ns : Nat} (σ : h_S) (hI : h_I σ) (x0 : Int32) (a0 : Int) (hx0 : x0.toInt = a0) (ra0 : 0 ≤ a0 ∧ a0 ≤ 1) {Q : Option Value → h_S → Prop} (kk : ∀ (τ : h_S), h_I τ → h_F k_lx τ σ → ((¬ τ 63 2 = 0 ∨ ¬ τ 64 3 = 2 ∨ (0 ≤ τ 64 5 ∧ τ 64 5 ≤ 99))) → (¬ σ 63 2 = 0 → ¬ τ 63 2 = 0) → Q none τ) : h_T g_P (g_Y ns) 57 0 [(0, .ref 63), (1, .int x0)] [] σ Q := by
  have F00 : h_F k_lx σ σ := h_F.rf
  refine h_iload_n (pc' := 1) rfl rfl rfl ?_
  refine h_zeq (tg := 16) (pc' := 4) rfl rfl rfl hx0 (fun c1 => ?_) (fun c1 => ?_)
  · refine h_aload_n (pc' := 17) rfl rfl rfl ?_
    refine h_call (sp := false) (pc' := 20) (M := [(0, .ref 63)]) rfl rfl rfl rfl rfl rfl rfl rfl ?_
    refine v_stepX _ hI  (fun s3 Is3 Gs3 ps3_0 ps3_1 => h_Kn ?_)
    have Fs3 := (Gs3).tr F00
    exact h_vret rfl rfl (kk _ Is3 Fs3 (by omega) (by omega))
  · refine h_aload_n (pc' := 5) rfl rfl rfl ?_
    refine h_iconst (pc' := 6) (x := (Int32.ofInt 5)) rfl rfl rfl ?_
    refine h_aload_n (pc' := 7) rfl rfl rfl ?_
    refine h_getR (pc' := 10) rfl rfl rfl rfl rfl ?_
    refine h_getI (pc' := 13) (v := σ 64 4) rfl rfl rfl rfl rfl rfl (fun z4 hz4 => ?_)
    have tz4 := tf_64_4 hI
    refine h_call (sp := false) (pc' := 16) (M := [(0, .ref 63), (1, .int (Int32.ofInt 5)), (2, .int z4)]) rfl rfl rfl rfl rfl rfl rfl rfl ?_
    refine h_aload_n (pc' := 1) rfl rfl rfl ?_
    refine h_getI (pc' := 4) (v := σ 63 2) rfl rfl rfl rfl rfl rfl (fun z5 hz5 => ?_)
    have tz5 := tf_63_2 hI
    refine h_zne (tg := 17) (pc' := 7) rfl rfl rfl hz5 (fun c6 => ?_) (fun c6 => ?_)
    · refine h_vret rfl rfl (h_Kn ?_)
      refine h_aload_n (pc' := 17) rfl rfl rfl ?_
      refine h_call (sp := false) (pc' := 20) (M := [(0, .ref 63)]) rfl rfl rfl rfl rfl rfl rfl rfl ?_
      refine v_stepX _ hI  (fun s8 Is8 Gs8 ps8_0 ps8_1 => h_Kn ?_)
      have Fs8 := (Gs8).tr F00
      exact h_vret rfl rfl (kk _ Is8 Fs8 (by omega) (by omega))
    · refine h_aload_n (pc' := 8) rfl rfl rfl ?_
      refine h_iload_n (pc' := 9) rfl rfl rfl ?_
      refine h_put (pc' := 12) rfl rfl rfl rfl rfl rfl ci_5 rfl (h_fgt (E := fun s => s 63 2 = 5 ∧ s 64 3 = σ 64 3 ∧ s 64 5 = σ 64 5) _ (if_63_2 hI (by omega)) (F00.up rfl) ⟨rfl, rfl, rfl⟩ (fun s9 Is9 Fs9 ⟨es9_0, es9_1, es9_2⟩ => ?_))
      refine h_aload_n (pc' := 13) rfl rfl rfl ?_
      refine h_iload_n (pc' := 14) rfl rfl rfl ?_
      refine h_put (pc' := 17) rfl rfl rfl rfl rfl rfl hz4 rfl (h_fgt (E := fun s => s 63 2 = 5 ∧ s 64 3 = σ 64 3 ∧ s 64 5 = σ 64 5) _ (if_63_3 Is9 (h_rgv hz4)) (Fs9.up rfl) ⟨es9_0, es9_1, es9_2⟩ (fun s10 Is10 Fs10 ⟨es10_0, es10_1, es10_2⟩ => ?_))
      clear es9_0 es9_1 es9_2
      refine h_vret rfl rfl (h_Kn ?_)
      refine h_aload_n (pc' := 17) rfl rfl rfl ?_
      refine h_call (sp := false) (pc' := 20) (M := [(0, .ref 63)]) rfl rfl rfl rfl rfl rfl rfl rfl ?_
      refine v_stepX _ Is10  (fun s12 Is12 Gs12 ps12_0 ps12_1 => h_Kn ?_)
      have Fs12 := (Gs12).tr Fs10
      clear es10_0 es10_1 es10_2
      exact h_vret rfl rfl (kk _ Is12 Fs12 (by omega) (by omega))
theorem v_takeNumber {ns : Nat} (σ : h_S) (hI : h_I σ) (x0 : Int32) (a0 : Int) (hx0 : x0.toInt = a0) (pr0 : (¬ σ 63 2 = 0 ∨ ¬ σ 64 3 = 2 ∨ (0 ≤ σ 64 5 ∧ σ 64 5 ≤ 99))) {Q : Option Value → h_S → Prop} (kk : ∀ (r : Int32) (b : Int) (hb : r.toInt = b) (τ : h_S), h_I τ → h_F k_lx τ σ → ((¬ τ 63 2 = 0 ∨ ¬ τ 64 3 = 2 ∨ (0 ≤ τ 64 5 ∧ τ 64 5 ≤ 99))) → (¬ σ 63 2 = 0 → ¬ τ 63 2 = 0) → (τ 63 2 = 0 → (0 ≤ b ∧ b ≤ a0)) → Q (some (.int r)) τ) : h_T g_P (g_Y ns) 58 0 [(0, .ref 63), (1, .int x0)] [] σ Q := by
  have F00 : h_F k_lx σ σ := h_F.rf
  refine h_aload_n (pc' := 1) rfl rfl rfl ?_
  refine h_getI (pc' := 4) (v := σ 63 2) rfl rfl rfl rfl rfl rfl (fun z1 hz1 => ?_)
  have tz1 := tf_63_2 hI
  refine h_zne (tg := 30) (pc' := 7) rfl rfl rfl hz1 (fun c2 => ?_) (fun c2 => ?_)
  · refine h_aload_n (pc' := 31) rfl rfl rfl ?_
    refine h_getI (pc' := 34) (v := σ 63 2) rfl rfl rfl rfl rfl rfl (fun z3 hz3 => ?_)
    have tz3 := tf_63_2 hI
    refine h_zne (tg := 60) (pc' := 37) rfl rfl rfl hz3 (fun c4 => ?_) (fun c4 => absurd c4 (by omega))
    refine h_aload_n (pc' := 61) rfl rfl rfl ?_
    refine h_getR (pc' := 64) rfl rfl rfl rfl rfl ?_
    refine h_getI (pc' := 67) (v := σ 64 5) rfl rfl rfl rfl rfl rfl (fun z5 hz5 => ?_)
    have tz5 := tf_64_5 hI
    refine h_istore_n (pc' := 68) (M := [(2, .int z5), (0, .ref 63), (1, .int x0)]) rfl rfl rfl rfl ?_
    refine h_aload_n (pc' := 69) rfl rfl rfl ?_
    refine h_call (sp := false) (pc' := 72) (M := [(0, .ref 63)]) rfl rfl rfl rfl rfl rfl rfl rfl ?_
    refine v_stepX _ hI  (fun s7 Is7 Gs7 ps7_0 ps7_1 => h_Kn ?_)
    have Fs7 := (Gs7).tr F00
    refine h_iload_n (pc' := 73) rfl rfl rfl ?_
    exact h_iret rfl rfl (kk _ _ hz5 _ Is7 Fs7 (by omega) (by omega) (by omega))
  · refine h_aload_n (pc' := 8) rfl rfl rfl ?_
    refine h_getR (pc' := 11) rfl rfl rfl rfl rfl ?_
    refine h_getI (pc' := 14) (v := σ 64 3) rfl rfl rfl rfl rfl rfl (fun z8 hz8 => ?_)
    have tz8 := tf_64_3 hI
    refine h_iconst (pc' := 15) (x := (Int32.ofInt 2)) rfl rfl rfl ?_
    refine h_ceq (tg := 30) (pc' := 18) rfl rfl rfl hz8 ci_2 (fun c9 => ?_) (fun c9 => ?_)
    · refine h_aload_n (pc' := 31) rfl rfl rfl ?_
      refine h_getI (pc' := 34) (v := σ 63 2) rfl rfl rfl rfl rfl rfl (fun z10 hz10 => ?_)
      have tz10 := tf_63_2 hI
      refine h_zne (tg := 60) (pc' := 37) rfl rfl rfl hz10 (fun c11 => absurd c11 (by omega)) (fun c11 => ?_)
      refine h_aload_n (pc' := 38) rfl rfl rfl ?_
      refine h_getR (pc' := 41) rfl rfl rfl rfl rfl ?_
      refine h_getI (pc' := 44) (v := σ 64 5) rfl rfl rfl rfl rfl rfl (fun z12 hz12 => ?_)
      have tz12 := tf_64_5 hI
      refine h_iload_n (pc' := 45) rfl rfl rfl ?_
      refine h_cle (tg := 60) (pc' := 48) rfl rfl rfl hz12 hx0 (fun c13 => ?_) (fun c13 => ?_)
      · refine h_aload_n (pc' := 61) rfl rfl rfl ?_
        refine h_getR (pc' := 64) rfl rfl rfl rfl rfl ?_
        refine h_getI (pc' := 67) (v := σ 64 5) rfl rfl rfl rfl rfl rfl (fun z14 hz14 => ?_)
        have tz14 := tf_64_5 hI
        refine h_istore_n (pc' := 68) (M := [(2, .int z14), (0, .ref 63), (1, .int x0)]) rfl rfl rfl rfl ?_
        refine h_aload_n (pc' := 69) rfl rfl rfl ?_
        refine h_call (sp := false) (pc' := 72) (M := [(0, .ref 63)]) rfl rfl rfl rfl rfl rfl rfl rfl ?_
        refine v_stepX _ hI  (fun s16 Is16 Gs16 ps16_0 ps16_1 => h_Kn ?_)
        have Fs16 := (Gs16).tr F00
        refine h_iload_n (pc' := 73) rfl rfl rfl ?_
        exact h_iret rfl rfl (kk _ _ hz14 _ Is16 Fs16 (by omega) (by omega) (by omega))
      · refine h_aload_n (pc' := 49) rfl rfl rfl ?_
        refine h_iconst (pc' := 50) (x := (Int32.ofInt 3)) rfl rfl rfl ?_
        refine h_aload_n (pc' := 51) rfl rfl rfl ?_
        refine h_getR (pc' := 54) rfl rfl rfl rfl rfl ?_
        refine h_getI (pc' := 57) (v := σ 64 4) rfl rfl rfl rfl rfl rfl (fun z17 hz17 => ?_)
        have tz17 := tf_64_4 hI
        refine h_call (sp := false) (pc' := 60) (M := [(0, .ref 63), (1, .int (Int32.ofInt 3)), (2, .int z17)]) rfl rfl rfl rfl rfl rfl rfl rfl ?_
        refine h_aload_n (pc' := 1) rfl rfl rfl ?_
        refine h_getI (pc' := 4) (v := σ 63 2) rfl rfl rfl rfl rfl rfl (fun z18 hz18 => ?_)
        have tz18 := tf_63_2 hI
        refine h_zne (tg := 17) (pc' := 7) rfl rfl rfl hz18 (fun c19 => absurd c19 (by omega)) (fun c19 => ?_)
        refine h_aload_n (pc' := 8) rfl rfl rfl ?_
        refine h_iload_n (pc' := 9) rfl rfl rfl ?_
        refine h_put (pc' := 12) rfl rfl rfl rfl rfl rfl ci_3 rfl (h_fgt (E := fun s => s 63 2 = 3 ∧ s 64 3 = σ 64 3 ∧ s 64 5 = σ 64 5) _ (if_63_2 hI (by omega)) (F00.up rfl) ⟨rfl, rfl, rfl⟩ (fun s20 Is20 Fs20 ⟨es20_0, es20_1, es20_2⟩ => ?_))
        refine h_aload_n (pc' := 13) rfl rfl rfl ?_
        refine h_iload_n (pc' := 14) rfl rfl rfl ?_
        refine h_put (pc' := 17) rfl rfl rfl rfl rfl rfl hz17 rfl (h_fgt (E := fun s => s 63 2 = 3 ∧ s 64 3 = σ 64 3 ∧ s 64 5 = σ 64 5) _ (if_63_3 Is20 (h_rgv hz17)) (Fs20.up rfl) ⟨es20_0, es20_1, es20_2⟩ (fun s21 Is21 Fs21 ⟨es21_0, es21_1, es21_2⟩ => ?_))
        clear es20_0 es20_1 es20_2
        refine h_vret rfl rfl (h_Kn ?_)
        refine h_aload_n (pc' := 61) rfl rfl rfl ?_
        refine h_getR (pc' := 64) rfl rfl rfl rfl rfl ?_
        refine h_getI (pc' := 67) (v := σ 64 5) rfl rfl rfl rfl rfl es21_2 (fun z22 hz22 => ?_)
        have tz22 := tf_64_5 hI
        refine h_istore_n (pc' := 68) (M := [(2, .int z22), (0, .ref 63), (1, .int x0)]) rfl rfl rfl rfl ?_
        refine h_aload_n (pc' := 69) rfl rfl rfl ?_
        refine h_call (sp := false) (pc' := 72) (M := [(0, .ref 63)]) rfl rfl rfl rfl rfl rfl rfl rfl ?_
        refine v_stepX _ Is21  (fun s24 Is24 Gs24 ps24_0 ps24_1 => h_Kn ?_)
        have Fs24 := (Gs24).tr Fs21
        clear es21_0 es21_1 es21_2
        refine h_iload_n (pc' := 73) rfl rfl rfl ?_
        exact h_iret rfl rfl (kk _ _ hz22 _ Is24 Fs24 (by omega) (by omega) (by omega))
    · refine h_aload_n (pc' := 19) rfl rfl rfl ?_
      refine h_iconst (pc' := 20) (x := (Int32.ofInt 2)) rfl rfl rfl ?_
      refine h_aload_n (pc' := 21) rfl rfl rfl ?_
      refine h_getR (pc' := 24) rfl rfl rfl rfl rfl ?_
      refine h_getI (pc' := 27) (v := σ 64 4) rfl rfl rfl rfl rfl rfl (fun z25 hz25 => ?_)
      have tz25 := tf_64_4 hI
      refine h_call (sp := false) (pc' := 30) (M := [(0, .ref 63), (1, .int (Int32.ofInt 2)), (2, .int z25)]) rfl rfl rfl rfl rfl rfl rfl rfl ?_
      refine h_aload_n (pc' := 1) rfl rfl rfl ?_
      refine h_getI (pc' := 4) (v := σ 63 2) rfl rfl rfl rfl rfl rfl (fun z26 hz26 => ?_)
      have tz26 := tf_63_2 hI
      refine h_zne (tg := 17) (pc' := 7) rfl rfl rfl hz26 (fun c27 => absurd c27 (by omega)) (fun c27 => ?_)
      refine h_aload_n (pc' := 8) rfl rfl rfl ?_
      refine h_iload_n (pc' := 9) rfl rfl rfl ?_
      refine h_put (pc' := 12) rfl rfl rfl rfl rfl rfl ci_2 rfl (h_fgt (E := fun s => s 63 2 = 2 ∧ s 64 3 = σ 64 3 ∧ s 64 5 = σ 64 5) _ (if_63_2 hI (by omega)) (F00.up rfl) ⟨rfl, rfl, rfl⟩ (fun s28 Is28 Fs28 ⟨es28_0, es28_1, es28_2⟩ => ?_))
      refine h_aload_n (pc' := 13) rfl rfl rfl ?_
      refine h_iload_n (pc' := 14) rfl rfl rfl ?_
      refine h_put (pc' := 17) rfl rfl rfl rfl rfl rfl hz25 rfl (h_fgt (E := fun s => s 63 2 = 2 ∧ s 64 3 = σ 64 3 ∧ s 64 5 = σ 64 5) _ (if_63_3 Is28 (h_rgv hz25)) (Fs28.up rfl) ⟨es28_0, es28_1, es28_2⟩ (fun s29 Is29 Fs29 ⟨es29_0, es29_1, es29_2⟩ => ?_))
      clear es28_0 es28_1 es28_2
      refine h_vret rfl rfl (h_Kn ?_)
      refine h_aload_n (pc' := 31) rfl rfl rfl ?_
      refine h_getI (pc' := 34) (v := 2) rfl rfl rfl rfl rfl es29_0 (fun z30 hz30 => ?_)
      refine h_zne (tg := 60) (pc' := 37) rfl rfl rfl hz30 (fun c31 => ?_) (fun c31 => absurd c31 (by omega))
      refine h_aload_n (pc' := 61) rfl rfl rfl ?_
      refine h_getR (pc' := 64) rfl rfl rfl rfl rfl ?_
      refine h_getI (pc' := 67) (v := σ 64 5) rfl rfl rfl rfl rfl es29_2 (fun z32 hz32 => ?_)
      have tz32 := tf_64_5 hI
      refine h_istore_n (pc' := 68) (M := [(2, .int z32), (0, .ref 63), (1, .int x0)]) rfl rfl rfl rfl ?_
      refine h_aload_n (pc' := 69) rfl rfl rfl ?_
      refine h_call (sp := false) (pc' := 72) (M := [(0, .ref 63)]) rfl rfl rfl rfl rfl rfl rfl rfl ?_
      refine v_stepX _ Is29  (fun s34 Is34 Gs34 ps34_0 ps34_1 => h_Kn ?_)
      have Fs34 := (Gs34).tr Fs29
      clear es29_0 es29_1 es29_2
      refine h_iload_n (pc' := 73) rfl rfl rfl ?_
      exact h_iret rfl rfl (kk _ _ hz32 _ Is34 Fs34 (by omega) (by omega) (by omega))
theorem v_readOne {ns : Nat} (σ : h_S) (hI : h_I σ) (x0 : Int32) (a0 : Int) (hx0 : x0.toInt = a0) (ra0 : 0 ≤ a0 ∧ a0 ≤ 3) (pr0 : (¬ σ 63 2 = 0 ∨ ¬ σ 64 3 = 2 ∨ (0 ≤ σ 64 5 ∧ σ 64 5 ≤ 99))) {Q : Option Value → h_S → Prop} (kk : ∀ (τ : h_S), h_I τ → h_F k_nt τ σ → ((¬ τ 63 2 = 0 ∨ ¬ τ 64 3 = 2 ∨ (0 ≤ τ 64 5 ∧ τ 64 5 ≤ 99))) → (¬ σ 63 2 = 0 → ¬ τ 63 2 = 0) → Q none τ) : h_T g_P (g_Y ns) 59 0 [(0, .ref 63), (1, .int x0)] [] σ Q := by
  have F00 : h_F k_nt σ σ := h_F.rf
  refine h_aload_n (pc' := 1) rfl rfl rfl ?_
  refine h_aload_n (pc' := 2) rfl rfl rfl ?_
  refine h_getR (pc' := 5) rfl rfl rfl rfl rfl ?_
  refine h_getI (pc' := 8) (v := σ 66 8) rfl rfl rfl rfl rfl rfl (fun z1 hz1 => ?_)
  have tz1 := tf_66_8 hI
  refine h_bipush (pc' := 10) (x := (Int32.ofInt 6)) rfl rfl cb_6 ?_
  refine h_clt (tg := 17) (pc' := 13) rfl rfl rfl hz1 ci_6 (fun c2 => ?_) (fun c2 => ?_)
  · refine h_iconst (pc' := 18) (x := (Int32.ofInt 0)) rfl rfl rfl ?_
    refine h_call (sp := false) (pc' := 21) (M := [(0, .ref 63), (1, .int (Int32.ofInt 0))]) rfl rfl rfl rfl rfl rfl rfl rfl ?_
    refine v_takeName _ hI (Int32.ofInt 0) _ ci_0 (by omega) (fun s4 Is4 Gs4 ps4_0 ps4_1 => h_Kn ?_)
    have Fs4 := (Gs4.l1).tr F00
    refine h_aload_n (pc' := 22) rfl rfl rfl ?_
    refine h_call (sp := false) (pc' := 25) (M := [(0, .ref 63)]) rfl rfl rfl rfl rfl rfl rfl rfl ?_
    refine h_aload_n (pc' := 1) rfl rfl rfl ?_
    refine h_getI (pc' := 4) (v := s4 63 2) rfl rfl rfl rfl rfl rfl (fun z5 hz5 => ?_)
    have tz5 := tf_63_2 Is4
    refine h_zne (tg := 22) (pc' := 7) rfl rfl rfl hz5 (fun c6 => ?_) (fun c6 => ?_)
    · refine h_iconst (pc' := 23) (x := (Int32.ofInt 0)) rfl rfl rfl ?_
      refine h_zret rfl rfl ci_0 (by omega) (h_Kv ?_)
      refine h_zeq (tg := 44) (pc' := 28) rfl rfl rfl ci_0 (fun c7 => ?_) (fun c7 => absurd c7 (by omega))
      refine h_bipush (pc' := 46) (x := (Int32.ofInt (-4))) rfl rfl cb_m4 ?_
      refine h_istore_n (pc' := 47) (M := [(2, .int (Int32.ofInt (-4))), (0, .ref 63), (1, .int x0)]) rfl rfl rfl rfl ?_
      refine h_aload_n (pc' := 48) rfl rfl rfl ?_
      refine h_getI (pc' := 51) (v := s4 63 2) rfl rfl rfl rfl rfl rfl (fun z8 hz8 => ?_)
      have tz8 := tf_63_2 Is4
      refine h_zne (tg := 63) (pc' := 54) rfl rfl rfl hz8 (fun c9 => ?_) (fun c9 => absurd c9 (by omega))
      exact h_vret rfl rfl (kk _ Is4 Fs4 (by omega) (by omega))
    · refine h_aload_n (pc' := 8) rfl rfl rfl ?_
      refine h_getR (pc' := 11) rfl rfl rfl rfl rfl ?_
      refine h_getI (pc' := 14) (v := s4 64 3) rfl rfl rfl rfl rfl rfl (fun z10 hz10 => ?_)
      have tz10 := tf_64_3 Is4
      refine h_iconst (pc' := 15) (x := (Int32.ofInt 2)) rfl rfl rfl ?_
      refine h_cne (tg := 22) (pc' := 18) rfl rfl rfl hz10 ci_2 (fun c11 => ?_) (fun c11 => ?_)
      · refine h_iconst (pc' := 23) (x := (Int32.ofInt 0)) rfl rfl rfl ?_
        refine h_zret rfl rfl ci_0 (by omega) (h_Kv ?_)
        refine h_zeq (tg := 44) (pc' := 28) rfl rfl rfl ci_0 (fun c12 => ?_) (fun c12 => absurd c12 (by omega))
        refine h_bipush (pc' := 46) (x := (Int32.ofInt (-4))) rfl rfl cb_m4 ?_
        refine h_istore_n (pc' := 47) (M := [(2, .int (Int32.ofInt (-4))), (0, .ref 63), (1, .int x0)]) rfl rfl rfl rfl ?_
        refine h_aload_n (pc' := 48) rfl rfl rfl ?_
        refine h_getI (pc' := 51) (v := s4 63 2) rfl rfl rfl rfl rfl rfl (fun z13 hz13 => ?_)
        have tz13 := tf_63_2 Is4
        refine h_zne (tg := 63) (pc' := 54) rfl rfl rfl hz13 (fun c14 => absurd c14 (by omega)) (fun c14 => ?_)
        refine h_aload_n (pc' := 55) rfl rfl rfl ?_
        refine h_getR (pc' := 58) rfl rfl rfl rfl rfl ?_
        refine h_iload_n (pc' := 59) rfl rfl rfl ?_
        refine h_iload_n (pc' := 60) rfl rfl rfl ?_
        refine h_call (sp := false) (pc' := 63) (M := [(0, .ref 66), (1, .int x0), (2, .int (Int32.ofInt (-4)))]) rfl rfl rfl rfl rfl rfl rfl rfl ?_
        refine h_aload_n (pc' := 1) rfl rfl rfl ?_
        refine h_getI (pc' := 4) (v := s4 66 8) rfl rfl rfl rfl rfl rfl (fun z15 hz15 => ?_)
        have tz15 := tf_66_8 Is4
        refine h_bipush (pc' := 6) (x := (Int32.ofInt 6)) rfl rfl cb_6 ?_
        refine h_cge (tg := 39) (pc' := 9) rfl rfl rfl hz15 ci_6 (fun c16 => ?_) (fun c16 => ?_)
        · refine h_vret rfl rfl (h_Kn ?_)
          exact h_vret rfl rfl (kk _ Is4 Fs4 (by omega) (by omega))
        · refine h_aload_n (pc' := 10) rfl rfl rfl ?_
          refine h_getR (pc' := 13) rfl rfl rfl rfl rfl ?_
          refine h_aload_n (pc' := 14) rfl rfl rfl ?_
          refine h_getI (pc' := 17) (v := s4 66 8) rfl rfl rfl rfl rfl rfl (fun z17 hz17 => ?_)
          have tz17 := tf_66_8 Is4
          refine h_iload_n (pc' := 18) rfl rfl rfl ?_
          refine h_iast (pc' := 19) rfl rfl rfl rfl hz17 (by omega) (by omega) hx0 (h_fgt (E := fun s => s 63 2 = s4 63 2 ∧ s 64 3 = s4 64 3 ∧ s 64 5 = s4 64 5) _ (in_67 Is4 (by omega)) (Fs4.up rfl) ⟨rfl, rfl, rfl⟩ (fun s18 Is18 Fs18 ⟨es18_0, es18_1, es18_2⟩ => ?_))
          refine h_aload_n (pc' := 20) rfl rfl rfl ?_
          refine h_getR (pc' := 23) rfl rfl rfl rfl rfl ?_
          refine h_aload_n (pc' := 24) rfl rfl rfl ?_
          refine h_getI (pc' := 27) (v := s18 66 8) rfl rfl rfl rfl rfl rfl (fun z19 hz19 => ?_)
          have tz19 := tf_66_8 Is18
          refine h_iload_n (pc' := 28) rfl rfl rfl ?_
          refine h_iast (pc' := 29) rfl rfl rfl rfl hz19 (by omega) (by omega) ci_m4 (h_fgt (E := fun s => s 63 2 = s4 63 2 ∧ s 64 3 = s4 64 3 ∧ s 64 5 = s4 64 5) _ (in_68 Is18 (by omega)) (Fs18.up rfl) ⟨es18_0, es18_1, es18_2⟩ (fun s20 Is20 Fs20 ⟨es20_0, es20_1, es20_2⟩ => ?_))
          clear es18_0 es18_1 es18_2
          refine h_aload_n (pc' := 30) rfl rfl rfl ?_
          refine h_dup (pc' := 31) rfl rfl rfl ?_
          refine h_getI (pc' := 34) (v := s20 66 8) rfl rfl rfl rfl rfl rfl (fun z21 hz21 => ?_)
          have tz21 := tf_66_8 Is20
          refine h_iconst (pc' := 35) (x := (Int32.ofInt 1)) rfl rfl rfl ?_
          refine h_iadd (pc' := 36) rfl rfl hz21 ci_1 rfl (by omega) (by omega) (fun z22 hz22 => ?_)
          refine h_put (pc' := 39) rfl rfl rfl rfl rfl rfl hz22 rfl (h_fgt (E := fun s => s 63 2 = s4 63 2 ∧ s 64 3 = s4 64 3 ∧ s 64 5 = s4 64 5) _ (if_66_8 Is20 (by omega)) (Fs20.up rfl) ⟨es20_0, es20_1, es20_2⟩ (fun s23 Is23 Fs23 ⟨es23_0, es23_1, es23_2⟩ => ?_))
          clear es20_0 es20_1 es20_2
          refine h_vret rfl rfl (h_Kn ?_)
          exact h_vret rfl rfl (kk _ Is23 Fs23 (by omega) (by omega))
      · refine h_iconst (pc' := 19) (x := (Int32.ofInt 1)) rfl rfl rfl ?_
        refine h_goto (pc' := 23) rfl rfl ?_
        refine h_zret rfl rfl ci_1 (by omega) (h_Kv ?_)
        refine h_zeq (tg := 44) (pc' := 28) rfl rfl rfl ci_1 (fun c24 => absurd c24 (by omega)) (fun c24 => ?_)
        refine h_aload_n (pc' := 29) rfl rfl rfl ?_
        refine h_aload_n (pc' := 30) rfl rfl rfl ?_
        refine h_getR (pc' := 33) rfl rfl rfl rfl rfl ?_
        refine h_getI (pc' := 36) (v := s4 66 8) rfl rfl rfl rfl rfl rfl (fun z25 hz25 => ?_)
        have tz25 := tf_66_8 Is4
        refine h_iconst (pc' := 37) (x := (Int32.ofInt 1)) rfl rfl rfl ?_
        refine h_isub (pc' := 38) rfl rfl hz25 ci_1 rfl (by omega) (by omega) (fun z26 hz26 => ?_)
        refine h_call (sp := false) (pc' := 41) (M := [(0, .ref 63), (1, .int z26)]) rfl rfl rfl rfl rfl rfl rfl rfl ?_
        refine v_takeNumber _ Is4 z26 _ hz26 (by omega) (fun r27 br27 hr27 s28 Is28 Gs28 ps28_0 ps28_1 ps28_2 => h_Kv ?_)
        have Fs28 := (Gs28.l1).tr Fs4
        refine h_goto (pc' := 46) rfl rfl ?_
        refine h_istore_n (pc' := 47) (M := [(2, .int r27), (0, .ref 63), (1, .int x0)]) rfl rfl rfl rfl ?_
        refine h_aload_n (pc' := 48) rfl rfl rfl ?_
        refine h_getI (pc' := 51) (v := s28 63 2) rfl rfl rfl rfl rfl rfl (fun z29 hz29 => ?_)
        have tz29 := tf_63_2 Is28
        refine h_zne (tg := 63) (pc' := 54) rfl rfl rfl hz29 (fun c30 => ?_) (fun c30 => ?_)
        · exact h_vret rfl rfl (kk _ Is28 Fs28 (by omega) (by omega))
        · refine h_aload_n (pc' := 55) rfl rfl rfl ?_
          refine h_getR (pc' := 58) rfl rfl rfl rfl rfl ?_
          refine h_iload_n (pc' := 59) rfl rfl rfl ?_
          refine h_iload_n (pc' := 60) rfl rfl rfl ?_
          refine h_call (sp := false) (pc' := 63) (M := [(0, .ref 66), (1, .int x0), (2, .int r27)]) rfl rfl rfl rfl rfl rfl rfl rfl ?_
          refine h_aload_n (pc' := 1) rfl rfl rfl ?_
          refine h_getI (pc' := 4) (v := s28 66 8) rfl rfl rfl rfl rfl rfl (fun z31 hz31 => ?_)
          have tz31 := tf_66_8 Is28
          refine h_bipush (pc' := 6) (x := (Int32.ofInt 6)) rfl rfl cb_6 ?_
          refine h_cge (tg := 39) (pc' := 9) rfl rfl rfl hz31 ci_6 (fun c32 => ?_) (fun c32 => ?_)
          · refine h_vret rfl rfl (h_Kn ?_)
            exact h_vret rfl rfl (kk _ Is28 Fs28 (by omega) (by omega))
          · refine h_aload_n (pc' := 10) rfl rfl rfl ?_
            refine h_getR (pc' := 13) rfl rfl rfl rfl rfl ?_
            refine h_aload_n (pc' := 14) rfl rfl rfl ?_
            refine h_getI (pc' := 17) (v := s28 66 8) rfl rfl rfl rfl rfl rfl (fun z33 hz33 => ?_)
            have tz33 := tf_66_8 Is28
            refine h_iload_n (pc' := 18) rfl rfl rfl ?_
            refine h_iast (pc' := 19) rfl rfl rfl rfl hz33 (by omega) (by omega) hx0 (h_fgt (E := fun s => s 63 2 = s28 63 2 ∧ s 64 3 = s28 64 3 ∧ s 64 5 = s28 64 5) _ (in_67 Is28 (by omega)) (Fs28.up rfl) ⟨rfl, rfl, rfl⟩ (fun s34 Is34 Fs34 ⟨es34_0, es34_1, es34_2⟩ => ?_))
            refine h_aload_n (pc' := 20) rfl rfl rfl ?_
            refine h_getR (pc' := 23) rfl rfl rfl rfl rfl ?_
            refine h_aload_n (pc' := 24) rfl rfl rfl ?_
            refine h_getI (pc' := 27) (v := s34 66 8) rfl rfl rfl rfl rfl rfl (fun z35 hz35 => ?_)
            have tz35 := tf_66_8 Is34
            refine h_iload_n (pc' := 28) rfl rfl rfl ?_
            refine h_iast (pc' := 29) rfl rfl rfl rfl hz35 (by omega) (by omega) hr27 (h_fgt (E := fun s => s 63 2 = s28 63 2 ∧ s 64 3 = s28 64 3 ∧ s 64 5 = s28 64 5) _ (in_68 Is34 (by omega)) (Fs34.up rfl) ⟨es34_0, es34_1, es34_2⟩ (fun s36 Is36 Fs36 ⟨es36_0, es36_1, es36_2⟩ => ?_))
            clear es34_0 es34_1 es34_2
            refine h_aload_n (pc' := 30) rfl rfl rfl ?_
            refine h_dup (pc' := 31) rfl rfl rfl ?_
            refine h_getI (pc' := 34) (v := s36 66 8) rfl rfl rfl rfl rfl rfl (fun z37 hz37 => ?_)
            have tz37 := tf_66_8 Is36
            refine h_iconst (pc' := 35) (x := (Int32.ofInt 1)) rfl rfl rfl ?_
            refine h_iadd (pc' := 36) rfl rfl hz37 ci_1 rfl (by omega) (by omega) (fun z38 hz38 => ?_)
            refine h_put (pc' := 39) rfl rfl rfl rfl rfl rfl hz38 rfl (h_fgt (E := fun s => s 63 2 = s28 63 2 ∧ s 64 3 = s28 64 3 ∧ s 64 5 = s28 64 5) _ (if_66_8 Is36 (by omega)) (Fs36.up rfl) ⟨es36_0, es36_1, es36_2⟩ (fun s39 Is39 Fs39 ⟨es39_0, es39_1, es39_2⟩ => ?_))
            clear es36_0 es36_1 es36_2
            refine h_vret rfl rfl (h_Kn ?_)
            exact h_vret rfl rfl (kk _ Is39 Fs39 (by omega) (by omega))
  · refine h_iconst (pc' := 14) (x := (Int32.ofInt 1)) rfl rfl rfl ?_
    refine h_goto (pc' := 18) rfl rfl ?_
    refine h_call (sp := false) (pc' := 21) (M := [(0, .ref 63), (1, .int (Int32.ofInt 1))]) rfl rfl rfl rfl rfl rfl rfl rfl ?_
    refine v_takeName _ hI (Int32.ofInt 1) _ ci_1 (by omega) (fun s41 Is41 Gs41 ps41_0 ps41_1 => h_Kn ?_)
    have Fs41 := (Gs41.l1).tr F00
    refine h_aload_n (pc' := 22) rfl rfl rfl ?_
    refine h_call (sp := false) (pc' := 25) (M := [(0, .ref 63)]) rfl rfl rfl rfl rfl rfl rfl rfl ?_
    refine h_aload_n (pc' := 1) rfl rfl rfl ?_
    refine h_getI (pc' := 4) (v := s41 63 2) rfl rfl rfl rfl rfl rfl (fun z42 hz42 => ?_)
    have tz42 := tf_63_2 Is41
    refine h_zne (tg := 22) (pc' := 7) rfl rfl rfl hz42 (fun c43 => ?_) (fun c43 => ?_)
    · refine h_iconst (pc' := 23) (x := (Int32.ofInt 0)) rfl rfl rfl ?_
      refine h_zret rfl rfl ci_0 (by omega) (h_Kv ?_)
      refine h_zeq (tg := 44) (pc' := 28) rfl rfl rfl ci_0 (fun c44 => ?_) (fun c44 => absurd c44 (by omega))
      refine h_bipush (pc' := 46) (x := (Int32.ofInt (-4))) rfl rfl cb_m4 ?_
      refine h_istore_n (pc' := 47) (M := [(2, .int (Int32.ofInt (-4))), (0, .ref 63), (1, .int x0)]) rfl rfl rfl rfl ?_
      refine h_aload_n (pc' := 48) rfl rfl rfl ?_
      refine h_getI (pc' := 51) (v := s41 63 2) rfl rfl rfl rfl rfl rfl (fun z45 hz45 => ?_)
      have tz45 := tf_63_2 Is41
      refine h_zne (tg := 63) (pc' := 54) rfl rfl rfl hz45 (fun c46 => ?_) (fun c46 => absurd c46 (by omega))
      exact h_vret rfl rfl (kk _ Is41 Fs41 (by omega) (by omega))
    · refine h_aload_n (pc' := 8) rfl rfl rfl ?_
      refine h_getR (pc' := 11) rfl rfl rfl rfl rfl ?_
      refine h_getI (pc' := 14) (v := s41 64 3) rfl rfl rfl rfl rfl rfl (fun z47 hz47 => ?_)
      have tz47 := tf_64_3 Is41
      refine h_iconst (pc' := 15) (x := (Int32.ofInt 2)) rfl rfl rfl ?_
      refine h_cne (tg := 22) (pc' := 18) rfl rfl rfl hz47 ci_2 (fun c48 => ?_) (fun c48 => ?_)
      · refine h_iconst (pc' := 23) (x := (Int32.ofInt 0)) rfl rfl rfl ?_
        refine h_zret rfl rfl ci_0 (by omega) (h_Kv ?_)
        refine h_zeq (tg := 44) (pc' := 28) rfl rfl rfl ci_0 (fun c49 => ?_) (fun c49 => absurd c49 (by omega))
        refine h_bipush (pc' := 46) (x := (Int32.ofInt (-4))) rfl rfl cb_m4 ?_
        refine h_istore_n (pc' := 47) (M := [(2, .int (Int32.ofInt (-4))), (0, .ref 63), (1, .int x0)]) rfl rfl rfl rfl ?_
        refine h_aload_n (pc' := 48) rfl rfl rfl ?_
        refine h_getI (pc' := 51) (v := s41 63 2) rfl rfl rfl rfl rfl rfl (fun z50 hz50 => ?_)
        have tz50 := tf_63_2 Is41
        refine h_zne (tg := 63) (pc' := 54) rfl rfl rfl hz50 (fun c51 => absurd c51 (by omega)) (fun c51 => ?_)
        refine h_aload_n (pc' := 55) rfl rfl rfl ?_
        refine h_getR (pc' := 58) rfl rfl rfl rfl rfl ?_
        refine h_iload_n (pc' := 59) rfl rfl rfl ?_
        refine h_iload_n (pc' := 60) rfl rfl rfl ?_
        refine h_call (sp := false) (pc' := 63) (M := [(0, .ref 66), (1, .int x0), (2, .int (Int32.ofInt (-4)))]) rfl rfl rfl rfl rfl rfl rfl rfl ?_
        refine h_aload_n (pc' := 1) rfl rfl rfl ?_
        refine h_getI (pc' := 4) (v := s41 66 8) rfl rfl rfl rfl rfl rfl (fun z52 hz52 => ?_)
        have tz52 := tf_66_8 Is41
        refine h_bipush (pc' := 6) (x := (Int32.ofInt 6)) rfl rfl cb_6 ?_
        refine h_cge (tg := 39) (pc' := 9) rfl rfl rfl hz52 ci_6 (fun c53 => ?_) (fun c53 => ?_)
        · refine h_vret rfl rfl (h_Kn ?_)
          exact h_vret rfl rfl (kk _ Is41 Fs41 (by omega) (by omega))
        · refine h_aload_n (pc' := 10) rfl rfl rfl ?_
          refine h_getR (pc' := 13) rfl rfl rfl rfl rfl ?_
          refine h_aload_n (pc' := 14) rfl rfl rfl ?_
          refine h_getI (pc' := 17) (v := s41 66 8) rfl rfl rfl rfl rfl rfl (fun z54 hz54 => ?_)
          have tz54 := tf_66_8 Is41
          refine h_iload_n (pc' := 18) rfl rfl rfl ?_
          refine h_iast (pc' := 19) rfl rfl rfl rfl hz54 (by omega) (by omega) hx0 (h_fgt (E := fun s => s 63 2 = s41 63 2 ∧ s 64 3 = s41 64 3 ∧ s 64 5 = s41 64 5) _ (in_67 Is41 (by omega)) (Fs41.up rfl) ⟨rfl, rfl, rfl⟩ (fun s55 Is55 Fs55 ⟨es55_0, es55_1, es55_2⟩ => ?_))
          refine h_aload_n (pc' := 20) rfl rfl rfl ?_
          refine h_getR (pc' := 23) rfl rfl rfl rfl rfl ?_
          refine h_aload_n (pc' := 24) rfl rfl rfl ?_
          refine h_getI (pc' := 27) (v := s55 66 8) rfl rfl rfl rfl rfl rfl (fun z56 hz56 => ?_)
          have tz56 := tf_66_8 Is55
          refine h_iload_n (pc' := 28) rfl rfl rfl ?_
          refine h_iast (pc' := 29) rfl rfl rfl rfl hz56 (by omega) (by omega) ci_m4 (h_fgt (E := fun s => s 63 2 = s41 63 2 ∧ s 64 3 = s41 64 3 ∧ s 64 5 = s41 64 5) _ (in_68 Is55 (by omega)) (Fs55.up rfl) ⟨es55_0, es55_1, es55_2⟩ (fun s57 Is57 Fs57 ⟨es57_0, es57_1, es57_2⟩ => ?_))
          clear es55_0 es55_1 es55_2
          refine h_aload_n (pc' := 30) rfl rfl rfl ?_
          refine h_dup (pc' := 31) rfl rfl rfl ?_
          refine h_getI (pc' := 34) (v := s57 66 8) rfl rfl rfl rfl rfl rfl (fun z58 hz58 => ?_)
          have tz58 := tf_66_8 Is57
          refine h_iconst (pc' := 35) (x := (Int32.ofInt 1)) rfl rfl rfl ?_
          refine h_iadd (pc' := 36) rfl rfl hz58 ci_1 rfl (by omega) (by omega) (fun z59 hz59 => ?_)
          refine h_put (pc' := 39) rfl rfl rfl rfl rfl rfl hz59 rfl (h_fgt (E := fun s => s 63 2 = s41 63 2 ∧ s 64 3 = s41 64 3 ∧ s 64 5 = s41 64 5) _ (if_66_8 Is57 (by omega)) (Fs57.up rfl) ⟨es57_0, es57_1, es57_2⟩ (fun s60 Is60 Fs60 ⟨es60_0, es60_1, es60_2⟩ => ?_))
          clear es57_0 es57_1 es57_2
          refine h_vret rfl rfl (h_Kn ?_)
          exact h_vret rfl rfl (kk _ Is60 Fs60 (by omega) (by omega))
      · refine h_iconst (pc' := 19) (x := (Int32.ofInt 1)) rfl rfl rfl ?_
        refine h_goto (pc' := 23) rfl rfl ?_
        refine h_zret rfl rfl ci_1 (by omega) (h_Kv ?_)
        refine h_zeq (tg := 44) (pc' := 28) rfl rfl rfl ci_1 (fun c61 => absurd c61 (by omega)) (fun c61 => ?_)
        refine h_aload_n (pc' := 29) rfl rfl rfl ?_
        refine h_aload_n (pc' := 30) rfl rfl rfl ?_
        refine h_getR (pc' := 33) rfl rfl rfl rfl rfl ?_
        refine h_getI (pc' := 36) (v := s41 66 8) rfl rfl rfl rfl rfl rfl (fun z62 hz62 => ?_)
        have tz62 := tf_66_8 Is41
        refine h_iconst (pc' := 37) (x := (Int32.ofInt 1)) rfl rfl rfl ?_
        refine h_isub (pc' := 38) rfl rfl hz62 ci_1 rfl (by omega) (by omega) (fun z63 hz63 => ?_)
        refine h_call (sp := false) (pc' := 41) (M := [(0, .ref 63), (1, .int z63)]) rfl rfl rfl rfl rfl rfl rfl rfl ?_
        refine v_takeNumber _ Is41 z63 _ hz63 (by omega) (fun r64 br64 hr64 s65 Is65 Gs65 ps65_0 ps65_1 ps65_2 => h_Kv ?_)
        have Fs65 := (Gs65.l1).tr Fs41
        refine h_goto (pc' := 46) rfl rfl ?_
        refine h_istore_n (pc' := 47) (M := [(2, .int r64), (0, .ref 63), (1, .int x0)]) rfl rfl rfl rfl ?_
        refine h_aload_n (pc' := 48) rfl rfl rfl ?_
        refine h_getI (pc' := 51) (v := s65 63 2) rfl rfl rfl rfl rfl rfl (fun z66 hz66 => ?_)
        have tz66 := tf_63_2 Is65
        refine h_zne (tg := 63) (pc' := 54) rfl rfl rfl hz66 (fun c67 => ?_) (fun c67 => ?_)
        · exact h_vret rfl rfl (kk _ Is65 Fs65 (by omega) (by omega))
        · refine h_aload_n (pc' := 55) rfl rfl rfl ?_
          refine h_getR (pc' := 58) rfl rfl rfl rfl rfl ?_
          refine h_iload_n (pc' := 59) rfl rfl rfl ?_
          refine h_iload_n (pc' := 60) rfl rfl rfl ?_
          refine h_call (sp := false) (pc' := 63) (M := [(0, .ref 66), (1, .int x0), (2, .int r64)]) rfl rfl rfl rfl rfl rfl rfl rfl ?_
          refine h_aload_n (pc' := 1) rfl rfl rfl ?_
          refine h_getI (pc' := 4) (v := s65 66 8) rfl rfl rfl rfl rfl rfl (fun z68 hz68 => ?_)
          have tz68 := tf_66_8 Is65
          refine h_bipush (pc' := 6) (x := (Int32.ofInt 6)) rfl rfl cb_6 ?_
          refine h_cge (tg := 39) (pc' := 9) rfl rfl rfl hz68 ci_6 (fun c69 => ?_) (fun c69 => ?_)
          · refine h_vret rfl rfl (h_Kn ?_)
            exact h_vret rfl rfl (kk _ Is65 Fs65 (by omega) (by omega))
          · refine h_aload_n (pc' := 10) rfl rfl rfl ?_
            refine h_getR (pc' := 13) rfl rfl rfl rfl rfl ?_
            refine h_aload_n (pc' := 14) rfl rfl rfl ?_
            refine h_getI (pc' := 17) (v := s65 66 8) rfl rfl rfl rfl rfl rfl (fun z70 hz70 => ?_)
            have tz70 := tf_66_8 Is65
            refine h_iload_n (pc' := 18) rfl rfl rfl ?_
            refine h_iast (pc' := 19) rfl rfl rfl rfl hz70 (by omega) (by omega) hx0 (h_fgt (E := fun s => s 63 2 = s65 63 2 ∧ s 64 3 = s65 64 3 ∧ s 64 5 = s65 64 5) _ (in_67 Is65 (by omega)) (Fs65.up rfl) ⟨rfl, rfl, rfl⟩ (fun s71 Is71 Fs71 ⟨es71_0, es71_1, es71_2⟩ => ?_))
            refine h_aload_n (pc' := 20) rfl rfl rfl ?_
            refine h_getR (pc' := 23) rfl rfl rfl rfl rfl ?_
            refine h_aload_n (pc' := 24) rfl rfl rfl ?_
            refine h_getI (pc' := 27) (v := s71 66 8) rfl rfl rfl rfl rfl rfl (fun z72 hz72 => ?_)
            have tz72 := tf_66_8 Is71
            refine h_iload_n (pc' := 28) rfl rfl rfl ?_
            refine h_iast (pc' := 29) rfl rfl rfl rfl hz72 (by omega) (by omega) hr64 (h_fgt (E := fun s => s 63 2 = s65 63 2 ∧ s 64 3 = s65 64 3 ∧ s 64 5 = s65 64 5) _ (in_68 Is71 (by omega)) (Fs71.up rfl) ⟨es71_0, es71_1, es71_2⟩ (fun s73 Is73 Fs73 ⟨es73_0, es73_1, es73_2⟩ => ?_))
            clear es71_0 es71_1 es71_2
            refine h_aload_n (pc' := 30) rfl rfl rfl ?_
            refine h_dup (pc' := 31) rfl rfl rfl ?_
            refine h_getI (pc' := 34) (v := s73 66 8) rfl rfl rfl rfl rfl rfl (fun z74 hz74 => ?_)
            have tz74 := tf_66_8 Is73
            refine h_iconst (pc' := 35) (x := (Int32.ofInt 1)) rfl rfl rfl ?_
            refine h_iadd (pc' := 36) rfl rfl hz74 ci_1 rfl (by omega) (by omega) (fun z75 hz75 => ?_)
            refine h_put (pc' := 39) rfl rfl rfl rfl rfl rfl hz75 rfl (h_fgt (E := fun s => s 63 2 = s65 63 2 ∧ s 64 3 = s65 64 3 ∧ s 64 5 = s65 64 5) _ (if_66_8 Is73 (by omega)) (Fs73.up rfl) ⟨es73_0, es73_1, es73_2⟩ (fun s76 Is76 Fs76 ⟨es76_0, es76_1, es76_2⟩ => ?_))
            clear es73_0 es73_1 es73_2
            refine h_vret rfl rfl (h_Kn ?_)
            exact h_vret rfl rfl (kk _ Is76 Fs76 (by omega) (by omega))
theorem v_readPairX69 {ns : Nat} (σ : h_S) (hI : h_I σ) (pr0 : (¬ σ 63 2 = 0 ∨ ¬ σ 64 3 = 2 ∨ (0 ≤ σ 64 5 ∧ σ 64 5 ≤ 99))) {Q : Option Value → h_S → Prop} (kk : ∀ (τ : h_S), h_I τ → h_F k_nt τ σ → ((¬ τ 63 2 = 0 ∨ ¬ τ 64 3 = 2 ∨ (0 ≤ τ 64 5 ∧ τ 64 5 ≤ 99))) → (¬ σ 63 2 = 0 → ¬ τ 63 2 = 0) → Q none τ) : h_T g_P (g_Y ns) 60 0 [(0, .ref 63), (1, .ref 69)] [] σ Q := by
  have F00 : h_F k_nt σ σ := h_F.rf
  refine h_aload_n (pc' := 1) rfl rfl rfl ?_
  refine h_aload_n (pc' := 2) rfl rfl rfl ?_
  refine h_call (sp := false) (pc' := 5) (M := [(0, .ref 69)]) rfl rfl rfl rfl rfl rfl rfl rfl ?_
  refine h_aload_n (pc' := 1) rfl rfl rfl ?_
  refine h_getI (pc' := 4) (v := σ 69 2) rfl rfl rfl rfl rfl rfl (fun z1 hz1 => ?_)
  have tz1 := tf_69_2 hI
  refine h_iconst (pc' := 5) (x := (Int32.ofInt 3)) rfl rfl rfl ?_
  refine h_clt (tg := 12) (pc' := 8) rfl rfl rfl hz1 ci_3 (fun c2 => ?_) (fun c2 => ?_)
  · refine h_iconst (pc' := 13) (x := (Int32.ofInt 0)) rfl rfl rfl ?_
    refine h_zret rfl rfl ci_0 (by omega) (h_Kv ?_)
    refine h_call (sp := false) (pc' := 8) (M := [(0, .ref 63), (1, .int (Int32.ofInt 0))]) rfl rfl rfl rfl rfl rfl rfl rfl ?_
    refine v_takeName _ hI (Int32.ofInt 0) _ ci_0 (by omega) (fun s4 Is4 Gs4 ps4_0 ps4_1 => h_Kn ?_)
    have Fs4 := (Gs4.l1).tr F00
    refine h_aload_n (pc' := 9) rfl rfl rfl ?_
    refine h_iconst (pc' := 10) (x := (Int32.ofInt 5)) rfl rfl rfl ?_
    refine h_call (sp := false) (pc' := 13) (M := [(0, .ref 63), (1, .int (Int32.ofInt 5))]) rfl rfl rfl rfl rfl rfl rfl rfl ?_
    refine v_takeNumber _ Is4 (Int32.ofInt 5) _ ci_5 (by omega) (fun r5 br5 hr5 s6 Is6 Gs6 ps6_0 ps6_1 ps6_2 => h_Kv ?_)
    have Fs6 := (Gs6.l1).tr Fs4
    refine h_istore_n (pc' := 14) (M := [(2, .int r5), (0, .ref 63), (1, .ref 69)]) rfl rfl rfl rfl ?_
    refine h_aload_n (pc' := 15) rfl rfl rfl ?_
    refine h_call (sp := false) (pc' := 18) (M := [(0, .ref 63)]) rfl rfl rfl rfl rfl rfl rfl rfl ?_
    refine h_aload_n (pc' := 1) rfl rfl rfl ?_
    refine h_getI (pc' := 4) (v := s6 63 2) rfl rfl rfl rfl rfl rfl (fun z7 hz7 => ?_)
    have tz7 := tf_63_2 Is6
    refine h_zne (tg := 22) (pc' := 7) rfl rfl rfl hz7 (fun c8 => ?_) (fun c8 => ?_)
    · refine h_iconst (pc' := 23) (x := (Int32.ofInt 0)) rfl rfl rfl ?_
      refine h_zret rfl rfl ci_0 (by omega) (h_Kv ?_)
      refine h_zeq (tg := 44) (pc' := 21) rfl rfl rfl ci_0 (fun c9 => ?_) (fun c9 => absurd c9 (by omega))
      refine h_aload_n (pc' := 45) rfl rfl rfl ?_
      refine h_iconst (pc' := 46) (x := (Int32.ofInt 5)) rfl rfl rfl ?_
      refine h_call (sp := false) (pc' := 49) (M := [(0, .ref 63), (1, .int (Int32.ofInt 5))]) rfl rfl rfl rfl rfl rfl rfl rfl ?_
      refine v_takeNumber _ Is6 (Int32.ofInt 5) _ ci_5 (by omega) (fun r10 br10 hr10 s11 Is11 Gs11 ps11_0 ps11_1 ps11_2 => h_Kv ?_)
      have Fs11 := (Gs11.l1).tr Fs6
      refine h_istore_n (pc' := 50) (M := [(3, .int r10), (2, .int r5), (0, .ref 63), (1, .ref 69)]) rfl rfl rfl rfl ?_
      refine h_aload_n (pc' := 51) rfl rfl rfl ?_
      refine h_getI (pc' := 54) (v := s11 63 2) rfl rfl rfl rfl rfl rfl (fun z12 hz12 => ?_)
      have tz12 := tf_63_2 Is11
      refine h_zne (tg := 64) (pc' := 57) rfl rfl rfl hz12 (fun c13 => ?_) (fun c13 => ?_)
      · exact h_vret rfl rfl (kk _ Is11 Fs11 (by omega) (by omega))
      · refine h_aload_n (pc' := 58) rfl rfl rfl ?_
        refine h_iload_n (pc' := 59) rfl rfl rfl ?_
        refine h_iload_n (pc' := 60) rfl rfl rfl ?_
        refine h_call (sp := false) (pc' := 63) (M := [(0, .ref 69), (1, .int r5), (2, .int r10)]) rfl rfl rfl rfl rfl rfl rfl rfl ?_
        refine h_aload_n (pc' := 1) rfl rfl rfl ?_
        refine h_call (sp := false) (pc' := 4) (M := [(0, .ref 69)]) rfl rfl rfl rfl rfl rfl rfl rfl ?_
        refine h_aload_n (pc' := 1) rfl rfl rfl ?_
        refine h_getI (pc' := 4) (v := s11 69 2) rfl rfl rfl rfl rfl rfl (fun z14 hz14 => ?_)
        have tz14 := tf_69_2 Is11
        refine h_iconst (pc' := 5) (x := (Int32.ofInt 3)) rfl rfl rfl ?_
        refine h_clt (tg := 12) (pc' := 8) rfl rfl rfl hz14 ci_3 (fun c15 => ?_) (fun c15 => ?_)
        · refine h_iconst (pc' := 13) (x := (Int32.ofInt 0)) rfl rfl rfl ?_
          refine h_zret rfl rfl ci_0 (by omega) (h_Kv ?_)
          refine h_zeq (tg := 9) (pc' := 7) rfl rfl rfl ci_0 (fun c16 => ?_) (fun c16 => absurd c16 (by omega))
          refine h_aload_n (pc' := 10) rfl rfl rfl ?_
          refine h_getR (pc' := 13) rfl rfl rfl rfl rfl ?_
          refine h_aload_n (pc' := 14) rfl rfl rfl ?_
          refine h_getI (pc' := 17) (v := s11 69 2) rfl rfl rfl rfl rfl rfl (fun z17 hz17 => ?_)
          have tz17 := tf_69_2 Is11
          refine h_iload_n (pc' := 18) rfl rfl rfl ?_
          refine h_iast (pc' := 19) rfl rfl rfl rfl hz17 (by omega) (by omega) hr5 (h_fgt (E := fun s => s 63 2 = s11 63 2 ∧ s 64 3 = s11 64 3 ∧ s 64 5 = s11 64 5) _ (in_70 Is11 (by omega)) (Fs11.up rfl) ⟨rfl, rfl, rfl⟩ (fun s18 Is18 Fs18 ⟨es18_0, es18_1, es18_2⟩ => ?_))
          refine h_aload_n (pc' := 20) rfl rfl rfl ?_
          refine h_getR (pc' := 23) rfl rfl rfl rfl rfl ?_
          refine h_aload_n (pc' := 24) rfl rfl rfl ?_
          refine h_getI (pc' := 27) (v := s18 69 2) rfl rfl rfl rfl rfl rfl (fun z19 hz19 => ?_)
          have tz19 := tf_69_2 Is18
          refine h_iload_n (pc' := 28) rfl rfl rfl ?_
          refine h_iast (pc' := 29) rfl rfl rfl rfl hz19 (by omega) (by omega) hr10 (h_fgt (E := fun s => s 63 2 = s11 63 2 ∧ s 64 3 = s11 64 3 ∧ s 64 5 = s11 64 5) _ (in_71 Is18 (by omega)) (Fs18.up rfl) ⟨es18_0, es18_1, es18_2⟩ (fun s20 Is20 Fs20 ⟨es20_0, es20_1, es20_2⟩ => ?_))
          clear es18_0 es18_1 es18_2
          refine h_aload_n (pc' := 30) rfl rfl rfl ?_
          refine h_dup (pc' := 31) rfl rfl rfl ?_
          refine h_getI (pc' := 34) (v := s20 69 2) rfl rfl rfl rfl rfl rfl (fun z21 hz21 => ?_)
          have tz21 := tf_69_2 Is20
          refine h_iconst (pc' := 35) (x := (Int32.ofInt 1)) rfl rfl rfl ?_
          refine h_iadd (pc' := 36) rfl rfl hz21 ci_1 rfl (by omega) (by omega) (fun z22 hz22 => ?_)
          refine h_put (pc' := 39) rfl rfl rfl rfl rfl rfl hz22 rfl (h_fgt (E := fun s => s 63 2 = s11 63 2 ∧ s 64 3 = s11 64 3 ∧ s 64 5 = s11 64 5) _ (if_69_2 Is20 (by omega)) (Fs20.up rfl) ⟨es20_0, es20_1, es20_2⟩ (fun s23 Is23 Fs23 ⟨es23_0, es23_1, es23_2⟩ => ?_))
          clear es20_0 es20_1 es20_2
          refine h_iconst (pc' := 40) (x := (Int32.ofInt 1)) rfl rfl rfl ?_
          refine h_zret rfl rfl ci_1 (by omega) (h_Kv ?_)
          refine h_pop (pc' := 64) rfl rfl rfl ?_
          exact h_vret rfl rfl (kk _ Is23 Fs23 (by omega) (by omega))
        · refine h_iconst (pc' := 9) (x := (Int32.ofInt 1)) rfl rfl rfl ?_
          refine h_goto (pc' := 13) rfl rfl ?_
          refine h_zret rfl rfl ci_1 (by omega) (h_Kv ?_)
          refine h_zeq (tg := 9) (pc' := 7) rfl rfl rfl ci_1 (fun c24 => absurd c24 (by omega)) (fun c24 => ?_)
          refine h_iconst (pc' := 8) (x := (Int32.ofInt 0)) rfl rfl rfl ?_
          refine h_zret rfl rfl ci_0 (by omega) (h_Kv ?_)
          refine h_pop (pc' := 64) rfl rfl rfl ?_
          exact h_vret rfl rfl (kk _ Is11 Fs11 (by omega) (by omega))
    · refine h_aload_n (pc' := 8) rfl rfl rfl ?_
      refine h_getR (pc' := 11) rfl rfl rfl rfl rfl ?_
      refine h_getI (pc' := 14) (v := s6 64 3) rfl rfl rfl rfl rfl rfl (fun z25 hz25 => ?_)
      have tz25 := tf_64_3 Is6
      refine h_iconst (pc' := 15) (x := (Int32.ofInt 2)) rfl rfl rfl ?_
      refine h_cne (tg := 22) (pc' := 18) rfl rfl rfl hz25 ci_2 (fun c26 => ?_) (fun c26 => ?_)
      · refine h_iconst (pc' := 23) (x := (Int32.ofInt 0)) rfl rfl rfl ?_
        refine h_zret rfl rfl ci_0 (by omega) (h_Kv ?_)
        refine h_zeq (tg := 44) (pc' := 21) rfl rfl rfl ci_0 (fun c27 => ?_) (fun c27 => absurd c27 (by omega))
        refine h_aload_n (pc' := 45) rfl rfl rfl ?_
        refine h_iconst (pc' := 46) (x := (Int32.ofInt 5)) rfl rfl rfl ?_
        refine h_call (sp := false) (pc' := 49) (M := [(0, .ref 63), (1, .int (Int32.ofInt 5))]) rfl rfl rfl rfl rfl rfl rfl rfl ?_
        refine v_takeNumber _ Is6 (Int32.ofInt 5) _ ci_5 (by omega) (fun r28 br28 hr28 s29 Is29 Gs29 ps29_0 ps29_1 ps29_2 => h_Kv ?_)
        have Fs29 := (Gs29.l1).tr Fs6
        refine h_istore_n (pc' := 50) (M := [(3, .int r28), (2, .int r5), (0, .ref 63), (1, .ref 69)]) rfl rfl rfl rfl ?_
        refine h_aload_n (pc' := 51) rfl rfl rfl ?_
        refine h_getI (pc' := 54) (v := s29 63 2) rfl rfl rfl rfl rfl rfl (fun z30 hz30 => ?_)
        have tz30 := tf_63_2 Is29
        refine h_zne (tg := 64) (pc' := 57) rfl rfl rfl hz30 (fun c31 => ?_) (fun c31 => ?_)
        · exact h_vret rfl rfl (kk _ Is29 Fs29 (by omega) (by omega))
        · refine h_aload_n (pc' := 58) rfl rfl rfl ?_
          refine h_iload_n (pc' := 59) rfl rfl rfl ?_
          refine h_iload_n (pc' := 60) rfl rfl rfl ?_
          refine h_call (sp := false) (pc' := 63) (M := [(0, .ref 69), (1, .int r5), (2, .int r28)]) rfl rfl rfl rfl rfl rfl rfl rfl ?_
          refine h_aload_n (pc' := 1) rfl rfl rfl ?_
          refine h_call (sp := false) (pc' := 4) (M := [(0, .ref 69)]) rfl rfl rfl rfl rfl rfl rfl rfl ?_
          refine h_aload_n (pc' := 1) rfl rfl rfl ?_
          refine h_getI (pc' := 4) (v := s29 69 2) rfl rfl rfl rfl rfl rfl (fun z32 hz32 => ?_)
          have tz32 := tf_69_2 Is29
          refine h_iconst (pc' := 5) (x := (Int32.ofInt 3)) rfl rfl rfl ?_
          refine h_clt (tg := 12) (pc' := 8) rfl rfl rfl hz32 ci_3 (fun c33 => ?_) (fun c33 => ?_)
          · refine h_iconst (pc' := 13) (x := (Int32.ofInt 0)) rfl rfl rfl ?_
            refine h_zret rfl rfl ci_0 (by omega) (h_Kv ?_)
            refine h_zeq (tg := 9) (pc' := 7) rfl rfl rfl ci_0 (fun c34 => ?_) (fun c34 => absurd c34 (by omega))
            refine h_aload_n (pc' := 10) rfl rfl rfl ?_
            refine h_getR (pc' := 13) rfl rfl rfl rfl rfl ?_
            refine h_aload_n (pc' := 14) rfl rfl rfl ?_
            refine h_getI (pc' := 17) (v := s29 69 2) rfl rfl rfl rfl rfl rfl (fun z35 hz35 => ?_)
            have tz35 := tf_69_2 Is29
            refine h_iload_n (pc' := 18) rfl rfl rfl ?_
            refine h_iast (pc' := 19) rfl rfl rfl rfl hz35 (by omega) (by omega) hr5 (h_fgt (E := fun s => s 63 2 = s29 63 2 ∧ s 64 3 = s29 64 3 ∧ s 64 5 = s29 64 5) _ (in_70 Is29 (by omega)) (Fs29.up rfl) ⟨rfl, rfl, rfl⟩ (fun s36 Is36 Fs36 ⟨es36_0, es36_1, es36_2⟩ => ?_))
            refine h_aload_n (pc' := 20) rfl rfl rfl ?_
            refine h_getR (pc' := 23) rfl rfl rfl rfl rfl ?_
            refine h_aload_n (pc' := 24) rfl rfl rfl ?_
            refine h_getI (pc' := 27) (v := s36 69 2) rfl rfl rfl rfl rfl rfl (fun z37 hz37 => ?_)
            have tz37 := tf_69_2 Is36
            refine h_iload_n (pc' := 28) rfl rfl rfl ?_
            refine h_iast (pc' := 29) rfl rfl rfl rfl hz37 (by omega) (by omega) hr28 (h_fgt (E := fun s => s 63 2 = s29 63 2 ∧ s 64 3 = s29 64 3 ∧ s 64 5 = s29 64 5) _ (in_71 Is36 (by omega)) (Fs36.up rfl) ⟨es36_0, es36_1, es36_2⟩ (fun s38 Is38 Fs38 ⟨es38_0, es38_1, es38_2⟩ => ?_))
            clear es36_0 es36_1 es36_2
            refine h_aload_n (pc' := 30) rfl rfl rfl ?_
            refine h_dup (pc' := 31) rfl rfl rfl ?_
            refine h_getI (pc' := 34) (v := s38 69 2) rfl rfl rfl rfl rfl rfl (fun z39 hz39 => ?_)
            have tz39 := tf_69_2 Is38
            refine h_iconst (pc' := 35) (x := (Int32.ofInt 1)) rfl rfl rfl ?_
            refine h_iadd (pc' := 36) rfl rfl hz39 ci_1 rfl (by omega) (by omega) (fun z40 hz40 => ?_)
            refine h_put (pc' := 39) rfl rfl rfl rfl rfl rfl hz40 rfl (h_fgt (E := fun s => s 63 2 = s29 63 2 ∧ s 64 3 = s29 64 3 ∧ s 64 5 = s29 64 5) _ (if_69_2 Is38 (by omega)) (Fs38.up rfl) ⟨es38_0, es38_1, es38_2⟩ (fun s41 Is41 Fs41 ⟨es41_0, es41_1, es41_2⟩ => ?_))
            clear es38_0 es38_1 es38_2
            refine h_iconst (pc' := 40) (x := (Int32.ofInt 1)) rfl rfl rfl ?_
            refine h_zret rfl rfl ci_1 (by omega) (h_Kv ?_)
            refine h_pop (pc' := 64) rfl rfl rfl ?_
            exact h_vret rfl rfl (kk _ Is41 Fs41 (by omega) (by omega))
          · refine h_iconst (pc' := 9) (x := (Int32.ofInt 1)) rfl rfl rfl ?_
            refine h_goto (pc' := 13) rfl rfl ?_
            refine h_zret rfl rfl ci_1 (by omega) (h_Kv ?_)
            refine h_zeq (tg := 9) (pc' := 7) rfl rfl rfl ci_1 (fun c42 => absurd c42 (by omega)) (fun c42 => ?_)
            refine h_iconst (pc' := 8) (x := (Int32.ofInt 0)) rfl rfl rfl ?_
            refine h_zret rfl rfl ci_0 (by omega) (h_Kv ?_)
            refine h_pop (pc' := 64) rfl rfl rfl ?_
            exact h_vret rfl rfl (kk _ Is29 Fs29 (by omega) (by omega))
      · refine h_iconst (pc' := 19) (x := (Int32.ofInt 1)) rfl rfl rfl ?_
        refine h_goto (pc' := 23) rfl rfl ?_
        refine h_zret rfl rfl ci_1 (by omega) (h_Kv ?_)
        refine h_zeq (tg := 44) (pc' := 21) rfl rfl rfl ci_1 (fun c43 => absurd c43 (by omega)) (fun c43 => ?_)
        refine h_aload_n (pc' := 22) rfl rfl rfl ?_
        refine h_getR (pc' := 25) rfl rfl rfl rfl rfl ?_
        refine h_getI (pc' := 28) (v := s6 64 5) rfl rfl rfl rfl rfl rfl (fun z44 hz44 => ?_)
        have tz44 := tf_64_5 Is6
        refine h_iload_n (pc' := 29) rfl rfl rfl ?_
        refine h_cne (tg := 44) (pc' := 32) rfl rfl rfl hz44 hr5 (fun c45 => ?_) (fun c45 => ?_)
        · refine h_aload_n (pc' := 45) rfl rfl rfl ?_
          refine h_iconst (pc' := 46) (x := (Int32.ofInt 5)) rfl rfl rfl ?_
          refine h_call (sp := false) (pc' := 49) (M := [(0, .ref 63), (1, .int (Int32.ofInt 5))]) rfl rfl rfl rfl rfl rfl rfl rfl ?_
          refine v_takeNumber _ Is6 (Int32.ofInt 5) _ ci_5 (by omega) (fun r46 br46 hr46 s47 Is47 Gs47 ps47_0 ps47_1 ps47_2 => h_Kv ?_)
          have Fs47 := (Gs47.l1).tr Fs6
          refine h_istore_n (pc' := 50) (M := [(3, .int r46), (2, .int r5), (0, .ref 63), (1, .ref 69)]) rfl rfl rfl rfl ?_
          refine h_aload_n (pc' := 51) rfl rfl rfl ?_
          refine h_getI (pc' := 54) (v := s47 63 2) rfl rfl rfl rfl rfl rfl (fun z48 hz48 => ?_)
          have tz48 := tf_63_2 Is47
          refine h_zne (tg := 64) (pc' := 57) rfl rfl rfl hz48 (fun c49 => ?_) (fun c49 => ?_)
          · exact h_vret rfl rfl (kk _ Is47 Fs47 (by omega) (by omega))
          · refine h_aload_n (pc' := 58) rfl rfl rfl ?_
            refine h_iload_n (pc' := 59) rfl rfl rfl ?_
            refine h_iload_n (pc' := 60) rfl rfl rfl ?_
            refine h_call (sp := false) (pc' := 63) (M := [(0, .ref 69), (1, .int r5), (2, .int r46)]) rfl rfl rfl rfl rfl rfl rfl rfl ?_
            refine h_aload_n (pc' := 1) rfl rfl rfl ?_
            refine h_call (sp := false) (pc' := 4) (M := [(0, .ref 69)]) rfl rfl rfl rfl rfl rfl rfl rfl ?_
            refine h_aload_n (pc' := 1) rfl rfl rfl ?_
            refine h_getI (pc' := 4) (v := s47 69 2) rfl rfl rfl rfl rfl rfl (fun z50 hz50 => ?_)
            have tz50 := tf_69_2 Is47
            refine h_iconst (pc' := 5) (x := (Int32.ofInt 3)) rfl rfl rfl ?_
            refine h_clt (tg := 12) (pc' := 8) rfl rfl rfl hz50 ci_3 (fun c51 => ?_) (fun c51 => ?_)
            · refine h_iconst (pc' := 13) (x := (Int32.ofInt 0)) rfl rfl rfl ?_
              refine h_zret rfl rfl ci_0 (by omega) (h_Kv ?_)
              refine h_zeq (tg := 9) (pc' := 7) rfl rfl rfl ci_0 (fun c52 => ?_) (fun c52 => absurd c52 (by omega))
              refine h_aload_n (pc' := 10) rfl rfl rfl ?_
              refine h_getR (pc' := 13) rfl rfl rfl rfl rfl ?_
              refine h_aload_n (pc' := 14) rfl rfl rfl ?_
              refine h_getI (pc' := 17) (v := s47 69 2) rfl rfl rfl rfl rfl rfl (fun z53 hz53 => ?_)
              have tz53 := tf_69_2 Is47
              refine h_iload_n (pc' := 18) rfl rfl rfl ?_
              refine h_iast (pc' := 19) rfl rfl rfl rfl hz53 (by omega) (by omega) hr5 (h_fgt (E := fun s => s 63 2 = s47 63 2 ∧ s 64 3 = s47 64 3 ∧ s 64 5 = s47 64 5) _ (in_70 Is47 (by omega)) (Fs47.up rfl) ⟨rfl, rfl, rfl⟩ (fun s54 Is54 Fs54 ⟨es54_0, es54_1, es54_2⟩ => ?_))
              refine h_aload_n (pc' := 20) rfl rfl rfl ?_
              refine h_getR (pc' := 23) rfl rfl rfl rfl rfl ?_
              refine h_aload_n (pc' := 24) rfl rfl rfl ?_
              refine h_getI (pc' := 27) (v := s54 69 2) rfl rfl rfl rfl rfl rfl (fun z55 hz55 => ?_)
              have tz55 := tf_69_2 Is54
              refine h_iload_n (pc' := 28) rfl rfl rfl ?_
              refine h_iast (pc' := 29) rfl rfl rfl rfl hz55 (by omega) (by omega) hr46 (h_fgt (E := fun s => s 63 2 = s47 63 2 ∧ s 64 3 = s47 64 3 ∧ s 64 5 = s47 64 5) _ (in_71 Is54 (by omega)) (Fs54.up rfl) ⟨es54_0, es54_1, es54_2⟩ (fun s56 Is56 Fs56 ⟨es56_0, es56_1, es56_2⟩ => ?_))
              clear es54_0 es54_1 es54_2
              refine h_aload_n (pc' := 30) rfl rfl rfl ?_
              refine h_dup (pc' := 31) rfl rfl rfl ?_
              refine h_getI (pc' := 34) (v := s56 69 2) rfl rfl rfl rfl rfl rfl (fun z57 hz57 => ?_)
              have tz57 := tf_69_2 Is56
              refine h_iconst (pc' := 35) (x := (Int32.ofInt 1)) rfl rfl rfl ?_
              refine h_iadd (pc' := 36) rfl rfl hz57 ci_1 rfl (by omega) (by omega) (fun z58 hz58 => ?_)
              refine h_put (pc' := 39) rfl rfl rfl rfl rfl rfl hz58 rfl (h_fgt (E := fun s => s 63 2 = s47 63 2 ∧ s 64 3 = s47 64 3 ∧ s 64 5 = s47 64 5) _ (if_69_2 Is56 (by omega)) (Fs56.up rfl) ⟨es56_0, es56_1, es56_2⟩ (fun s59 Is59 Fs59 ⟨es59_0, es59_1, es59_2⟩ => ?_))
              clear es56_0 es56_1 es56_2
              refine h_iconst (pc' := 40) (x := (Int32.ofInt 1)) rfl rfl rfl ?_
              refine h_zret rfl rfl ci_1 (by omega) (h_Kv ?_)
              refine h_pop (pc' := 64) rfl rfl rfl ?_
              exact h_vret rfl rfl (kk _ Is59 Fs59 (by omega) (by omega))
            · refine h_iconst (pc' := 9) (x := (Int32.ofInt 1)) rfl rfl rfl ?_
              refine h_goto (pc' := 13) rfl rfl ?_
              refine h_zret rfl rfl ci_1 (by omega) (h_Kv ?_)
              refine h_zeq (tg := 9) (pc' := 7) rfl rfl rfl ci_1 (fun c60 => absurd c60 (by omega)) (fun c60 => ?_)
              refine h_iconst (pc' := 8) (x := (Int32.ofInt 0)) rfl rfl rfl ?_
              refine h_zret rfl rfl ci_0 (by omega) (h_Kv ?_)
              refine h_pop (pc' := 64) rfl rfl rfl ?_
              exact h_vret rfl rfl (kk _ Is47 Fs47 (by omega) (by omega))
        · refine h_aload_n (pc' := 33) rfl rfl rfl ?_
          refine h_iconst (pc' := 34) (x := (Int32.ofInt 3)) rfl rfl rfl ?_
          refine h_aload_n (pc' := 35) rfl rfl rfl ?_
          refine h_getR (pc' := 38) rfl rfl rfl rfl rfl ?_
          refine h_getI (pc' := 41) (v := s6 64 4) rfl rfl rfl rfl rfl rfl (fun z61 hz61 => ?_)
          have tz61 := tf_64_4 Is6
          refine h_call (sp := false) (pc' := 44) (M := [(0, .ref 63), (1, .int (Int32.ofInt 3)), (2, .int z61)]) rfl rfl rfl rfl rfl rfl rfl rfl ?_
          refine h_aload_n (pc' := 1) rfl rfl rfl ?_
          refine h_getI (pc' := 4) (v := s6 63 2) rfl rfl rfl rfl rfl rfl (fun z62 hz62 => ?_)
          have tz62 := tf_63_2 Is6
          refine h_zne (tg := 17) (pc' := 7) rfl rfl rfl hz62 (fun c63 => absurd c63 (by omega)) (fun c63 => ?_)
          refine h_aload_n (pc' := 8) rfl rfl rfl ?_
          refine h_iload_n (pc' := 9) rfl rfl rfl ?_
          refine h_put (pc' := 12) rfl rfl rfl rfl rfl rfl ci_3 rfl (h_fgt (E := fun s => s 63 2 = 3 ∧ s 64 3 = s6 64 3 ∧ s 64 5 = s6 64 5) _ (if_63_2 Is6 (by omega)) (Fs6.up rfl) ⟨rfl, rfl, rfl⟩ (fun s64 Is64 Fs64 ⟨es64_0, es64_1, es64_2⟩ => ?_))
          refine h_aload_n (pc' := 13) rfl rfl rfl ?_
          refine h_iload_n (pc' := 14) rfl rfl rfl ?_
          refine h_put (pc' := 17) rfl rfl rfl rfl rfl rfl hz61 rfl (h_fgt (E := fun s => s 63 2 = 3 ∧ s 64 3 = s6 64 3 ∧ s 64 5 = s6 64 5) _ (if_63_3 Is64 (h_rgv hz61)) (Fs64.up rfl) ⟨es64_0, es64_1, es64_2⟩ (fun s65 Is65 Fs65 ⟨es65_0, es65_1, es65_2⟩ => ?_))
          clear es64_0 es64_1 es64_2
          refine h_vret rfl rfl (h_Kn ?_)
          refine h_aload_n (pc' := 45) rfl rfl rfl ?_
          refine h_iconst (pc' := 46) (x := (Int32.ofInt 5)) rfl rfl rfl ?_
          refine h_call (sp := false) (pc' := 49) (M := [(0, .ref 63), (1, .int (Int32.ofInt 5))]) rfl rfl rfl rfl rfl rfl rfl rfl ?_
          refine v_takeNumber _ Is65 (Int32.ofInt 5) _ ci_5 (by omega) (fun r66 br66 hr66 s67 Is67 Gs67 ps67_0 ps67_1 ps67_2 => h_Kv ?_)
          have Fs67 := (Gs67.l1).tr Fs65
          clear es65_0 es65_1 es65_2
          refine h_istore_n (pc' := 50) (M := [(3, .int r66), (2, .int r5), (0, .ref 63), (1, .ref 69)]) rfl rfl rfl rfl ?_
          refine h_aload_n (pc' := 51) rfl rfl rfl ?_
          refine h_getI (pc' := 54) (v := s67 63 2) rfl rfl rfl rfl rfl rfl (fun z68 hz68 => ?_)
          have tz68 := tf_63_2 Is67
          refine h_zne (tg := 64) (pc' := 57) rfl rfl rfl hz68 (fun c69 => ?_) (fun c69 => ?_)
          · exact h_vret rfl rfl (kk _ Is67 Fs67 (by omega) (by omega))
          · refine h_aload_n (pc' := 58) rfl rfl rfl ?_
            refine h_iload_n (pc' := 59) rfl rfl rfl ?_
            refine h_iload_n (pc' := 60) rfl rfl rfl ?_
            refine h_call (sp := false) (pc' := 63) (M := [(0, .ref 69), (1, .int r5), (2, .int r66)]) rfl rfl rfl rfl rfl rfl rfl rfl ?_
            refine h_aload_n (pc' := 1) rfl rfl rfl ?_
            refine h_call (sp := false) (pc' := 4) (M := [(0, .ref 69)]) rfl rfl rfl rfl rfl rfl rfl rfl ?_
            refine h_aload_n (pc' := 1) rfl rfl rfl ?_
            refine h_getI (pc' := 4) (v := s67 69 2) rfl rfl rfl rfl rfl rfl (fun z70 hz70 => ?_)
            have tz70 := tf_69_2 Is67
            refine h_iconst (pc' := 5) (x := (Int32.ofInt 3)) rfl rfl rfl ?_
            refine h_clt (tg := 12) (pc' := 8) rfl rfl rfl hz70 ci_3 (fun c71 => ?_) (fun c71 => ?_)
            · refine h_iconst (pc' := 13) (x := (Int32.ofInt 0)) rfl rfl rfl ?_
              refine h_zret rfl rfl ci_0 (by omega) (h_Kv ?_)
              refine h_zeq (tg := 9) (pc' := 7) rfl rfl rfl ci_0 (fun c72 => ?_) (fun c72 => absurd c72 (by omega))
              refine h_aload_n (pc' := 10) rfl rfl rfl ?_
              refine h_getR (pc' := 13) rfl rfl rfl rfl rfl ?_
              refine h_aload_n (pc' := 14) rfl rfl rfl ?_
              refine h_getI (pc' := 17) (v := s67 69 2) rfl rfl rfl rfl rfl rfl (fun z73 hz73 => ?_)
              have tz73 := tf_69_2 Is67
              refine h_iload_n (pc' := 18) rfl rfl rfl ?_
              refine h_iast (pc' := 19) rfl rfl rfl rfl hz73 (by omega) (by omega) hr5 (h_fgt (E := fun s => s 63 2 = s67 63 2 ∧ s 64 3 = s67 64 3 ∧ s 64 5 = s67 64 5) _ (in_70 Is67 (by omega)) (Fs67.up rfl) ⟨rfl, rfl, rfl⟩ (fun s74 Is74 Fs74 ⟨es74_0, es74_1, es74_2⟩ => ?_))
              refine h_aload_n (pc' := 20) rfl rfl rfl ?_
              refine h_getR (pc' := 23) rfl rfl rfl rfl rfl ?_
              refine h_aload_n (pc' := 24) rfl rfl rfl ?_
              refine h_getI (pc' := 27) (v := s74 69 2) rfl rfl rfl rfl rfl rfl (fun z75 hz75 => ?_)
              have tz75 := tf_69_2 Is74
              refine h_iload_n (pc' := 28) rfl rfl rfl ?_
              refine h_iast (pc' := 29) rfl rfl rfl rfl hz75 (by omega) (by omega) hr66 (h_fgt (E := fun s => s 63 2 = s67 63 2 ∧ s 64 3 = s67 64 3 ∧ s 64 5 = s67 64 5) _ (in_71 Is74 (by omega)) (Fs74.up rfl) ⟨es74_0, es74_1, es74_2⟩ (fun s76 Is76 Fs76 ⟨es76_0, es76_1, es76_2⟩ => ?_))
              clear es74_0 es74_1 es74_2
              refine h_aload_n (pc' := 30) rfl rfl rfl ?_
              refine h_dup (pc' := 31) rfl rfl rfl ?_
              refine h_getI (pc' := 34) (v := s76 69 2) rfl rfl rfl rfl rfl rfl (fun z77 hz77 => ?_)
              have tz77 := tf_69_2 Is76
              refine h_iconst (pc' := 35) (x := (Int32.ofInt 1)) rfl rfl rfl ?_
              refine h_iadd (pc' := 36) rfl rfl hz77 ci_1 rfl (by omega) (by omega) (fun z78 hz78 => ?_)
              refine h_put (pc' := 39) rfl rfl rfl rfl rfl rfl hz78 rfl (h_fgt (E := fun s => s 63 2 = s67 63 2 ∧ s 64 3 = s67 64 3 ∧ s 64 5 = s67 64 5) _ (if_69_2 Is76 (by omega)) (Fs76.up rfl) ⟨es76_0, es76_1, es76_2⟩ (fun s79 Is79 Fs79 ⟨es79_0, es79_1, es79_2⟩ => ?_))
              clear es76_0 es76_1 es76_2
              refine h_iconst (pc' := 40) (x := (Int32.ofInt 1)) rfl rfl rfl ?_
              refine h_zret rfl rfl ci_1 (by omega) (h_Kv ?_)
              refine h_pop (pc' := 64) rfl rfl rfl ?_
              exact h_vret rfl rfl (kk _ Is79 Fs79 (by omega) (by omega))
            · refine h_iconst (pc' := 9) (x := (Int32.ofInt 1)) rfl rfl rfl ?_
              refine h_goto (pc' := 13) rfl rfl ?_
              refine h_zret rfl rfl ci_1 (by omega) (h_Kv ?_)
              refine h_zeq (tg := 9) (pc' := 7) rfl rfl rfl ci_1 (fun c80 => absurd c80 (by omega)) (fun c80 => ?_)
              refine h_iconst (pc' := 8) (x := (Int32.ofInt 0)) rfl rfl rfl ?_
              refine h_zret rfl rfl ci_0 (by omega) (h_Kv ?_)
              refine h_pop (pc' := 64) rfl rfl rfl ?_
              exact h_vret rfl rfl (kk _ Is67 Fs67 (by omega) (by omega))
  · refine h_iconst (pc' := 9) (x := (Int32.ofInt 1)) rfl rfl rfl ?_
    refine h_goto (pc' := 13) rfl rfl ?_
    refine h_zret rfl rfl ci_1 (by omega) (h_Kv ?_)
    refine h_call (sp := false) (pc' := 8) (M := [(0, .ref 63), (1, .int (Int32.ofInt 1))]) rfl rfl rfl rfl rfl rfl rfl rfl ?_
    refine v_takeName _ hI (Int32.ofInt 1) _ ci_1 (by omega) (fun s82 Is82 Gs82 ps82_0 ps82_1 => h_Kn ?_)
    have Fs82 := (Gs82.l1).tr F00
    refine h_aload_n (pc' := 9) rfl rfl rfl ?_
    refine h_iconst (pc' := 10) (x := (Int32.ofInt 5)) rfl rfl rfl ?_
    refine h_call (sp := false) (pc' := 13) (M := [(0, .ref 63), (1, .int (Int32.ofInt 5))]) rfl rfl rfl rfl rfl rfl rfl rfl ?_
    refine v_takeNumber _ Is82 (Int32.ofInt 5) _ ci_5 (by omega) (fun r83 br83 hr83 s84 Is84 Gs84 ps84_0 ps84_1 ps84_2 => h_Kv ?_)
    have Fs84 := (Gs84.l1).tr Fs82
    refine h_istore_n (pc' := 14) (M := [(2, .int r83), (0, .ref 63), (1, .ref 69)]) rfl rfl rfl rfl ?_
    refine h_aload_n (pc' := 15) rfl rfl rfl ?_
    refine h_call (sp := false) (pc' := 18) (M := [(0, .ref 63)]) rfl rfl rfl rfl rfl rfl rfl rfl ?_
    refine h_aload_n (pc' := 1) rfl rfl rfl ?_
    refine h_getI (pc' := 4) (v := s84 63 2) rfl rfl rfl rfl rfl rfl (fun z85 hz85 => ?_)
    have tz85 := tf_63_2 Is84
    refine h_zne (tg := 22) (pc' := 7) rfl rfl rfl hz85 (fun c86 => ?_) (fun c86 => ?_)
    · refine h_iconst (pc' := 23) (x := (Int32.ofInt 0)) rfl rfl rfl ?_
      refine h_zret rfl rfl ci_0 (by omega) (h_Kv ?_)
      refine h_zeq (tg := 44) (pc' := 21) rfl rfl rfl ci_0 (fun c87 => ?_) (fun c87 => absurd c87 (by omega))
      refine h_aload_n (pc' := 45) rfl rfl rfl ?_
      refine h_iconst (pc' := 46) (x := (Int32.ofInt 5)) rfl rfl rfl ?_
      refine h_call (sp := false) (pc' := 49) (M := [(0, .ref 63), (1, .int (Int32.ofInt 5))]) rfl rfl rfl rfl rfl rfl rfl rfl ?_
      refine v_takeNumber _ Is84 (Int32.ofInt 5) _ ci_5 (by omega) (fun r88 br88 hr88 s89 Is89 Gs89 ps89_0 ps89_1 ps89_2 => h_Kv ?_)
      have Fs89 := (Gs89.l1).tr Fs84
      refine h_istore_n (pc' := 50) (M := [(3, .int r88), (2, .int r83), (0, .ref 63), (1, .ref 69)]) rfl rfl rfl rfl ?_
      refine h_aload_n (pc' := 51) rfl rfl rfl ?_
      refine h_getI (pc' := 54) (v := s89 63 2) rfl rfl rfl rfl rfl rfl (fun z90 hz90 => ?_)
      have tz90 := tf_63_2 Is89
      refine h_zne (tg := 64) (pc' := 57) rfl rfl rfl hz90 (fun c91 => ?_) (fun c91 => ?_)
      · exact h_vret rfl rfl (kk _ Is89 Fs89 (by omega) (by omega))
      · refine h_aload_n (pc' := 58) rfl rfl rfl ?_
        refine h_iload_n (pc' := 59) rfl rfl rfl ?_
        refine h_iload_n (pc' := 60) rfl rfl rfl ?_
        refine h_call (sp := false) (pc' := 63) (M := [(0, .ref 69), (1, .int r83), (2, .int r88)]) rfl rfl rfl rfl rfl rfl rfl rfl ?_
        refine h_aload_n (pc' := 1) rfl rfl rfl ?_
        refine h_call (sp := false) (pc' := 4) (M := [(0, .ref 69)]) rfl rfl rfl rfl rfl rfl rfl rfl ?_
        refine h_aload_n (pc' := 1) rfl rfl rfl ?_
        refine h_getI (pc' := 4) (v := s89 69 2) rfl rfl rfl rfl rfl rfl (fun z92 hz92 => ?_)
        have tz92 := tf_69_2 Is89
        refine h_iconst (pc' := 5) (x := (Int32.ofInt 3)) rfl rfl rfl ?_
        refine h_clt (tg := 12) (pc' := 8) rfl rfl rfl hz92 ci_3 (fun c93 => ?_) (fun c93 => ?_)
        · refine h_iconst (pc' := 13) (x := (Int32.ofInt 0)) rfl rfl rfl ?_
          refine h_zret rfl rfl ci_0 (by omega) (h_Kv ?_)
          refine h_zeq (tg := 9) (pc' := 7) rfl rfl rfl ci_0 (fun c94 => ?_) (fun c94 => absurd c94 (by omega))
          refine h_aload_n (pc' := 10) rfl rfl rfl ?_
          refine h_getR (pc' := 13) rfl rfl rfl rfl rfl ?_
          refine h_aload_n (pc' := 14) rfl rfl rfl ?_
          refine h_getI (pc' := 17) (v := s89 69 2) rfl rfl rfl rfl rfl rfl (fun z95 hz95 => ?_)
          have tz95 := tf_69_2 Is89
          refine h_iload_n (pc' := 18) rfl rfl rfl ?_
          refine h_iast (pc' := 19) rfl rfl rfl rfl hz95 (by omega) (by omega) hr83 (h_fgt (E := fun s => s 63 2 = s89 63 2 ∧ s 64 3 = s89 64 3 ∧ s 64 5 = s89 64 5) _ (in_70 Is89 (by omega)) (Fs89.up rfl) ⟨rfl, rfl, rfl⟩ (fun s96 Is96 Fs96 ⟨es96_0, es96_1, es96_2⟩ => ?_))
          refine h_aload_n (pc' := 20) rfl rfl rfl ?_
          refine h_getR (pc' := 23) rfl rfl rfl rfl rfl ?_
          refine h_aload_n (pc' := 24) rfl rfl rfl ?_
          refine h_getI (pc' := 27) (v := s96 69 2) rfl rfl rfl rfl rfl rfl (fun z97 hz97 => ?_)
          have tz97 := tf_69_2 Is96
          refine h_iload_n (pc' := 28) rfl rfl rfl ?_
          refine h_iast (pc' := 29) rfl rfl rfl rfl hz97 (by omega) (by omega) hr88 (h_fgt (E := fun s => s 63 2 = s89 63 2 ∧ s 64 3 = s89 64 3 ∧ s 64 5 = s89 64 5) _ (in_71 Is96 (by omega)) (Fs96.up rfl) ⟨es96_0, es96_1, es96_2⟩ (fun s98 Is98 Fs98 ⟨es98_0, es98_1, es98_2⟩ => ?_))
          clear es96_0 es96_1 es96_2
          refine h_aload_n (pc' := 30) rfl rfl rfl ?_
          refine h_dup (pc' := 31) rfl rfl rfl ?_
          refine h_getI (pc' := 34) (v := s98 69 2) rfl rfl rfl rfl rfl rfl (fun z99 hz99 => ?_)
          have tz99 := tf_69_2 Is98
          refine h_iconst (pc' := 35) (x := (Int32.ofInt 1)) rfl rfl rfl ?_
          refine h_iadd (pc' := 36) rfl rfl hz99 ci_1 rfl (by omega) (by omega) (fun z100 hz100 => ?_)
          refine h_put (pc' := 39) rfl rfl rfl rfl rfl rfl hz100 rfl (h_fgt (E := fun s => s 63 2 = s89 63 2 ∧ s 64 3 = s89 64 3 ∧ s 64 5 = s89 64 5) _ (if_69_2 Is98 (by omega)) (Fs98.up rfl) ⟨es98_0, es98_1, es98_2⟩ (fun s101 Is101 Fs101 ⟨es101_0, es101_1, es101_2⟩ => ?_))
          clear es98_0 es98_1 es98_2
          refine h_iconst (pc' := 40) (x := (Int32.ofInt 1)) rfl rfl rfl ?_
          refine h_zret rfl rfl ci_1 (by omega) (h_Kv ?_)
          refine h_pop (pc' := 64) rfl rfl rfl ?_
          exact h_vret rfl rfl (kk _ Is101 Fs101 (by omega) (by omega))
        · refine h_iconst (pc' := 9) (x := (Int32.ofInt 1)) rfl rfl rfl ?_
          refine h_goto (pc' := 13) rfl rfl ?_
          refine h_zret rfl rfl ci_1 (by omega) (h_Kv ?_)
          refine h_zeq (tg := 9) (pc' := 7) rfl rfl rfl ci_1 (fun c102 => absurd c102 (by omega)) (fun c102 => ?_)
          refine h_iconst (pc' := 8) (x := (Int32.ofInt 0)) rfl rfl rfl ?_
          refine h_zret rfl rfl ci_0 (by omega) (h_Kv ?_)
          refine h_pop (pc' := 64) rfl rfl rfl ?_
          exact h_vret rfl rfl (kk _ Is89 Fs89 (by omega) (by omega))
    · refine h_aload_n (pc' := 8) rfl rfl rfl ?_
      refine h_getR (pc' := 11) rfl rfl rfl rfl rfl ?_
      refine h_getI (pc' := 14) (v := s84 64 3) rfl rfl rfl rfl rfl rfl (fun z103 hz103 => ?_)
      have tz103 := tf_64_3 Is84
      refine h_iconst (pc' := 15) (x := (Int32.ofInt 2)) rfl rfl rfl ?_
      refine h_cne (tg := 22) (pc' := 18) rfl rfl rfl hz103 ci_2 (fun c104 => ?_) (fun c104 => ?_)
      · refine h_iconst (pc' := 23) (x := (Int32.ofInt 0)) rfl rfl rfl ?_
        refine h_zret rfl rfl ci_0 (by omega) (h_Kv ?_)
        refine h_zeq (tg := 44) (pc' := 21) rfl rfl rfl ci_0 (fun c105 => ?_) (fun c105 => absurd c105 (by omega))
        refine h_aload_n (pc' := 45) rfl rfl rfl ?_
        refine h_iconst (pc' := 46) (x := (Int32.ofInt 5)) rfl rfl rfl ?_
        refine h_call (sp := false) (pc' := 49) (M := [(0, .ref 63), (1, .int (Int32.ofInt 5))]) rfl rfl rfl rfl rfl rfl rfl rfl ?_
        refine v_takeNumber _ Is84 (Int32.ofInt 5) _ ci_5 (by omega) (fun r106 br106 hr106 s107 Is107 Gs107 ps107_0 ps107_1 ps107_2 => h_Kv ?_)
        have Fs107 := (Gs107.l1).tr Fs84
        refine h_istore_n (pc' := 50) (M := [(3, .int r106), (2, .int r83), (0, .ref 63), (1, .ref 69)]) rfl rfl rfl rfl ?_
        refine h_aload_n (pc' := 51) rfl rfl rfl ?_
        refine h_getI (pc' := 54) (v := s107 63 2) rfl rfl rfl rfl rfl rfl (fun z108 hz108 => ?_)
        have tz108 := tf_63_2 Is107
        refine h_zne (tg := 64) (pc' := 57) rfl rfl rfl hz108 (fun c109 => ?_) (fun c109 => ?_)
        · exact h_vret rfl rfl (kk _ Is107 Fs107 (by omega) (by omega))
        · refine h_aload_n (pc' := 58) rfl rfl rfl ?_
          refine h_iload_n (pc' := 59) rfl rfl rfl ?_
          refine h_iload_n (pc' := 60) rfl rfl rfl ?_
          refine h_call (sp := false) (pc' := 63) (M := [(0, .ref 69), (1, .int r83), (2, .int r106)]) rfl rfl rfl rfl rfl rfl rfl rfl ?_
          refine h_aload_n (pc' := 1) rfl rfl rfl ?_
          refine h_call (sp := false) (pc' := 4) (M := [(0, .ref 69)]) rfl rfl rfl rfl rfl rfl rfl rfl ?_
          refine h_aload_n (pc' := 1) rfl rfl rfl ?_
          refine h_getI (pc' := 4) (v := s107 69 2) rfl rfl rfl rfl rfl rfl (fun z110 hz110 => ?_)
          have tz110 := tf_69_2 Is107
          refine h_iconst (pc' := 5) (x := (Int32.ofInt 3)) rfl rfl rfl ?_
          refine h_clt (tg := 12) (pc' := 8) rfl rfl rfl hz110 ci_3 (fun c111 => ?_) (fun c111 => ?_)
          · refine h_iconst (pc' := 13) (x := (Int32.ofInt 0)) rfl rfl rfl ?_
            refine h_zret rfl rfl ci_0 (by omega) (h_Kv ?_)
            refine h_zeq (tg := 9) (pc' := 7) rfl rfl rfl ci_0 (fun c112 => ?_) (fun c112 => absurd c112 (by omega))
            refine h_aload_n (pc' := 10) rfl rfl rfl ?_
            refine h_getR (pc' := 13) rfl rfl rfl rfl rfl ?_
            refine h_aload_n (pc' := 14) rfl rfl rfl ?_
            refine h_getI (pc' := 17) (v := s107 69 2) rfl rfl rfl rfl rfl rfl (fun z113 hz113 => ?_)
            have tz113 := tf_69_2 Is107
            refine h_iload_n (pc' := 18) rfl rfl rfl ?_
            refine h_iast (pc' := 19) rfl rfl rfl rfl hz113 (by omega) (by omega) hr83 (h_fgt (E := fun s => s 63 2 = s107 63 2 ∧ s 64 3 = s107 64 3 ∧ s 64 5 = s107 64 5) _ (in_70 Is107 (by omega)) (Fs107.up rfl) ⟨rfl, rfl, rfl⟩ (fun s114 Is114 Fs114 ⟨es114_0, es114_1, es114_2⟩ => ?_))
            refine h_aload_n (pc' := 20) rfl rfl rfl ?_
            refine h_getR (pc' := 23) rfl rfl rfl rfl rfl ?_
            refine h_aload_n (pc' := 24) rfl rfl rfl ?_
            refine h_getI (pc' := 27) (v := s114 69 2) rfl rfl rfl rfl rfl rfl (fun z115 hz115 => ?_)
            have tz115 := tf_69_2 Is114
            refine h_iload_n (pc' := 28) rfl rfl rfl ?_
            refine h_iast (pc' := 29) rfl rfl rfl rfl hz115 (by omega) (by omega) hr106 (h_fgt (E := fun s => s 63 2 = s107 63 2 ∧ s 64 3 = s107 64 3 ∧ s 64 5 = s107 64 5) _ (in_71 Is114 (by omega)) (Fs114.up rfl) ⟨es114_0, es114_1, es114_2⟩ (fun s116 Is116 Fs116 ⟨es116_0, es116_1, es116_2⟩ => ?_))
            clear es114_0 es114_1 es114_2
            refine h_aload_n (pc' := 30) rfl rfl rfl ?_
            refine h_dup (pc' := 31) rfl rfl rfl ?_
            refine h_getI (pc' := 34) (v := s116 69 2) rfl rfl rfl rfl rfl rfl (fun z117 hz117 => ?_)
            have tz117 := tf_69_2 Is116
            refine h_iconst (pc' := 35) (x := (Int32.ofInt 1)) rfl rfl rfl ?_
            refine h_iadd (pc' := 36) rfl rfl hz117 ci_1 rfl (by omega) (by omega) (fun z118 hz118 => ?_)
            refine h_put (pc' := 39) rfl rfl rfl rfl rfl rfl hz118 rfl (h_fgt (E := fun s => s 63 2 = s107 63 2 ∧ s 64 3 = s107 64 3 ∧ s 64 5 = s107 64 5) _ (if_69_2 Is116 (by omega)) (Fs116.up rfl) ⟨es116_0, es116_1, es116_2⟩ (fun s119 Is119 Fs119 ⟨es119_0, es119_1, es119_2⟩ => ?_))
            clear es116_0 es116_1 es116_2
            refine h_iconst (pc' := 40) (x := (Int32.ofInt 1)) rfl rfl rfl ?_
            refine h_zret rfl rfl ci_1 (by omega) (h_Kv ?_)
            refine h_pop (pc' := 64) rfl rfl rfl ?_
            exact h_vret rfl rfl (kk _ Is119 Fs119 (by omega) (by omega))
          · refine h_iconst (pc' := 9) (x := (Int32.ofInt 1)) rfl rfl rfl ?_
            refine h_goto (pc' := 13) rfl rfl ?_
            refine h_zret rfl rfl ci_1 (by omega) (h_Kv ?_)
            refine h_zeq (tg := 9) (pc' := 7) rfl rfl rfl ci_1 (fun c120 => absurd c120 (by omega)) (fun c120 => ?_)
            refine h_iconst (pc' := 8) (x := (Int32.ofInt 0)) rfl rfl rfl ?_
            refine h_zret rfl rfl ci_0 (by omega) (h_Kv ?_)
            refine h_pop (pc' := 64) rfl rfl rfl ?_
            exact h_vret rfl rfl (kk _ Is107 Fs107 (by omega) (by omega))
      · refine h_iconst (pc' := 19) (x := (Int32.ofInt 1)) rfl rfl rfl ?_
        refine h_goto (pc' := 23) rfl rfl ?_
        refine h_zret rfl rfl ci_1 (by omega) (h_Kv ?_)
        refine h_zeq (tg := 44) (pc' := 21) rfl rfl rfl ci_1 (fun c121 => absurd c121 (by omega)) (fun c121 => ?_)
        refine h_aload_n (pc' := 22) rfl rfl rfl ?_
        refine h_getR (pc' := 25) rfl rfl rfl rfl rfl ?_
        refine h_getI (pc' := 28) (v := s84 64 5) rfl rfl rfl rfl rfl rfl (fun z122 hz122 => ?_)
        have tz122 := tf_64_5 Is84
        refine h_iload_n (pc' := 29) rfl rfl rfl ?_
        refine h_cne (tg := 44) (pc' := 32) rfl rfl rfl hz122 hr83 (fun c123 => ?_) (fun c123 => ?_)
        · refine h_aload_n (pc' := 45) rfl rfl rfl ?_
          refine h_iconst (pc' := 46) (x := (Int32.ofInt 5)) rfl rfl rfl ?_
          refine h_call (sp := false) (pc' := 49) (M := [(0, .ref 63), (1, .int (Int32.ofInt 5))]) rfl rfl rfl rfl rfl rfl rfl rfl ?_
          refine v_takeNumber _ Is84 (Int32.ofInt 5) _ ci_5 (by omega) (fun r124 br124 hr124 s125 Is125 Gs125 ps125_0 ps125_1 ps125_2 => h_Kv ?_)
          have Fs125 := (Gs125.l1).tr Fs84
          refine h_istore_n (pc' := 50) (M := [(3, .int r124), (2, .int r83), (0, .ref 63), (1, .ref 69)]) rfl rfl rfl rfl ?_
          refine h_aload_n (pc' := 51) rfl rfl rfl ?_
          refine h_getI (pc' := 54) (v := s125 63 2) rfl rfl rfl rfl rfl rfl (fun z126 hz126 => ?_)
          have tz126 := tf_63_2 Is125
          refine h_zne (tg := 64) (pc' := 57) rfl rfl rfl hz126 (fun c127 => ?_) (fun c127 => ?_)
          · exact h_vret rfl rfl (kk _ Is125 Fs125 (by omega) (by omega))
          · refine h_aload_n (pc' := 58) rfl rfl rfl ?_
            refine h_iload_n (pc' := 59) rfl rfl rfl ?_
            refine h_iload_n (pc' := 60) rfl rfl rfl ?_
            refine h_call (sp := false) (pc' := 63) (M := [(0, .ref 69), (1, .int r83), (2, .int r124)]) rfl rfl rfl rfl rfl rfl rfl rfl ?_
            refine h_aload_n (pc' := 1) rfl rfl rfl ?_
            refine h_call (sp := false) (pc' := 4) (M := [(0, .ref 69)]) rfl rfl rfl rfl rfl rfl rfl rfl ?_
            refine h_aload_n (pc' := 1) rfl rfl rfl ?_
            refine h_getI (pc' := 4) (v := s125 69 2) rfl rfl rfl rfl rfl rfl (fun z128 hz128 => ?_)
            have tz128 := tf_69_2 Is125
            refine h_iconst (pc' := 5) (x := (Int32.ofInt 3)) rfl rfl rfl ?_
            refine h_clt (tg := 12) (pc' := 8) rfl rfl rfl hz128 ci_3 (fun c129 => ?_) (fun c129 => ?_)
            · refine h_iconst (pc' := 13) (x := (Int32.ofInt 0)) rfl rfl rfl ?_
              refine h_zret rfl rfl ci_0 (by omega) (h_Kv ?_)
              refine h_zeq (tg := 9) (pc' := 7) rfl rfl rfl ci_0 (fun c130 => ?_) (fun c130 => absurd c130 (by omega))
              refine h_aload_n (pc' := 10) rfl rfl rfl ?_
              refine h_getR (pc' := 13) rfl rfl rfl rfl rfl ?_
              refine h_aload_n (pc' := 14) rfl rfl rfl ?_
              refine h_getI (pc' := 17) (v := s125 69 2) rfl rfl rfl rfl rfl rfl (fun z131 hz131 => ?_)
              have tz131 := tf_69_2 Is125
              refine h_iload_n (pc' := 18) rfl rfl rfl ?_
              refine h_iast (pc' := 19) rfl rfl rfl rfl hz131 (by omega) (by omega) hr83 (h_fgt (E := fun s => s 63 2 = s125 63 2 ∧ s 64 3 = s125 64 3 ∧ s 64 5 = s125 64 5) _ (in_70 Is125 (by omega)) (Fs125.up rfl) ⟨rfl, rfl, rfl⟩ (fun s132 Is132 Fs132 ⟨es132_0, es132_1, es132_2⟩ => ?_))
              refine h_aload_n (pc' := 20) rfl rfl rfl ?_
              refine h_getR (pc' := 23) rfl rfl rfl rfl rfl ?_
              refine h_aload_n (pc' := 24) rfl rfl rfl ?_
              refine h_getI (pc' := 27) (v := s132 69 2) rfl rfl rfl rfl rfl rfl (fun z133 hz133 => ?_)
              have tz133 := tf_69_2 Is132
              refine h_iload_n (pc' := 28) rfl rfl rfl ?_
              refine h_iast (pc' := 29) rfl rfl rfl rfl hz133 (by omega) (by omega) hr124 (h_fgt (E := fun s => s 63 2 = s125 63 2 ∧ s 64 3 = s125 64 3 ∧ s 64 5 = s125 64 5) _ (in_71 Is132 (by omega)) (Fs132.up rfl) ⟨es132_0, es132_1, es132_2⟩ (fun s134 Is134 Fs134 ⟨es134_0, es134_1, es134_2⟩ => ?_))
              clear es132_0 es132_1 es132_2
              refine h_aload_n (pc' := 30) rfl rfl rfl ?_
              refine h_dup (pc' := 31) rfl rfl rfl ?_
              refine h_getI (pc' := 34) (v := s134 69 2) rfl rfl rfl rfl rfl rfl (fun z135 hz135 => ?_)
              have tz135 := tf_69_2 Is134
              refine h_iconst (pc' := 35) (x := (Int32.ofInt 1)) rfl rfl rfl ?_
              refine h_iadd (pc' := 36) rfl rfl hz135 ci_1 rfl (by omega) (by omega) (fun z136 hz136 => ?_)
              refine h_put (pc' := 39) rfl rfl rfl rfl rfl rfl hz136 rfl (h_fgt (E := fun s => s 63 2 = s125 63 2 ∧ s 64 3 = s125 64 3 ∧ s 64 5 = s125 64 5) _ (if_69_2 Is134 (by omega)) (Fs134.up rfl) ⟨es134_0, es134_1, es134_2⟩ (fun s137 Is137 Fs137 ⟨es137_0, es137_1, es137_2⟩ => ?_))
              clear es134_0 es134_1 es134_2
              refine h_iconst (pc' := 40) (x := (Int32.ofInt 1)) rfl rfl rfl ?_
              refine h_zret rfl rfl ci_1 (by omega) (h_Kv ?_)
              refine h_pop (pc' := 64) rfl rfl rfl ?_
              exact h_vret rfl rfl (kk _ Is137 Fs137 (by omega) (by omega))
            · refine h_iconst (pc' := 9) (x := (Int32.ofInt 1)) rfl rfl rfl ?_
              refine h_goto (pc' := 13) rfl rfl ?_
              refine h_zret rfl rfl ci_1 (by omega) (h_Kv ?_)
              refine h_zeq (tg := 9) (pc' := 7) rfl rfl rfl ci_1 (fun c138 => absurd c138 (by omega)) (fun c138 => ?_)
              refine h_iconst (pc' := 8) (x := (Int32.ofInt 0)) rfl rfl rfl ?_
              refine h_zret rfl rfl ci_0 (by omega) (h_Kv ?_)
              refine h_pop (pc' := 64) rfl rfl rfl ?_
              exact h_vret rfl rfl (kk _ Is125 Fs125 (by omega) (by omega))
        · refine h_aload_n (pc' := 33) rfl rfl rfl ?_
          refine h_iconst (pc' := 34) (x := (Int32.ofInt 3)) rfl rfl rfl ?_
          refine h_aload_n (pc' := 35) rfl rfl rfl ?_
          refine h_getR (pc' := 38) rfl rfl rfl rfl rfl ?_
          refine h_getI (pc' := 41) (v := s84 64 4) rfl rfl rfl rfl rfl rfl (fun z139 hz139 => ?_)
          have tz139 := tf_64_4 Is84
          refine h_call (sp := false) (pc' := 44) (M := [(0, .ref 63), (1, .int (Int32.ofInt 3)), (2, .int z139)]) rfl rfl rfl rfl rfl rfl rfl rfl ?_
          refine h_aload_n (pc' := 1) rfl rfl rfl ?_
          refine h_getI (pc' := 4) (v := s84 63 2) rfl rfl rfl rfl rfl rfl (fun z140 hz140 => ?_)
          have tz140 := tf_63_2 Is84
          refine h_zne (tg := 17) (pc' := 7) rfl rfl rfl hz140 (fun c141 => absurd c141 (by omega)) (fun c141 => ?_)
          refine h_aload_n (pc' := 8) rfl rfl rfl ?_
          refine h_iload_n (pc' := 9) rfl rfl rfl ?_
          refine h_put (pc' := 12) rfl rfl rfl rfl rfl rfl ci_3 rfl (h_fgt (E := fun s => s 63 2 = 3 ∧ s 64 3 = s84 64 3 ∧ s 64 5 = s84 64 5) _ (if_63_2 Is84 (by omega)) (Fs84.up rfl) ⟨rfl, rfl, rfl⟩ (fun s142 Is142 Fs142 ⟨es142_0, es142_1, es142_2⟩ => ?_))
          refine h_aload_n (pc' := 13) rfl rfl rfl ?_
          refine h_iload_n (pc' := 14) rfl rfl rfl ?_
          refine h_put (pc' := 17) rfl rfl rfl rfl rfl rfl hz139 rfl (h_fgt (E := fun s => s 63 2 = 3 ∧ s 64 3 = s84 64 3 ∧ s 64 5 = s84 64 5) _ (if_63_3 Is142 (h_rgv hz139)) (Fs142.up rfl) ⟨es142_0, es142_1, es142_2⟩ (fun s143 Is143 Fs143 ⟨es143_0, es143_1, es143_2⟩ => ?_))
          clear es142_0 es142_1 es142_2
          refine h_vret rfl rfl (h_Kn ?_)
          refine h_aload_n (pc' := 45) rfl rfl rfl ?_
          refine h_iconst (pc' := 46) (x := (Int32.ofInt 5)) rfl rfl rfl ?_
          refine h_call (sp := false) (pc' := 49) (M := [(0, .ref 63), (1, .int (Int32.ofInt 5))]) rfl rfl rfl rfl rfl rfl rfl rfl ?_
          refine v_takeNumber _ Is143 (Int32.ofInt 5) _ ci_5 (by omega) (fun r144 br144 hr144 s145 Is145 Gs145 ps145_0 ps145_1 ps145_2 => h_Kv ?_)
          have Fs145 := (Gs145.l1).tr Fs143
          clear es143_0 es143_1 es143_2
          refine h_istore_n (pc' := 50) (M := [(3, .int r144), (2, .int r83), (0, .ref 63), (1, .ref 69)]) rfl rfl rfl rfl ?_
          refine h_aload_n (pc' := 51) rfl rfl rfl ?_
          refine h_getI (pc' := 54) (v := s145 63 2) rfl rfl rfl rfl rfl rfl (fun z146 hz146 => ?_)
          have tz146 := tf_63_2 Is145
          refine h_zne (tg := 64) (pc' := 57) rfl rfl rfl hz146 (fun c147 => ?_) (fun c147 => ?_)
          · exact h_vret rfl rfl (kk _ Is145 Fs145 (by omega) (by omega))
          · refine h_aload_n (pc' := 58) rfl rfl rfl ?_
            refine h_iload_n (pc' := 59) rfl rfl rfl ?_
            refine h_iload_n (pc' := 60) rfl rfl rfl ?_
            refine h_call (sp := false) (pc' := 63) (M := [(0, .ref 69), (1, .int r83), (2, .int r144)]) rfl rfl rfl rfl rfl rfl rfl rfl ?_
            refine h_aload_n (pc' := 1) rfl rfl rfl ?_
            refine h_call (sp := false) (pc' := 4) (M := [(0, .ref 69)]) rfl rfl rfl rfl rfl rfl rfl rfl ?_
            refine h_aload_n (pc' := 1) rfl rfl rfl ?_
            refine h_getI (pc' := 4) (v := s145 69 2) rfl rfl rfl rfl rfl rfl (fun z148 hz148 => ?_)
            have tz148 := tf_69_2 Is145
            refine h_iconst (pc' := 5) (x := (Int32.ofInt 3)) rfl rfl rfl ?_
            refine h_clt (tg := 12) (pc' := 8) rfl rfl rfl hz148 ci_3 (fun c149 => ?_) (fun c149 => ?_)
            · refine h_iconst (pc' := 13) (x := (Int32.ofInt 0)) rfl rfl rfl ?_
              refine h_zret rfl rfl ci_0 (by omega) (h_Kv ?_)
              refine h_zeq (tg := 9) (pc' := 7) rfl rfl rfl ci_0 (fun c150 => ?_) (fun c150 => absurd c150 (by omega))
              refine h_aload_n (pc' := 10) rfl rfl rfl ?_
              refine h_getR (pc' := 13) rfl rfl rfl rfl rfl ?_
              refine h_aload_n (pc' := 14) rfl rfl rfl ?_
              refine h_getI (pc' := 17) (v := s145 69 2) rfl rfl rfl rfl rfl rfl (fun z151 hz151 => ?_)
              have tz151 := tf_69_2 Is145
              refine h_iload_n (pc' := 18) rfl rfl rfl ?_
              refine h_iast (pc' := 19) rfl rfl rfl rfl hz151 (by omega) (by omega) hr83 (h_fgt (E := fun s => s 63 2 = s145 63 2 ∧ s 64 3 = s145 64 3 ∧ s 64 5 = s145 64 5) _ (in_70 Is145 (by omega)) (Fs145.up rfl) ⟨rfl, rfl, rfl⟩ (fun s152 Is152 Fs152 ⟨es152_0, es152_1, es152_2⟩ => ?_))
              refine h_aload_n (pc' := 20) rfl rfl rfl ?_
              refine h_getR (pc' := 23) rfl rfl rfl rfl rfl ?_
              refine h_aload_n (pc' := 24) rfl rfl rfl ?_
              refine h_getI (pc' := 27) (v := s152 69 2) rfl rfl rfl rfl rfl rfl (fun z153 hz153 => ?_)
              have tz153 := tf_69_2 Is152
              refine h_iload_n (pc' := 28) rfl rfl rfl ?_
              refine h_iast (pc' := 29) rfl rfl rfl rfl hz153 (by omega) (by omega) hr144 (h_fgt (E := fun s => s 63 2 = s145 63 2 ∧ s 64 3 = s145 64 3 ∧ s 64 5 = s145 64 5) _ (in_71 Is152 (by omega)) (Fs152.up rfl) ⟨es152_0, es152_1, es152_2⟩ (fun s154 Is154 Fs154 ⟨es154_0, es154_1, es154_2⟩ => ?_))
              clear es152_0 es152_1 es152_2
              refine h_aload_n (pc' := 30) rfl rfl rfl ?_
              refine h_dup (pc' := 31) rfl rfl rfl ?_
              refine h_getI (pc' := 34) (v := s154 69 2) rfl rfl rfl rfl rfl rfl (fun z155 hz155 => ?_)
              have tz155 := tf_69_2 Is154
              refine h_iconst (pc' := 35) (x := (Int32.ofInt 1)) rfl rfl rfl ?_
              refine h_iadd (pc' := 36) rfl rfl hz155 ci_1 rfl (by omega) (by omega) (fun z156 hz156 => ?_)
              refine h_put (pc' := 39) rfl rfl rfl rfl rfl rfl hz156 rfl (h_fgt (E := fun s => s 63 2 = s145 63 2 ∧ s 64 3 = s145 64 3 ∧ s 64 5 = s145 64 5) _ (if_69_2 Is154 (by omega)) (Fs154.up rfl) ⟨es154_0, es154_1, es154_2⟩ (fun s157 Is157 Fs157 ⟨es157_0, es157_1, es157_2⟩ => ?_))
              clear es154_0 es154_1 es154_2
              refine h_iconst (pc' := 40) (x := (Int32.ofInt 1)) rfl rfl rfl ?_
              refine h_zret rfl rfl ci_1 (by omega) (h_Kv ?_)
              refine h_pop (pc' := 64) rfl rfl rfl ?_
              exact h_vret rfl rfl (kk _ Is157 Fs157 (by omega) (by omega))
            · refine h_iconst (pc' := 9) (x := (Int32.ofInt 1)) rfl rfl rfl ?_
              refine h_goto (pc' := 13) rfl rfl ?_
              refine h_zret rfl rfl ci_1 (by omega) (h_Kv ?_)
              refine h_zeq (tg := 9) (pc' := 7) rfl rfl rfl ci_1 (fun c158 => absurd c158 (by omega)) (fun c158 => ?_)
              refine h_iconst (pc' := 8) (x := (Int32.ofInt 0)) rfl rfl rfl ?_
              refine h_zret rfl rfl ci_0 (by omega) (h_Kv ?_)
              refine h_pop (pc' := 64) rfl rfl rfl ?_
              exact h_vret rfl rfl (kk _ Is145 Fs145 (by omega) (by omega))
theorem v_readPairX72 {ns : Nat} (σ : h_S) (hI : h_I σ) (pr0 : (¬ σ 63 2 = 0 ∨ ¬ σ 64 3 = 2 ∨ (0 ≤ σ 64 5 ∧ σ 64 5 ≤ 99))) {Q : Option Value → h_S → Prop} (kk : ∀ (τ : h_S), h_I τ → h_F k_nt τ σ → ((¬ τ 63 2 = 0 ∨ ¬ τ 64 3 = 2 ∨ (0 ≤ τ 64 5 ∧ τ 64 5 ≤ 99))) → (¬ σ 63 2 = 0 → ¬ τ 63 2 = 0) → Q none τ) : h_T g_P (g_Y ns) 60 0 [(0, .ref 63), (1, .ref 72)] [] σ Q := by
  have F00 : h_F k_nt σ σ := h_F.rf
  refine h_aload_n (pc' := 1) rfl rfl rfl ?_
  refine h_aload_n (pc' := 2) rfl rfl rfl ?_
  refine h_call (sp := false) (pc' := 5) (M := [(0, .ref 72)]) rfl rfl rfl rfl rfl rfl rfl rfl ?_
  refine h_aload_n (pc' := 1) rfl rfl rfl ?_
  refine h_getI (pc' := 4) (v := σ 72 2) rfl rfl rfl rfl rfl rfl (fun z1 hz1 => ?_)
  have tz1 := tf_72_2 hI
  refine h_iconst (pc' := 5) (x := (Int32.ofInt 3)) rfl rfl rfl ?_
  refine h_clt (tg := 12) (pc' := 8) rfl rfl rfl hz1 ci_3 (fun c2 => ?_) (fun c2 => ?_)
  · refine h_iconst (pc' := 13) (x := (Int32.ofInt 0)) rfl rfl rfl ?_
    refine h_zret rfl rfl ci_0 (by omega) (h_Kv ?_)
    refine h_call (sp := false) (pc' := 8) (M := [(0, .ref 63), (1, .int (Int32.ofInt 0))]) rfl rfl rfl rfl rfl rfl rfl rfl ?_
    refine v_takeName _ hI (Int32.ofInt 0) _ ci_0 (by omega) (fun s4 Is4 Gs4 ps4_0 ps4_1 => h_Kn ?_)
    have Fs4 := (Gs4.l1).tr F00
    refine h_aload_n (pc' := 9) rfl rfl rfl ?_
    refine h_iconst (pc' := 10) (x := (Int32.ofInt 5)) rfl rfl rfl ?_
    refine h_call (sp := false) (pc' := 13) (M := [(0, .ref 63), (1, .int (Int32.ofInt 5))]) rfl rfl rfl rfl rfl rfl rfl rfl ?_
    refine v_takeNumber _ Is4 (Int32.ofInt 5) _ ci_5 (by omega) (fun r5 br5 hr5 s6 Is6 Gs6 ps6_0 ps6_1 ps6_2 => h_Kv ?_)
    have Fs6 := (Gs6.l1).tr Fs4
    refine h_istore_n (pc' := 14) (M := [(2, .int r5), (0, .ref 63), (1, .ref 72)]) rfl rfl rfl rfl ?_
    refine h_aload_n (pc' := 15) rfl rfl rfl ?_
    refine h_call (sp := false) (pc' := 18) (M := [(0, .ref 63)]) rfl rfl rfl rfl rfl rfl rfl rfl ?_
    refine h_aload_n (pc' := 1) rfl rfl rfl ?_
    refine h_getI (pc' := 4) (v := s6 63 2) rfl rfl rfl rfl rfl rfl (fun z7 hz7 => ?_)
    have tz7 := tf_63_2 Is6
    refine h_zne (tg := 22) (pc' := 7) rfl rfl rfl hz7 (fun c8 => ?_) (fun c8 => ?_)
    · refine h_iconst (pc' := 23) (x := (Int32.ofInt 0)) rfl rfl rfl ?_
      refine h_zret rfl rfl ci_0 (by omega) (h_Kv ?_)
      refine h_zeq (tg := 44) (pc' := 21) rfl rfl rfl ci_0 (fun c9 => ?_) (fun c9 => absurd c9 (by omega))
      refine h_aload_n (pc' := 45) rfl rfl rfl ?_
      refine h_iconst (pc' := 46) (x := (Int32.ofInt 5)) rfl rfl rfl ?_
      refine h_call (sp := false) (pc' := 49) (M := [(0, .ref 63), (1, .int (Int32.ofInt 5))]) rfl rfl rfl rfl rfl rfl rfl rfl ?_
      refine v_takeNumber _ Is6 (Int32.ofInt 5) _ ci_5 (by omega) (fun r10 br10 hr10 s11 Is11 Gs11 ps11_0 ps11_1 ps11_2 => h_Kv ?_)
      have Fs11 := (Gs11.l1).tr Fs6
      refine h_istore_n (pc' := 50) (M := [(3, .int r10), (2, .int r5), (0, .ref 63), (1, .ref 72)]) rfl rfl rfl rfl ?_
      refine h_aload_n (pc' := 51) rfl rfl rfl ?_
      refine h_getI (pc' := 54) (v := s11 63 2) rfl rfl rfl rfl rfl rfl (fun z12 hz12 => ?_)
      have tz12 := tf_63_2 Is11
      refine h_zne (tg := 64) (pc' := 57) rfl rfl rfl hz12 (fun c13 => ?_) (fun c13 => ?_)
      · exact h_vret rfl rfl (kk _ Is11 Fs11 (by omega) (by omega))
      · refine h_aload_n (pc' := 58) rfl rfl rfl ?_
        refine h_iload_n (pc' := 59) rfl rfl rfl ?_
        refine h_iload_n (pc' := 60) rfl rfl rfl ?_
        refine h_call (sp := false) (pc' := 63) (M := [(0, .ref 72), (1, .int r5), (2, .int r10)]) rfl rfl rfl rfl rfl rfl rfl rfl ?_
        refine h_aload_n (pc' := 1) rfl rfl rfl ?_
        refine h_call (sp := false) (pc' := 4) (M := [(0, .ref 72)]) rfl rfl rfl rfl rfl rfl rfl rfl ?_
        refine h_aload_n (pc' := 1) rfl rfl rfl ?_
        refine h_getI (pc' := 4) (v := s11 72 2) rfl rfl rfl rfl rfl rfl (fun z14 hz14 => ?_)
        have tz14 := tf_72_2 Is11
        refine h_iconst (pc' := 5) (x := (Int32.ofInt 3)) rfl rfl rfl ?_
        refine h_clt (tg := 12) (pc' := 8) rfl rfl rfl hz14 ci_3 (fun c15 => ?_) (fun c15 => ?_)
        · refine h_iconst (pc' := 13) (x := (Int32.ofInt 0)) rfl rfl rfl ?_
          refine h_zret rfl rfl ci_0 (by omega) (h_Kv ?_)
          refine h_zeq (tg := 9) (pc' := 7) rfl rfl rfl ci_0 (fun c16 => ?_) (fun c16 => absurd c16 (by omega))
          refine h_aload_n (pc' := 10) rfl rfl rfl ?_
          refine h_getR (pc' := 13) rfl rfl rfl rfl rfl ?_
          refine h_aload_n (pc' := 14) rfl rfl rfl ?_
          refine h_getI (pc' := 17) (v := s11 72 2) rfl rfl rfl rfl rfl rfl (fun z17 hz17 => ?_)
          have tz17 := tf_72_2 Is11
          refine h_iload_n (pc' := 18) rfl rfl rfl ?_
          refine h_iast (pc' := 19) rfl rfl rfl rfl hz17 (by omega) (by omega) hr5 (h_fgt (E := fun s => s 63 2 = s11 63 2 ∧ s 64 3 = s11 64 3 ∧ s 64 5 = s11 64 5) _ (in_73 Is11 (by omega)) (Fs11.up rfl) ⟨rfl, rfl, rfl⟩ (fun s18 Is18 Fs18 ⟨es18_0, es18_1, es18_2⟩ => ?_))
          refine h_aload_n (pc' := 20) rfl rfl rfl ?_
          refine h_getR (pc' := 23) rfl rfl rfl rfl rfl ?_
          refine h_aload_n (pc' := 24) rfl rfl rfl ?_
          refine h_getI (pc' := 27) (v := s18 72 2) rfl rfl rfl rfl rfl rfl (fun z19 hz19 => ?_)
          have tz19 := tf_72_2 Is18
          refine h_iload_n (pc' := 28) rfl rfl rfl ?_
          refine h_iast (pc' := 29) rfl rfl rfl rfl hz19 (by omega) (by omega) hr10 (h_fgt (E := fun s => s 63 2 = s11 63 2 ∧ s 64 3 = s11 64 3 ∧ s 64 5 = s11 64 5) _ (in_74 Is18 (by omega)) (Fs18.up rfl) ⟨es18_0, es18_1, es18_2⟩ (fun s20 Is20 Fs20 ⟨es20_0, es20_1, es20_2⟩ => ?_))
          clear es18_0 es18_1 es18_2
          refine h_aload_n (pc' := 30) rfl rfl rfl ?_
          refine h_dup (pc' := 31) rfl rfl rfl ?_
          refine h_getI (pc' := 34) (v := s20 72 2) rfl rfl rfl rfl rfl rfl (fun z21 hz21 => ?_)
          have tz21 := tf_72_2 Is20
          refine h_iconst (pc' := 35) (x := (Int32.ofInt 1)) rfl rfl rfl ?_
          refine h_iadd (pc' := 36) rfl rfl hz21 ci_1 rfl (by omega) (by omega) (fun z22 hz22 => ?_)
          refine h_put (pc' := 39) rfl rfl rfl rfl rfl rfl hz22 rfl (h_fgt (E := fun s => s 63 2 = s11 63 2 ∧ s 64 3 = s11 64 3 ∧ s 64 5 = s11 64 5) _ (if_72_2 Is20 (by omega)) (Fs20.up rfl) ⟨es20_0, es20_1, es20_2⟩ (fun s23 Is23 Fs23 ⟨es23_0, es23_1, es23_2⟩ => ?_))
          clear es20_0 es20_1 es20_2
          refine h_iconst (pc' := 40) (x := (Int32.ofInt 1)) rfl rfl rfl ?_
          refine h_zret rfl rfl ci_1 (by omega) (h_Kv ?_)
          refine h_pop (pc' := 64) rfl rfl rfl ?_
          exact h_vret rfl rfl (kk _ Is23 Fs23 (by omega) (by omega))
        · refine h_iconst (pc' := 9) (x := (Int32.ofInt 1)) rfl rfl rfl ?_
          refine h_goto (pc' := 13) rfl rfl ?_
          refine h_zret rfl rfl ci_1 (by omega) (h_Kv ?_)
          refine h_zeq (tg := 9) (pc' := 7) rfl rfl rfl ci_1 (fun c24 => absurd c24 (by omega)) (fun c24 => ?_)
          refine h_iconst (pc' := 8) (x := (Int32.ofInt 0)) rfl rfl rfl ?_
          refine h_zret rfl rfl ci_0 (by omega) (h_Kv ?_)
          refine h_pop (pc' := 64) rfl rfl rfl ?_
          exact h_vret rfl rfl (kk _ Is11 Fs11 (by omega) (by omega))
    · refine h_aload_n (pc' := 8) rfl rfl rfl ?_
      refine h_getR (pc' := 11) rfl rfl rfl rfl rfl ?_
      refine h_getI (pc' := 14) (v := s6 64 3) rfl rfl rfl rfl rfl rfl (fun z25 hz25 => ?_)
      have tz25 := tf_64_3 Is6
      refine h_iconst (pc' := 15) (x := (Int32.ofInt 2)) rfl rfl rfl ?_
      refine h_cne (tg := 22) (pc' := 18) rfl rfl rfl hz25 ci_2 (fun c26 => ?_) (fun c26 => ?_)
      · refine h_iconst (pc' := 23) (x := (Int32.ofInt 0)) rfl rfl rfl ?_
        refine h_zret rfl rfl ci_0 (by omega) (h_Kv ?_)
        refine h_zeq (tg := 44) (pc' := 21) rfl rfl rfl ci_0 (fun c27 => ?_) (fun c27 => absurd c27 (by omega))
        refine h_aload_n (pc' := 45) rfl rfl rfl ?_
        refine h_iconst (pc' := 46) (x := (Int32.ofInt 5)) rfl rfl rfl ?_
        refine h_call (sp := false) (pc' := 49) (M := [(0, .ref 63), (1, .int (Int32.ofInt 5))]) rfl rfl rfl rfl rfl rfl rfl rfl ?_
        refine v_takeNumber _ Is6 (Int32.ofInt 5) _ ci_5 (by omega) (fun r28 br28 hr28 s29 Is29 Gs29 ps29_0 ps29_1 ps29_2 => h_Kv ?_)
        have Fs29 := (Gs29.l1).tr Fs6
        refine h_istore_n (pc' := 50) (M := [(3, .int r28), (2, .int r5), (0, .ref 63), (1, .ref 72)]) rfl rfl rfl rfl ?_
        refine h_aload_n (pc' := 51) rfl rfl rfl ?_
        refine h_getI (pc' := 54) (v := s29 63 2) rfl rfl rfl rfl rfl rfl (fun z30 hz30 => ?_)
        have tz30 := tf_63_2 Is29
        refine h_zne (tg := 64) (pc' := 57) rfl rfl rfl hz30 (fun c31 => ?_) (fun c31 => ?_)
        · exact h_vret rfl rfl (kk _ Is29 Fs29 (by omega) (by omega))
        · refine h_aload_n (pc' := 58) rfl rfl rfl ?_
          refine h_iload_n (pc' := 59) rfl rfl rfl ?_
          refine h_iload_n (pc' := 60) rfl rfl rfl ?_
          refine h_call (sp := false) (pc' := 63) (M := [(0, .ref 72), (1, .int r5), (2, .int r28)]) rfl rfl rfl rfl rfl rfl rfl rfl ?_
          refine h_aload_n (pc' := 1) rfl rfl rfl ?_
          refine h_call (sp := false) (pc' := 4) (M := [(0, .ref 72)]) rfl rfl rfl rfl rfl rfl rfl rfl ?_
          refine h_aload_n (pc' := 1) rfl rfl rfl ?_
          refine h_getI (pc' := 4) (v := s29 72 2) rfl rfl rfl rfl rfl rfl (fun z32 hz32 => ?_)
          have tz32 := tf_72_2 Is29
          refine h_iconst (pc' := 5) (x := (Int32.ofInt 3)) rfl rfl rfl ?_
          refine h_clt (tg := 12) (pc' := 8) rfl rfl rfl hz32 ci_3 (fun c33 => ?_) (fun c33 => ?_)
          · refine h_iconst (pc' := 13) (x := (Int32.ofInt 0)) rfl rfl rfl ?_
            refine h_zret rfl rfl ci_0 (by omega) (h_Kv ?_)
            refine h_zeq (tg := 9) (pc' := 7) rfl rfl rfl ci_0 (fun c34 => ?_) (fun c34 => absurd c34 (by omega))
            refine h_aload_n (pc' := 10) rfl rfl rfl ?_
            refine h_getR (pc' := 13) rfl rfl rfl rfl rfl ?_
            refine h_aload_n (pc' := 14) rfl rfl rfl ?_
            refine h_getI (pc' := 17) (v := s29 72 2) rfl rfl rfl rfl rfl rfl (fun z35 hz35 => ?_)
            have tz35 := tf_72_2 Is29
            refine h_iload_n (pc' := 18) rfl rfl rfl ?_
            refine h_iast (pc' := 19) rfl rfl rfl rfl hz35 (by omega) (by omega) hr5 (h_fgt (E := fun s => s 63 2 = s29 63 2 ∧ s 64 3 = s29 64 3 ∧ s 64 5 = s29 64 5) _ (in_73 Is29 (by omega)) (Fs29.up rfl) ⟨rfl, rfl, rfl⟩ (fun s36 Is36 Fs36 ⟨es36_0, es36_1, es36_2⟩ => ?_))
            refine h_aload_n (pc' := 20) rfl rfl rfl ?_
            refine h_getR (pc' := 23) rfl rfl rfl rfl rfl ?_
            refine h_aload_n (pc' := 24) rfl rfl rfl ?_
            refine h_getI (pc' := 27) (v := s36 72 2) rfl rfl rfl rfl rfl rfl (fun z37 hz37 => ?_)
            have tz37 := tf_72_2 Is36
            refine h_iload_n (pc' := 28) rfl rfl rfl ?_
            refine h_iast (pc' := 29) rfl rfl rfl rfl hz37 (by omega) (by omega) hr28 (h_fgt (E := fun s => s 63 2 = s29 63 2 ∧ s 64 3 = s29 64 3 ∧ s 64 5 = s29 64 5) _ (in_74 Is36 (by omega)) (Fs36.up rfl) ⟨es36_0, es36_1, es36_2⟩ (fun s38 Is38 Fs38 ⟨es38_0, es38_1, es38_2⟩ => ?_))
            clear es36_0 es36_1 es36_2
            refine h_aload_n (pc' := 30) rfl rfl rfl ?_
            refine h_dup (pc' := 31) rfl rfl rfl ?_
            refine h_getI (pc' := 34) (v := s38 72 2) rfl rfl rfl rfl rfl rfl (fun z39 hz39 => ?_)
            have tz39 := tf_72_2 Is38
            refine h_iconst (pc' := 35) (x := (Int32.ofInt 1)) rfl rfl rfl ?_
            refine h_iadd (pc' := 36) rfl rfl hz39 ci_1 rfl (by omega) (by omega) (fun z40 hz40 => ?_)
            refine h_put (pc' := 39) rfl rfl rfl rfl rfl rfl hz40 rfl (h_fgt (E := fun s => s 63 2 = s29 63 2 ∧ s 64 3 = s29 64 3 ∧ s 64 5 = s29 64 5) _ (if_72_2 Is38 (by omega)) (Fs38.up rfl) ⟨es38_0, es38_1, es38_2⟩ (fun s41 Is41 Fs41 ⟨es41_0, es41_1, es41_2⟩ => ?_))
            clear es38_0 es38_1 es38_2
            refine h_iconst (pc' := 40) (x := (Int32.ofInt 1)) rfl rfl rfl ?_
            refine h_zret rfl rfl ci_1 (by omega) (h_Kv ?_)
            refine h_pop (pc' := 64) rfl rfl rfl ?_
            exact h_vret rfl rfl (kk _ Is41 Fs41 (by omega) (by omega))
          · refine h_iconst (pc' := 9) (x := (Int32.ofInt 1)) rfl rfl rfl ?_
            refine h_goto (pc' := 13) rfl rfl ?_
            refine h_zret rfl rfl ci_1 (by omega) (h_Kv ?_)
            refine h_zeq (tg := 9) (pc' := 7) rfl rfl rfl ci_1 (fun c42 => absurd c42 (by omega)) (fun c42 => ?_)
            refine h_iconst (pc' := 8) (x := (Int32.ofInt 0)) rfl rfl rfl ?_
            refine h_zret rfl rfl ci_0 (by omega) (h_Kv ?_)
            refine h_pop (pc' := 64) rfl rfl rfl ?_
            exact h_vret rfl rfl (kk _ Is29 Fs29 (by omega) (by omega))
      · refine h_iconst (pc' := 19) (x := (Int32.ofInt 1)) rfl rfl rfl ?_
        refine h_goto (pc' := 23) rfl rfl ?_
        refine h_zret rfl rfl ci_1 (by omega) (h_Kv ?_)
        refine h_zeq (tg := 44) (pc' := 21) rfl rfl rfl ci_1 (fun c43 => absurd c43 (by omega)) (fun c43 => ?_)
        refine h_aload_n (pc' := 22) rfl rfl rfl ?_
        refine h_getR (pc' := 25) rfl rfl rfl rfl rfl ?_
        refine h_getI (pc' := 28) (v := s6 64 5) rfl rfl rfl rfl rfl rfl (fun z44 hz44 => ?_)
        have tz44 := tf_64_5 Is6
        refine h_iload_n (pc' := 29) rfl rfl rfl ?_
        refine h_cne (tg := 44) (pc' := 32) rfl rfl rfl hz44 hr5 (fun c45 => ?_) (fun c45 => ?_)
        · refine h_aload_n (pc' := 45) rfl rfl rfl ?_
          refine h_iconst (pc' := 46) (x := (Int32.ofInt 5)) rfl rfl rfl ?_
          refine h_call (sp := false) (pc' := 49) (M := [(0, .ref 63), (1, .int (Int32.ofInt 5))]) rfl rfl rfl rfl rfl rfl rfl rfl ?_
          refine v_takeNumber _ Is6 (Int32.ofInt 5) _ ci_5 (by omega) (fun r46 br46 hr46 s47 Is47 Gs47 ps47_0 ps47_1 ps47_2 => h_Kv ?_)
          have Fs47 := (Gs47.l1).tr Fs6
          refine h_istore_n (pc' := 50) (M := [(3, .int r46), (2, .int r5), (0, .ref 63), (1, .ref 72)]) rfl rfl rfl rfl ?_
          refine h_aload_n (pc' := 51) rfl rfl rfl ?_
          refine h_getI (pc' := 54) (v := s47 63 2) rfl rfl rfl rfl rfl rfl (fun z48 hz48 => ?_)
          have tz48 := tf_63_2 Is47
          refine h_zne (tg := 64) (pc' := 57) rfl rfl rfl hz48 (fun c49 => ?_) (fun c49 => ?_)
          · exact h_vret rfl rfl (kk _ Is47 Fs47 (by omega) (by omega))
          · refine h_aload_n (pc' := 58) rfl rfl rfl ?_
            refine h_iload_n (pc' := 59) rfl rfl rfl ?_
            refine h_iload_n (pc' := 60) rfl rfl rfl ?_
            refine h_call (sp := false) (pc' := 63) (M := [(0, .ref 72), (1, .int r5), (2, .int r46)]) rfl rfl rfl rfl rfl rfl rfl rfl ?_
            refine h_aload_n (pc' := 1) rfl rfl rfl ?_
            refine h_call (sp := false) (pc' := 4) (M := [(0, .ref 72)]) rfl rfl rfl rfl rfl rfl rfl rfl ?_
            refine h_aload_n (pc' := 1) rfl rfl rfl ?_
            refine h_getI (pc' := 4) (v := s47 72 2) rfl rfl rfl rfl rfl rfl (fun z50 hz50 => ?_)
            have tz50 := tf_72_2 Is47
            refine h_iconst (pc' := 5) (x := (Int32.ofInt 3)) rfl rfl rfl ?_
            refine h_clt (tg := 12) (pc' := 8) rfl rfl rfl hz50 ci_3 (fun c51 => ?_) (fun c51 => ?_)
            · refine h_iconst (pc' := 13) (x := (Int32.ofInt 0)) rfl rfl rfl ?_
              refine h_zret rfl rfl ci_0 (by omega) (h_Kv ?_)
              refine h_zeq (tg := 9) (pc' := 7) rfl rfl rfl ci_0 (fun c52 => ?_) (fun c52 => absurd c52 (by omega))
              refine h_aload_n (pc' := 10) rfl rfl rfl ?_
              refine h_getR (pc' := 13) rfl rfl rfl rfl rfl ?_
              refine h_aload_n (pc' := 14) rfl rfl rfl ?_
              refine h_getI (pc' := 17) (v := s47 72 2) rfl rfl rfl rfl rfl rfl (fun z53 hz53 => ?_)
              have tz53 := tf_72_2 Is47
              refine h_iload_n (pc' := 18) rfl rfl rfl ?_
              refine h_iast (pc' := 19) rfl rfl rfl rfl hz53 (by omega) (by omega) hr5 (h_fgt (E := fun s => s 63 2 = s47 63 2 ∧ s 64 3 = s47 64 3 ∧ s 64 5 = s47 64 5) _ (in_73 Is47 (by omega)) (Fs47.up rfl) ⟨rfl, rfl, rfl⟩ (fun s54 Is54 Fs54 ⟨es54_0, es54_1, es54_2⟩ => ?_))
              refine h_aload_n (pc' := 20) rfl rfl rfl ?_
              refine h_getR (pc' := 23) rfl rfl rfl rfl rfl ?_
              refine h_aload_n (pc' := 24) rfl rfl rfl ?_
              refine h_getI (pc' := 27) (v := s54 72 2) rfl rfl rfl rfl rfl rfl (fun z55 hz55 => ?_)
              have tz55 := tf_72_2 Is54
              refine h_iload_n (pc' := 28) rfl rfl rfl ?_
              refine h_iast (pc' := 29) rfl rfl rfl rfl hz55 (by omega) (by omega) hr46 (h_fgt (E := fun s => s 63 2 = s47 63 2 ∧ s 64 3 = s47 64 3 ∧ s 64 5 = s47 64 5) _ (in_74 Is54 (by omega)) (Fs54.up rfl) ⟨es54_0, es54_1, es54_2⟩ (fun s56 Is56 Fs56 ⟨es56_0, es56_1, es56_2⟩ => ?_))
              clear es54_0 es54_1 es54_2
              refine h_aload_n (pc' := 30) rfl rfl rfl ?_
              refine h_dup (pc' := 31) rfl rfl rfl ?_
              refine h_getI (pc' := 34) (v := s56 72 2) rfl rfl rfl rfl rfl rfl (fun z57 hz57 => ?_)
              have tz57 := tf_72_2 Is56
              refine h_iconst (pc' := 35) (x := (Int32.ofInt 1)) rfl rfl rfl ?_
              refine h_iadd (pc' := 36) rfl rfl hz57 ci_1 rfl (by omega) (by omega) (fun z58 hz58 => ?_)
              refine h_put (pc' := 39) rfl rfl rfl rfl rfl rfl hz58 rfl (h_fgt (E := fun s => s 63 2 = s47 63 2 ∧ s 64 3 = s47 64 3 ∧ s 64 5 = s47 64 5) _ (if_72_2 Is56 (by omega)) (Fs56.up rfl) ⟨es56_0, es56_1, es56_2⟩ (fun s59 Is59 Fs59 ⟨es59_0, es59_1, es59_2⟩ => ?_))
              clear es56_0 es56_1 es56_2
              refine h_iconst (pc' := 40) (x := (Int32.ofInt 1)) rfl rfl rfl ?_
              refine h_zret rfl rfl ci_1 (by omega) (h_Kv ?_)
              refine h_pop (pc' := 64) rfl rfl rfl ?_
              exact h_vret rfl rfl (kk _ Is59 Fs59 (by omega) (by omega))
            · refine h_iconst (pc' := 9) (x := (Int32.ofInt 1)) rfl rfl rfl ?_
              refine h_goto (pc' := 13) rfl rfl ?_
              refine h_zret rfl rfl ci_1 (by omega) (h_Kv ?_)
              refine h_zeq (tg := 9) (pc' := 7) rfl rfl rfl ci_1 (fun c60 => absurd c60 (by omega)) (fun c60 => ?_)
              refine h_iconst (pc' := 8) (x := (Int32.ofInt 0)) rfl rfl rfl ?_
              refine h_zret rfl rfl ci_0 (by omega) (h_Kv ?_)
              refine h_pop (pc' := 64) rfl rfl rfl ?_
              exact h_vret rfl rfl (kk _ Is47 Fs47 (by omega) (by omega))
        · refine h_aload_n (pc' := 33) rfl rfl rfl ?_
          refine h_iconst (pc' := 34) (x := (Int32.ofInt 3)) rfl rfl rfl ?_
          refine h_aload_n (pc' := 35) rfl rfl rfl ?_
          refine h_getR (pc' := 38) rfl rfl rfl rfl rfl ?_
          refine h_getI (pc' := 41) (v := s6 64 4) rfl rfl rfl rfl rfl rfl (fun z61 hz61 => ?_)
          have tz61 := tf_64_4 Is6
          refine h_call (sp := false) (pc' := 44) (M := [(0, .ref 63), (1, .int (Int32.ofInt 3)), (2, .int z61)]) rfl rfl rfl rfl rfl rfl rfl rfl ?_
          refine h_aload_n (pc' := 1) rfl rfl rfl ?_
          refine h_getI (pc' := 4) (v := s6 63 2) rfl rfl rfl rfl rfl rfl (fun z62 hz62 => ?_)
          have tz62 := tf_63_2 Is6
          refine h_zne (tg := 17) (pc' := 7) rfl rfl rfl hz62 (fun c63 => absurd c63 (by omega)) (fun c63 => ?_)
          refine h_aload_n (pc' := 8) rfl rfl rfl ?_
          refine h_iload_n (pc' := 9) rfl rfl rfl ?_
          refine h_put (pc' := 12) rfl rfl rfl rfl rfl rfl ci_3 rfl (h_fgt (E := fun s => s 63 2 = 3 ∧ s 64 3 = s6 64 3 ∧ s 64 5 = s6 64 5) _ (if_63_2 Is6 (by omega)) (Fs6.up rfl) ⟨rfl, rfl, rfl⟩ (fun s64 Is64 Fs64 ⟨es64_0, es64_1, es64_2⟩ => ?_))
          refine h_aload_n (pc' := 13) rfl rfl rfl ?_
          refine h_iload_n (pc' := 14) rfl rfl rfl ?_
          refine h_put (pc' := 17) rfl rfl rfl rfl rfl rfl hz61 rfl (h_fgt (E := fun s => s 63 2 = 3 ∧ s 64 3 = s6 64 3 ∧ s 64 5 = s6 64 5) _ (if_63_3 Is64 (h_rgv hz61)) (Fs64.up rfl) ⟨es64_0, es64_1, es64_2⟩ (fun s65 Is65 Fs65 ⟨es65_0, es65_1, es65_2⟩ => ?_))
          clear es64_0 es64_1 es64_2
          refine h_vret rfl rfl (h_Kn ?_)
          refine h_aload_n (pc' := 45) rfl rfl rfl ?_
          refine h_iconst (pc' := 46) (x := (Int32.ofInt 5)) rfl rfl rfl ?_
          refine h_call (sp := false) (pc' := 49) (M := [(0, .ref 63), (1, .int (Int32.ofInt 5))]) rfl rfl rfl rfl rfl rfl rfl rfl ?_
          refine v_takeNumber _ Is65 (Int32.ofInt 5) _ ci_5 (by omega) (fun r66 br66 hr66 s67 Is67 Gs67 ps67_0 ps67_1 ps67_2 => h_Kv ?_)
          have Fs67 := (Gs67.l1).tr Fs65
          clear es65_0 es65_1 es65_2
          refine h_istore_n (pc' := 50) (M := [(3, .int r66), (2, .int r5), (0, .ref 63), (1, .ref 72)]) rfl rfl rfl rfl ?_
          refine h_aload_n (pc' := 51) rfl rfl rfl ?_
          refine h_getI (pc' := 54) (v := s67 63 2) rfl rfl rfl rfl rfl rfl (fun z68 hz68 => ?_)
          have tz68 := tf_63_2 Is67
          refine h_zne (tg := 64) (pc' := 57) rfl rfl rfl hz68 (fun c69 => ?_) (fun c69 => ?_)
          · exact h_vret rfl rfl (kk _ Is67 Fs67 (by omega) (by omega))
          · refine h_aload_n (pc' := 58) rfl rfl rfl ?_
            refine h_iload_n (pc' := 59) rfl rfl rfl ?_
            refine h_iload_n (pc' := 60) rfl rfl rfl ?_
            refine h_call (sp := false) (pc' := 63) (M := [(0, .ref 72), (1, .int r5), (2, .int r66)]) rfl rfl rfl rfl rfl rfl rfl rfl ?_
            refine h_aload_n (pc' := 1) rfl rfl rfl ?_
            refine h_call (sp := false) (pc' := 4) (M := [(0, .ref 72)]) rfl rfl rfl rfl rfl rfl rfl rfl ?_
            refine h_aload_n (pc' := 1) rfl rfl rfl ?_
            refine h_getI (pc' := 4) (v := s67 72 2) rfl rfl rfl rfl rfl rfl (fun z70 hz70 => ?_)
            have tz70 := tf_72_2 Is67
            refine h_iconst (pc' := 5) (x := (Int32.ofInt 3)) rfl rfl rfl ?_
            refine h_clt (tg := 12) (pc' := 8) rfl rfl rfl hz70 ci_3 (fun c71 => ?_) (fun c71 => ?_)
            · refine h_iconst (pc' := 13) (x := (Int32.ofInt 0)) rfl rfl rfl ?_
              refine h_zret rfl rfl ci_0 (by omega) (h_Kv ?_)
              refine h_zeq (tg := 9) (pc' := 7) rfl rfl rfl ci_0 (fun c72 => ?_) (fun c72 => absurd c72 (by omega))
              refine h_aload_n (pc' := 10) rfl rfl rfl ?_
              refine h_getR (pc' := 13) rfl rfl rfl rfl rfl ?_
              refine h_aload_n (pc' := 14) rfl rfl rfl ?_
              refine h_getI (pc' := 17) (v := s67 72 2) rfl rfl rfl rfl rfl rfl (fun z73 hz73 => ?_)
              have tz73 := tf_72_2 Is67
              refine h_iload_n (pc' := 18) rfl rfl rfl ?_
              refine h_iast (pc' := 19) rfl rfl rfl rfl hz73 (by omega) (by omega) hr5 (h_fgt (E := fun s => s 63 2 = s67 63 2 ∧ s 64 3 = s67 64 3 ∧ s 64 5 = s67 64 5) _ (in_73 Is67 (by omega)) (Fs67.up rfl) ⟨rfl, rfl, rfl⟩ (fun s74 Is74 Fs74 ⟨es74_0, es74_1, es74_2⟩ => ?_))
              refine h_aload_n (pc' := 20) rfl rfl rfl ?_
              refine h_getR (pc' := 23) rfl rfl rfl rfl rfl ?_
              refine h_aload_n (pc' := 24) rfl rfl rfl ?_
              refine h_getI (pc' := 27) (v := s74 72 2) rfl rfl rfl rfl rfl rfl (fun z75 hz75 => ?_)
              have tz75 := tf_72_2 Is74
              refine h_iload_n (pc' := 28) rfl rfl rfl ?_
              refine h_iast (pc' := 29) rfl rfl rfl rfl hz75 (by omega) (by omega) hr66 (h_fgt (E := fun s => s 63 2 = s67 63 2 ∧ s 64 3 = s67 64 3 ∧ s 64 5 = s67 64 5) _ (in_74 Is74 (by omega)) (Fs74.up rfl) ⟨es74_0, es74_1, es74_2⟩ (fun s76 Is76 Fs76 ⟨es76_0, es76_1, es76_2⟩ => ?_))
              clear es74_0 es74_1 es74_2
              refine h_aload_n (pc' := 30) rfl rfl rfl ?_
              refine h_dup (pc' := 31) rfl rfl rfl ?_
              refine h_getI (pc' := 34) (v := s76 72 2) rfl rfl rfl rfl rfl rfl (fun z77 hz77 => ?_)
              have tz77 := tf_72_2 Is76
              refine h_iconst (pc' := 35) (x := (Int32.ofInt 1)) rfl rfl rfl ?_
              refine h_iadd (pc' := 36) rfl rfl hz77 ci_1 rfl (by omega) (by omega) (fun z78 hz78 => ?_)
              refine h_put (pc' := 39) rfl rfl rfl rfl rfl rfl hz78 rfl (h_fgt (E := fun s => s 63 2 = s67 63 2 ∧ s 64 3 = s67 64 3 ∧ s 64 5 = s67 64 5) _ (if_72_2 Is76 (by omega)) (Fs76.up rfl) ⟨es76_0, es76_1, es76_2⟩ (fun s79 Is79 Fs79 ⟨es79_0, es79_1, es79_2⟩ => ?_))
              clear es76_0 es76_1 es76_2
              refine h_iconst (pc' := 40) (x := (Int32.ofInt 1)) rfl rfl rfl ?_
              refine h_zret rfl rfl ci_1 (by omega) (h_Kv ?_)
              refine h_pop (pc' := 64) rfl rfl rfl ?_
              exact h_vret rfl rfl (kk _ Is79 Fs79 (by omega) (by omega))
            · refine h_iconst (pc' := 9) (x := (Int32.ofInt 1)) rfl rfl rfl ?_
              refine h_goto (pc' := 13) rfl rfl ?_
              refine h_zret rfl rfl ci_1 (by omega) (h_Kv ?_)
              refine h_zeq (tg := 9) (pc' := 7) rfl rfl rfl ci_1 (fun c80 => absurd c80 (by omega)) (fun c80 => ?_)
              refine h_iconst (pc' := 8) (x := (Int32.ofInt 0)) rfl rfl rfl ?_
              refine h_zret rfl rfl ci_0 (by omega) (h_Kv ?_)
              refine h_pop (pc' := 64) rfl rfl rfl ?_
              exact h_vret rfl rfl (kk _ Is67 Fs67 (by omega) (by omega))
  · refine h_iconst (pc' := 9) (x := (Int32.ofInt 1)) rfl rfl rfl ?_
    refine h_goto (pc' := 13) rfl rfl ?_
    refine h_zret rfl rfl ci_1 (by omega) (h_Kv ?_)
    refine h_call (sp := false) (pc' := 8) (M := [(0, .ref 63), (1, .int (Int32.ofInt 1))]) rfl rfl rfl rfl rfl rfl rfl rfl ?_
    refine v_takeName _ hI (Int32.ofInt 1) _ ci_1 (by omega) (fun s82 Is82 Gs82 ps82_0 ps82_1 => h_Kn ?_)
    have Fs82 := (Gs82.l1).tr F00
    refine h_aload_n (pc' := 9) rfl rfl rfl ?_
    refine h_iconst (pc' := 10) (x := (Int32.ofInt 5)) rfl rfl rfl ?_
    refine h_call (sp := false) (pc' := 13) (M := [(0, .ref 63), (1, .int (Int32.ofInt 5))]) rfl rfl rfl rfl rfl rfl rfl rfl ?_
    refine v_takeNumber _ Is82 (Int32.ofInt 5) _ ci_5 (by omega) (fun r83 br83 hr83 s84 Is84 Gs84 ps84_0 ps84_1 ps84_2 => h_Kv ?_)
    have Fs84 := (Gs84.l1).tr Fs82
    refine h_istore_n (pc' := 14) (M := [(2, .int r83), (0, .ref 63), (1, .ref 72)]) rfl rfl rfl rfl ?_
    refine h_aload_n (pc' := 15) rfl rfl rfl ?_
    refine h_call (sp := false) (pc' := 18) (M := [(0, .ref 63)]) rfl rfl rfl rfl rfl rfl rfl rfl ?_
    refine h_aload_n (pc' := 1) rfl rfl rfl ?_
    refine h_getI (pc' := 4) (v := s84 63 2) rfl rfl rfl rfl rfl rfl (fun z85 hz85 => ?_)
    have tz85 := tf_63_2 Is84
    refine h_zne (tg := 22) (pc' := 7) rfl rfl rfl hz85 (fun c86 => ?_) (fun c86 => ?_)
    · refine h_iconst (pc' := 23) (x := (Int32.ofInt 0)) rfl rfl rfl ?_
      refine h_zret rfl rfl ci_0 (by omega) (h_Kv ?_)
      refine h_zeq (tg := 44) (pc' := 21) rfl rfl rfl ci_0 (fun c87 => ?_) (fun c87 => absurd c87 (by omega))
      refine h_aload_n (pc' := 45) rfl rfl rfl ?_
      refine h_iconst (pc' := 46) (x := (Int32.ofInt 5)) rfl rfl rfl ?_
      refine h_call (sp := false) (pc' := 49) (M := [(0, .ref 63), (1, .int (Int32.ofInt 5))]) rfl rfl rfl rfl rfl rfl rfl rfl ?_
      refine v_takeNumber _ Is84 (Int32.ofInt 5) _ ci_5 (by omega) (fun r88 br88 hr88 s89 Is89 Gs89 ps89_0 ps89_1 ps89_2 => h_Kv ?_)
      have Fs89 := (Gs89.l1).tr Fs84
      refine h_istore_n (pc' := 50) (M := [(3, .int r88), (2, .int r83), (0, .ref 63), (1, .ref 72)]) rfl rfl rfl rfl ?_
      refine h_aload_n (pc' := 51) rfl rfl rfl ?_
      refine h_getI (pc' := 54) (v := s89 63 2) rfl rfl rfl rfl rfl rfl (fun z90 hz90 => ?_)
      have tz90 := tf_63_2 Is89
      refine h_zne (tg := 64) (pc' := 57) rfl rfl rfl hz90 (fun c91 => ?_) (fun c91 => ?_)
      · exact h_vret rfl rfl (kk _ Is89 Fs89 (by omega) (by omega))
      · refine h_aload_n (pc' := 58) rfl rfl rfl ?_
        refine h_iload_n (pc' := 59) rfl rfl rfl ?_
        refine h_iload_n (pc' := 60) rfl rfl rfl ?_
        refine h_call (sp := false) (pc' := 63) (M := [(0, .ref 72), (1, .int r83), (2, .int r88)]) rfl rfl rfl rfl rfl rfl rfl rfl ?_
        refine h_aload_n (pc' := 1) rfl rfl rfl ?_
        refine h_call (sp := false) (pc' := 4) (M := [(0, .ref 72)]) rfl rfl rfl rfl rfl rfl rfl rfl ?_
        refine h_aload_n (pc' := 1) rfl rfl rfl ?_
        refine h_getI (pc' := 4) (v := s89 72 2) rfl rfl rfl rfl rfl rfl (fun z92 hz92 => ?_)
        have tz92 := tf_72_2 Is89
        refine h_iconst (pc' := 5) (x := (Int32.ofInt 3)) rfl rfl rfl ?_
        refine h_clt (tg := 12) (pc' := 8) rfl rfl rfl hz92 ci_3 (fun c93 => ?_) (fun c93 => ?_)
        · refine h_iconst (pc' := 13) (x := (Int32.ofInt 0)) rfl rfl rfl ?_
          refine h_zret rfl rfl ci_0 (by omega) (h_Kv ?_)
          refine h_zeq (tg := 9) (pc' := 7) rfl rfl rfl ci_0 (fun c94 => ?_) (fun c94 => absurd c94 (by omega))
          refine h_aload_n (pc' := 10) rfl rfl rfl ?_
          refine h_getR (pc' := 13) rfl rfl rfl rfl rfl ?_
          refine h_aload_n (pc' := 14) rfl rfl rfl ?_
          refine h_getI (pc' := 17) (v := s89 72 2) rfl rfl rfl rfl rfl rfl (fun z95 hz95 => ?_)
          have tz95 := tf_72_2 Is89
          refine h_iload_n (pc' := 18) rfl rfl rfl ?_
          refine h_iast (pc' := 19) rfl rfl rfl rfl hz95 (by omega) (by omega) hr83 (h_fgt (E := fun s => s 63 2 = s89 63 2 ∧ s 64 3 = s89 64 3 ∧ s 64 5 = s89 64 5) _ (in_73 Is89 (by omega)) (Fs89.up rfl) ⟨rfl, rfl, rfl⟩ (fun s96 Is96 Fs96 ⟨es96_0, es96_1, es96_2⟩ => ?_))
          refine h_aload_n (pc' := 20) rfl rfl rfl ?_
          refine h_getR (pc' := 23) rfl rfl rfl rfl rfl ?_
          refine h_aload_n (pc' := 24) rfl rfl rfl ?_
          refine h_getI (pc' := 27) (v := s96 72 2) rfl rfl rfl rfl rfl rfl (fun z97 hz97 => ?_)
          have tz97 := tf_72_2 Is96
          refine h_iload_n (pc' := 28) rfl rfl rfl ?_
          refine h_iast (pc' := 29) rfl rfl rfl rfl hz97 (by omega) (by omega) hr88 (h_fgt (E := fun s => s 63 2 = s89 63 2 ∧ s 64 3 = s89 64 3 ∧ s 64 5 = s89 64 5) _ (in_74 Is96 (by omega)) (Fs96.up rfl) ⟨es96_0, es96_1, es96_2⟩ (fun s98 Is98 Fs98 ⟨es98_0, es98_1, es98_2⟩ => ?_))
          clear es96_0 es96_1 es96_2
          refine h_aload_n (pc' := 30) rfl rfl rfl ?_
          refine h_dup (pc' := 31) rfl rfl rfl ?_
          refine h_getI (pc' := 34) (v := s98 72 2) rfl rfl rfl rfl rfl rfl (fun z99 hz99 => ?_)
          have tz99 := tf_72_2 Is98
          refine h_iconst (pc' := 35) (x := (Int32.ofInt 1)) rfl rfl rfl ?_
          refine h_iadd (pc' := 36) rfl rfl hz99 ci_1 rfl (by omega) (by omega) (fun z100 hz100 => ?_)
          refine h_put (pc' := 39) rfl rfl rfl rfl rfl rfl hz100 rfl (h_fgt (E := fun s => s 63 2 = s89 63 2 ∧ s 64 3 = s89 64 3 ∧ s 64 5 = s89 64 5) _ (if_72_2 Is98 (by omega)) (Fs98.up rfl) ⟨es98_0, es98_1, es98_2⟩ (fun s101 Is101 Fs101 ⟨es101_0, es101_1, es101_2⟩ => ?_))
          clear es98_0 es98_1 es98_2
          refine h_iconst (pc' := 40) (x := (Int32.ofInt 1)) rfl rfl rfl ?_
          refine h_zret rfl rfl ci_1 (by omega) (h_Kv ?_)
          refine h_pop (pc' := 64) rfl rfl rfl ?_
          exact h_vret rfl rfl (kk _ Is101 Fs101 (by omega) (by omega))
        · refine h_iconst (pc' := 9) (x := (Int32.ofInt 1)) rfl rfl rfl ?_
          refine h_goto (pc' := 13) rfl rfl ?_
          refine h_zret rfl rfl ci_1 (by omega) (h_Kv ?_)
          refine h_zeq (tg := 9) (pc' := 7) rfl rfl rfl ci_1 (fun c102 => absurd c102 (by omega)) (fun c102 => ?_)
          refine h_iconst (pc' := 8) (x := (Int32.ofInt 0)) rfl rfl rfl ?_
          refine h_zret rfl rfl ci_0 (by omega) (h_Kv ?_)
          refine h_pop (pc' := 64) rfl rfl rfl ?_
          exact h_vret rfl rfl (kk _ Is89 Fs89 (by omega) (by omega))
    · refine h_aload_n (pc' := 8) rfl rfl rfl ?_
      refine h_getR (pc' := 11) rfl rfl rfl rfl rfl ?_
      refine h_getI (pc' := 14) (v := s84 64 3) rfl rfl rfl rfl rfl rfl (fun z103 hz103 => ?_)
      have tz103 := tf_64_3 Is84
      refine h_iconst (pc' := 15) (x := (Int32.ofInt 2)) rfl rfl rfl ?_
      refine h_cne (tg := 22) (pc' := 18) rfl rfl rfl hz103 ci_2 (fun c104 => ?_) (fun c104 => ?_)
      · refine h_iconst (pc' := 23) (x := (Int32.ofInt 0)) rfl rfl rfl ?_
        refine h_zret rfl rfl ci_0 (by omega) (h_Kv ?_)
        refine h_zeq (tg := 44) (pc' := 21) rfl rfl rfl ci_0 (fun c105 => ?_) (fun c105 => absurd c105 (by omega))
        refine h_aload_n (pc' := 45) rfl rfl rfl ?_
        refine h_iconst (pc' := 46) (x := (Int32.ofInt 5)) rfl rfl rfl ?_
        refine h_call (sp := false) (pc' := 49) (M := [(0, .ref 63), (1, .int (Int32.ofInt 5))]) rfl rfl rfl rfl rfl rfl rfl rfl ?_
        refine v_takeNumber _ Is84 (Int32.ofInt 5) _ ci_5 (by omega) (fun r106 br106 hr106 s107 Is107 Gs107 ps107_0 ps107_1 ps107_2 => h_Kv ?_)
        have Fs107 := (Gs107.l1).tr Fs84
        refine h_istore_n (pc' := 50) (M := [(3, .int r106), (2, .int r83), (0, .ref 63), (1, .ref 72)]) rfl rfl rfl rfl ?_
        refine h_aload_n (pc' := 51) rfl rfl rfl ?_
        refine h_getI (pc' := 54) (v := s107 63 2) rfl rfl rfl rfl rfl rfl (fun z108 hz108 => ?_)
        have tz108 := tf_63_2 Is107
        refine h_zne (tg := 64) (pc' := 57) rfl rfl rfl hz108 (fun c109 => ?_) (fun c109 => ?_)
        · exact h_vret rfl rfl (kk _ Is107 Fs107 (by omega) (by omega))
        · refine h_aload_n (pc' := 58) rfl rfl rfl ?_
          refine h_iload_n (pc' := 59) rfl rfl rfl ?_
          refine h_iload_n (pc' := 60) rfl rfl rfl ?_
          refine h_call (sp := false) (pc' := 63) (M := [(0, .ref 72), (1, .int r83), (2, .int r106)]) rfl rfl rfl rfl rfl rfl rfl rfl ?_
          refine h_aload_n (pc' := 1) rfl rfl rfl ?_
          refine h_call (sp := false) (pc' := 4) (M := [(0, .ref 72)]) rfl rfl rfl rfl rfl rfl rfl rfl ?_
          refine h_aload_n (pc' := 1) rfl rfl rfl ?_
          refine h_getI (pc' := 4) (v := s107 72 2) rfl rfl rfl rfl rfl rfl (fun z110 hz110 => ?_)
          have tz110 := tf_72_2 Is107
          refine h_iconst (pc' := 5) (x := (Int32.ofInt 3)) rfl rfl rfl ?_
          refine h_clt (tg := 12) (pc' := 8) rfl rfl rfl hz110 ci_3 (fun c111 => ?_) (fun c111 => ?_)
          · refine h_iconst (pc' := 13) (x := (Int32.ofInt 0)) rfl rfl rfl ?_
            refine h_zret rfl rfl ci_0 (by omega) (h_Kv ?_)
            refine h_zeq (tg := 9) (pc' := 7) rfl rfl rfl ci_0 (fun c112 => ?_) (fun c112 => absurd c112 (by omega))
            refine h_aload_n (pc' := 10) rfl rfl rfl ?_
            refine h_getR (pc' := 13) rfl rfl rfl rfl rfl ?_
            refine h_aload_n (pc' := 14) rfl rfl rfl ?_
            refine h_getI (pc' := 17) (v := s107 72 2) rfl rfl rfl rfl rfl rfl (fun z113 hz113 => ?_)
            have tz113 := tf_72_2 Is107
            refine h_iload_n (pc' := 18) rfl rfl rfl ?_
            refine h_iast (pc' := 19) rfl rfl rfl rfl hz113 (by omega) (by omega) hr83 (h_fgt (E := fun s => s 63 2 = s107 63 2 ∧ s 64 3 = s107 64 3 ∧ s 64 5 = s107 64 5) _ (in_73 Is107 (by omega)) (Fs107.up rfl) ⟨rfl, rfl, rfl⟩ (fun s114 Is114 Fs114 ⟨es114_0, es114_1, es114_2⟩ => ?_))
            refine h_aload_n (pc' := 20) rfl rfl rfl ?_
            refine h_getR (pc' := 23) rfl rfl rfl rfl rfl ?_
            refine h_aload_n (pc' := 24) rfl rfl rfl ?_
            refine h_getI (pc' := 27) (v := s114 72 2) rfl rfl rfl rfl rfl rfl (fun z115 hz115 => ?_)
            have tz115 := tf_72_2 Is114
            refine h_iload_n (pc' := 28) rfl rfl rfl ?_
            refine h_iast (pc' := 29) rfl rfl rfl rfl hz115 (by omega) (by omega) hr106 (h_fgt (E := fun s => s 63 2 = s107 63 2 ∧ s 64 3 = s107 64 3 ∧ s 64 5 = s107 64 5) _ (in_74 Is114 (by omega)) (Fs114.up rfl) ⟨es114_0, es114_1, es114_2⟩ (fun s116 Is116 Fs116 ⟨es116_0, es116_1, es116_2⟩ => ?_))
            clear es114_0 es114_1 es114_2
            refine h_aload_n (pc' := 30) rfl rfl rfl ?_
            refine h_dup (pc' := 31) rfl rfl rfl ?_
            refine h_getI (pc' := 34) (v := s116 72 2) rfl rfl rfl rfl rfl rfl (fun z117 hz117 => ?_)
            have tz117 := tf_72_2 Is116
            refine h_iconst (pc' := 35) (x := (Int32.ofInt 1)) rfl rfl rfl ?_
            refine h_iadd (pc' := 36) rfl rfl hz117 ci_1 rfl (by omega) (by omega) (fun z118 hz118 => ?_)
            refine h_put (pc' := 39) rfl rfl rfl rfl rfl rfl hz118 rfl (h_fgt (E := fun s => s 63 2 = s107 63 2 ∧ s 64 3 = s107 64 3 ∧ s 64 5 = s107 64 5) _ (if_72_2 Is116 (by omega)) (Fs116.up rfl) ⟨es116_0, es116_1, es116_2⟩ (fun s119 Is119 Fs119 ⟨es119_0, es119_1, es119_2⟩ => ?_))
            clear es116_0 es116_1 es116_2
            refine h_iconst (pc' := 40) (x := (Int32.ofInt 1)) rfl rfl rfl ?_
            refine h_zret rfl rfl ci_1 (by omega) (h_Kv ?_)
            refine h_pop (pc' := 64) rfl rfl rfl ?_
            exact h_vret rfl rfl (kk _ Is119 Fs119 (by omega) (by omega))
          · refine h_iconst (pc' := 9) (x := (Int32.ofInt 1)) rfl rfl rfl ?_
            refine h_goto (pc' := 13) rfl rfl ?_
            refine h_zret rfl rfl ci_1 (by omega) (h_Kv ?_)
            refine h_zeq (tg := 9) (pc' := 7) rfl rfl rfl ci_1 (fun c120 => absurd c120 (by omega)) (fun c120 => ?_)
            refine h_iconst (pc' := 8) (x := (Int32.ofInt 0)) rfl rfl rfl ?_
            refine h_zret rfl rfl ci_0 (by omega) (h_Kv ?_)
            refine h_pop (pc' := 64) rfl rfl rfl ?_
            exact h_vret rfl rfl (kk _ Is107 Fs107 (by omega) (by omega))
      · refine h_iconst (pc' := 19) (x := (Int32.ofInt 1)) rfl rfl rfl ?_
        refine h_goto (pc' := 23) rfl rfl ?_
        refine h_zret rfl rfl ci_1 (by omega) (h_Kv ?_)
        refine h_zeq (tg := 44) (pc' := 21) rfl rfl rfl ci_1 (fun c121 => absurd c121 (by omega)) (fun c121 => ?_)
        refine h_aload_n (pc' := 22) rfl rfl rfl ?_
        refine h_getR (pc' := 25) rfl rfl rfl rfl rfl ?_
        refine h_getI (pc' := 28) (v := s84 64 5) rfl rfl rfl rfl rfl rfl (fun z122 hz122 => ?_)
        have tz122 := tf_64_5 Is84
        refine h_iload_n (pc' := 29) rfl rfl rfl ?_
        refine h_cne (tg := 44) (pc' := 32) rfl rfl rfl hz122 hr83 (fun c123 => ?_) (fun c123 => ?_)
        · refine h_aload_n (pc' := 45) rfl rfl rfl ?_
          refine h_iconst (pc' := 46) (x := (Int32.ofInt 5)) rfl rfl rfl ?_
          refine h_call (sp := false) (pc' := 49) (M := [(0, .ref 63), (1, .int (Int32.ofInt 5))]) rfl rfl rfl rfl rfl rfl rfl rfl ?_
          refine v_takeNumber _ Is84 (Int32.ofInt 5) _ ci_5 (by omega) (fun r124 br124 hr124 s125 Is125 Gs125 ps125_0 ps125_1 ps125_2 => h_Kv ?_)
          have Fs125 := (Gs125.l1).tr Fs84
          refine h_istore_n (pc' := 50) (M := [(3, .int r124), (2, .int r83), (0, .ref 63), (1, .ref 72)]) rfl rfl rfl rfl ?_
          refine h_aload_n (pc' := 51) rfl rfl rfl ?_
          refine h_getI (pc' := 54) (v := s125 63 2) rfl rfl rfl rfl rfl rfl (fun z126 hz126 => ?_)
          have tz126 := tf_63_2 Is125
          refine h_zne (tg := 64) (pc' := 57) rfl rfl rfl hz126 (fun c127 => ?_) (fun c127 => ?_)
          · exact h_vret rfl rfl (kk _ Is125 Fs125 (by omega) (by omega))
          · refine h_aload_n (pc' := 58) rfl rfl rfl ?_
            refine h_iload_n (pc' := 59) rfl rfl rfl ?_
            refine h_iload_n (pc' := 60) rfl rfl rfl ?_
            refine h_call (sp := false) (pc' := 63) (M := [(0, .ref 72), (1, .int r83), (2, .int r124)]) rfl rfl rfl rfl rfl rfl rfl rfl ?_
            refine h_aload_n (pc' := 1) rfl rfl rfl ?_
            refine h_call (sp := false) (pc' := 4) (M := [(0, .ref 72)]) rfl rfl rfl rfl rfl rfl rfl rfl ?_
            refine h_aload_n (pc' := 1) rfl rfl rfl ?_
            refine h_getI (pc' := 4) (v := s125 72 2) rfl rfl rfl rfl rfl rfl (fun z128 hz128 => ?_)
            have tz128 := tf_72_2 Is125
            refine h_iconst (pc' := 5) (x := (Int32.ofInt 3)) rfl rfl rfl ?_
            refine h_clt (tg := 12) (pc' := 8) rfl rfl rfl hz128 ci_3 (fun c129 => ?_) (fun c129 => ?_)
            · refine h_iconst (pc' := 13) (x := (Int32.ofInt 0)) rfl rfl rfl ?_
              refine h_zret rfl rfl ci_0 (by omega) (h_Kv ?_)
              refine h_zeq (tg := 9) (pc' := 7) rfl rfl rfl ci_0 (fun c130 => ?_) (fun c130 => absurd c130 (by omega))
              refine h_aload_n (pc' := 10) rfl rfl rfl ?_
              refine h_getR (pc' := 13) rfl rfl rfl rfl rfl ?_
              refine h_aload_n (pc' := 14) rfl rfl rfl ?_
              refine h_getI (pc' := 17) (v := s125 72 2) rfl rfl rfl rfl rfl rfl (fun z131 hz131 => ?_)
              have tz131 := tf_72_2 Is125
              refine h_iload_n (pc' := 18) rfl rfl rfl ?_
              refine h_iast (pc' := 19) rfl rfl rfl rfl hz131 (by omega) (by omega) hr83 (h_fgt (E := fun s => s 63 2 = s125 63 2 ∧ s 64 3 = s125 64 3 ∧ s 64 5 = s125 64 5) _ (in_73 Is125 (by omega)) (Fs125.up rfl) ⟨rfl, rfl, rfl⟩ (fun s132 Is132 Fs132 ⟨es132_0, es132_1, es132_2⟩ => ?_))
              refine h_aload_n (pc' := 20) rfl rfl rfl ?_
              refine h_getR (pc' := 23) rfl rfl rfl rfl rfl ?_
              refine h_aload_n (pc' := 24) rfl rfl rfl ?_
              refine h_getI (pc' := 27) (v := s132 72 2) rfl rfl rfl rfl rfl rfl (fun z133 hz133 => ?_)
              have tz133 := tf_72_2 Is132
              refine h_iload_n (pc' := 28) rfl rfl rfl ?_
              refine h_iast (pc' := 29) rfl rfl rfl rfl hz133 (by omega) (by omega) hr124 (h_fgt (E := fun s => s 63 2 = s125 63 2 ∧ s 64 3 = s125 64 3 ∧ s 64 5 = s125 64 5) _ (in_74 Is132 (by omega)) (Fs132.up rfl) ⟨es132_0, es132_1, es132_2⟩ (fun s134 Is134 Fs134 ⟨es134_0, es134_1, es134_2⟩ => ?_))
              clear es132_0 es132_1 es132_2
              refine h_aload_n (pc' := 30) rfl rfl rfl ?_
              refine h_dup (pc' := 31) rfl rfl rfl ?_
              refine h_getI (pc' := 34) (v := s134 72 2) rfl rfl rfl rfl rfl rfl (fun z135 hz135 => ?_)
              have tz135 := tf_72_2 Is134
              refine h_iconst (pc' := 35) (x := (Int32.ofInt 1)) rfl rfl rfl ?_
              refine h_iadd (pc' := 36) rfl rfl hz135 ci_1 rfl (by omega) (by omega) (fun z136 hz136 => ?_)
              refine h_put (pc' := 39) rfl rfl rfl rfl rfl rfl hz136 rfl (h_fgt (E := fun s => s 63 2 = s125 63 2 ∧ s 64 3 = s125 64 3 ∧ s 64 5 = s125 64 5) _ (if_72_2 Is134 (by omega)) (Fs134.up rfl) ⟨es134_0, es134_1, es134_2⟩ (fun s137 Is137 Fs137 ⟨es137_0, es137_1, es137_2⟩ => ?_))
              clear es134_0 es134_1 es134_2
              refine h_iconst (pc' := 40) (x := (Int32.ofInt 1)) rfl rfl rfl ?_
              refine h_zret rfl rfl ci_1 (by omega) (h_Kv ?_)
              refine h_pop (pc' := 64) rfl rfl rfl ?_
              exact h_vret rfl rfl (kk _ Is137 Fs137 (by omega) (by omega))
            · refine h_iconst (pc' := 9) (x := (Int32.ofInt 1)) rfl rfl rfl ?_
              refine h_goto (pc' := 13) rfl rfl ?_
              refine h_zret rfl rfl ci_1 (by omega) (h_Kv ?_)
              refine h_zeq (tg := 9) (pc' := 7) rfl rfl rfl ci_1 (fun c138 => absurd c138 (by omega)) (fun c138 => ?_)
              refine h_iconst (pc' := 8) (x := (Int32.ofInt 0)) rfl rfl rfl ?_
              refine h_zret rfl rfl ci_0 (by omega) (h_Kv ?_)
              refine h_pop (pc' := 64) rfl rfl rfl ?_
              exact h_vret rfl rfl (kk _ Is125 Fs125 (by omega) (by omega))
        · refine h_aload_n (pc' := 33) rfl rfl rfl ?_
          refine h_iconst (pc' := 34) (x := (Int32.ofInt 3)) rfl rfl rfl ?_
          refine h_aload_n (pc' := 35) rfl rfl rfl ?_
          refine h_getR (pc' := 38) rfl rfl rfl rfl rfl ?_
          refine h_getI (pc' := 41) (v := s84 64 4) rfl rfl rfl rfl rfl rfl (fun z139 hz139 => ?_)
          have tz139 := tf_64_4 Is84
          refine h_call (sp := false) (pc' := 44) (M := [(0, .ref 63), (1, .int (Int32.ofInt 3)), (2, .int z139)]) rfl rfl rfl rfl rfl rfl rfl rfl ?_
          refine h_aload_n (pc' := 1) rfl rfl rfl ?_
          refine h_getI (pc' := 4) (v := s84 63 2) rfl rfl rfl rfl rfl rfl (fun z140 hz140 => ?_)
          have tz140 := tf_63_2 Is84
          refine h_zne (tg := 17) (pc' := 7) rfl rfl rfl hz140 (fun c141 => absurd c141 (by omega)) (fun c141 => ?_)
          refine h_aload_n (pc' := 8) rfl rfl rfl ?_
          refine h_iload_n (pc' := 9) rfl rfl rfl ?_
          refine h_put (pc' := 12) rfl rfl rfl rfl rfl rfl ci_3 rfl (h_fgt (E := fun s => s 63 2 = 3 ∧ s 64 3 = s84 64 3 ∧ s 64 5 = s84 64 5) _ (if_63_2 Is84 (by omega)) (Fs84.up rfl) ⟨rfl, rfl, rfl⟩ (fun s142 Is142 Fs142 ⟨es142_0, es142_1, es142_2⟩ => ?_))
          refine h_aload_n (pc' := 13) rfl rfl rfl ?_
          refine h_iload_n (pc' := 14) rfl rfl rfl ?_
          refine h_put (pc' := 17) rfl rfl rfl rfl rfl rfl hz139 rfl (h_fgt (E := fun s => s 63 2 = 3 ∧ s 64 3 = s84 64 3 ∧ s 64 5 = s84 64 5) _ (if_63_3 Is142 (h_rgv hz139)) (Fs142.up rfl) ⟨es142_0, es142_1, es142_2⟩ (fun s143 Is143 Fs143 ⟨es143_0, es143_1, es143_2⟩ => ?_))
          clear es142_0 es142_1 es142_2
          refine h_vret rfl rfl (h_Kn ?_)
          refine h_aload_n (pc' := 45) rfl rfl rfl ?_
          refine h_iconst (pc' := 46) (x := (Int32.ofInt 5)) rfl rfl rfl ?_
          refine h_call (sp := false) (pc' := 49) (M := [(0, .ref 63), (1, .int (Int32.ofInt 5))]) rfl rfl rfl rfl rfl rfl rfl rfl ?_
          refine v_takeNumber _ Is143 (Int32.ofInt 5) _ ci_5 (by omega) (fun r144 br144 hr144 s145 Is145 Gs145 ps145_0 ps145_1 ps145_2 => h_Kv ?_)
          have Fs145 := (Gs145.l1).tr Fs143
          clear es143_0 es143_1 es143_2
          refine h_istore_n (pc' := 50) (M := [(3, .int r144), (2, .int r83), (0, .ref 63), (1, .ref 72)]) rfl rfl rfl rfl ?_
          refine h_aload_n (pc' := 51) rfl rfl rfl ?_
          refine h_getI (pc' := 54) (v := s145 63 2) rfl rfl rfl rfl rfl rfl (fun z146 hz146 => ?_)
          have tz146 := tf_63_2 Is145
          refine h_zne (tg := 64) (pc' := 57) rfl rfl rfl hz146 (fun c147 => ?_) (fun c147 => ?_)
          · exact h_vret rfl rfl (kk _ Is145 Fs145 (by omega) (by omega))
          · refine h_aload_n (pc' := 58) rfl rfl rfl ?_
            refine h_iload_n (pc' := 59) rfl rfl rfl ?_
            refine h_iload_n (pc' := 60) rfl rfl rfl ?_
            refine h_call (sp := false) (pc' := 63) (M := [(0, .ref 72), (1, .int r83), (2, .int r144)]) rfl rfl rfl rfl rfl rfl rfl rfl ?_
            refine h_aload_n (pc' := 1) rfl rfl rfl ?_
            refine h_call (sp := false) (pc' := 4) (M := [(0, .ref 72)]) rfl rfl rfl rfl rfl rfl rfl rfl ?_
            refine h_aload_n (pc' := 1) rfl rfl rfl ?_
            refine h_getI (pc' := 4) (v := s145 72 2) rfl rfl rfl rfl rfl rfl (fun z148 hz148 => ?_)
            have tz148 := tf_72_2 Is145
            refine h_iconst (pc' := 5) (x := (Int32.ofInt 3)) rfl rfl rfl ?_
            refine h_clt (tg := 12) (pc' := 8) rfl rfl rfl hz148 ci_3 (fun c149 => ?_) (fun c149 => ?_)
            · refine h_iconst (pc' := 13) (x := (Int32.ofInt 0)) rfl rfl rfl ?_
              refine h_zret rfl rfl ci_0 (by omega) (h_Kv ?_)
              refine h_zeq (tg := 9) (pc' := 7) rfl rfl rfl ci_0 (fun c150 => ?_) (fun c150 => absurd c150 (by omega))
              refine h_aload_n (pc' := 10) rfl rfl rfl ?_
              refine h_getR (pc' := 13) rfl rfl rfl rfl rfl ?_
              refine h_aload_n (pc' := 14) rfl rfl rfl ?_
              refine h_getI (pc' := 17) (v := s145 72 2) rfl rfl rfl rfl rfl rfl (fun z151 hz151 => ?_)
              have tz151 := tf_72_2 Is145
              refine h_iload_n (pc' := 18) rfl rfl rfl ?_
              refine h_iast (pc' := 19) rfl rfl rfl rfl hz151 (by omega) (by omega) hr83 (h_fgt (E := fun s => s 63 2 = s145 63 2 ∧ s 64 3 = s145 64 3 ∧ s 64 5 = s145 64 5) _ (in_73 Is145 (by omega)) (Fs145.up rfl) ⟨rfl, rfl, rfl⟩ (fun s152 Is152 Fs152 ⟨es152_0, es152_1, es152_2⟩ => ?_))
              refine h_aload_n (pc' := 20) rfl rfl rfl ?_
              refine h_getR (pc' := 23) rfl rfl rfl rfl rfl ?_
              refine h_aload_n (pc' := 24) rfl rfl rfl ?_
              refine h_getI (pc' := 27) (v := s152 72 2) rfl rfl rfl rfl rfl rfl (fun z153 hz153 => ?_)
              have tz153 := tf_72_2 Is152
              refine h_iload_n (pc' := 28) rfl rfl rfl ?_
              refine h_iast (pc' := 29) rfl rfl rfl rfl hz153 (by omega) (by omega) hr144 (h_fgt (E := fun s => s 63 2 = s145 63 2 ∧ s 64 3 = s145 64 3 ∧ s 64 5 = s145 64 5) _ (in_74 Is152 (by omega)) (Fs152.up rfl) ⟨es152_0, es152_1, es152_2⟩ (fun s154 Is154 Fs154 ⟨es154_0, es154_1, es154_2⟩ => ?_))
              clear es152_0 es152_1 es152_2
              refine h_aload_n (pc' := 30) rfl rfl rfl ?_
              refine h_dup (pc' := 31) rfl rfl rfl ?_
              refine h_getI (pc' := 34) (v := s154 72 2) rfl rfl rfl rfl rfl rfl (fun z155 hz155 => ?_)
              have tz155 := tf_72_2 Is154
              refine h_iconst (pc' := 35) (x := (Int32.ofInt 1)) rfl rfl rfl ?_
              refine h_iadd (pc' := 36) rfl rfl hz155 ci_1 rfl (by omega) (by omega) (fun z156 hz156 => ?_)
              refine h_put (pc' := 39) rfl rfl rfl rfl rfl rfl hz156 rfl (h_fgt (E := fun s => s 63 2 = s145 63 2 ∧ s 64 3 = s145 64 3 ∧ s 64 5 = s145 64 5) _ (if_72_2 Is154 (by omega)) (Fs154.up rfl) ⟨es154_0, es154_1, es154_2⟩ (fun s157 Is157 Fs157 ⟨es157_0, es157_1, es157_2⟩ => ?_))
              clear es154_0 es154_1 es154_2
              refine h_iconst (pc' := 40) (x := (Int32.ofInt 1)) rfl rfl rfl ?_
              refine h_zret rfl rfl ci_1 (by omega) (h_Kv ?_)
              refine h_pop (pc' := 64) rfl rfl rfl ?_
              exact h_vret rfl rfl (kk _ Is157 Fs157 (by omega) (by omega))
            · refine h_iconst (pc' := 9) (x := (Int32.ofInt 1)) rfl rfl rfl ?_
              refine h_goto (pc' := 13) rfl rfl ?_
              refine h_zret rfl rfl ci_1 (by omega) (h_Kv ?_)
              refine h_zeq (tg := 9) (pc' := 7) rfl rfl rfl ci_1 (fun c158 => absurd c158 (by omega)) (fun c158 => ?_)
              refine h_iconst (pc' := 8) (x := (Int32.ofInt 0)) rfl rfl rfl ?_
              refine h_zret rfl rfl ci_0 (by omega) (h_Kv ?_)
              refine h_pop (pc' := 64) rfl rfl rfl ?_
              exact h_vret rfl rfl (kk _ Is145 Fs145 (by omega) (by omega))
theorem v_readGate {ns : Nat} (σ : h_S) (hI : h_I σ) (pr0 : (¬ σ 63 2 = 0 ∨ ¬ σ 64 3 = 2 ∨ (0 ≤ σ 64 5 ∧ σ 64 5 ≤ 99))) {Q : Option Value → h_S → Prop} (kk : ∀ (τ : h_S), h_I τ → h_F k_nt τ σ → ((¬ τ 63 2 = 0 ∨ ¬ τ 64 3 = 2 ∨ (0 ≤ τ 64 5 ∧ τ 64 5 ≤ 99))) → (¬ σ 63 2 = 0 → ¬ τ 63 2 = 0) → Q none τ) : h_T g_P (g_Y ns) 61 0 [(0, .ref 63)] [] σ Q := by
  have F00 : h_F k_nt σ σ := h_F.rf
  refine h_aload_n (pc' := 1) rfl rfl rfl ?_
  refine h_aload_n (pc' := 2) rfl rfl rfl ?_
  refine h_getR (pc' := 5) rfl rfl rfl rfl rfl ?_
  refine h_getI (pc' := 8) (v := σ 66 9) rfl rfl rfl rfl rfl rfl (fun z1 hz1 => ?_)
  have tz1 := tf_66_9 hI
  refine h_iconst (pc' := 9) (x := (Int32.ofInt 3)) rfl rfl rfl ?_
  refine h_clt (tg := 16) (pc' := 12) rfl rfl rfl hz1 ci_3 (fun c2 => ?_) (fun c2 => ?_)
  · refine h_iconst (pc' := 17) (x := (Int32.ofInt 0)) rfl rfl rfl ?_
    refine h_call (sp := false) (pc' := 20) (M := [(0, .ref 63), (1, .int (Int32.ofInt 0))]) rfl rfl rfl rfl rfl rfl rfl rfl ?_
    refine v_takeName _ hI (Int32.ofInt 0) _ ci_0 (by omega) (fun s4 Is4 Gs4 ps4_0 ps4_1 => h_Kn ?_)
    have Fs4 := (Gs4.l1).tr F00
    refine h_aload_n (pc' := 21) rfl rfl rfl ?_
    refine h_bipush (pc' := 23) (x := (Int32.ofInt 9)) rfl rfl cb_9 ?_
    refine h_call (sp := false) (pc' := 26) (M := [(0, .ref 63), (1, .int (Int32.ofInt 9))]) rfl rfl rfl rfl rfl rfl rfl rfl ?_
    refine v_takeNumber _ Is4 (Int32.ofInt 9) _ ci_9 (by omega) (fun r5 br5 hr5 s6 Is6 Gs6 ps6_0 ps6_1 ps6_2 => h_Kv ?_)
    have Fs6 := (Gs6.l1).tr Fs4
    refine h_istore_n (pc' := 27) (M := [(1, .int r5), (0, .ref 63)]) rfl rfl rfl rfl ?_
    refine h_aload_n (pc' := 28) rfl rfl rfl ?_
    refine h_call (sp := false) (pc' := 31) (M := [(0, .ref 63)]) rfl rfl rfl rfl rfl rfl rfl rfl ?_
    refine h_aload_n (pc' := 1) rfl rfl rfl ?_
    refine h_getI (pc' := 4) (v := s6 63 2) rfl rfl rfl rfl rfl rfl (fun z7 hz7 => ?_)
    have tz7 := tf_63_2 Is6
    refine h_zne (tg := 22) (pc' := 7) rfl rfl rfl hz7 (fun c8 => ?_) (fun c8 => ?_)
    · refine h_iconst (pc' := 23) (x := (Int32.ofInt 0)) rfl rfl rfl ?_
      refine h_zret rfl rfl ci_0 (by omega) (h_Kv ?_)
      refine h_zeq (tg := 42) (pc' := 34) rfl rfl rfl ci_0 (fun c9 => ?_) (fun c9 => absurd c9 (by omega))
      refine h_bipush (pc' := 44) (x := (Int32.ofInt (-4))) rfl rfl cb_m4 ?_
      refine h_istore_n (pc' := 45) (M := [(2, .int (Int32.ofInt (-4))), (1, .int r5), (0, .ref 63)]) rfl rfl rfl rfl ?_
      refine h_aload_n (pc' := 46) rfl rfl rfl ?_
      refine h_getI (pc' := 49) (v := s6 63 2) rfl rfl rfl rfl rfl rfl (fun z10 hz10 => ?_)
      have tz10 := tf_63_2 Is6
      refine h_zne (tg := 61) (pc' := 52) rfl rfl rfl hz10 (fun c11 => ?_) (fun c11 => absurd c11 (by omega))
      exact h_vret rfl rfl (kk _ Is6 Fs6 (by omega) (by omega))
    · refine h_aload_n (pc' := 8) rfl rfl rfl ?_
      refine h_getR (pc' := 11) rfl rfl rfl rfl rfl ?_
      refine h_getI (pc' := 14) (v := s6 64 3) rfl rfl rfl rfl rfl rfl (fun z12 hz12 => ?_)
      have tz12 := tf_64_3 Is6
      refine h_iconst (pc' := 15) (x := (Int32.ofInt 2)) rfl rfl rfl ?_
      refine h_cne (tg := 22) (pc' := 18) rfl rfl rfl hz12 ci_2 (fun c13 => ?_) (fun c13 => ?_)
      · refine h_iconst (pc' := 23) (x := (Int32.ofInt 0)) rfl rfl rfl ?_
        refine h_zret rfl rfl ci_0 (by omega) (h_Kv ?_)
        refine h_zeq (tg := 42) (pc' := 34) rfl rfl rfl ci_0 (fun c14 => ?_) (fun c14 => absurd c14 (by omega))
        refine h_bipush (pc' := 44) (x := (Int32.ofInt (-4))) rfl rfl cb_m4 ?_
        refine h_istore_n (pc' := 45) (M := [(2, .int (Int32.ofInt (-4))), (1, .int r5), (0, .ref 63)]) rfl rfl rfl rfl ?_
        refine h_aload_n (pc' := 46) rfl rfl rfl ?_
        refine h_getI (pc' := 49) (v := s6 63 2) rfl rfl rfl rfl rfl rfl (fun z15 hz15 => ?_)
        have tz15 := tf_63_2 Is6
        refine h_zne (tg := 61) (pc' := 52) rfl rfl rfl hz15 (fun c16 => absurd c16 (by omega)) (fun c16 => ?_)
        refine h_aload_n (pc' := 53) rfl rfl rfl ?_
        refine h_getR (pc' := 56) rfl rfl rfl rfl rfl ?_
        refine h_iload_n (pc' := 57) rfl rfl rfl ?_
        refine h_iload_n (pc' := 58) rfl rfl rfl ?_
        refine h_call (sp := false) (pc' := 61) (M := [(0, .ref 66), (1, .int r5), (2, .int (Int32.ofInt (-4)))]) rfl rfl rfl rfl rfl rfl rfl rfl ?_
        refine h_aload_n (pc' := 1) rfl rfl rfl ?_
        refine h_getI (pc' := 4) (v := s6 66 9) rfl rfl rfl rfl rfl rfl (fun z17 hz17 => ?_)
        have tz17 := tf_66_9 Is6
        refine h_iconst (pc' := 5) (x := (Int32.ofInt 3)) rfl rfl rfl ?_
        refine h_cge (tg := 48) (pc' := 8) rfl rfl rfl hz17 ci_3 (fun c18 => ?_) (fun c18 => ?_)
        · refine h_vret rfl rfl (h_Kn ?_)
          exact h_vret rfl rfl (kk _ Is6 Fs6 (by omega) (by omega))
        · refine h_aload_n (pc' := 9) rfl rfl rfl ?_
          refine h_getR (pc' := 12) rfl rfl rfl rfl rfl ?_
          refine h_aload_n (pc' := 13) rfl rfl rfl ?_
          refine h_getI (pc' := 16) (v := s6 66 9) rfl rfl rfl rfl rfl rfl (fun z19 hz19 => ?_)
          have tz19 := tf_66_9 Is6
          refine h_iload_n (pc' := 17) rfl rfl rfl ?_
          refine h_iast (pc' := 18) rfl rfl rfl rfl hz19 (by omega) (by omega) hr5 (h_fgt (E := fun s => s 63 2 = s6 63 2 ∧ s 64 3 = s6 64 3 ∧ s 64 5 = s6 64 5) _ (in_75 Is6 (by omega)) (Fs6.up rfl) ⟨rfl, rfl, rfl⟩ (fun s20 Is20 Fs20 ⟨es20_0, es20_1, es20_2⟩ => ?_))
          refine h_aload_n (pc' := 19) rfl rfl rfl ?_
          refine h_getR (pc' := 22) rfl rfl rfl rfl rfl ?_
          refine h_aload_n (pc' := 23) rfl rfl rfl ?_
          refine h_getI (pc' := 26) (v := s20 66 9) rfl rfl rfl rfl rfl rfl (fun z21 hz21 => ?_)
          have tz21 := tf_66_9 Is20
          refine h_iload_n (pc' := 27) rfl rfl rfl ?_
          refine h_iast (pc' := 28) rfl rfl rfl rfl hz21 (by omega) (by omega) ci_m4 (h_fgt (E := fun s => s 63 2 = s6 63 2 ∧ s 64 3 = s6 64 3 ∧ s 64 5 = s6 64 5) _ (in_76 Is20 (by omega)) (Fs20.up rfl) ⟨es20_0, es20_1, es20_2⟩ (fun s22 Is22 Fs22 ⟨es22_0, es22_1, es22_2⟩ => ?_))
          clear es20_0 es20_1 es20_2
          refine h_aload_n (pc' := 29) rfl rfl rfl ?_
          refine h_getR (pc' := 32) rfl rfl rfl rfl rfl ?_
          refine h_aload_n (pc' := 33) rfl rfl rfl ?_
          refine h_getI (pc' := 36) (v := s22 66 9) rfl rfl rfl rfl rfl rfl (fun z23 hz23 => ?_)
          have tz23 := tf_66_9 Is22
          refine h_iconst (pc' := 37) (x := (Int32.ofInt 0)) rfl rfl rfl ?_
          refine h_iast (pc' := 38) rfl rfl rfl rfl hz23 (by omega) (by omega) ci_0 (h_fgt (E := fun s => s 63 2 = s6 63 2 ∧ s 64 3 = s6 64 3 ∧ s 64 5 = s6 64 5) _ (in_77 Is22 (by omega)) (Fs22.up rfl) ⟨es22_0, es22_1, es22_2⟩ (fun s24 Is24 Fs24 ⟨es24_0, es24_1, es24_2⟩ => ?_))
          clear es22_0 es22_1 es22_2
          refine h_aload_n (pc' := 39) rfl rfl rfl ?_
          refine h_dup (pc' := 40) rfl rfl rfl ?_
          refine h_getI (pc' := 43) (v := s24 66 9) rfl rfl rfl rfl rfl rfl (fun z25 hz25 => ?_)
          have tz25 := tf_66_9 Is24
          refine h_iconst (pc' := 44) (x := (Int32.ofInt 1)) rfl rfl rfl ?_
          refine h_iadd (pc' := 45) rfl rfl hz25 ci_1 rfl (by omega) (by omega) (fun z26 hz26 => ?_)
          refine h_put (pc' := 48) rfl rfl rfl rfl rfl rfl hz26 rfl (h_fgt (E := fun s => s 63 2 = s6 63 2 ∧ s 64 3 = s6 64 3 ∧ s 64 5 = s6 64 5) _ (if_66_9 Is24 (by omega)) (Fs24.up rfl) ⟨es24_0, es24_1, es24_2⟩ (fun s27 Is27 Fs27 ⟨es27_0, es27_1, es27_2⟩ => ?_))
          clear es24_0 es24_1 es24_2
          refine h_vret rfl rfl (h_Kn ?_)
          exact h_vret rfl rfl (kk _ Is27 Fs27 (by omega) (by omega))
      · refine h_iconst (pc' := 19) (x := (Int32.ofInt 1)) rfl rfl rfl ?_
        refine h_goto (pc' := 23) rfl rfl ?_
        refine h_zret rfl rfl ci_1 (by omega) (h_Kv ?_)
        refine h_zeq (tg := 42) (pc' := 34) rfl rfl rfl ci_1 (fun c28 => absurd c28 (by omega)) (fun c28 => ?_)
        refine h_aload_n (pc' := 35) rfl rfl rfl ?_
        refine h_iconst (pc' := 36) (x := (Int32.ofInt 5)) rfl rfl rfl ?_
        refine h_call (sp := false) (pc' := 39) (M := [(0, .ref 63), (1, .int (Int32.ofInt 5))]) rfl rfl rfl rfl rfl rfl rfl rfl ?_
        refine v_takeNumber _ Is6 (Int32.ofInt 5) _ ci_5 (by omega) (fun r29 br29 hr29 s30 Is30 Gs30 ps30_0 ps30_1 ps30_2 => h_Kv ?_)
        have Fs30 := (Gs30.l1).tr Fs6
        refine h_goto (pc' := 44) rfl rfl ?_
        refine h_istore_n (pc' := 45) (M := [(2, .int r29), (1, .int r5), (0, .ref 63)]) rfl rfl rfl rfl ?_
        refine h_aload_n (pc' := 46) rfl rfl rfl ?_
        refine h_getI (pc' := 49) (v := s30 63 2) rfl rfl rfl rfl rfl rfl (fun z31 hz31 => ?_)
        have tz31 := tf_63_2 Is30
        refine h_zne (tg := 61) (pc' := 52) rfl rfl rfl hz31 (fun c32 => ?_) (fun c32 => ?_)
        · exact h_vret rfl rfl (kk _ Is30 Fs30 (by omega) (by omega))
        · refine h_aload_n (pc' := 53) rfl rfl rfl ?_
          refine h_getR (pc' := 56) rfl rfl rfl rfl rfl ?_
          refine h_iload_n (pc' := 57) rfl rfl rfl ?_
          refine h_iload_n (pc' := 58) rfl rfl rfl ?_
          refine h_call (sp := false) (pc' := 61) (M := [(0, .ref 66), (1, .int r5), (2, .int r29)]) rfl rfl rfl rfl rfl rfl rfl rfl ?_
          refine h_aload_n (pc' := 1) rfl rfl rfl ?_
          refine h_getI (pc' := 4) (v := s30 66 9) rfl rfl rfl rfl rfl rfl (fun z33 hz33 => ?_)
          have tz33 := tf_66_9 Is30
          refine h_iconst (pc' := 5) (x := (Int32.ofInt 3)) rfl rfl rfl ?_
          refine h_cge (tg := 48) (pc' := 8) rfl rfl rfl hz33 ci_3 (fun c34 => ?_) (fun c34 => ?_)
          · refine h_vret rfl rfl (h_Kn ?_)
            exact h_vret rfl rfl (kk _ Is30 Fs30 (by omega) (by omega))
          · refine h_aload_n (pc' := 9) rfl rfl rfl ?_
            refine h_getR (pc' := 12) rfl rfl rfl rfl rfl ?_
            refine h_aload_n (pc' := 13) rfl rfl rfl ?_
            refine h_getI (pc' := 16) (v := s30 66 9) rfl rfl rfl rfl rfl rfl (fun z35 hz35 => ?_)
            have tz35 := tf_66_9 Is30
            refine h_iload_n (pc' := 17) rfl rfl rfl ?_
            refine h_iast (pc' := 18) rfl rfl rfl rfl hz35 (by omega) (by omega) hr5 (h_fgt (E := fun s => s 63 2 = s30 63 2 ∧ s 64 3 = s30 64 3 ∧ s 64 5 = s30 64 5) _ (in_75 Is30 (by omega)) (Fs30.up rfl) ⟨rfl, rfl, rfl⟩ (fun s36 Is36 Fs36 ⟨es36_0, es36_1, es36_2⟩ => ?_))
            refine h_aload_n (pc' := 19) rfl rfl rfl ?_
            refine h_getR (pc' := 22) rfl rfl rfl rfl rfl ?_
            refine h_aload_n (pc' := 23) rfl rfl rfl ?_
            refine h_getI (pc' := 26) (v := s36 66 9) rfl rfl rfl rfl rfl rfl (fun z37 hz37 => ?_)
            have tz37 := tf_66_9 Is36
            refine h_iload_n (pc' := 27) rfl rfl rfl ?_
            refine h_iast (pc' := 28) rfl rfl rfl rfl hz37 (by omega) (by omega) hr29 (h_fgt (E := fun s => s 63 2 = s30 63 2 ∧ s 64 3 = s30 64 3 ∧ s 64 5 = s30 64 5) _ (in_76 Is36 (by omega)) (Fs36.up rfl) ⟨es36_0, es36_1, es36_2⟩ (fun s38 Is38 Fs38 ⟨es38_0, es38_1, es38_2⟩ => ?_))
            clear es36_0 es36_1 es36_2
            refine h_aload_n (pc' := 29) rfl rfl rfl ?_
            refine h_getR (pc' := 32) rfl rfl rfl rfl rfl ?_
            refine h_aload_n (pc' := 33) rfl rfl rfl ?_
            refine h_getI (pc' := 36) (v := s38 66 9) rfl rfl rfl rfl rfl rfl (fun z39 hz39 => ?_)
            have tz39 := tf_66_9 Is38
            refine h_iconst (pc' := 37) (x := (Int32.ofInt 0)) rfl rfl rfl ?_
            refine h_iast (pc' := 38) rfl rfl rfl rfl hz39 (by omega) (by omega) ci_0 (h_fgt (E := fun s => s 63 2 = s30 63 2 ∧ s 64 3 = s30 64 3 ∧ s 64 5 = s30 64 5) _ (in_77 Is38 (by omega)) (Fs38.up rfl) ⟨es38_0, es38_1, es38_2⟩ (fun s40 Is40 Fs40 ⟨es40_0, es40_1, es40_2⟩ => ?_))
            clear es38_0 es38_1 es38_2
            refine h_aload_n (pc' := 39) rfl rfl rfl ?_
            refine h_dup (pc' := 40) rfl rfl rfl ?_
            refine h_getI (pc' := 43) (v := s40 66 9) rfl rfl rfl rfl rfl rfl (fun z41 hz41 => ?_)
            have tz41 := tf_66_9 Is40
            refine h_iconst (pc' := 44) (x := (Int32.ofInt 1)) rfl rfl rfl ?_
            refine h_iadd (pc' := 45) rfl rfl hz41 ci_1 rfl (by omega) (by omega) (fun z42 hz42 => ?_)
            refine h_put (pc' := 48) rfl rfl rfl rfl rfl rfl hz42 rfl (h_fgt (E := fun s => s 63 2 = s30 63 2 ∧ s 64 3 = s30 64 3 ∧ s 64 5 = s30 64 5) _ (if_66_9 Is40 (by omega)) (Fs40.up rfl) ⟨es40_0, es40_1, es40_2⟩ (fun s43 Is43 Fs43 ⟨es43_0, es43_1, es43_2⟩ => ?_))
            clear es40_0 es40_1 es40_2
            refine h_vret rfl rfl (h_Kn ?_)
            exact h_vret rfl rfl (kk _ Is43 Fs43 (by omega) (by omega))
  · refine h_iconst (pc' := 13) (x := (Int32.ofInt 1)) rfl rfl rfl ?_
    refine h_goto (pc' := 17) rfl rfl ?_
    refine h_call (sp := false) (pc' := 20) (M := [(0, .ref 63), (1, .int (Int32.ofInt 1))]) rfl rfl rfl rfl rfl rfl rfl rfl ?_
    refine v_takeName _ hI (Int32.ofInt 1) _ ci_1 (by omega) (fun s45 Is45 Gs45 ps45_0 ps45_1 => h_Kn ?_)
    have Fs45 := (Gs45.l1).tr F00
    refine h_aload_n (pc' := 21) rfl rfl rfl ?_
    refine h_bipush (pc' := 23) (x := (Int32.ofInt 9)) rfl rfl cb_9 ?_
    refine h_call (sp := false) (pc' := 26) (M := [(0, .ref 63), (1, .int (Int32.ofInt 9))]) rfl rfl rfl rfl rfl rfl rfl rfl ?_
    refine v_takeNumber _ Is45 (Int32.ofInt 9) _ ci_9 (by omega) (fun r46 br46 hr46 s47 Is47 Gs47 ps47_0 ps47_1 ps47_2 => h_Kv ?_)
    have Fs47 := (Gs47.l1).tr Fs45
    refine h_istore_n (pc' := 27) (M := [(1, .int r46), (0, .ref 63)]) rfl rfl rfl rfl ?_
    refine h_aload_n (pc' := 28) rfl rfl rfl ?_
    refine h_call (sp := false) (pc' := 31) (M := [(0, .ref 63)]) rfl rfl rfl rfl rfl rfl rfl rfl ?_
    refine h_aload_n (pc' := 1) rfl rfl rfl ?_
    refine h_getI (pc' := 4) (v := s47 63 2) rfl rfl rfl rfl rfl rfl (fun z48 hz48 => ?_)
    have tz48 := tf_63_2 Is47
    refine h_zne (tg := 22) (pc' := 7) rfl rfl rfl hz48 (fun c49 => ?_) (fun c49 => ?_)
    · refine h_iconst (pc' := 23) (x := (Int32.ofInt 0)) rfl rfl rfl ?_
      refine h_zret rfl rfl ci_0 (by omega) (h_Kv ?_)
      refine h_zeq (tg := 42) (pc' := 34) rfl rfl rfl ci_0 (fun c50 => ?_) (fun c50 => absurd c50 (by omega))
      refine h_bipush (pc' := 44) (x := (Int32.ofInt (-4))) rfl rfl cb_m4 ?_
      refine h_istore_n (pc' := 45) (M := [(2, .int (Int32.ofInt (-4))), (1, .int r46), (0, .ref 63)]) rfl rfl rfl rfl ?_
      refine h_aload_n (pc' := 46) rfl rfl rfl ?_
      refine h_getI (pc' := 49) (v := s47 63 2) rfl rfl rfl rfl rfl rfl (fun z51 hz51 => ?_)
      have tz51 := tf_63_2 Is47
      refine h_zne (tg := 61) (pc' := 52) rfl rfl rfl hz51 (fun c52 => ?_) (fun c52 => absurd c52 (by omega))
      exact h_vret rfl rfl (kk _ Is47 Fs47 (by omega) (by omega))
    · refine h_aload_n (pc' := 8) rfl rfl rfl ?_
      refine h_getR (pc' := 11) rfl rfl rfl rfl rfl ?_
      refine h_getI (pc' := 14) (v := s47 64 3) rfl rfl rfl rfl rfl rfl (fun z53 hz53 => ?_)
      have tz53 := tf_64_3 Is47
      refine h_iconst (pc' := 15) (x := (Int32.ofInt 2)) rfl rfl rfl ?_
      refine h_cne (tg := 22) (pc' := 18) rfl rfl rfl hz53 ci_2 (fun c54 => ?_) (fun c54 => ?_)
      · refine h_iconst (pc' := 23) (x := (Int32.ofInt 0)) rfl rfl rfl ?_
        refine h_zret rfl rfl ci_0 (by omega) (h_Kv ?_)
        refine h_zeq (tg := 42) (pc' := 34) rfl rfl rfl ci_0 (fun c55 => ?_) (fun c55 => absurd c55 (by omega))
        refine h_bipush (pc' := 44) (x := (Int32.ofInt (-4))) rfl rfl cb_m4 ?_
        refine h_istore_n (pc' := 45) (M := [(2, .int (Int32.ofInt (-4))), (1, .int r46), (0, .ref 63)]) rfl rfl rfl rfl ?_
        refine h_aload_n (pc' := 46) rfl rfl rfl ?_
        refine h_getI (pc' := 49) (v := s47 63 2) rfl rfl rfl rfl rfl rfl (fun z56 hz56 => ?_)
        have tz56 := tf_63_2 Is47
        refine h_zne (tg := 61) (pc' := 52) rfl rfl rfl hz56 (fun c57 => absurd c57 (by omega)) (fun c57 => ?_)
        refine h_aload_n (pc' := 53) rfl rfl rfl ?_
        refine h_getR (pc' := 56) rfl rfl rfl rfl rfl ?_
        refine h_iload_n (pc' := 57) rfl rfl rfl ?_
        refine h_iload_n (pc' := 58) rfl rfl rfl ?_
        refine h_call (sp := false) (pc' := 61) (M := [(0, .ref 66), (1, .int r46), (2, .int (Int32.ofInt (-4)))]) rfl rfl rfl rfl rfl rfl rfl rfl ?_
        refine h_aload_n (pc' := 1) rfl rfl rfl ?_
        refine h_getI (pc' := 4) (v := s47 66 9) rfl rfl rfl rfl rfl rfl (fun z58 hz58 => ?_)
        have tz58 := tf_66_9 Is47
        refine h_iconst (pc' := 5) (x := (Int32.ofInt 3)) rfl rfl rfl ?_
        refine h_cge (tg := 48) (pc' := 8) rfl rfl rfl hz58 ci_3 (fun c59 => ?_) (fun c59 => ?_)
        · refine h_vret rfl rfl (h_Kn ?_)
          exact h_vret rfl rfl (kk _ Is47 Fs47 (by omega) (by omega))
        · refine h_aload_n (pc' := 9) rfl rfl rfl ?_
          refine h_getR (pc' := 12) rfl rfl rfl rfl rfl ?_
          refine h_aload_n (pc' := 13) rfl rfl rfl ?_
          refine h_getI (pc' := 16) (v := s47 66 9) rfl rfl rfl rfl rfl rfl (fun z60 hz60 => ?_)
          have tz60 := tf_66_9 Is47
          refine h_iload_n (pc' := 17) rfl rfl rfl ?_
          refine h_iast (pc' := 18) rfl rfl rfl rfl hz60 (by omega) (by omega) hr46 (h_fgt (E := fun s => s 63 2 = s47 63 2 ∧ s 64 3 = s47 64 3 ∧ s 64 5 = s47 64 5) _ (in_75 Is47 (by omega)) (Fs47.up rfl) ⟨rfl, rfl, rfl⟩ (fun s61 Is61 Fs61 ⟨es61_0, es61_1, es61_2⟩ => ?_))
          refine h_aload_n (pc' := 19) rfl rfl rfl ?_
          refine h_getR (pc' := 22) rfl rfl rfl rfl rfl ?_
          refine h_aload_n (pc' := 23) rfl rfl rfl ?_
          refine h_getI (pc' := 26) (v := s61 66 9) rfl rfl rfl rfl rfl rfl (fun z62 hz62 => ?_)
          have tz62 := tf_66_9 Is61
          refine h_iload_n (pc' := 27) rfl rfl rfl ?_
          refine h_iast (pc' := 28) rfl rfl rfl rfl hz62 (by omega) (by omega) ci_m4 (h_fgt (E := fun s => s 63 2 = s47 63 2 ∧ s 64 3 = s47 64 3 ∧ s 64 5 = s47 64 5) _ (in_76 Is61 (by omega)) (Fs61.up rfl) ⟨es61_0, es61_1, es61_2⟩ (fun s63 Is63 Fs63 ⟨es63_0, es63_1, es63_2⟩ => ?_))
          clear es61_0 es61_1 es61_2
          refine h_aload_n (pc' := 29) rfl rfl rfl ?_
          refine h_getR (pc' := 32) rfl rfl rfl rfl rfl ?_
          refine h_aload_n (pc' := 33) rfl rfl rfl ?_
          refine h_getI (pc' := 36) (v := s63 66 9) rfl rfl rfl rfl rfl rfl (fun z64 hz64 => ?_)
          have tz64 := tf_66_9 Is63
          refine h_iconst (pc' := 37) (x := (Int32.ofInt 0)) rfl rfl rfl ?_
          refine h_iast (pc' := 38) rfl rfl rfl rfl hz64 (by omega) (by omega) ci_0 (h_fgt (E := fun s => s 63 2 = s47 63 2 ∧ s 64 3 = s47 64 3 ∧ s 64 5 = s47 64 5) _ (in_77 Is63 (by omega)) (Fs63.up rfl) ⟨es63_0, es63_1, es63_2⟩ (fun s65 Is65 Fs65 ⟨es65_0, es65_1, es65_2⟩ => ?_))
          clear es63_0 es63_1 es63_2
          refine h_aload_n (pc' := 39) rfl rfl rfl ?_
          refine h_dup (pc' := 40) rfl rfl rfl ?_
          refine h_getI (pc' := 43) (v := s65 66 9) rfl rfl rfl rfl rfl rfl (fun z66 hz66 => ?_)
          have tz66 := tf_66_9 Is65
          refine h_iconst (pc' := 44) (x := (Int32.ofInt 1)) rfl rfl rfl ?_
          refine h_iadd (pc' := 45) rfl rfl hz66 ci_1 rfl (by omega) (by omega) (fun z67 hz67 => ?_)
          refine h_put (pc' := 48) rfl rfl rfl rfl rfl rfl hz67 rfl (h_fgt (E := fun s => s 63 2 = s47 63 2 ∧ s 64 3 = s47 64 3 ∧ s 64 5 = s47 64 5) _ (if_66_9 Is65 (by omega)) (Fs65.up rfl) ⟨es65_0, es65_1, es65_2⟩ (fun s68 Is68 Fs68 ⟨es68_0, es68_1, es68_2⟩ => ?_))
          clear es65_0 es65_1 es65_2
          refine h_vret rfl rfl (h_Kn ?_)
          exact h_vret rfl rfl (kk _ Is68 Fs68 (by omega) (by omega))
      · refine h_iconst (pc' := 19) (x := (Int32.ofInt 1)) rfl rfl rfl ?_
        refine h_goto (pc' := 23) rfl rfl ?_
        refine h_zret rfl rfl ci_1 (by omega) (h_Kv ?_)
        refine h_zeq (tg := 42) (pc' := 34) rfl rfl rfl ci_1 (fun c69 => absurd c69 (by omega)) (fun c69 => ?_)
        refine h_aload_n (pc' := 35) rfl rfl rfl ?_
        refine h_iconst (pc' := 36) (x := (Int32.ofInt 5)) rfl rfl rfl ?_
        refine h_call (sp := false) (pc' := 39) (M := [(0, .ref 63), (1, .int (Int32.ofInt 5))]) rfl rfl rfl rfl rfl rfl rfl rfl ?_
        refine v_takeNumber _ Is47 (Int32.ofInt 5) _ ci_5 (by omega) (fun r70 br70 hr70 s71 Is71 Gs71 ps71_0 ps71_1 ps71_2 => h_Kv ?_)
        have Fs71 := (Gs71.l1).tr Fs47
        refine h_goto (pc' := 44) rfl rfl ?_
        refine h_istore_n (pc' := 45) (M := [(2, .int r70), (1, .int r46), (0, .ref 63)]) rfl rfl rfl rfl ?_
        refine h_aload_n (pc' := 46) rfl rfl rfl ?_
        refine h_getI (pc' := 49) (v := s71 63 2) rfl rfl rfl rfl rfl rfl (fun z72 hz72 => ?_)
        have tz72 := tf_63_2 Is71
        refine h_zne (tg := 61) (pc' := 52) rfl rfl rfl hz72 (fun c73 => ?_) (fun c73 => ?_)
        · exact h_vret rfl rfl (kk _ Is71 Fs71 (by omega) (by omega))
        · refine h_aload_n (pc' := 53) rfl rfl rfl ?_
          refine h_getR (pc' := 56) rfl rfl rfl rfl rfl ?_
          refine h_iload_n (pc' := 57) rfl rfl rfl ?_
          refine h_iload_n (pc' := 58) rfl rfl rfl ?_
          refine h_call (sp := false) (pc' := 61) (M := [(0, .ref 66), (1, .int r46), (2, .int r70)]) rfl rfl rfl rfl rfl rfl rfl rfl ?_
          refine h_aload_n (pc' := 1) rfl rfl rfl ?_
          refine h_getI (pc' := 4) (v := s71 66 9) rfl rfl rfl rfl rfl rfl (fun z74 hz74 => ?_)
          have tz74 := tf_66_9 Is71
          refine h_iconst (pc' := 5) (x := (Int32.ofInt 3)) rfl rfl rfl ?_
          refine h_cge (tg := 48) (pc' := 8) rfl rfl rfl hz74 ci_3 (fun c75 => ?_) (fun c75 => ?_)
          · refine h_vret rfl rfl (h_Kn ?_)
            exact h_vret rfl rfl (kk _ Is71 Fs71 (by omega) (by omega))
          · refine h_aload_n (pc' := 9) rfl rfl rfl ?_
            refine h_getR (pc' := 12) rfl rfl rfl rfl rfl ?_
            refine h_aload_n (pc' := 13) rfl rfl rfl ?_
            refine h_getI (pc' := 16) (v := s71 66 9) rfl rfl rfl rfl rfl rfl (fun z76 hz76 => ?_)
            have tz76 := tf_66_9 Is71
            refine h_iload_n (pc' := 17) rfl rfl rfl ?_
            refine h_iast (pc' := 18) rfl rfl rfl rfl hz76 (by omega) (by omega) hr46 (h_fgt (E := fun s => s 63 2 = s71 63 2 ∧ s 64 3 = s71 64 3 ∧ s 64 5 = s71 64 5) _ (in_75 Is71 (by omega)) (Fs71.up rfl) ⟨rfl, rfl, rfl⟩ (fun s77 Is77 Fs77 ⟨es77_0, es77_1, es77_2⟩ => ?_))
            refine h_aload_n (pc' := 19) rfl rfl rfl ?_
            refine h_getR (pc' := 22) rfl rfl rfl rfl rfl ?_
            refine h_aload_n (pc' := 23) rfl rfl rfl ?_
            refine h_getI (pc' := 26) (v := s77 66 9) rfl rfl rfl rfl rfl rfl (fun z78 hz78 => ?_)
            have tz78 := tf_66_9 Is77
            refine h_iload_n (pc' := 27) rfl rfl rfl ?_
            refine h_iast (pc' := 28) rfl rfl rfl rfl hz78 (by omega) (by omega) hr70 (h_fgt (E := fun s => s 63 2 = s71 63 2 ∧ s 64 3 = s71 64 3 ∧ s 64 5 = s71 64 5) _ (in_76 Is77 (by omega)) (Fs77.up rfl) ⟨es77_0, es77_1, es77_2⟩ (fun s79 Is79 Fs79 ⟨es79_0, es79_1, es79_2⟩ => ?_))
            clear es77_0 es77_1 es77_2
            refine h_aload_n (pc' := 29) rfl rfl rfl ?_
            refine h_getR (pc' := 32) rfl rfl rfl rfl rfl ?_
            refine h_aload_n (pc' := 33) rfl rfl rfl ?_
            refine h_getI (pc' := 36) (v := s79 66 9) rfl rfl rfl rfl rfl rfl (fun z80 hz80 => ?_)
            have tz80 := tf_66_9 Is79
            refine h_iconst (pc' := 37) (x := (Int32.ofInt 0)) rfl rfl rfl ?_
            refine h_iast (pc' := 38) rfl rfl rfl rfl hz80 (by omega) (by omega) ci_0 (h_fgt (E := fun s => s 63 2 = s71 63 2 ∧ s 64 3 = s71 64 3 ∧ s 64 5 = s71 64 5) _ (in_77 Is79 (by omega)) (Fs79.up rfl) ⟨es79_0, es79_1, es79_2⟩ (fun s81 Is81 Fs81 ⟨es81_0, es81_1, es81_2⟩ => ?_))
            clear es79_0 es79_1 es79_2
            refine h_aload_n (pc' := 39) rfl rfl rfl ?_
            refine h_dup (pc' := 40) rfl rfl rfl ?_
            refine h_getI (pc' := 43) (v := s81 66 9) rfl rfl rfl rfl rfl rfl (fun z82 hz82 => ?_)
            have tz82 := tf_66_9 Is81
            refine h_iconst (pc' := 44) (x := (Int32.ofInt 1)) rfl rfl rfl ?_
            refine h_iadd (pc' := 45) rfl rfl hz82 ci_1 rfl (by omega) (by omega) (fun z83 hz83 => ?_)
            refine h_put (pc' := 48) rfl rfl rfl rfl rfl rfl hz83 rfl (h_fgt (E := fun s => s 63 2 = s71 63 2 ∧ s 64 3 = s71 64 3 ∧ s 64 5 = s71 64 5) _ (if_66_9 Is81 (by omega)) (Fs81.up rfl) ⟨es81_0, es81_1, es81_2⟩ (fun s84 Is84 Fs84 ⟨es84_0, es84_1, es84_2⟩ => ?_))
            clear es81_0 es81_1 es81_2
            refine h_vret rfl rfl (h_Kn ?_)
            exact h_vret rfl rfl (kk _ Is84 Fs84 (by omega) (by omega))
theorem v_readAct {ns : Nat} (σ : h_S) (hI : h_I σ) (pr0 : (¬ σ 63 2 = 0 ∨ ¬ σ 64 3 = 2 ∨ (0 ≤ σ 64 5 ∧ σ 64 5 ≤ 99))) (pr1 : σ 63 2 = 0) (pr2 : σ 64 3 = 2) {Q : Option Value → h_S → Prop} (kk : ∀ (τ : h_S), h_I τ → h_F k_nt τ σ → ((¬ τ 63 2 = 0 ∨ ¬ τ 64 3 = 2 ∨ (0 ≤ τ 64 5 ∧ τ 64 5 ≤ 99))) → (¬ σ 63 2 = 0 → ¬ τ 63 2 = 0) → Q none τ) : h_T g_P (g_Y ns) 63 0 [(0, .ref 63)] [] σ Q := by
  have F00 : h_F k_nt σ σ := h_F.rf
  refine h_aload_n (pc' := 1) rfl rfl rfl ?_
  refine h_getR (pc' := 4) rfl rfl rfl rfl rfl ?_
  refine h_getI (pc' := 7) (v := σ 64 5) rfl rfl rfl rfl rfl rfl (fun z1 hz1 => ?_)
  have tz1 := tf_64_5 hI
  refine h_istore_n (pc' := 8) (M := [(1, .int z1), (0, .ref 63)]) rfl rfl rfl rfl ?_
  refine h_aload_n (pc' := 9) rfl rfl rfl ?_
  refine h_getR (pc' := 12) rfl rfl rfl rfl rfl ?_
  refine h_getI (pc' := 15) (v := σ 66 10) rfl rfl rfl rfl rfl rfl (fun z2 hz2 => ?_)
  have tz2 := tf_66_10 hI
  refine h_bipush (pc' := 17) (x := (Int32.ofInt 8)) rfl rfl cb_8 ?_
  refine h_clt (tg := 35) (pc' := 20) rfl rfl rfl hz2 ci_8 (fun c3 => ?_) (fun c3 => ?_)
  · refine h_iload_n (pc' := 36) rfl rfl rfl ?_
    refine h_bipush (pc' := 38) (x := (Int32.ofInt 10)) rfl rfl cb_10 ?_
    refine h_idiv (pc' := 39) rfl rfl hz1 ci_10 (by omega) (by omega) (fun z4 hz4 => ?_)
    refine h_bipush (pc' := 41) (x := (Int32.ofInt 6)) rfl rfl cb_6 ?_
    refine h_cge (tg := 52) (pc' := 44) rfl rfl rfl hz4 ci_6 (fun c5 => ?_) (fun c5 => ?_)
    · refine h_aload_n (pc' := 53) rfl rfl rfl ?_
      refine h_iconst (pc' := 54) (x := (Int32.ofInt 3)) rfl rfl rfl ?_
      refine h_aload_n (pc' := 55) rfl rfl rfl ?_
      refine h_getR (pc' := 58) rfl rfl rfl rfl rfl ?_
      refine h_getI (pc' := 61) (v := σ 64 4) rfl rfl rfl rfl rfl rfl (fun z6 hz6 => ?_)
      have tz6 := tf_64_4 hI
      refine h_call (sp := false) (pc' := 64) (M := [(0, .ref 63), (1, .int (Int32.ofInt 3)), (2, .int z6)]) rfl rfl rfl rfl rfl rfl rfl rfl ?_
      refine h_aload_n (pc' := 1) rfl rfl rfl ?_
      refine h_getI (pc' := 4) (v := σ 63 2) rfl rfl rfl rfl rfl rfl (fun z7 hz7 => ?_)
      have tz7 := tf_63_2 hI
      refine h_zne (tg := 17) (pc' := 7) rfl rfl rfl hz7 (fun c8 => ?_) (fun c8 => ?_)
      · refine h_vret rfl rfl (h_Kn ?_)
        refine h_goto (pc' := 79) rfl rfl ?_
        exact h_vret rfl rfl (kk _ hI F00 (by omega) (by omega))
      · refine h_aload_n (pc' := 8) rfl rfl rfl ?_
        refine h_iload_n (pc' := 9) rfl rfl rfl ?_
        refine h_put (pc' := 12) rfl rfl rfl rfl rfl rfl ci_3 rfl (h_fgt (E := fun s => s 63 2 = 3 ∧ s 64 3 = σ 64 3 ∧ s 64 5 = σ 64 5) _ (if_63_2 hI (by omega)) (F00.up rfl) ⟨rfl, rfl, rfl⟩ (fun s9 Is9 Fs9 ⟨es9_0, es9_1, es9_2⟩ => ?_))
        refine h_aload_n (pc' := 13) rfl rfl rfl ?_
        refine h_iload_n (pc' := 14) rfl rfl rfl ?_
        refine h_put (pc' := 17) rfl rfl rfl rfl rfl rfl hz6 rfl (h_fgt (E := fun s => s 63 2 = 3 ∧ s 64 3 = σ 64 3 ∧ s 64 5 = σ 64 5) _ (if_63_3 Is9 (h_rgv hz6)) (Fs9.up rfl) ⟨es9_0, es9_1, es9_2⟩ (fun s10 Is10 Fs10 ⟨es10_0, es10_1, es10_2⟩ => ?_))
        clear es9_0 es9_1 es9_2
        refine h_vret rfl rfl (h_Kn ?_)
        refine h_goto (pc' := 79) rfl rfl ?_
        exact h_vret rfl rfl (kk _ Is10 Fs10 (by omega) (by omega))
    · refine h_iload_n (pc' := 45) rfl rfl rfl ?_
      refine h_bipush (pc' := 47) (x := (Int32.ofInt 10)) rfl rfl cb_10 ?_
      refine h_irem (pc' := 48) rfl rfl hz1 ci_10 (by omega) (by omega) (fun z11 hz11 => ?_)
      refine h_iconst (pc' := 49) (x := (Int32.ofInt 3)) rfl rfl rfl ?_
      refine h_clt (tg := 67) (pc' := 52) rfl rfl rfl hz11 ci_3 (fun c12 => ?_) (fun c12 => ?_)
      · refine h_aload_n (pc' := 68) rfl rfl rfl ?_
        refine h_getR (pc' := 71) rfl rfl rfl rfl rfl ?_
        refine h_iload_n (pc' := 72) rfl rfl rfl ?_
        refine h_call (sp := false) (pc' := 75) (M := [(0, .ref 66), (1, .int z1)]) rfl rfl rfl rfl rfl rfl rfl rfl ?_
        refine h_aload_n (pc' := 1) rfl rfl rfl ?_
        refine h_getI (pc' := 4) (v := σ 66 10) rfl rfl rfl rfl rfl rfl (fun z13 hz13 => ?_)
        have tz13 := tf_66_10 hI
        refine h_bipush (pc' := 6) (x := (Int32.ofInt 8)) rfl rfl cb_8 ?_
        refine h_cge (tg := 29) (pc' := 9) rfl rfl rfl hz13 ci_8 (fun c14 => absurd c14 (by omega)) (fun c14 => ?_)
        refine h_aload_n (pc' := 10) rfl rfl rfl ?_
        refine h_getR (pc' := 13) rfl rfl rfl rfl rfl ?_
        refine h_aload_n (pc' := 14) rfl rfl rfl ?_
        refine h_getI (pc' := 17) (v := σ 66 10) rfl rfl rfl rfl rfl rfl (fun z15 hz15 => ?_)
        have tz15 := tf_66_10 hI
        refine h_iload_n (pc' := 18) rfl rfl rfl ?_
        refine h_iast (pc' := 19) rfl rfl rfl rfl hz15 (by omega) (by omega) hz1 (h_fgt (E := fun s => s 63 2 = σ 63 2 ∧ s 64 3 = σ 64 3 ∧ s 64 5 = σ 64 5) _ (in_78 hI (by omega)) (F00.up rfl) ⟨rfl, rfl, rfl⟩ (fun s16 Is16 Fs16 ⟨es16_0, es16_1, es16_2⟩ => ?_))
        refine h_aload_n (pc' := 20) rfl rfl rfl ?_
        refine h_dup (pc' := 21) rfl rfl rfl ?_
        refine h_getI (pc' := 24) (v := s16 66 10) rfl rfl rfl rfl rfl rfl (fun z17 hz17 => ?_)
        have tz17 := tf_66_10 Is16
        refine h_iconst (pc' := 25) (x := (Int32.ofInt 1)) rfl rfl rfl ?_
        refine h_iadd (pc' := 26) rfl rfl hz17 ci_1 rfl (by omega) (by omega) (fun z18 hz18 => ?_)
        refine h_put (pc' := 29) rfl rfl rfl rfl rfl rfl hz18 rfl (h_fgt (E := fun s => s 63 2 = σ 63 2 ∧ s 64 3 = σ 64 3 ∧ s 64 5 = σ 64 5) _ (if_66_10 Is16 (by omega)) (Fs16.up rfl) ⟨es16_0, es16_1, es16_2⟩ (fun s19 Is19 Fs19 ⟨es19_0, es19_1, es19_2⟩ => ?_))
        clear es16_0 es16_1 es16_2
        refine h_vret rfl rfl (h_Kn ?_)
        refine h_aload_n (pc' := 76) rfl rfl rfl ?_
        refine h_call (sp := false) (pc' := 79) (M := [(0, .ref 63)]) rfl rfl rfl rfl rfl rfl rfl rfl ?_
        refine v_stepX _ Is19  (fun s21 Is21 Gs21 ps21_0 ps21_1 => h_Kn ?_)
        have Fs21 := (Gs21.l1).tr Fs19
        clear es19_0 es19_1 es19_2
        exact h_vret rfl rfl (kk _ Is21 Fs21 (by omega) (by omega))
      · refine h_aload_n (pc' := 53) rfl rfl rfl ?_
        refine h_iconst (pc' := 54) (x := (Int32.ofInt 3)) rfl rfl rfl ?_
        refine h_aload_n (pc' := 55) rfl rfl rfl ?_
        refine h_getR (pc' := 58) rfl rfl rfl rfl rfl ?_
        refine h_getI (pc' := 61) (v := σ 64 4) rfl rfl rfl rfl rfl rfl (fun z22 hz22 => ?_)
        have tz22 := tf_64_4 hI
        refine h_call (sp := false) (pc' := 64) (M := [(0, .ref 63), (1, .int (Int32.ofInt 3)), (2, .int z22)]) rfl rfl rfl rfl rfl rfl rfl rfl ?_
        refine h_aload_n (pc' := 1) rfl rfl rfl ?_
        refine h_getI (pc' := 4) (v := σ 63 2) rfl rfl rfl rfl rfl rfl (fun z23 hz23 => ?_)
        have tz23 := tf_63_2 hI
        refine h_zne (tg := 17) (pc' := 7) rfl rfl rfl hz23 (fun c24 => ?_) (fun c24 => ?_)
        · refine h_vret rfl rfl (h_Kn ?_)
          refine h_goto (pc' := 79) rfl rfl ?_
          exact h_vret rfl rfl (kk _ hI F00 (by omega) (by omega))
        · refine h_aload_n (pc' := 8) rfl rfl rfl ?_
          refine h_iload_n (pc' := 9) rfl rfl rfl ?_
          refine h_put (pc' := 12) rfl rfl rfl rfl rfl rfl ci_3 rfl (h_fgt (E := fun s => s 63 2 = 3 ∧ s 64 3 = σ 64 3 ∧ s 64 5 = σ 64 5) _ (if_63_2 hI (by omega)) (F00.up rfl) ⟨rfl, rfl, rfl⟩ (fun s25 Is25 Fs25 ⟨es25_0, es25_1, es25_2⟩ => ?_))
          refine h_aload_n (pc' := 13) rfl rfl rfl ?_
          refine h_iload_n (pc' := 14) rfl rfl rfl ?_
          refine h_put (pc' := 17) rfl rfl rfl rfl rfl rfl hz22 rfl (h_fgt (E := fun s => s 63 2 = 3 ∧ s 64 3 = σ 64 3 ∧ s 64 5 = σ 64 5) _ (if_63_3 Is25 (h_rgv hz22)) (Fs25.up rfl) ⟨es25_0, es25_1, es25_2⟩ (fun s26 Is26 Fs26 ⟨es26_0, es26_1, es26_2⟩ => ?_))
          clear es25_0 es25_1 es25_2
          refine h_vret rfl rfl (h_Kn ?_)
          refine h_goto (pc' := 79) rfl rfl ?_
          exact h_vret rfl rfl (kk _ Is26 Fs26 (by omega) (by omega))
  · refine h_aload_n (pc' := 21) rfl rfl rfl ?_
    refine h_iconst (pc' := 22) (x := (Int32.ofInt 5)) rfl rfl rfl ?_
    refine h_aload_n (pc' := 23) rfl rfl rfl ?_
    refine h_getR (pc' := 26) rfl rfl rfl rfl rfl ?_
    refine h_getI (pc' := 29) (v := σ 64 4) rfl rfl rfl rfl rfl rfl (fun z27 hz27 => ?_)
    have tz27 := tf_64_4 hI
    refine h_call (sp := false) (pc' := 32) (M := [(0, .ref 63), (1, .int (Int32.ofInt 5)), (2, .int z27)]) rfl rfl rfl rfl rfl rfl rfl rfl ?_
    refine h_aload_n (pc' := 1) rfl rfl rfl ?_
    refine h_getI (pc' := 4) (v := σ 63 2) rfl rfl rfl rfl rfl rfl (fun z28 hz28 => ?_)
    have tz28 := tf_63_2 hI
    refine h_zne (tg := 17) (pc' := 7) rfl rfl rfl hz28 (fun c29 => ?_) (fun c29 => ?_)
    · refine h_vret rfl rfl (h_Kn ?_)
      refine h_goto (pc' := 79) rfl rfl ?_
      exact h_vret rfl rfl (kk _ hI F00 (by omega) (by omega))
    · refine h_aload_n (pc' := 8) rfl rfl rfl ?_
      refine h_iload_n (pc' := 9) rfl rfl rfl ?_
      refine h_put (pc' := 12) rfl rfl rfl rfl rfl rfl ci_5 rfl (h_fgt (E := fun s => s 63 2 = 5 ∧ s 64 3 = σ 64 3 ∧ s 64 5 = σ 64 5) _ (if_63_2 hI (by omega)) (F00.up rfl) ⟨rfl, rfl, rfl⟩ (fun s30 Is30 Fs30 ⟨es30_0, es30_1, es30_2⟩ => ?_))
      refine h_aload_n (pc' := 13) rfl rfl rfl ?_
      refine h_iload_n (pc' := 14) rfl rfl rfl ?_
      refine h_put (pc' := 17) rfl rfl rfl rfl rfl rfl hz27 rfl (h_fgt (E := fun s => s 63 2 = 5 ∧ s 64 3 = σ 64 3 ∧ s 64 5 = σ 64 5) _ (if_63_3 Is30 (h_rgv hz27)) (Fs30.up rfl) ⟨es30_0, es30_1, es30_2⟩ (fun s31 Is31 Fs31 ⟨es31_0, es31_1, es31_2⟩ => ?_))
      clear es30_0 es30_1 es30_2
      refine h_vret rfl rfl (h_Kn ?_)
      refine h_goto (pc' := 79) rfl rfl ?_
      exact h_vret rfl rfl (kk _ Is31 Fs31 (by omega) (by omega))
theorem v_readPlanX_l (ns : Nat) (σ : h_S) (hI : h_I σ) (pr0 : (¬ σ 63 2 = 0 ∨ ¬ σ 64 3 = 2 ∨ (0 ≤ σ 64 5 ∧ σ 64 5 ≤ 99))) {Q : Option Value → h_S → Prop} (kk : ∀ (τ : h_S), h_I τ → h_F k_nt τ σ → ((¬ τ 63 2 = 0 ∨ ¬ τ 64 3 = 2 ∨ (0 ≤ τ 64 5 ∧ τ 64 5 ≤ 99))) → (¬ σ 63 2 = 0 → ¬ τ 63 2 = 0) → Q none τ) : ∀ n : Nat, (∀ (s0 : h_S), h_I s0 → h_F k_nt s0 σ → ∀ (y1 : Int32) (b1 : Int), y1.toInt = b1 → (0 ≤ b1 ∧ b1 ≤ 9) → ((¬ s0 63 2 = 0 ∨ ¬ s0 64 3 = 2 ∨ (0 ≤ s0 64 5 ∧ s0 64 5 ≤ 99))) → (¬ σ 63 2 = 0 → ¬ s0 63 2 = 0) → (9 + 1 - b1) * 1000000 + 1000000000 ≤ (n : Int) → h_T g_P (g_Y ns) 62 30 [(0, .ref 63), (1, .int y1)] [] s0 Q) := by
  intro n
  induction n with
  | zero => exact by intro s0 I0 F0_ y1 b1 hy1 ry1 ex0 ex1 hm; exfalso; omega
  | succ n ih =>
    intro s0 I0 F0_ y1 b1 hy1 ry1 ex0 ex1 hm
    refine h_iload_n (pc' := 31) rfl rfl rfl ?_
    refine h_bipush (pc' := 33) (x := (Int32.ofInt 8)) rfl rfl cb_8 ?_
    refine h_cgt (tg := 53) (pc' := 36) rfl rfl rfl hy1 ci_8 (fun c1 => ?_) (fun c1 => ?_)
    · exact h_vret rfl rfl (kk _ I0 F0_ (by omega) (by omega))
    · refine h_aload_n (pc' := 37) rfl rfl rfl ?_
      refine h_call (sp := false) (pc' := 40) (M := [(0, .ref 63)]) rfl rfl rfl rfl rfl rfl rfl rfl ?_
      refine h_aload_n (pc' := 1) rfl rfl rfl ?_
      refine h_getI (pc' := 4) (v := s0 63 2) rfl rfl rfl rfl rfl rfl (fun z2 hz2 => ?_)
      have tz2 := tf_63_2 I0
      refine h_zne (tg := 22) (pc' := 7) rfl rfl rfl hz2 (fun c3 => ?_) (fun c3 => ?_)
      · refine h_iconst (pc' := 23) (x := (Int32.ofInt 0)) rfl rfl rfl ?_
        refine h_zret rfl rfl ci_0 (by omega) (h_Kv ?_)
        refine h_zeq (tg := 53) (pc' := 43) rfl rfl rfl ci_0 (fun c4 => ?_) (fun c4 => absurd c4 (by omega))
        exact h_vret rfl rfl (kk _ I0 F0_ (by omega) (by omega))
      · refine h_aload_n (pc' := 8) rfl rfl rfl ?_
        refine h_getR (pc' := 11) rfl rfl rfl rfl rfl ?_
        refine h_getI (pc' := 14) (v := s0 64 3) rfl rfl rfl rfl rfl rfl (fun z5 hz5 => ?_)
        have tz5 := tf_64_3 I0
        refine h_iconst (pc' := 15) (x := (Int32.ofInt 2)) rfl rfl rfl ?_
        refine h_cne (tg := 22) (pc' := 18) rfl rfl rfl hz5 ci_2 (fun c6 => ?_) (fun c6 => ?_)
        · refine h_iconst (pc' := 23) (x := (Int32.ofInt 0)) rfl rfl rfl ?_
          refine h_zret rfl rfl ci_0 (by omega) (h_Kv ?_)
          refine h_zeq (tg := 53) (pc' := 43) rfl rfl rfl ci_0 (fun c7 => ?_) (fun c7 => absurd c7 (by omega))
          exact h_vret rfl rfl (kk _ I0 F0_ (by omega) (by omega))
        · refine h_iconst (pc' := 19) (x := (Int32.ofInt 1)) rfl rfl rfl ?_
          refine h_goto (pc' := 23) rfl rfl ?_
          refine h_zret rfl rfl ci_1 (by omega) (h_Kv ?_)
          refine h_zeq (tg := 53) (pc' := 43) rfl rfl rfl ci_1 (fun c8 => absurd c8 (by omega)) (fun c8 => ?_)
          refine h_aload_n (pc' := 44) rfl rfl rfl ?_
          refine h_call (sp := false) (pc' := 47) (M := [(0, .ref 63)]) rfl rfl rfl rfl rfl rfl rfl rfl ?_
          refine v_readAct _ I0  (by omega) (by omega) (by omega) (fun s10 Is10 Gs10 ps10_0 ps10_1 => h_Kn ?_)
          have Fs10 := (Gs10).tr F0_
          refine h_iinc (pc' := 50) (M := fun z11 => [(1, .int z11), (0, .ref 63)]) rfl rfl rfl rfl hy1 ci_1 rfl (by omega) (by omega) (fun _ => rfl) (fun z11 hz11 => ?_)
          refine h_goto (pc' := 30) rfl rfl ?_
          exact h_wk [(0, .ref 63), (1, .int z11)] ⟨rfl, rfl, trivial⟩ (ih _ Is10 Fs10 z11 _ hz11 (by omega) (by omega) (by omega) (by omega))
theorem v_readPlanX {ns : Nat} (σ : h_S) (hI : h_I σ) (pr0 : (¬ σ 63 2 = 0 ∨ ¬ σ 64 3 = 2 ∨ (0 ≤ σ 64 5 ∧ σ 64 5 ≤ 99))) {Q : Option Value → h_S → Prop} (kk : ∀ (τ : h_S), h_I τ → h_F k_nt τ σ → ((¬ τ 63 2 = 0 ∨ ¬ τ 64 3 = 2 ∨ (0 ≤ τ 64 5 ∧ τ 64 5 ≤ 99))) → (¬ σ 63 2 = 0 → ¬ τ 63 2 = 0) → Q none τ) : h_T g_P (g_Y ns) 62 0 [(0, .ref 63)] [] σ Q := by
  have F00 : h_F k_nt σ σ := h_F.rf
  refine h_aload_n (pc' := 1) rfl rfl rfl ?_
  refine h_getI (pc' := 4) (v := σ 63 5) rfl rfl rfl rfl rfl rfl (fun z1 hz1 => ?_)
  have tz1 := tf_63_5 hI
  refine h_zeq (tg := 19) (pc' := 7) rfl rfl rfl hz1 (fun c2 => ?_) (fun c2 => ?_)
  · refine h_aload_n (pc' := 20) rfl rfl rfl ?_
    refine h_iconst (pc' := 21) (x := (Int32.ofInt 1)) rfl rfl rfl ?_
    refine h_put (pc' := 24) rfl rfl rfl rfl rfl rfl ci_1 (h_fb ci_1 (by omega)) (h_fgt (E := fun s => s 63 2 = σ 63 2 ∧ s 64 3 = σ 64 3 ∧ s 64 5 = σ 64 5) _ (if_63_5 hI (by omega)) (F00.up rfl) ⟨rfl, rfl, rfl⟩ (fun s3 Is3 Fs3 ⟨es3_0, es3_1, es3_2⟩ => ?_))
    refine h_aload_n (pc' := 25) rfl rfl rfl ?_
    refine h_call (sp := false) (pc' := 28) (M := [(0, .ref 63)]) rfl rfl rfl rfl rfl rfl rfl rfl ?_
    refine v_stepX _ Is3  (fun s5 Is5 Gs5 ps5_0 ps5_1 => h_Kn ?_)
    have Fs5 := (Gs5.l1).tr Fs3
    clear es3_0 es3_1 es3_2
    refine h_iconst (pc' := 29) (x := (Int32.ofInt 0)) rfl rfl rfl ?_
    refine h_istore_n (pc' := 30) (M := [(1, .int (Int32.ofInt 0)), (0, .ref 63)]) rfl rfl rfl rfl ?_
    exact h_wk [(0, .ref 63), (1, .int (Int32.ofInt 0))] ⟨rfl, rfl, trivial⟩ ((v_readPlanX_l ns σ hI pr0 kk 1000000000000) _ Is5 Fs5 (Int32.ofInt 0) _ ci_0 (by omega) (by omega) (by omega) (by omega))
  · refine h_aload_n (pc' := 8) rfl rfl rfl ?_
    refine h_iconst (pc' := 9) (x := (Int32.ofInt 4)) rfl rfl rfl ?_
    refine h_aload_n (pc' := 10) rfl rfl rfl ?_
    refine h_getR (pc' := 13) rfl rfl rfl rfl rfl ?_
    refine h_getI (pc' := 16) (v := σ 64 4) rfl rfl rfl rfl rfl rfl (fun z6 hz6 => ?_)
    have tz6 := tf_64_4 hI
    refine h_call (sp := false) (pc' := 19) (M := [(0, .ref 63), (1, .int (Int32.ofInt 4)), (2, .int z6)]) rfl rfl rfl rfl rfl rfl rfl rfl ?_
    refine h_aload_n (pc' := 1) rfl rfl rfl ?_
    refine h_getI (pc' := 4) (v := σ 63 2) rfl rfl rfl rfl rfl rfl (fun z7 hz7 => ?_)
    have tz7 := tf_63_2 hI
    refine h_zne (tg := 17) (pc' := 7) rfl rfl rfl hz7 (fun c8 => ?_) (fun c8 => ?_)
    · refine h_vret rfl rfl (h_Kn ?_)
      refine h_aload_n (pc' := 20) rfl rfl rfl ?_
      refine h_iconst (pc' := 21) (x := (Int32.ofInt 1)) rfl rfl rfl ?_
      refine h_put (pc' := 24) rfl rfl rfl rfl rfl rfl ci_1 (h_fb ci_1 (by omega)) (h_fgt (E := fun s => s 63 2 = σ 63 2 ∧ s 64 3 = σ 64 3 ∧ s 64 5 = σ 64 5) _ (if_63_5 hI (by omega)) (F00.up rfl) ⟨rfl, rfl, rfl⟩ (fun s9 Is9 Fs9 ⟨es9_0, es9_1, es9_2⟩ => ?_))
      refine h_aload_n (pc' := 25) rfl rfl rfl ?_
      refine h_call (sp := false) (pc' := 28) (M := [(0, .ref 63)]) rfl rfl rfl rfl rfl rfl rfl rfl ?_
      refine v_stepX _ Is9  (fun s11 Is11 Gs11 ps11_0 ps11_1 => h_Kn ?_)
      have Fs11 := (Gs11.l1).tr Fs9
      clear es9_0 es9_1 es9_2
      refine h_iconst (pc' := 29) (x := (Int32.ofInt 0)) rfl rfl rfl ?_
      refine h_istore_n (pc' := 30) (M := [(1, .int (Int32.ofInt 0)), (0, .ref 63)]) rfl rfl rfl rfl ?_
      exact h_wk [(0, .ref 63), (1, .int (Int32.ofInt 0))] ⟨rfl, rfl, trivial⟩ ((v_readPlanX_l ns σ hI pr0 kk 1000000000000) _ Is11 Fs11 (Int32.ofInt 0) _ ci_0 (by omega) (by omega) (by omega) (by omega))
    · refine h_aload_n (pc' := 8) rfl rfl rfl ?_
      refine h_iload_n (pc' := 9) rfl rfl rfl ?_
      refine h_put (pc' := 12) rfl rfl rfl rfl rfl rfl ci_4 rfl (h_fgt (E := fun s => s 63 2 = 4 ∧ s 64 3 = σ 64 3 ∧ s 64 5 = σ 64 5) _ (if_63_2 hI (by omega)) (F00.up rfl) ⟨rfl, rfl, rfl⟩ (fun s12 Is12 Fs12 ⟨es12_0, es12_1, es12_2⟩ => ?_))
      refine h_aload_n (pc' := 13) rfl rfl rfl ?_
      refine h_iload_n (pc' := 14) rfl rfl rfl ?_
      refine h_put (pc' := 17) rfl rfl rfl rfl rfl rfl hz6 rfl (h_fgt (E := fun s => s 63 2 = 4 ∧ s 64 3 = σ 64 3 ∧ s 64 5 = σ 64 5) _ (if_63_3 Is12 (h_rgv hz6)) (Fs12.up rfl) ⟨es12_0, es12_1, es12_2⟩ (fun s13 Is13 Fs13 ⟨es13_0, es13_1, es13_2⟩ => ?_))
      clear es12_0 es12_1 es12_2
      refine h_vret rfl rfl (h_Kn ?_)
      refine h_aload_n (pc' := 20) rfl rfl rfl ?_
      refine h_iconst (pc' := 21) (x := (Int32.ofInt 1)) rfl rfl rfl ?_
      refine h_put (pc' := 24) rfl rfl rfl rfl rfl rfl ci_1 (h_fb ci_1 (by omega)) (h_fgt (E := fun s => s 63 2 = 4 ∧ s 64 3 = σ 64 3 ∧ s 64 5 = σ 64 5) _ (if_63_5 Is13 (by omega)) (Fs13.up rfl) ⟨es13_0, es13_1, es13_2⟩ (fun s14 Is14 Fs14 ⟨es14_0, es14_1, es14_2⟩ => ?_))
      clear es13_0 es13_1 es13_2
      refine h_aload_n (pc' := 25) rfl rfl rfl ?_
      refine h_call (sp := false) (pc' := 28) (M := [(0, .ref 63)]) rfl rfl rfl rfl rfl rfl rfl rfl ?_
      refine v_stepX _ Is14  (fun s16 Is16 Gs16 ps16_0 ps16_1 => h_Kn ?_)
      have Fs16 := (Gs16.l1).tr Fs14
      clear es14_0 es14_1 es14_2
      refine h_iconst (pc' := 29) (x := (Int32.ofInt 0)) rfl rfl rfl ?_
      refine h_istore_n (pc' := 30) (M := [(1, .int (Int32.ofInt 0)), (0, .ref 63)]) rfl rfl rfl rfl ?_
      exact h_wk [(0, .ref 63), (1, .int (Int32.ofInt 0))] ⟨rfl, rfl, trivial⟩ ((v_readPlanX_l ns σ hI pr0 kk 1000000000000) _ Is16 Fs16 (Int32.ofInt 0) _ ci_0 (by omega) (by omega) (by omega) (by omega))
theorem v_readLineX_l (ns : Nat) (σ : h_S) (hI : h_I σ) (pr0 : (¬ σ 63 2 = 0 ∨ ¬ σ 64 3 = 2 ∨ (0 ≤ σ 64 5 ∧ σ 64 5 ≤ 99))) {Q : Option Value → h_S → Prop} (kk : ∀ (τ : h_S), h_I τ → h_F k_nt τ σ → ((¬ τ 63 2 = 0 ∨ ¬ τ 64 3 = 2 ∨ (0 ≤ τ 64 5 ∧ τ 64 5 ≤ 99))) → (¬ σ 63 2 = 0 → ¬ τ 63 2 = 0) → Q none τ) : ∀ n : Nat, (∀ (s0 : h_S), h_I s0 → h_F k_nt s0 σ → ∀ (y1 : Int32) (b1 : Int), y1.toInt = b1 → ((-4) ≤ b1 ∧ b1 ≤ 7) → ((¬ s0 63 2 = 0 ∨ ¬ s0 64 3 = 2 ∨ (0 ≤ s0 64 5 ∧ s0 64 5 ≤ 99))) → (¬ σ 63 2 = 0 → ¬ s0 63 2 = 0) → 1 ≤ (n : Int) → h_T g_P (g_Y ns) 56 150 [(0, .ref 63), (1, .int y1)] [] s0 Q) := by
  intro n
  induction n with
  | zero => exact by intro s0 I0 F0_ y1 b1 hy1 ry1 ex0 ex1 hm; exfalso; omega
  | succ n ih =>
    intro s0 I0 F0_ y1 b1 hy1 ry1 ex0 ex1 hm
    refine h_aload_n (pc' := 151) rfl rfl rfl ?_
    refine h_getI (pc' := 154) (v := s0 63 2) rfl rfl rfl rfl rfl rfl (fun z1 hz1 => ?_)
    have tz1 := tf_63_2 I0
    refine h_zne (tg := 180) (pc' := 157) rfl rfl rfl hz1 (fun c2 => ?_) (fun c2 => ?_)
    · exact h_vret rfl rfl (kk _ I0 F0_ (by omega) (by omega))
    · refine h_aload_n (pc' := 158) rfl rfl rfl ?_
      refine h_getR (pc' := 161) rfl rfl rfl rfl rfl ?_
      refine h_getI (pc' := 164) (v := s0 64 3) rfl rfl rfl rfl rfl rfl (fun z3 hz3 => ?_)
      have tz3 := tf_64_3 I0
      refine h_iconst (pc' := 165) (x := (Int32.ofInt 3)) rfl rfl rfl ?_
      refine h_ceq (tg := 180) (pc' := 168) rfl rfl rfl hz3 ci_3 (fun c4 => ?_) (fun c4 => ?_)
      · exact h_vret rfl rfl (kk _ I0 F0_ (by omega) (by omega))
      · refine h_aload_n (pc' := 169) rfl rfl rfl ?_
        refine h_iconst (pc' := 170) (x := (Int32.ofInt 2)) rfl rfl rfl ?_
        refine h_aload_n (pc' := 171) rfl rfl rfl ?_
        refine h_getR (pc' := 174) rfl rfl rfl rfl rfl ?_
        refine h_getI (pc' := 177) (v := s0 64 4) rfl rfl rfl rfl rfl rfl (fun z5 hz5 => ?_)
        have tz5 := tf_64_4 I0
        refine h_call (sp := false) (pc' := 180) (M := [(0, .ref 63), (1, .int (Int32.ofInt 2)), (2, .int z5)]) rfl rfl rfl rfl rfl rfl rfl rfl ?_
        refine h_aload_n (pc' := 1) rfl rfl rfl ?_
        refine h_getI (pc' := 4) (v := s0 63 2) rfl rfl rfl rfl rfl rfl (fun z6 hz6 => ?_)
        have tz6 := tf_63_2 I0
        refine h_zne (tg := 17) (pc' := 7) rfl rfl rfl hz6 (fun c7 => absurd c7 (by omega)) (fun c7 => ?_)
        refine h_aload_n (pc' := 8) rfl rfl rfl ?_
        refine h_iload_n (pc' := 9) rfl rfl rfl ?_
        refine h_put (pc' := 12) rfl rfl rfl rfl rfl rfl ci_2 rfl (h_fgt (E := fun s => s 63 2 = 2 ∧ s 64 3 = s0 64 3 ∧ s 64 5 = s0 64 5) _ (if_63_2 I0 (by omega)) (F0_.up rfl) ⟨rfl, rfl, rfl⟩ (fun s8 Is8 Fs8 ⟨es8_0, es8_1, es8_2⟩ => ?_))
        refine h_aload_n (pc' := 13) rfl rfl rfl ?_
        refine h_iload_n (pc' := 14) rfl rfl rfl ?_
        refine h_put (pc' := 17) rfl rfl rfl rfl rfl rfl hz5 rfl (h_fgt (E := fun s => s 63 2 = 2 ∧ s 64 3 = s0 64 3 ∧ s 64 5 = s0 64 5) _ (if_63_3 Is8 (h_rgv hz5)) (Fs8.up rfl) ⟨es8_0, es8_1, es8_2⟩ (fun s9 Is9 Fs9 ⟨es9_0, es9_1, es9_2⟩ => ?_))
        clear es8_0 es8_1 es8_2
        refine h_vret rfl rfl (h_Kn ?_)
        exact h_vret rfl rfl (kk _ Is9 Fs9 (by omega) (by omega))
theorem v_readLineX {ns : Nat} (σ : h_S) (hI : h_I σ) (pr0 : (¬ σ 63 2 = 0 ∨ ¬ σ 64 3 = 2 ∨ (0 ≤ σ 64 5 ∧ σ 64 5 ≤ 99))) {Q : Option Value → h_S → Prop} (kk : ∀ (τ : h_S), h_I τ → h_F k_nt τ σ → ((¬ τ 63 2 = 0 ∨ ¬ τ 64 3 = 2 ∨ (0 ≤ τ 64 5 ∧ τ 64 5 ≤ 99))) → (¬ σ 63 2 = 0 → ¬ τ 63 2 = 0) → Q none τ) : h_T g_P (g_Y ns) 56 0 [(0, .ref 63)] [] σ Q := by
  have F00 : h_F k_nt σ σ := h_F.rf
  refine h_aload_n (pc' := 1) rfl rfl rfl ?_
  refine h_getR (pc' := 4) rfl rfl rfl rfl rfl ?_
  refine h_getI (pc' := 7) (v := σ 64 3) rfl rfl rfl rfl rfl rfl (fun z1 hz1 => ?_)
  have tz1 := tf_64_3 hI
  refine h_iconst (pc' := 8) (x := (Int32.ofInt 1)) rfl rfl rfl ?_
  refine h_cne (tg := 21) (pc' := 11) rfl rfl rfl hz1 ci_1 (fun c2 => ?_) (fun c2 => ?_)
  · refine h_bipush (pc' := 23) (x := (Int32.ofInt (-4))) rfl rfl cb_m4 ?_
    refine h_istore_n (pc' := 24) (M := [(1, .int (Int32.ofInt (-4))), (0, .ref 63)]) rfl rfl rfl rfl ?_
    refine h_iload_n (pc' := 25) rfl rfl rfl ?_
    refine h_tsw (dt := 145) (ts := [130, 145, 145, 145, 145, 145, 145, 145, 88, 102, 116, 123]) rfl rfl rfl rfl ci_m4 (fun c3 => absurd c3 (by omega)) ⟨fun c3 => ?_, fun c3 => absurd c3 (by omega), fun c3 => absurd c3 (by omega), fun c3 => absurd c3 (by omega), fun c3 => absurd c3 (by omega), fun c3 => absurd c3 (by omega), fun c3 => absurd c3 (by omega), fun c3 => absurd c3 (by omega), fun c3 => absurd c3 (by omega), fun c3 => absurd c3 (by omega), fun c3 => absurd c3 (by omega), fun c3 => absurd c3 (by omega), trivial⟩
    refine h_aload_n (pc' := 131) rfl rfl rfl ?_
    refine h_iconst (pc' := 132) (x := (Int32.ofInt 2)) rfl rfl rfl ?_
    refine h_aload_n (pc' := 133) rfl rfl rfl ?_
    refine h_getR (pc' := 136) rfl rfl rfl rfl rfl ?_
    refine h_getI (pc' := 139) (v := σ 64 4) rfl rfl rfl rfl rfl rfl (fun z4 hz4 => ?_)
    have tz4 := tf_64_4 hI
    refine h_call (sp := false) (pc' := 142) (M := [(0, .ref 63), (1, .int (Int32.ofInt 2)), (2, .int z4)]) rfl rfl rfl rfl rfl rfl rfl rfl ?_
    refine h_aload_n (pc' := 1) rfl rfl rfl ?_
    refine h_getI (pc' := 4) (v := σ 63 2) rfl rfl rfl rfl rfl rfl (fun z5 hz5 => ?_)
    have tz5 := tf_63_2 hI
    refine h_zne (tg := 17) (pc' := 7) rfl rfl rfl hz5 (fun c6 => ?_) (fun c6 => ?_)
    · refine h_vret rfl rfl (h_Kn ?_)
      refine h_goto (pc' := 150) rfl rfl ?_
      exact h_wk [(0, .ref 63), (1, .int (Int32.ofInt (-4)))] ⟨rfl, rfl, trivial⟩ ((v_readLineX_l ns σ hI pr0 kk 1000000000000) _ hI F00 (Int32.ofInt (-4)) _ ci_m4 (by omega) (by omega) (by omega) (by omega))
    · refine h_aload_n (pc' := 8) rfl rfl rfl ?_
      refine h_iload_n (pc' := 9) rfl rfl rfl ?_
      refine h_put (pc' := 12) rfl rfl rfl rfl rfl rfl ci_2 rfl (h_fgt (E := fun s => s 63 2 = 2 ∧ s 64 3 = σ 64 3 ∧ s 64 5 = σ 64 5) _ (if_63_2 hI (by omega)) (F00.up rfl) ⟨rfl, rfl, rfl⟩ (fun s7 Is7 Fs7 ⟨es7_0, es7_1, es7_2⟩ => ?_))
      refine h_aload_n (pc' := 13) rfl rfl rfl ?_
      refine h_iload_n (pc' := 14) rfl rfl rfl ?_
      refine h_put (pc' := 17) rfl rfl rfl rfl rfl rfl hz4 rfl (h_fgt (E := fun s => s 63 2 = 2 ∧ s 64 3 = σ 64 3 ∧ s 64 5 = σ 64 5) _ (if_63_3 Is7 (h_rgv hz4)) (Fs7.up rfl) ⟨es7_0, es7_1, es7_2⟩ (fun s8 Is8 Fs8 ⟨es8_0, es8_1, es8_2⟩ => ?_))
      clear es7_0 es7_1 es7_2
      refine h_vret rfl rfl (h_Kn ?_)
      refine h_goto (pc' := 150) rfl rfl ?_
      exact h_wk [(0, .ref 63), (1, .int (Int32.ofInt (-4)))] ⟨rfl, rfl, trivial⟩ ((v_readLineX_l ns σ hI pr0 kk 1000000000000) _ Is8 Fs8 (Int32.ofInt (-4)) _ ci_m4 (by omega) (by omega) (by omega) (by omega))
  · refine h_aload_n (pc' := 12) rfl rfl rfl ?_
    refine h_getR (pc' := 15) rfl rfl rfl rfl rfl ?_
    refine h_call (sp := false) (pc' := 18) (M := [(0, .ref 64)]) rfl rfl rfl rfl rfl rfl rfl rfl ?_
    refine v_whichName _ hI  (fun r9 br9 hr9 tr9 ps10_0 => h_Kv ?_)
    refine h_goto (pc' := 23) rfl rfl ?_
    refine h_istore_n (pc' := 24) (M := [(1, .int r9), (0, .ref 63)]) rfl rfl rfl rfl ?_
    refine h_iload_n (pc' := 25) rfl rfl rfl ?_
    refine h_tsw (dt := 145) (ts := [130, 145, 145, 145, 145, 145, 145, 145, 88, 102, 116, 123]) rfl rfl rfl rfl hr9 (fun c11 => absurd c11 (by omega)) ⟨fun c11 => ?_, fun c11 => ?_, fun c11 => ?_, fun c11 => ?_, fun c11 => ?_, fun c11 => ?_, fun c11 => ?_, fun c11 => ?_, fun c11 => ?_, fun c11 => ?_, fun c11 => ?_, fun c11 => ?_, trivial⟩
    · refine h_aload_n (pc' := 131) rfl rfl rfl ?_
      refine h_iconst (pc' := 132) (x := (Int32.ofInt 2)) rfl rfl rfl ?_
      refine h_aload_n (pc' := 133) rfl rfl rfl ?_
      refine h_getR (pc' := 136) rfl rfl rfl rfl rfl ?_
      refine h_getI (pc' := 139) (v := σ 64 4) rfl rfl rfl rfl rfl rfl (fun z12 hz12 => ?_)
      have tz12 := tf_64_4 hI
      refine h_call (sp := false) (pc' := 142) (M := [(0, .ref 63), (1, .int (Int32.ofInt 2)), (2, .int z12)]) rfl rfl rfl rfl rfl rfl rfl rfl ?_
      refine h_aload_n (pc' := 1) rfl rfl rfl ?_
      refine h_getI (pc' := 4) (v := σ 63 2) rfl rfl rfl rfl rfl rfl (fun z13 hz13 => ?_)
      have tz13 := tf_63_2 hI
      refine h_zne (tg := 17) (pc' := 7) rfl rfl rfl hz13 (fun c14 => ?_) (fun c14 => ?_)
      · refine h_vret rfl rfl (h_Kn ?_)
        refine h_goto (pc' := 150) rfl rfl ?_
        exact h_wk [(0, .ref 63), (1, .int r9)] ⟨rfl, rfl, trivial⟩ ((v_readLineX_l ns σ hI pr0 kk 1000000000000) _ hI F00 r9 _ hr9 (by omega) (by omega) (by omega) (by omega))
      · refine h_aload_n (pc' := 8) rfl rfl rfl ?_
        refine h_iload_n (pc' := 9) rfl rfl rfl ?_
        refine h_put (pc' := 12) rfl rfl rfl rfl rfl rfl ci_2 rfl (h_fgt (E := fun s => s 63 2 = 2 ∧ s 64 3 = σ 64 3 ∧ s 64 5 = σ 64 5) _ (if_63_2 hI (by omega)) (F00.up rfl) ⟨rfl, rfl, rfl⟩ (fun s15 Is15 Fs15 ⟨es15_0, es15_1, es15_2⟩ => ?_))
        refine h_aload_n (pc' := 13) rfl rfl rfl ?_
        refine h_iload_n (pc' := 14) rfl rfl rfl ?_
        refine h_put (pc' := 17) rfl rfl rfl rfl rfl rfl hz12 rfl (h_fgt (E := fun s => s 63 2 = 2 ∧ s 64 3 = σ 64 3 ∧ s 64 5 = σ 64 5) _ (if_63_3 Is15 (h_rgv hz12)) (Fs15.up rfl) ⟨es15_0, es15_1, es15_2⟩ (fun s16 Is16 Fs16 ⟨es16_0, es16_1, es16_2⟩ => ?_))
        clear es15_0 es15_1 es15_2
        refine h_vret rfl rfl (h_Kn ?_)
        refine h_goto (pc' := 150) rfl rfl ?_
        exact h_wk [(0, .ref 63), (1, .int r9)] ⟨rfl, rfl, trivial⟩ ((v_readLineX_l ns σ hI pr0 kk 1000000000000) _ Is16 Fs16 r9 _ hr9 (by omega) (by omega) (by omega) (by omega))
    · refine h_aload_n (pc' := 146) rfl rfl rfl ?_
      refine h_iload_n (pc' := 147) rfl rfl rfl ?_
      refine h_call (sp := false) (pc' := 150) (M := [(0, .ref 63), (1, .int r9)]) rfl rfl rfl rfl rfl rfl rfl rfl ?_
      refine v_readOne _ hI r9 _ hr9 (by omega) (by omega) (fun s18 Is18 Gs18 ps18_0 ps18_1 => h_Kn ?_)
      have Fs18 := (Gs18).tr F00
      exact h_wk [(0, .ref 63), (1, .int r9)] ⟨rfl, rfl, trivial⟩ ((v_readLineX_l ns σ hI pr0 kk 1000000000000) _ Is18 Fs18 r9 _ hr9 (by omega) (by omega) (by omega) (by omega))
    · refine h_aload_n (pc' := 146) rfl rfl rfl ?_
      refine h_iload_n (pc' := 147) rfl rfl rfl ?_
      refine h_call (sp := false) (pc' := 150) (M := [(0, .ref 63), (1, .int r9)]) rfl rfl rfl rfl rfl rfl rfl rfl ?_
      refine v_readOne _ hI r9 _ hr9 (by omega) (by omega) (fun s20 Is20 Gs20 ps20_0 ps20_1 => h_Kn ?_)
      have Fs20 := (Gs20).tr F00
      exact h_wk [(0, .ref 63), (1, .int r9)] ⟨rfl, rfl, trivial⟩ ((v_readLineX_l ns σ hI pr0 kk 1000000000000) _ Is20 Fs20 r9 _ hr9 (by omega) (by omega) (by omega) (by omega))
    · refine h_aload_n (pc' := 146) rfl rfl rfl ?_
      refine h_iload_n (pc' := 147) rfl rfl rfl ?_
      refine h_call (sp := false) (pc' := 150) (M := [(0, .ref 63), (1, .int r9)]) rfl rfl rfl rfl rfl rfl rfl rfl ?_
      refine v_readOne _ hI r9 _ hr9 (by omega) (by omega) (fun s22 Is22 Gs22 ps22_0 ps22_1 => h_Kn ?_)
      have Fs22 := (Gs22).tr F00
      exact h_wk [(0, .ref 63), (1, .int r9)] ⟨rfl, rfl, trivial⟩ ((v_readLineX_l ns σ hI pr0 kk 1000000000000) _ Is22 Fs22 r9 _ hr9 (by omega) (by omega) (by omega) (by omega))
    · refine h_aload_n (pc' := 146) rfl rfl rfl ?_
      refine h_iload_n (pc' := 147) rfl rfl rfl ?_
      refine h_call (sp := false) (pc' := 150) (M := [(0, .ref 63), (1, .int r9)]) rfl rfl rfl rfl rfl rfl rfl rfl ?_
      refine v_readOne _ hI r9 _ hr9 (by omega) (by omega) (fun s24 Is24 Gs24 ps24_0 ps24_1 => h_Kn ?_)
      have Fs24 := (Gs24).tr F00
      exact h_wk [(0, .ref 63), (1, .int r9)] ⟨rfl, rfl, trivial⟩ ((v_readLineX_l ns σ hI pr0 kk 1000000000000) _ Is24 Fs24 r9 _ hr9 (by omega) (by omega) (by omega) (by omega))
    · refine h_aload_n (pc' := 146) rfl rfl rfl ?_
      refine h_iload_n (pc' := 147) rfl rfl rfl ?_
      refine h_call (sp := false) (pc' := 150) (M := [(0, .ref 63), (1, .int r9)]) rfl rfl rfl rfl rfl rfl rfl rfl ?_
      refine v_readOne _ hI r9 _ hr9 (by omega) (by omega) (fun s26 Is26 Gs26 ps26_0 ps26_1 => h_Kn ?_)
      have Fs26 := (Gs26).tr F00
      exact h_wk [(0, .ref 63), (1, .int r9)] ⟨rfl, rfl, trivial⟩ ((v_readLineX_l ns σ hI pr0 kk 1000000000000) _ Is26 Fs26 r9 _ hr9 (by omega) (by omega) (by omega) (by omega))
    · refine h_aload_n (pc' := 146) rfl rfl rfl ?_
      refine h_iload_n (pc' := 147) rfl rfl rfl ?_
      refine h_call (sp := false) (pc' := 150) (M := [(0, .ref 63), (1, .int r9)]) rfl rfl rfl rfl rfl rfl rfl rfl ?_
      refine v_readOne _ hI r9 _ hr9 (by omega) (by omega) (fun s28 Is28 Gs28 ps28_0 ps28_1 => h_Kn ?_)
      have Fs28 := (Gs28).tr F00
      exact h_wk [(0, .ref 63), (1, .int r9)] ⟨rfl, rfl, trivial⟩ ((v_readLineX_l ns σ hI pr0 kk 1000000000000) _ Is28 Fs28 r9 _ hr9 (by omega) (by omega) (by omega) (by omega))
    · refine h_aload_n (pc' := 146) rfl rfl rfl ?_
      refine h_iload_n (pc' := 147) rfl rfl rfl ?_
      refine h_call (sp := false) (pc' := 150) (M := [(0, .ref 63), (1, .int r9)]) rfl rfl rfl rfl rfl rfl rfl rfl ?_
      refine v_readOne _ hI r9 _ hr9 (by omega) (by omega) (fun s30 Is30 Gs30 ps30_0 ps30_1 => h_Kn ?_)
      have Fs30 := (Gs30).tr F00
      exact h_wk [(0, .ref 63), (1, .int r9)] ⟨rfl, rfl, trivial⟩ ((v_readLineX_l ns σ hI pr0 kk 1000000000000) _ Is30 Fs30 r9 _ hr9 (by omega) (by omega) (by omega) (by omega))
    · refine h_aload_n (pc' := 89) rfl rfl rfl ?_
      refine h_aload_n (pc' := 90) rfl rfl rfl ?_
      refine h_getR (pc' := 93) rfl rfl rfl rfl rfl ?_
      refine h_getR (pc' := 96) rfl rfl rfl rfl rfl ?_
      refine h_call (sp := false) (pc' := 99) (M := [(0, .ref 63), (1, .ref 69)]) rfl rfl rfl rfl rfl rfl rfl rfl ?_
      refine v_readPairX69 _ hI  (by omega) (fun s32 Is32 Gs32 ps32_0 ps32_1 => h_Kn ?_)
      have Fs32 := (Gs32).tr F00
      refine h_goto (pc' := 150) rfl rfl ?_
      exact h_wk [(0, .ref 63), (1, .int r9)] ⟨rfl, rfl, trivial⟩ ((v_readLineX_l ns σ hI pr0 kk 1000000000000) _ Is32 Fs32 r9 _ hr9 (by omega) (by omega) (by omega) (by omega))
    · refine h_aload_n (pc' := 103) rfl rfl rfl ?_
      refine h_aload_n (pc' := 104) rfl rfl rfl ?_
      refine h_getR (pc' := 107) rfl rfl rfl rfl rfl ?_
      refine h_getR (pc' := 110) rfl rfl rfl rfl rfl ?_
      refine h_call (sp := false) (pc' := 113) (M := [(0, .ref 63), (1, .ref 72)]) rfl rfl rfl rfl rfl rfl rfl rfl ?_
      refine v_readPairX72 _ hI  (by omega) (fun s34 Is34 Gs34 ps34_0 ps34_1 => h_Kn ?_)
      have Fs34 := (Gs34).tr F00
      refine h_goto (pc' := 150) rfl rfl ?_
      exact h_wk [(0, .ref 63), (1, .int r9)] ⟨rfl, rfl, trivial⟩ ((v_readLineX_l ns σ hI pr0 kk 1000000000000) _ Is34 Fs34 r9 _ hr9 (by omega) (by omega) (by omega) (by omega))
    · refine h_aload_n (pc' := 117) rfl rfl rfl ?_
      refine h_call (sp := false) (pc' := 120) (M := [(0, .ref 63)]) rfl rfl rfl rfl rfl rfl rfl rfl ?_
      refine v_readGate _ hI  (by omega) (fun s36 Is36 Gs36 ps36_0 ps36_1 => h_Kn ?_)
      have Fs36 := (Gs36).tr F00
      refine h_goto (pc' := 150) rfl rfl ?_
      exact h_wk [(0, .ref 63), (1, .int r9)] ⟨rfl, rfl, trivial⟩ ((v_readLineX_l ns σ hI pr0 kk 1000000000000) _ Is36 Fs36 r9 _ hr9 (by omega) (by omega) (by omega) (by omega))
    · refine h_aload_n (pc' := 124) rfl rfl rfl ?_
      refine h_call (sp := false) (pc' := 127) (M := [(0, .ref 63)]) rfl rfl rfl rfl rfl rfl rfl rfl ?_
      refine v_readPlanX _ hI  (by omega) (fun s38 Is38 Gs38 ps38_0 ps38_1 => h_Kn ?_)
      have Fs38 := (Gs38).tr F00
      refine h_goto (pc' := 150) rfl rfl ?_
      exact h_wk [(0, .ref 63), (1, .int r9)] ⟨rfl, rfl, trivial⟩ ((v_readLineX_l ns σ hI pr0 kk 1000000000000) _ Is38 Fs38 r9 _ hr9 (by omega) (by omega) (by omega) (by omega))
theorem v_areBelow69_l (ns : Nat) (σ : h_S) (hI : h_I σ) (x0 : Int32) (a0 : Int) (hx0 : x0.toInt = a0) {Q : Option Value → h_S → Prop} (kk : ∀ (r : Int32) (b : Int) (hb : r.toInt = b), (0 ≤ b ∧ b ≤ 1) → Q (some (.int r)) σ) : ∀ n : Nat, (∀ (y2 : Int32) (b2 : Int), y2.toInt = b2 → (0 ≤ b2 ∧ b2 ≤ 3) → (3 + 1 - b2) * 1000000 + 1000000000 ≤ (n : Int) → h_T g_P (g_Y ns) 49 2 [(0, .ref 69), (1, .int x0), (2, .int y2)] [] σ Q) := by
  intro n
  induction n with
  | zero => exact by intro  y2 b2 hy2 ry2 hm; exfalso; omega
  | succ n ih =>
    intro  y2 b2 hy2 ry2 hm
    refine h_iload_n (pc' := 3) rfl rfl rfl ?_
    refine h_aload_n (pc' := 4) rfl rfl rfl ?_
    refine h_getI (pc' := 7) (v := σ 69 2) rfl rfl rfl rfl rfl rfl (fun z1 hz1 => ?_)
    have tz1 := tf_69_2 hI
    refine h_cge (tg := 38) (pc' := 10) rfl rfl rfl hy2 hz1 (fun c2 => ?_) (fun c2 => ?_)
    · refine h_iconst (pc' := 39) (x := (Int32.ofInt 1)) rfl rfl rfl ?_
      exact h_zret rfl rfl ci_1 (by omega) (kk _ _ ci_1 (by omega))
    · refine h_aload_n (pc' := 11) rfl rfl rfl ?_
      refine h_getR (pc' := 14) rfl rfl rfl rfl rfl ?_
      refine h_iload_n (pc' := 15) rfl rfl rfl ?_
      refine h_iald (pc' := 16) (v := σ 70 b2) rfl rfl rfl hy2 (by omega) (by omega) rfl (fun z3 hz3 => ?_)
      have tz3 := ty_70 hI b2
      refine h_iload_n (pc' := 17) rfl rfl rfl ?_
      refine h_cge (tg := 30) (pc' := 20) rfl rfl rfl hz3 hx0 (fun c4 => ?_) (fun c4 => ?_)
      · refine h_iconst (pc' := 31) (x := (Int32.ofInt 0)) rfl rfl rfl ?_
        exact h_zret rfl rfl ci_0 (by omega) (kk _ _ ci_0 (by omega))
      · refine h_aload_n (pc' := 21) rfl rfl rfl ?_
        refine h_getR (pc' := 24) rfl rfl rfl rfl rfl ?_
        refine h_iload_n (pc' := 25) rfl rfl rfl ?_
        refine h_iald (pc' := 26) (v := σ 71 b2) rfl rfl rfl hy2 (by omega) (by omega) rfl (fun z5 hz5 => ?_)
        have tz5 := ty_71 hI b2
        refine h_iload_n (pc' := 27) rfl rfl rfl ?_
        refine h_clt (tg := 32) (pc' := 30) rfl rfl rfl hz5 hx0 (fun c6 => ?_) (fun c6 => ?_)
        · refine h_iinc (pc' := 35) (M := fun z7 => [(2, .int z7), (0, .ref 69), (1, .int x0)]) rfl rfl rfl rfl hy2 ci_1 rfl (by omega) (by omega) (fun _ => rfl) (fun z7 hz7 => ?_)
          refine h_goto (pc' := 2) rfl rfl ?_
          exact h_wk [(0, .ref 69), (1, .int x0), (2, .int z7)] ⟨rfl, rfl, rfl, trivial⟩ (ih z7 _ hz7 (by omega) (by omega))
        · refine h_iconst (pc' := 31) (x := (Int32.ofInt 0)) rfl rfl rfl ?_
          exact h_zret rfl rfl ci_0 (by omega) (kk _ _ ci_0 (by omega))
theorem v_areBelow69 {ns : Nat} (σ : h_S) (hI : h_I σ) (x0 : Int32) (a0 : Int) (hx0 : x0.toInt = a0) {Q : Option Value → h_S → Prop} (kk : ∀ (r : Int32) (b : Int) (hb : r.toInt = b), (0 ≤ b ∧ b ≤ 1) → Q (some (.int r)) σ) : h_T g_P (g_Y ns) 49 0 [(0, .ref 69), (1, .int x0)] [] σ Q := by
  have F00 : h_F k_sc σ σ := h_F.rf
  refine h_iconst (pc' := 1) (x := (Int32.ofInt 0)) rfl rfl rfl ?_
  refine h_istore_n (pc' := 2) (M := [(2, .int (Int32.ofInt 0)), (0, .ref 69), (1, .int x0)]) rfl rfl rfl rfl ?_
  exact h_wk [(0, .ref 69), (1, .int x0), (2, .int (Int32.ofInt 0))] ⟨rfl, rfl, rfl, trivial⟩ ((v_areBelow69_l ns σ hI x0 a0 hx0 kk 1000000000000) (Int32.ofInt 0) _ ci_0 (by omega) (by omega))
theorem v_areBelow72_l (ns : Nat) (σ : h_S) (hI : h_I σ) (x0 : Int32) (a0 : Int) (hx0 : x0.toInt = a0) {Q : Option Value → h_S → Prop} (kk : ∀ (r : Int32) (b : Int) (hb : r.toInt = b), (0 ≤ b ∧ b ≤ 1) → Q (some (.int r)) σ) : ∀ n : Nat, (∀ (y2 : Int32) (b2 : Int), y2.toInt = b2 → (0 ≤ b2 ∧ b2 ≤ 3) → (3 + 1 - b2) * 1000000 + 1000000000 ≤ (n : Int) → h_T g_P (g_Y ns) 49 2 [(0, .ref 72), (1, .int x0), (2, .int y2)] [] σ Q) := by
  intro n
  induction n with
  | zero => exact by intro  y2 b2 hy2 ry2 hm; exfalso; omega
  | succ n ih =>
    intro  y2 b2 hy2 ry2 hm
    refine h_iload_n (pc' := 3) rfl rfl rfl ?_
    refine h_aload_n (pc' := 4) rfl rfl rfl ?_
    refine h_getI (pc' := 7) (v := σ 72 2) rfl rfl rfl rfl rfl rfl (fun z1 hz1 => ?_)
    have tz1 := tf_72_2 hI
    refine h_cge (tg := 38) (pc' := 10) rfl rfl rfl hy2 hz1 (fun c2 => ?_) (fun c2 => ?_)
    · refine h_iconst (pc' := 39) (x := (Int32.ofInt 1)) rfl rfl rfl ?_
      exact h_zret rfl rfl ci_1 (by omega) (kk _ _ ci_1 (by omega))
    · refine h_aload_n (pc' := 11) rfl rfl rfl ?_
      refine h_getR (pc' := 14) rfl rfl rfl rfl rfl ?_
      refine h_iload_n (pc' := 15) rfl rfl rfl ?_
      refine h_iald (pc' := 16) (v := σ 73 b2) rfl rfl rfl hy2 (by omega) (by omega) rfl (fun z3 hz3 => ?_)
      have tz3 := ty_73 hI b2
      refine h_iload_n (pc' := 17) rfl rfl rfl ?_
      refine h_cge (tg := 30) (pc' := 20) rfl rfl rfl hz3 hx0 (fun c4 => ?_) (fun c4 => ?_)
      · refine h_iconst (pc' := 31) (x := (Int32.ofInt 0)) rfl rfl rfl ?_
        exact h_zret rfl rfl ci_0 (by omega) (kk _ _ ci_0 (by omega))
      · refine h_aload_n (pc' := 21) rfl rfl rfl ?_
        refine h_getR (pc' := 24) rfl rfl rfl rfl rfl ?_
        refine h_iload_n (pc' := 25) rfl rfl rfl ?_
        refine h_iald (pc' := 26) (v := σ 74 b2) rfl rfl rfl hy2 (by omega) (by omega) rfl (fun z5 hz5 => ?_)
        have tz5 := ty_74 hI b2
        refine h_iload_n (pc' := 27) rfl rfl rfl ?_
        refine h_clt (tg := 32) (pc' := 30) rfl rfl rfl hz5 hx0 (fun c6 => ?_) (fun c6 => ?_)
        · refine h_iinc (pc' := 35) (M := fun z7 => [(2, .int z7), (0, .ref 72), (1, .int x0)]) rfl rfl rfl rfl hy2 ci_1 rfl (by omega) (by omega) (fun _ => rfl) (fun z7 hz7 => ?_)
          refine h_goto (pc' := 2) rfl rfl ?_
          exact h_wk [(0, .ref 72), (1, .int x0), (2, .int z7)] ⟨rfl, rfl, rfl, trivial⟩ (ih z7 _ hz7 (by omega) (by omega))
        · refine h_iconst (pc' := 31) (x := (Int32.ofInt 0)) rfl rfl rfl ?_
          exact h_zret rfl rfl ci_0 (by omega) (kk _ _ ci_0 (by omega))
theorem v_areBelow72 {ns : Nat} (σ : h_S) (hI : h_I σ) (x0 : Int32) (a0 : Int) (hx0 : x0.toInt = a0) {Q : Option Value → h_S → Prop} (kk : ∀ (r : Int32) (b : Int) (hb : r.toInt = b), (0 ≤ b ∧ b ≤ 1) → Q (some (.int r)) σ) : h_T g_P (g_Y ns) 49 0 [(0, .ref 72), (1, .int x0)] [] σ Q := by
  have F00 : h_F k_sc σ σ := h_F.rf
  refine h_iconst (pc' := 1) (x := (Int32.ofInt 0)) rfl rfl rfl ?_
  refine h_istore_n (pc' := 2) (M := [(2, .int (Int32.ofInt 0)), (0, .ref 72), (1, .int x0)]) rfl rfl rfl rfl ?_
  exact h_wk [(0, .ref 72), (1, .int x0), (2, .int (Int32.ofInt 0))] ⟨rfl, rfl, rfl, trivial⟩ ((v_areBelow72_l ns σ hI x0 a0 hx0 kk 1000000000000) (Int32.ofInt 0) _ ci_0 (by omega) (by omega))
theorem v_isWhole_l (ns : Nat) (σ : h_S) (hI : h_I σ) {Q : Option Value → h_S → Prop} (kk : ∀ (r : Int32) (b : Int) (hb : r.toInt = b), (0 ≤ b ∧ b ≤ 1) → Q (some (.int r)) σ) : ∀ n : Nat, (∀ (y1 : Int32) (b1 : Int), y1.toInt = b1 → (0 ≤ b1 ∧ b1 ≤ 3) → (3 + 1 - b1) * 1000000 + 2000000000 ≤ (n : Int) → h_T g_P (g_Y ns) 16 32 [(0, .ref 66), (1, .int y1)] [] σ Q) ∧ (∀ (y1 : Int32) (b1 : Int), y1.toInt = b1 → (0 ≤ b1 ∧ b1 ≤ 8) → (8 + 1 - b1) * 1000000 + 1000000000 ≤ (n : Int) → h_T g_P (g_Y ns) 16 74 [(0, .ref 66), (1, .int y1)] [] σ Q) := by
  intro n
  induction n with
  | zero => exact ⟨by intro  y1 b1 hy1 ry1 hm; exfalso; omega, by intro  y1 b1 hy1 ry1 hm; exfalso; omega⟩
  | succ n ih =>
    refine ⟨?_, ?_⟩
    · intro  y1 b1 hy1 ry1 hm
      refine h_iload_n (pc' := 33) rfl rfl rfl ?_
      refine h_aload_n (pc' := 34) rfl rfl rfl ?_
      refine h_getI (pc' := 37) (v := σ 66 9) rfl rfl rfl rfl rfl rfl (fun z1 hz1 => ?_)
      have tz1 := tf_66_9 hI
      refine h_cge (tg := 72) (pc' := 40) rfl rfl rfl hy1 hz1 (fun c2 => ?_) (fun c2 => ?_)
      · refine h_iconst (pc' := 73) (x := (Int32.ofInt 0)) rfl rfl rfl ?_
        refine h_istore_n (pc' := 74) (M := [(1, .int (Int32.ofInt 0)), (0, .ref 66)]) rfl rfl rfl rfl ?_
        exact h_wk [(0, .ref 66), (1, .int (Int32.ofInt 0))] ⟨rfl, rfl, trivial⟩ (ih.2 (Int32.ofInt 0) _ ci_0 (by omega) (by omega))
      · refine h_aload_n (pc' := 41) rfl rfl rfl ?_
        refine h_getR (pc' := 44) rfl rfl rfl rfl rfl ?_
        refine h_iload_n (pc' := 45) rfl rfl rfl ?_
        refine h_iald (pc' := 46) (v := σ 76 b1) rfl rfl rfl hy1 (by omega) (by omega) rfl (fun z3 hz3 => ?_)
        have tz3 := ty_76 hI b1
        refine h_bipush (pc' := 48) (x := (Int32.ofInt (-4))) rfl rfl cb_m4 ?_
        refine h_ceq (tg := 66) (pc' := 51) rfl rfl rfl hz3 ci_m4 (fun c4 => ?_) (fun c4 => ?_)
        · refine h_iinc (pc' := 69) (M := fun z5 => [(1, .int z5), (0, .ref 66)]) rfl rfl rfl rfl hy1 ci_1 rfl (by omega) (by omega) (fun _ => rfl) (fun z5 hz5 => ?_)
          refine h_goto (pc' := 32) rfl rfl ?_
          exact h_wk [(0, .ref 66), (1, .int z5)] ⟨rfl, rfl, trivial⟩ (ih.1 z5 _ hz5 (by omega) (by omega))
        · refine h_aload_n (pc' := 52) rfl rfl rfl ?_
          refine h_aload_n (pc' := 53) rfl rfl rfl ?_
          refine h_getR (pc' := 56) rfl rfl rfl rfl rfl ?_
          refine h_iload_n (pc' := 57) rfl rfl rfl ?_
          refine h_iald (pc' := 58) (v := σ 76 b1) rfl rfl rfl hy1 (by omega) (by omega) rfl (fun z6 hz6 => ?_)
          have tz6 := ty_76 hI b1
          refine h_call (sp := false) (pc' := 61) (M := [(0, .ref 66), (1, .int z6)]) rfl rfl rfl rfl rfl rfl rfl rfl ?_
          refine h_iload_n (pc' := 1) rfl rfl rfl ?_
          refine h_zlt (tg := 16) (pc' := 4) rfl rfl rfl hz6 (fun c7 => ?_) (fun c7 => ?_)
          · refine h_iconst (pc' := 17) (x := (Int32.ofInt 0)) rfl rfl rfl ?_
            refine h_zret rfl rfl ci_0 (by omega) (h_Kv ?_)
            refine h_zne (tg := 66) (pc' := 64) rfl rfl rfl ci_0 (fun c8 => absurd c8 (by omega)) (fun c8 => ?_)
            refine h_iconst (pc' := 65) (x := (Int32.ofInt 0)) rfl rfl rfl ?_
            exact h_zret rfl rfl ci_0 (by omega) (kk _ _ ci_0 (by omega))
          · refine h_iload_n (pc' := 5) rfl rfl rfl ?_
            refine h_aload_n (pc' := 6) rfl rfl rfl ?_
            refine h_getI (pc' := 9) (v := σ 66 8) rfl rfl rfl rfl rfl rfl (fun z9 hz9 => ?_)
            have tz9 := tf_66_8 hI
            refine h_cge (tg := 16) (pc' := 12) rfl rfl rfl hz6 hz9 (fun c10 => ?_) (fun c10 => ?_)
            · refine h_iconst (pc' := 17) (x := (Int32.ofInt 0)) rfl rfl rfl ?_
              refine h_zret rfl rfl ci_0 (by omega) (h_Kv ?_)
              refine h_zne (tg := 66) (pc' := 64) rfl rfl rfl ci_0 (fun c11 => absurd c11 (by omega)) (fun c11 => ?_)
              refine h_iconst (pc' := 65) (x := (Int32.ofInt 0)) rfl rfl rfl ?_
              exact h_zret rfl rfl ci_0 (by omega) (kk _ _ ci_0 (by omega))
            · refine h_iconst (pc' := 13) (x := (Int32.ofInt 1)) rfl rfl rfl ?_
              refine h_goto (pc' := 17) rfl rfl ?_
              refine h_zret rfl rfl ci_1 (by omega) (h_Kv ?_)
              refine h_zne (tg := 66) (pc' := 64) rfl rfl rfl ci_1 (fun c12 => ?_) (fun c12 => absurd c12 (by omega))
              refine h_iinc (pc' := 69) (M := fun z13 => [(1, .int z13), (0, .ref 66)]) rfl rfl rfl rfl hy1 ci_1 rfl (by omega) (by omega) (fun _ => rfl) (fun z13 hz13 => ?_)
              refine h_goto (pc' := 32) rfl rfl ?_
              exact h_wk [(0, .ref 66), (1, .int z13)] ⟨rfl, rfl, trivial⟩ (ih.1 z13 _ hz13 (by omega) (by omega))
    · intro  y1 b1 hy1 ry1 hm
      refine h_iload_n (pc' := 75) rfl rfl rfl ?_
      refine h_aload_n (pc' := 76) rfl rfl rfl ?_
      refine h_getI (pc' := 79) (v := σ 66 10) rfl rfl rfl rfl rfl rfl (fun z1 hz1 => ?_)
      have tz1 := tf_66_10 hI
      refine h_cge (tg := 122) (pc' := 82) rfl rfl rfl hy1 hz1 (fun c2 => ?_) (fun c2 => ?_)
      · refine h_iconst (pc' := 123) (x := (Int32.ofInt 1)) rfl rfl rfl ?_
        exact h_zret rfl rfl ci_1 (by omega) (kk _ _ ci_1 (by omega))
      · refine h_aload_n (pc' := 83) rfl rfl rfl ?_
        refine h_aload_n (pc' := 84) rfl rfl rfl ?_
        refine h_getR (pc' := 87) rfl rfl rfl rfl rfl ?_
        refine h_iload_n (pc' := 88) rfl rfl rfl ?_
        refine h_iald (pc' := 89) (v := σ 78 b1) rfl rfl rfl hy1 (by omega) (by omega) rfl (fun z3 hz3 => ?_)
        have tz3 := ty_78 hI b1
        refine h_bipush (pc' := 91) (x := (Int32.ofInt 10)) rfl rfl cb_10 ?_
        refine h_idiv (pc' := 92) rfl rfl hz3 ci_10 (by omega) (by omega) (fun z4 hz4 => ?_)
        refine h_call (sp := false) (pc' := 95) (M := [(0, .ref 66), (1, .int z4)]) rfl rfl rfl rfl rfl rfl rfl rfl ?_
        refine h_iload_n (pc' := 1) rfl rfl rfl ?_
        refine h_zlt (tg := 16) (pc' := 4) rfl rfl rfl hz4 (fun c5 => absurd c5 (by omega)) (fun c5 => ?_)
        refine h_iload_n (pc' := 5) rfl rfl rfl ?_
        refine h_aload_n (pc' := 6) rfl rfl rfl ?_
        refine h_getI (pc' := 9) (v := σ 66 8) rfl rfl rfl rfl rfl rfl (fun z6 hz6 => ?_)
        have tz6 := tf_66_8 hI
        refine h_cge (tg := 16) (pc' := 12) rfl rfl rfl hz4 hz6 (fun c7 => ?_) (fun c7 => ?_)
        · refine h_iconst (pc' := 17) (x := (Int32.ofInt 0)) rfl rfl rfl ?_
          refine h_zret rfl rfl ci_0 (by omega) (h_Kv ?_)
          refine h_zeq (tg := 114) (pc' := 98) rfl rfl rfl ci_0 (fun c8 => ?_) (fun c8 => absurd c8 (by omega))
          refine h_iconst (pc' := 115) (x := (Int32.ofInt 0)) rfl rfl rfl ?_
          exact h_zret rfl rfl ci_0 (by omega) (kk _ _ ci_0 (by omega))
        · refine h_iconst (pc' := 13) (x := (Int32.ofInt 1)) rfl rfl rfl ?_
          refine h_goto (pc' := 17) rfl rfl ?_
          refine h_zret rfl rfl ci_1 (by omega) (h_Kv ?_)
          refine h_zeq (tg := 114) (pc' := 98) rfl rfl rfl ci_1 (fun c9 => absurd c9 (by omega)) (fun c9 => ?_)
          refine h_aload_n (pc' := 99) rfl rfl rfl ?_
          refine h_aload_n (pc' := 100) rfl rfl rfl ?_
          refine h_getR (pc' := 103) rfl rfl rfl rfl rfl ?_
          refine h_iload_n (pc' := 104) rfl rfl rfl ?_
          refine h_iald (pc' := 105) (v := σ 78 b1) rfl rfl rfl hy1 (by omega) (by omega) rfl (fun z10 hz10 => ?_)
          have tz10 := ty_78 hI b1
          refine h_bipush (pc' := 107) (x := (Int32.ofInt 10)) rfl rfl cb_10 ?_
          refine h_irem (pc' := 108) rfl rfl hz10 ci_10 (by omega) (by omega) (fun z11 hz11 => ?_)
          refine h_call (sp := false) (pc' := 111) (M := [(0, .ref 66), (1, .int z11)]) rfl rfl rfl rfl rfl rfl rfl rfl ?_
          refine h_iload_n (pc' := 1) rfl rfl rfl ?_
          refine h_zlt (tg := 16) (pc' := 4) rfl rfl rfl hz11 (fun c12 => absurd c12 (by omega)) (fun c12 => ?_)
          refine h_iload_n (pc' := 5) rfl rfl rfl ?_
          refine h_aload_n (pc' := 6) rfl rfl rfl ?_
          refine h_getI (pc' := 9) (v := σ 66 9) rfl rfl rfl rfl rfl rfl (fun z13 hz13 => ?_)
          have tz13 := tf_66_9 hI
          refine h_cge (tg := 16) (pc' := 12) rfl rfl rfl hz11 hz13 (fun c14 => ?_) (fun c14 => ?_)
          · refine h_iconst (pc' := 17) (x := (Int32.ofInt 0)) rfl rfl rfl ?_
            refine h_zret rfl rfl ci_0 (by omega) (h_Kv ?_)
            refine h_zne (tg := 116) (pc' := 114) rfl rfl rfl ci_0 (fun c15 => absurd c15 (by omega)) (fun c15 => ?_)
            refine h_iconst (pc' := 115) (x := (Int32.ofInt 0)) rfl rfl rfl ?_
            exact h_zret rfl rfl ci_0 (by omega) (kk _ _ ci_0 (by omega))
          · refine h_iconst (pc' := 13) (x := (Int32.ofInt 1)) rfl rfl rfl ?_
            refine h_goto (pc' := 17) rfl rfl ?_
            refine h_zret rfl rfl ci_1 (by omega) (h_Kv ?_)
            refine h_zne (tg := 116) (pc' := 114) rfl rfl rfl ci_1 (fun c16 => ?_) (fun c16 => absurd c16 (by omega))
            refine h_iinc (pc' := 119) (M := fun z17 => [(1, .int z17), (0, .ref 66)]) rfl rfl rfl rfl hy1 ci_1 rfl (by omega) (by omega) (fun _ => rfl) (fun z17 hz17 => ?_)
            refine h_goto (pc' := 74) rfl rfl ?_
            exact h_wk [(0, .ref 66), (1, .int z17)] ⟨rfl, rfl, trivial⟩ (ih.2 z17 _ hz17 (by omega) (by omega))
theorem v_isWhole {ns : Nat} (σ : h_S) (hI : h_I σ) {Q : Option Value → h_S → Prop} (kk : ∀ (r : Int32) (b : Int) (hb : r.toInt = b), (0 ≤ b ∧ b ≤ 1) → Q (some (.int r)) σ) : h_T g_P (g_Y ns) 16 0 [(0, .ref 66)] [] σ Q := by
  have F00 : h_F k_sc σ σ := h_F.rf
  refine h_aload_n (pc' := 1) rfl rfl rfl ?_
  refine h_getR (pc' := 4) rfl rfl rfl rfl rfl ?_
  refine h_aload_n (pc' := 5) rfl rfl rfl ?_
  refine h_getI (pc' := 8) (v := σ 66 8) rfl rfl rfl rfl rfl rfl (fun z1 hz1 => ?_)
  have tz1 := tf_66_8 hI
  refine h_call (sp := false) (pc' := 11) (M := [(0, .ref 69), (1, .int z1)]) rfl rfl rfl rfl rfl rfl rfl rfl ?_
  refine v_areBelow69 _ hI z1 _ hz1 (fun r2 br2 hr2 tr2 => h_Kv ?_)
  refine h_zeq (tg := 28) (pc' := 14) rfl rfl rfl hr2 (fun c4 => ?_) (fun c4 => ?_)
  · refine h_iconst (pc' := 29) (x := (Int32.ofInt 0)) rfl rfl rfl ?_
    exact h_zret rfl rfl ci_0 (by omega) (kk _ _ ci_0 (by omega))
  · refine h_aload_n (pc' := 15) rfl rfl rfl ?_
    refine h_getR (pc' := 18) rfl rfl rfl rfl rfl ?_
    refine h_aload_n (pc' := 19) rfl rfl rfl ?_
    refine h_getI (pc' := 22) (v := σ 66 8) rfl rfl rfl rfl rfl rfl (fun z5 hz5 => ?_)
    have tz5 := tf_66_8 hI
    refine h_call (sp := false) (pc' := 25) (M := [(0, .ref 72), (1, .int z5)]) rfl rfl rfl rfl rfl rfl rfl rfl ?_
    refine v_areBelow72 _ hI z5 _ hz5 (fun r6 br6 hr6 tr6 => h_Kv ?_)
    refine h_zne (tg := 30) (pc' := 28) rfl rfl rfl hr6 (fun c8 => ?_) (fun c8 => ?_)
    · refine h_iconst (pc' := 31) (x := (Int32.ofInt 0)) rfl rfl rfl ?_
      refine h_istore_n (pc' := 32) (M := [(1, .int (Int32.ofInt 0)), (0, .ref 66)]) rfl rfl rfl rfl ?_
      exact h_wk [(0, .ref 66), (1, .int (Int32.ofInt 0))] ⟨rfl, rfl, trivial⟩ ((v_isWhole_l ns σ hI  kk 1000000000000).1 (Int32.ofInt 0) _ ci_0 (by omega) (by omega))
    · refine h_iconst (pc' := 29) (x := (Int32.ofInt 0)) rfl rfl rfl ?_
      exact h_zret rfl rfl ci_0 (by omega) (kk _ _ ci_0 (by omega))
theorem v_readText_l (ns : Nat) (σ : h_S) (hI : h_I σ) {Q : Option Value → h_S → Prop} (kk : ∀ (τ : h_S), h_I τ → h_F k_nt τ σ → Q none τ) : ∀ n : Nat, (∀ (s0 : h_S), h_I s0 → h_F k_nt s0 σ → ∀ (y1 : Int32) (b1 : Int), y1.toInt = b1 → (0 ≤ b1 ∧ b1 ≤ 160) → ((¬ s0 63 2 = 0 ∨ ¬ s0 64 3 = 2 ∨ (0 ≤ s0 64 5 ∧ s0 64 5 ≤ 99))) → (160 + 1 - b1) * 1000000 + 1000000000 ≤ (n : Int) → h_T g_P (g_Y ns) 52 35 [(0, .ref 63), (1, .int y1)] [] s0 Q) := by
  intro n
  induction n with
  | zero => exact by intro s0 I0 F0_ y1 b1 hy1 ry1 ex0 hm; exfalso; omega
  | succ n ih =>
    intro s0 I0 F0_ y1 b1 hy1 ry1 ex0 hm
    refine h_iload_n (pc' := 36) rfl rfl rfl ?_
    refine h_sipush (pc' := 39) (x := (Int32.ofInt 160)) rfl rfl cs_160 ?_
    refine h_cge (tg := 83) (pc' := 42) rfl rfl rfl hy1 ci_160 (fun c1 => ?_) (fun c1 => ?_)
    · refine h_aload_n (pc' := 84) rfl rfl rfl ?_
      refine h_getI (pc' := 87) (v := s0 63 2) rfl rfl rfl rfl rfl rfl (fun z2 hz2 => ?_)
      have tz2 := tf_63_2 I0
      refine h_zne (tg := 113) (pc' := 90) rfl rfl rfl hz2 (fun c3 => ?_) (fun c3 => ?_)
      · exact h_vret rfl rfl (kk _ I0 F0_)
      · refine h_aload_n (pc' := 91) rfl rfl rfl ?_
        refine h_getR (pc' := 94) rfl rfl rfl rfl rfl ?_
        refine h_call (sp := false) (pc' := 97) (M := [(0, .ref 66)]) rfl rfl rfl rfl rfl rfl rfl rfl ?_
        refine v_isWhole _ I0  (fun r4 br4 hr4 tr4 => h_Kv ?_)
        refine h_zne (tg := 113) (pc' := 100) rfl rfl rfl hr4 (fun c6 => ?_) (fun c6 => ?_)
        · exact h_vret rfl rfl (kk _ I0 F0_)
        · refine h_aload_n (pc' := 101) rfl rfl rfl ?_
          refine h_bipush (pc' := 103) (x := (Int32.ofInt 6)) rfl rfl cb_6 ?_
          refine h_aload_n (pc' := 104) rfl rfl rfl ?_
          refine h_getR (pc' := 107) rfl rfl rfl rfl rfl ?_
          refine h_getI (pc' := 110) (v := s0 64 1) rfl rfl rfl rfl rfl rfl (fun z7 hz7 => ?_)
          have tz7 := tf_64_1 I0
          refine h_call (sp := false) (pc' := 113) (M := [(0, .ref 63), (1, .int (Int32.ofInt 6)), (2, .int z7)]) rfl rfl rfl rfl rfl rfl rfl rfl ?_
          refine h_aload_n (pc' := 1) rfl rfl rfl ?_
          refine h_getI (pc' := 4) (v := s0 63 2) rfl rfl rfl rfl rfl rfl (fun z8 hz8 => ?_)
          have tz8 := tf_63_2 I0
          refine h_zne (tg := 17) (pc' := 7) rfl rfl rfl hz8 (fun c9 => absurd c9 (by omega)) (fun c9 => ?_)
          refine h_aload_n (pc' := 8) rfl rfl rfl ?_
          refine h_iload_n (pc' := 9) rfl rfl rfl ?_
          refine h_put (pc' := 12) rfl rfl rfl rfl rfl rfl ci_6 rfl (h_fgt (E := fun s => s 63 2 = 6 ∧ s 64 3 = s0 64 3 ∧ s 64 5 = s0 64 5) _ (if_63_2 I0 (by omega)) (F0_.up rfl) ⟨rfl, rfl, rfl⟩ (fun s10 Is10 Fs10 ⟨es10_0, es10_1, es10_2⟩ => ?_))
          refine h_aload_n (pc' := 13) rfl rfl rfl ?_
          refine h_iload_n (pc' := 14) rfl rfl rfl ?_
          refine h_put (pc' := 17) rfl rfl rfl rfl rfl rfl hz7 rfl (h_fgt (E := fun s => s 63 2 = 6 ∧ s 64 3 = s0 64 3 ∧ s 64 5 = s0 64 5) _ (if_63_3 Is10 (h_rgv hz7)) (Fs10.up rfl) ⟨es10_0, es10_1, es10_2⟩ (fun s11 Is11 Fs11 ⟨es11_0, es11_1, es11_2⟩ => ?_))
          clear es10_0 es10_1 es10_2
          refine h_vret rfl rfl (h_Kn ?_)
          exact h_vret rfl rfl (kk _ Is11 Fs11)
    · refine h_aload_n (pc' := 43) rfl rfl rfl ?_
      refine h_getI (pc' := 46) (v := s0 63 2) rfl rfl rfl rfl rfl rfl (fun z12 hz12 => ?_)
      have tz12 := tf_63_2 I0
      refine h_zne (tg := 83) (pc' := 49) rfl rfl rfl hz12 (fun c13 => ?_) (fun c13 => ?_)
      · refine h_aload_n (pc' := 84) rfl rfl rfl ?_
        refine h_getI (pc' := 87) (v := s0 63 2) rfl rfl rfl rfl rfl rfl (fun z14 hz14 => ?_)
        have tz14 := tf_63_2 I0
        refine h_zne (tg := 113) (pc' := 90) rfl rfl rfl hz14 (fun c15 => ?_) (fun c15 => absurd c15 (by omega))
        exact h_vret rfl rfl (kk _ I0 F0_)
      · refine h_aload_n (pc' := 50) rfl rfl rfl ?_
        refine h_getR (pc' := 53) rfl rfl rfl rfl rfl ?_
        refine h_getI (pc' := 56) (v := s0 64 3) rfl rfl rfl rfl rfl rfl (fun z16 hz16 => ?_)
        have tz16 := tf_64_3 I0
        refine h_zeq (tg := 83) (pc' := 59) rfl rfl rfl hz16 (fun c17 => ?_) (fun c17 => ?_)
        · refine h_aload_n (pc' := 84) rfl rfl rfl ?_
          refine h_getI (pc' := 87) (v := s0 63 2) rfl rfl rfl rfl rfl rfl (fun z18 hz18 => ?_)
          have tz18 := tf_63_2 I0
          refine h_zne (tg := 113) (pc' := 90) rfl rfl rfl hz18 (fun c19 => absurd c19 (by omega)) (fun c19 => ?_)
          refine h_aload_n (pc' := 91) rfl rfl rfl ?_
          refine h_getR (pc' := 94) rfl rfl rfl rfl rfl ?_
          refine h_call (sp := false) (pc' := 97) (M := [(0, .ref 66)]) rfl rfl rfl rfl rfl rfl rfl rfl ?_
          refine v_isWhole _ I0  (fun r20 br20 hr20 tr20 => h_Kv ?_)
          refine h_zne (tg := 113) (pc' := 100) rfl rfl rfl hr20 (fun c22 => ?_) (fun c22 => ?_)
          · exact h_vret rfl rfl (kk _ I0 F0_)
          · refine h_aload_n (pc' := 101) rfl rfl rfl ?_
            refine h_bipush (pc' := 103) (x := (Int32.ofInt 6)) rfl rfl cb_6 ?_
            refine h_aload_n (pc' := 104) rfl rfl rfl ?_
            refine h_getR (pc' := 107) rfl rfl rfl rfl rfl ?_
            refine h_getI (pc' := 110) (v := s0 64 1) rfl rfl rfl rfl rfl rfl (fun z23 hz23 => ?_)
            have tz23 := tf_64_1 I0
            refine h_call (sp := false) (pc' := 113) (M := [(0, .ref 63), (1, .int (Int32.ofInt 6)), (2, .int z23)]) rfl rfl rfl rfl rfl rfl rfl rfl ?_
            refine h_aload_n (pc' := 1) rfl rfl rfl ?_
            refine h_getI (pc' := 4) (v := s0 63 2) rfl rfl rfl rfl rfl rfl (fun z24 hz24 => ?_)
            have tz24 := tf_63_2 I0
            refine h_zne (tg := 17) (pc' := 7) rfl rfl rfl hz24 (fun c25 => absurd c25 (by omega)) (fun c25 => ?_)
            refine h_aload_n (pc' := 8) rfl rfl rfl ?_
            refine h_iload_n (pc' := 9) rfl rfl rfl ?_
            refine h_put (pc' := 12) rfl rfl rfl rfl rfl rfl ci_6 rfl (h_fgt (E := fun s => s 63 2 = 6 ∧ s 64 3 = s0 64 3 ∧ s 64 5 = s0 64 5) _ (if_63_2 I0 (by omega)) (F0_.up rfl) ⟨rfl, rfl, rfl⟩ (fun s26 Is26 Fs26 ⟨es26_0, es26_1, es26_2⟩ => ?_))
            refine h_aload_n (pc' := 13) rfl rfl rfl ?_
            refine h_iload_n (pc' := 14) rfl rfl rfl ?_
            refine h_put (pc' := 17) rfl rfl rfl rfl rfl rfl hz23 rfl (h_fgt (E := fun s => s 63 2 = 6 ∧ s 64 3 = s0 64 3 ∧ s 64 5 = s0 64 5) _ (if_63_3 Is26 (h_rgv hz23)) (Fs26.up rfl) ⟨es26_0, es26_1, es26_2⟩ (fun s27 Is27 Fs27 ⟨es27_0, es27_1, es27_2⟩ => ?_))
            clear es26_0 es26_1 es26_2
            refine h_vret rfl rfl (h_Kn ?_)
            exact h_vret rfl rfl (kk _ Is27 Fs27)
        · refine h_aload_n (pc' := 60) rfl rfl rfl ?_
          refine h_call (sp := false) (pc' := 63) (M := [(0, .ref 63)]) rfl rfl rfl rfl rfl rfl rfl rfl ?_
          refine v_readLineX _ I0  (by omega) (fun s29 Is29 Gs29 ps29_0 ps29_1 => h_Kn ?_)
          have Fs29 := (Gs29).tr F0_
          refine h_aload_n (pc' := 64) rfl rfl rfl ?_
          refine h_dup (pc' := 65) rfl rfl rfl ?_
          refine h_getI (pc' := 68) (v := s29 63 4) rfl rfl rfl rfl rfl rfl (fun z30 hz30 => ?_)
          have tz30 := tf_63_4 Is29
          refine h_iconst (pc' := 69) (x := (Int32.ofInt 1)) rfl rfl rfl ?_
          refine h_iaddA (pc' := 70) rfl rfl (fun z31 hz31 => ?_)
          refine h_put (pc' := 73) rfl rfl rfl rfl rfl rfl rfl rfl (h_fgt (E := fun s => s 63 2 = s29 63 2 ∧ s 64 3 = s29 64 3 ∧ s 64 5 = s29 64 5) _ (if_63_4 Is29 (h_rgv rfl)) (Fs29.up rfl) ⟨rfl, rfl, rfl⟩ (fun s32 Is32 Fs32 ⟨es32_0, es32_1, es32_2⟩ => ?_))
          refine h_aload_n (pc' := 74) rfl rfl rfl ?_
          refine h_call (sp := false) (pc' := 77) (M := [(0, .ref 63)]) rfl rfl rfl rfl rfl rfl rfl rfl ?_
          refine v_stepX _ Is32  (fun s34 Is34 Gs34 ps34_0 ps34_1 => h_Kn ?_)
          have Fs34 := (Gs34.l1).tr Fs32
          clear es32_0 es32_1 es32_2
          refine h_iinc (pc' := 80) (M := fun z35 => [(1, .int z35), (0, .ref 63)]) rfl rfl rfl rfl hy1 ci_1 rfl (by omega) (by omega) (fun _ => rfl) (fun z35 hz35 => ?_)
          refine h_goto (pc' := 35) rfl rfl ?_
          exact h_wk [(0, .ref 63), (1, .int z35)] ⟨rfl, rfl, trivial⟩ (ih _ Is34 Fs34 z35 _ hz35 (by omega) (by omega) (by omega))
theorem v_readText {ns : Nat} (σ : h_S) (hI : h_I σ) {Q : Option Value → h_S → Prop} (kk : ∀ (τ : h_S), h_I τ → h_F k_nt τ σ → Q none τ) : h_T g_P (g_Y ns) 52 0 [(0, .ref 63)] [] σ Q := by
  have F00 : h_F k_nt σ σ := h_F.rf
  refine h_aload_n (pc' := 1) rfl rfl rfl ?_
  refine h_getR (pc' := 4) rfl rfl rfl rfl rfl ?_
  refine h_call (sp := false) (pc' := 7) (M := [(0, .ref 66)]) rfl rfl rfl rfl rfl rfl rfl rfl ?_
  refine h_aload_n (pc' := 1) rfl rfl rfl ?_
  refine h_iconst (pc' := 2) (x := (Int32.ofInt 0)) rfl rfl rfl ?_
  refine h_put (pc' := 5) rfl rfl rfl rfl rfl rfl ci_0 rfl (h_fgt (E := fun s => s 63 2 = σ 63 2 ∧ s 64 3 = σ 64 3 ∧ s 64 5 = σ 64 5) _ (if_66_8 hI (by omega)) (F00.up rfl) ⟨rfl, rfl, rfl⟩ (fun s1 Is1 Fs1 ⟨es1_0, es1_1, es1_2⟩ => ?_))
  refine h_aload_n (pc' := 6) rfl rfl rfl ?_
  refine h_getR (pc' := 9) rfl rfl rfl rfl rfl ?_
  refine h_iconst (pc' := 10) (x := (Int32.ofInt 0)) rfl rfl rfl ?_
  refine h_put (pc' := 13) rfl rfl rfl rfl rfl rfl ci_0 rfl (h_fgt (E := fun s => s 63 2 = σ 63 2 ∧ s 64 3 = σ 64 3 ∧ s 64 5 = σ 64 5) _ (if_69_2 Is1 (by omega)) (Fs1.up rfl) ⟨es1_0, es1_1, es1_2⟩ (fun s2 Is2 Fs2 ⟨es2_0, es2_1, es2_2⟩ => ?_))
  clear es1_0 es1_1 es1_2
  refine h_aload_n (pc' := 14) rfl rfl rfl ?_
  refine h_getR (pc' := 17) rfl rfl rfl rfl rfl ?_
  refine h_iconst (pc' := 18) (x := (Int32.ofInt 0)) rfl rfl rfl ?_
  refine h_put (pc' := 21) rfl rfl rfl rfl rfl rfl ci_0 rfl (h_fgt (E := fun s => s 63 2 = σ 63 2 ∧ s 64 3 = σ 64 3 ∧ s 64 5 = σ 64 5) _ (if_72_2 Is2 (by omega)) (Fs2.up rfl) ⟨es2_0, es2_1, es2_2⟩ (fun s3 Is3 Fs3 ⟨es3_0, es3_1, es3_2⟩ => ?_))
  clear es2_0 es2_1 es2_2
  refine h_aload_n (pc' := 22) rfl rfl rfl ?_
  refine h_iconst (pc' := 23) (x := (Int32.ofInt 0)) rfl rfl rfl ?_
  refine h_put (pc' := 26) rfl rfl rfl rfl rfl rfl ci_0 rfl (h_fgt (E := fun s => s 63 2 = σ 63 2 ∧ s 64 3 = σ 64 3 ∧ s 64 5 = σ 64 5) _ (if_66_9 Is3 (by omega)) (Fs3.up rfl) ⟨es3_0, es3_1, es3_2⟩ (fun s4 Is4 Fs4 ⟨es4_0, es4_1, es4_2⟩ => ?_))
  clear es3_0 es3_1 es3_2
  refine h_aload_n (pc' := 27) rfl rfl rfl ?_
  refine h_iconst (pc' := 28) (x := (Int32.ofInt 0)) rfl rfl rfl ?_
  refine h_put (pc' := 31) rfl rfl rfl rfl rfl rfl ci_0 rfl (h_fgt (E := fun s => s 63 2 = σ 63 2 ∧ s 64 3 = σ 64 3 ∧ s 64 5 = σ 64 5) _ (if_66_10 Is4 (by omega)) (Fs4.up rfl) ⟨es4_0, es4_1, es4_2⟩ (fun s5 Is5 Fs5 ⟨es5_0, es5_1, es5_2⟩ => ?_))
  clear es4_0 es4_1 es4_2
  refine h_vret rfl rfl (h_Kn ?_)
  refine h_aload_n (pc' := 8) rfl rfl rfl ?_
  refine h_iconst (pc' := 9) (x := (Int32.ofInt 0)) rfl rfl rfl ?_
  refine h_put (pc' := 12) rfl rfl rfl rfl rfl rfl ci_0 rfl (h_fgt (E := fun s => s 63 2 = 0 ∧ s 64 3 = σ 64 3 ∧ s 64 5 = σ 64 5) _ (if_63_2 Is5 (by omega)) (Fs5.up rfl) ⟨rfl, es5_1, es5_2⟩ (fun s6 Is6 Fs6 ⟨es6_0, es6_1, es6_2⟩ => ?_))
  clear es5_0 es5_1 es5_2
  refine h_aload_n (pc' := 13) rfl rfl rfl ?_
  refine h_iconst (pc' := 14) (x := (Int32.ofInt 0)) rfl rfl rfl ?_
  refine h_put (pc' := 17) rfl rfl rfl rfl rfl rfl ci_0 rfl (h_fgt (E := fun s => s 63 2 = 0 ∧ s 64 3 = σ 64 3 ∧ s 64 5 = σ 64 5) _ (if_63_4 Is6 (h_rgv ci_0)) (Fs6.up rfl) ⟨es6_0, es6_1, es6_2⟩ (fun s7 Is7 Fs7 ⟨es7_0, es7_1, es7_2⟩ => ?_))
  clear es6_0 es6_1 es6_2
  refine h_aload_n (pc' := 18) rfl rfl rfl ?_
  refine h_iconst (pc' := 19) (x := (Int32.ofInt 0)) rfl rfl rfl ?_
  refine h_put (pc' := 22) rfl rfl rfl rfl rfl rfl ci_0 (h_fb ci_0 (by omega)) (h_fgt (E := fun s => s 63 2 = 0 ∧ s 64 3 = σ 64 3 ∧ s 64 5 = σ 64 5) _ (if_63_5 Is7 (by omega)) (Fs7.up rfl) ⟨es7_0, es7_1, es7_2⟩ (fun s8 Is8 Fs8 ⟨es8_0, es8_1, es8_2⟩ => ?_))
  clear es7_0 es7_1 es7_2
  refine h_aload_n (pc' := 23) rfl rfl rfl ?_
  refine h_getR (pc' := 26) rfl rfl rfl rfl rfl ?_
  refine h_call (sp := false) (pc' := 29) (M := [(0, .ref 64)]) rfl rfl rfl rfl rfl rfl rfl rfl ?_
  refine h_aload_n (pc' := 1) rfl rfl rfl ?_
  refine h_iconst (pc' := 2) (x := (Int32.ofInt 0)) rfl rfl rfl ?_
  refine h_put (pc' := 5) rfl rfl rfl rfl rfl rfl ci_0 rfl (h_fgt (E := fun s => s 63 2 = 0 ∧ s 64 3 = σ 64 3 ∧ s 64 5 = σ 64 5) _ (if_64_2 Is8 (by omega)) (Fs8.up rfl) ⟨es8_0, es8_1, es8_2⟩ (fun s9 Is9 Fs9 ⟨es9_0, es9_1, es9_2⟩ => ?_))
  clear es8_0 es8_1 es8_2
  refine h_vret rfl rfl (h_Kn ?_)
  refine h_aload_n (pc' := 30) rfl rfl rfl ?_
  refine h_call (sp := false) (pc' := 33) (M := [(0, .ref 63)]) rfl rfl rfl rfl rfl rfl rfl rfl ?_
  refine v_stepX _ Is9  (fun s11 Is11 Gs11 ps11_0 ps11_1 => h_Kn ?_)
  have Fs11 := (Gs11.l1).tr Fs9
  clear es9_0 es9_1 es9_2
  refine h_iconst (pc' := 34) (x := (Int32.ofInt 0)) rfl rfl rfl ?_
  refine h_istore_n (pc' := 35) (M := [(1, .int (Int32.ofInt 0)), (0, .ref 63)]) rfl rfl rfl rfl ?_
  exact h_wk [(0, .ref 63), (1, .int (Int32.ofInt 0))] ⟨rfl, rfl, trivial⟩ ((v_readText_l ns σ hI  kk 1000000000000) _ Is11 Fs11 (Int32.ofInt 0) _ ci_0 (by omega) (by omega) (by omega))
theorem v_textX {ns : Nat} (σ : h_S) (hI : h_I σ) {Q : Option Value → h_S → Prop} (kk : ∀ (r : Int32) (b : Int) (hb : r.toInt = b) (τ : h_S), h_I τ → h_F k_tp τ σ → (τ 64 1 = 0) → (τ 98 11 = σ 98 11) → Q (some (.int r)) τ) : h_T g_P (g_Y ns) 84 0 [(0, .ref 9)] [] σ Q := by
  have F00 : h_F k_tp σ σ := h_F.rf
  refine h_aload_n (pc' := 1) rfl rfl rfl ?_
  refine h_getR (pc' := 4) rfl rfl rfl rfl rfl ?_
  refine h_call (sp := false) (pc' := 7) (M := [(0, .ref 63)]) rfl rfl rfl rfl rfl rfl rfl rfl ?_
  refine v_readText _ hI  (fun s2 Is2 Gs2 => h_Kn ?_)
  have Fs2 := (Gs2.t1).tr F00
  have es2_0 : s2 64 1 = σ 64 1 := (Gs2 64 1 rfl).trans rfl
  have es2_1 : s2 98 11 = σ 98 11 := (Gs2 98 11 rfl).trans rfl
  refine h_aload_n (pc' := 8) rfl rfl rfl ?_
  refine h_getR (pc' := 11) rfl rfl rfl rfl rfl ?_
  refine h_getR (pc' := 14) rfl rfl rfl rfl rfl ?_
  refine h_iconst (pc' := 15) (x := (Int32.ofInt 0)) rfl rfl rfl ?_
  refine h_put (pc' := 18) rfl rfl rfl rfl rfl rfl ci_0 rfl (h_fgt (E := fun s => s 64 1 = 0 ∧ s 98 11 = σ 98 11) _ (if_64_1 Is2 (by omega)) (Fs2.up rfl) ⟨rfl, es2_1⟩ (fun s3 Is3 Fs3 ⟨es3_0, es3_1⟩ => ?_))
  clear es2_0 es2_1
  refine h_aload_n (pc' := 19) rfl rfl rfl ?_
  refine h_getR (pc' := 22) rfl rfl rfl rfl rfl ?_
  refine h_getI (pc' := 25) (v := s3 63 2) rfl rfl rfl rfl rfl rfl (fun z4 hz4 => ?_)
  have tz4 := tf_63_2 Is3
  refine h_zeq (tg := 39) (pc' := 28) rfl rfl rfl hz4 (fun c5 => ?_) (fun c5 => ?_)
  · refine h_aload_n (pc' := 40) rfl rfl rfl ?_
    refine h_getR (pc' := 43) rfl rfl rfl rfl rfl ?_
    refine h_aload_n (pc' := 44) rfl rfl rfl ?_
    refine h_getR (pc' := 47) rfl rfl rfl rfl rfl ?_
    refine h_getR (pc' := 50) rfl rfl rfl rfl rfl ?_
    refine h_call (sp := false) (pc' := 53) (M := [(0, .ref 10), (1, .ref 66)]) rfl rfl rfl rfl rfl rfl rfl rfl ?_
    refine w_3_10_66 _ Is3  (fun s7 Is7 Gs7 => h_Kn ?_)
    have Fs7 := (Gs7.t1).tr Fs3
    have es7_0 : s7 64 1 = 0 := (Gs7 64 1 rfl).trans es3_0
    have es7_1 : s7 98 11 = σ 98 11 := (Gs7 98 11 rfl).trans es3_1
    clear es3_0 es3_1
    refine h_aload_n (pc' := 54) rfl rfl rfl ?_
    refine h_getR (pc' := 57) rfl rfl rfl rfl rfl ?_
    refine h_iconst (pc' := 58) (x := (Int32.ofInt 0)) rfl rfl rfl ?_
    refine h_put (pc' := 61) rfl rfl rfl rfl rfl rfl ci_0 rfl (h_fgt (E := fun s => s 64 1 = 0 ∧ s 98 11 = σ 98 11) _ (if_90_2 Is7 (by omega)) (Fs7.up rfl) ⟨es7_0, es7_1⟩ (fun s8 Is8 Fs8 ⟨es8_0, es8_1⟩ => ?_))
    clear es7_0 es7_1
    refine h_aload_n (pc' := 62) rfl rfl rfl ?_
    refine h_getR (pc' := 65) rfl rfl rfl rfl rfl ?_
    refine h_iconst (pc' := 66) (x := (Int32.ofInt 0)) rfl rfl rfl ?_
    refine h_iconst (pc' := 67) (x := (Int32.ofInt 0)) rfl rfl rfl ?_
    refine h_bast (pc' := 68) rfl rfl rfl rfl ci_0 (by omega) (by omega) ci_0 (by omega) (h_fgt (E := fun s => s 64 1 = 0 ∧ s 98 11 = σ 98 11) _ (in_62 Is8 (by omega)) (Fs8.up rfl) ⟨es8_0, es8_1⟩ (fun s9 Is9 Fs9 ⟨es9_0, es9_1⟩ => ?_))
    clear es8_0 es8_1
    refine h_aload_n (pc' := 69) rfl rfl rfl ?_
    refine h_getR (pc' := 72) rfl rfl rfl rfl rfl ?_
    refine h_iconst (pc' := 73) (x := (Int32.ofInt 1)) rfl rfl rfl ?_
    refine h_iconst (pc' := 74) (x := (Int32.ofInt 0)) rfl rfl rfl ?_
    refine h_bast (pc' := 75) rfl rfl rfl rfl ci_1 (by omega) (by omega) ci_0 (by omega) (h_fgt (E := fun s => s 64 1 = 0 ∧ s 98 11 = σ 98 11) _ (in_62 Is9 (by omega)) (Fs9.up rfl) ⟨es9_0, es9_1⟩ (fun s10 Is10 Fs10 ⟨es10_0, es10_1⟩ => ?_))
    clear es9_0 es9_1
    refine h_aload_n (pc' := 76) rfl rfl rfl ?_
    refine h_getR (pc' := 79) rfl rfl rfl rfl rfl ?_
    refine h_getI (pc' := 82) (v := s10 63 4) rfl rfl rfl rfl rfl rfl (fun z11 hz11 => ?_)
    have tz11 := tf_63_4 Is10
    exact h_iret rfl rfl (kk _ _ hz11 _ Is10 Fs10 (by omega) (by omega))
  · refine h_bipush (pc' := 30) (x := (Int32.ofInt (-10))) rfl rfl cb_m10 ?_
    refine h_aload_n (pc' := 31) rfl rfl rfl ?_
    refine h_getR (pc' := 34) rfl rfl rfl rfl rfl ?_
    refine h_getI (pc' := 37) (v := s3 63 3) rfl rfl rfl rfl rfl rfl (fun z12 hz12 => ?_)
    have tz12 := tf_63_3 Is3
    refine h_isubA (pc' := 38) rfl rfl (fun z13 hz13 => ?_)
    exact h_iret rfl rfl (kk _ _ rfl _ Is3 Fs3 (by omega) (by omega))
theorem v_feedX {ns : Nat} (σ : h_S) (hI : h_I σ) (x0 : Int32) (a0 : Int) (hx0 : x0.toInt = a0) {Q : Option Value → h_S → Prop} (kk : ∀ (r : Int32) (b : Int) (hb : r.toInt = b) (τ : h_S), h_I τ → h_F k_tp τ σ → ((-3) ≤ b ∧ b ≤ 160) → ((0 ≤ a0 ∧ a0 ≤ 127 ∧ σ 64 1 ≤ 159 ∧ τ 64 1 = σ 64 1 + 1 ∧ b = σ 64 1 + 1) ∨ ((a0 < 0 ∨ 127 < a0) ∧ b = -1 ∧ τ 64 1 = σ 64 1) ∨ (0 ≤ a0 ∧ a0 ≤ 127 ∧ σ 64 1 = 160 ∧ b = -3 ∧ τ 64 1 = σ 64 1)) → (τ 98 11 = σ 98 11) → Q (some (.int r)) τ) : h_T g_P (g_Y ns) 82 0 [(0, .ref 9), (1, .int x0)] [] σ Q := by
  have F00 : h_F k_tp σ σ := h_F.rf
  refine h_iload_n (pc' := 1) rfl rfl rfl ?_
  refine h_zlt (tg := 10) (pc' := 4) rfl rfl rfl hx0 (fun c1 => ?_) (fun c1 => ?_)
  · refine h_iconst (pc' := 11) (x := (Int32.ofInt (-1))) rfl rfl rfl ?_
    exact h_iret rfl rfl (kk _ _ ci_m1 _ hI F00 (by omega) (by omega) (by omega))
  · refine h_iload_n (pc' := 5) rfl rfl rfl ?_
    refine h_bipush (pc' := 7) (x := (Int32.ofInt 127)) rfl rfl cb_127 ?_
    refine h_cle (tg := 12) (pc' := 10) rfl rfl rfl hx0 ci_127 (fun c2 => ?_) (fun c2 => ?_)
    · refine h_aload_n (pc' := 13) rfl rfl rfl ?_
      refine h_getR (pc' := 16) rfl rfl rfl rfl rfl ?_
      refine h_getR (pc' := 19) rfl rfl rfl rfl rfl ?_
      refine h_iload_n (pc' := 20) rfl rfl rfl ?_
      refine h_call (sp := false) (pc' := 23) (M := [(0, .ref 64), (1, .int x0)]) rfl rfl rfl rfl rfl rfl rfl rfl ?_
      refine h_aload_n (pc' := 1) rfl rfl rfl ?_
      refine h_getI (pc' := 4) (v := σ 64 1) rfl rfl rfl rfl rfl rfl (fun z3 hz3 => ?_)
      have tz3 := tf_64_1 hI
      refine h_sipush (pc' := 7) (x := (Int32.ofInt 160)) rfl rfl cs_160 ?_
      refine h_clt (tg := 12) (pc' := 10) rfl rfl rfl hz3 ci_160 (fun c4 => ?_) (fun c4 => ?_)
      · refine h_aload_n (pc' := 13) rfl rfl rfl ?_
        refine h_getR (pc' := 16) rfl rfl rfl rfl rfl ?_
        refine h_aload_n (pc' := 17) rfl rfl rfl ?_
        refine h_getI (pc' := 20) (v := σ 64 1) rfl rfl rfl rfl rfl rfl (fun z5 hz5 => ?_)
        have tz5 := tf_64_1 hI
        refine h_iload_n (pc' := 21) rfl rfl rfl ?_
        refine h_iast (pc' := 22) rfl rfl rfl rfl hz5 (by omega) (by omega) hx0 (h_fgt (E := fun s => s 64 1 = σ 64 1 ∧ s 98 11 = σ 98 11) _ (in_65 hI (by omega)) (F00.up rfl) ⟨rfl, rfl⟩ (fun s6 Is6 Fs6 ⟨es6_0, es6_1⟩ => ?_))
        refine h_aload_n (pc' := 23) rfl rfl rfl ?_
        refine h_dup (pc' := 24) rfl rfl rfl ?_
        refine h_getI (pc' := 27) (v := σ 64 1) rfl rfl rfl rfl rfl es6_0 (fun z7 hz7 => ?_)
        have tz7 := tf_64_1 hI
        refine h_iconst (pc' := 28) (x := (Int32.ofInt 1)) rfl rfl rfl ?_
        refine h_iadd (pc' := 29) rfl rfl hz7 ci_1 rfl (by omega) (by omega) (fun z8 hz8 => ?_)
        refine h_put (pc' := 32) rfl rfl rfl rfl rfl rfl hz8 rfl (h_fgt (E := fun s => s 64 1 = ((σ 64 1) + 1) ∧ s 98 11 = σ 98 11) _ (if_64_1 Is6 (by omega)) (Fs6.up rfl) ⟨rfl, es6_1⟩ (fun s9 Is9 Fs9 ⟨es9_0, es9_1⟩ => ?_))
        clear es6_0 es6_1
        refine h_iconst (pc' := 33) (x := (Int32.ofInt 1)) rfl rfl rfl ?_
        refine h_zret rfl rfl ci_1 (by omega) (h_Kv ?_)
        refine h_zeq (tg := 39) (pc' := 26) rfl rfl rfl ci_1 (fun c10 => absurd c10 (by omega)) (fun c10 => ?_)
        refine h_aload_n (pc' := 27) rfl rfl rfl ?_
        refine h_getR (pc' := 30) rfl rfl rfl rfl rfl ?_
        refine h_getR (pc' := 33) rfl rfl rfl rfl rfl ?_
        refine h_getI (pc' := 36) (v := ((σ 64 1) + 1)) rfl rfl rfl rfl rfl es9_0 (fun z11 hz11 => ?_)
        refine h_goto (pc' := 41) rfl rfl ?_
        exact h_iret rfl rfl (kk _ _ hz11 _ Is9 Fs9 (by omega) (by omega) (by omega))
      · refine h_iconst (pc' := 11) (x := (Int32.ofInt 0)) rfl rfl rfl ?_
        refine h_zret rfl rfl ci_0 (by omega) (h_Kv ?_)
        refine h_zeq (tg := 39) (pc' := 26) rfl rfl rfl ci_0 (fun c12 => ?_) (fun c12 => absurd c12 (by omega))
        refine h_bipush (pc' := 41) (x := (Int32.ofInt (-3))) rfl rfl cb_m3 ?_
        exact h_iret rfl rfl (kk _ _ ci_m3 _ hI F00 (by omega) (by omega) (by omega))
    · refine h_iconst (pc' := 11) (x := (Int32.ofInt (-1))) rfl rfl rfl ?_
      exact h_iret rfl rfl (kk _ _ ci_m1 _ hI F00 (by omega) (by omega) (by omega))
theorem v_endX {ns : Nat} (σ : h_S) (hI : h_I σ) (x0 : Int32) (a0 : Int) (hx0 : x0.toInt = a0) {Q : Option Value → h_S → Prop} (kk : ∀ (r : Int32) (b : Int) (hb : r.toInt = b) (τ : h_S), h_I τ → h_F k_tp τ σ → ((-1) ≤ b ∧ b ≤ 160) → ((0 ≤ a0 ∧ a0 ≤ σ 64 1 ∧ b = σ 64 1 ∧ τ 64 1 = a0) ∨ ((a0 < 0 ∨ σ 64 1 < a0) ∧ b = -1 ∧ τ 64 1 = σ 64 1)) → (τ 98 11 = σ 98 11) → Q (some (.int r)) τ) : h_T g_P (g_Y ns) 83 0 [(0, .ref 9), (1, .int x0)] [] σ Q := by
  have F00 : h_F k_tp σ σ := h_F.rf
  refine h_iload_n (pc' := 1) rfl rfl rfl ?_
  refine h_zlt (tg := 18) (pc' := 4) rfl rfl rfl hx0 (fun c1 => ?_) (fun c1 => ?_)
  · refine h_iconst (pc' := 19) (x := (Int32.ofInt (-1))) rfl rfl rfl ?_
    exact h_iret rfl rfl (kk _ _ ci_m1 _ hI F00 (by omega) (by omega) (by omega))
  · refine h_iload_n (pc' := 5) rfl rfl rfl ?_
    refine h_aload_n (pc' := 6) rfl rfl rfl ?_
    refine h_getR (pc' := 9) rfl rfl rfl rfl rfl ?_
    refine h_getR (pc' := 12) rfl rfl rfl rfl rfl ?_
    refine h_getI (pc' := 15) (v := σ 64 1) rfl rfl rfl rfl rfl rfl (fun z2 hz2 => ?_)
    have tz2 := tf_64_1 hI
    refine h_cle (tg := 20) (pc' := 18) rfl rfl rfl hx0 hz2 (fun c3 => ?_) (fun c3 => ?_)
    · refine h_aload_n (pc' := 21) rfl rfl rfl ?_
      refine h_getR (pc' := 24) rfl rfl rfl rfl rfl ?_
      refine h_getR (pc' := 27) rfl rfl rfl rfl rfl ?_
      refine h_getI (pc' := 30) (v := σ 64 1) rfl rfl rfl rfl rfl rfl (fun z4 hz4 => ?_)
      have tz4 := tf_64_1 hI
      refine h_istore_n (pc' := 31) (M := [(2, .int z4), (0, .ref 9), (1, .int x0)]) rfl rfl rfl rfl ?_
      refine h_aload_n (pc' := 32) rfl rfl rfl ?_
      refine h_getR (pc' := 35) rfl rfl rfl rfl rfl ?_
      refine h_getR (pc' := 38) rfl rfl rfl rfl rfl ?_
      refine h_iload_n (pc' := 39) rfl rfl rfl ?_
      refine h_put (pc' := 42) rfl rfl rfl rfl rfl rfl hx0 rfl (h_fgt (E := fun s => s 64 1 = a0 ∧ s 98 11 = σ 98 11) _ (if_64_1 hI (by omega)) (F00.up rfl) ⟨rfl, rfl⟩ (fun s5 Is5 Fs5 ⟨es5_0, es5_1⟩ => ?_))
      refine h_iload_n (pc' := 43) rfl rfl rfl ?_
      exact h_iret rfl rfl (kk _ _ hz4 _ Is5 Fs5 (by omega) (by omega) (by omega))
    · refine h_iconst (pc' := 19) (x := (Int32.ofInt (-1))) rfl rfl rfl ?_
      exact h_iret rfl rfl (kk _ _ ci_m1 _ hI F00 (by omega) (by omega) (by omega))
