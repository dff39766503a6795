def kf_v_readToken : List Nat := [65538, 65539, 65540, 65541]
set_option maxHeartbeats 100000000 in
theorem v_readToken_l (ns : Nat) (σ : h_S) (hI : h_I σ) {Q : Option Value → h_S → Prop} (kk : ∀ (τ : h_S), h_I τ → h_F (k_in kf_v_readToken) τ σ → (¬ τ 64 3 = 2 ∨ (0 ≤ τ 64 5 ∧ τ 64 5 ≤ 99)) → (τ 63 2 = σ 63 2) → Q none τ) : ∀ n : Nat, (∀ (s0 : h_S), h_I s0 → h_F (k_in kf_v_readToken) s0 σ → (s0 63 2 = σ 63 2) → (161 - s0 64 2) + 1000 ≤ (n : Int) → h_T g_P (g_Y ns) 75 0 [(0, .ref 64)] [] s0 Q) ∧ (∀ (s0 : h_S), h_I s0 → h_F (k_in kf_v_readToken) s0 σ → ∀ (y1 : Int32) (b1 : Int), y1.toInt = b1 → (97 ≤ b1 ∧ b1 ≤ 122) → (s0 63 2 = σ 63 2) → (161 - s0 64 2) ≤ (n : Int) → h_T g_P (g_Y ns) 75 100 [(0, .ref 64), (1, .int y1)] [] s0 Q) ∧ (∀ (s0 : h_S), h_I s0 → h_F (k_in kf_v_readToken) s0 σ → ∀ (y1 : Int32) (b1 : Int), y1.toInt = b1 → (48 ≤ b1 ∧ b1 ≤ 57) → (s0 64 4 ≤ s0 64 2) → ((s0 64 2 = s0 64 4 → s0 64 5 = 0)) → ((s0 64 2 = s0 64 4 + 1 → (0 ≤ s0 64 5 ∧ s0 64 5 ≤ 9))) → ((s0 64 2 = s0 64 4 + 2 → (0 ≤ s0 64 5 ∧ s0 64 5 ≤ 99))) → (s0 63 2 = σ 63 2) → (161 - s0 64 2) ≤ (n : Int) → h_T g_P (g_Y ns) 75 172 [(0, .ref 64), (1, .int y1)] [] s0 Q) := by
  intro n
  induction n with
  | zero => exact ⟨by intro s0 I0 F0_ ex0 hm; have gh0 := tf_64_2 I0; exfalso; omega, by intro s0 I0 F0_ y1 b1 hy1 ry1 ex0 hm; have gh0 := tf_64_2 I0; exfalso; omega, by intro s0 I0 F0_ y1 b1 hy1 ry1 ex0 ex1 ex2 ex3 ex4 hm; have gh0 := tf_64_2 I0; exfalso; omega⟩
  | succ n ih =>
    refine ⟨?_, ?_, ?_⟩
    · intro s0 I0 F0_ ex0 hm; have gh0 := tf_64_2 I0
      refine h_aload_n (pc' := 1) rfl rfl rfl ?_
      refine h_getI (pc' := 4) (v := s0 64 2) rfl rfl rfl rfl rfl rfl (fun z1 hz1 => ?_)
      have tz1 := tf_64_2 I0
      refine h_aload_n (pc' := 5) rfl rfl rfl ?_
      refine h_getI (pc' := 8) (v := σ 64 1) rfl rfl rfl rfl rfl (F0_ 64 1 rfl) (fun z2 hz2 => ?_)
      have tz2 := tf_64_1 hI
      refine h_cge (tg := 38) (pc' := 11) rfl rfl rfl hz1 hz2 (fun c3 => ?_) (fun c3 => ?_)
      · refine h_aload_n (pc' := 39) rfl rfl rfl ?_
        refine h_aload_n (pc' := 40) rfl rfl rfl ?_
        refine h_getI (pc' := 43) (v := s0 64 2) rfl rfl rfl rfl rfl rfl (fun z4 hz4 => ?_)
        have tz4 := tf_64_2 I0
        refine h_put (pc' := 46) rfl rfl rfl rfl rfl rfl hz4 rfl (h_fgt (E := fun s => s 64 2 = s0 64 2 ∧ s 64 4 = (s0 64 2) ∧ s 64 3 = s0 64 3 ∧ s 64 5 = s0 64 5 ∧ s 63 2 = s0 63 2) _ (if_64_4 I0 (by omega)) (F0_.up rfl) ⟨rfl, rfl, rfl, rfl, rfl⟩ (fun s5 Is5 Fs5 (es5 : s5 64 2 = s0 64 2 ∧ s5 64 4 = (s0 64 2) ∧ s5 64 3 = s0 64 3 ∧ s5 64 5 = s0 64 5 ∧ s5 63 2 = s0 63 2) => ?_))
        refine h_aload_n (pc' := 47) rfl rfl rfl ?_
        refine h_iconst (pc' := 48) (x := (Int32.ofInt 0)) rfl rfl rfl ?_
        refine h_put (pc' := 51) rfl rfl rfl rfl rfl rfl ci_0 rfl (h_fgt (E := fun s => s 64 2 = s0 64 2 ∧ s 64 4 = (s0 64 2) ∧ s 64 3 = s0 64 3 ∧ s 64 5 = 0 ∧ s 63 2 = s0 63 2) _ (if_64_5 Is5 (h_rgv ci_0)) (Fs5.up rfl) ⟨es5.1, es5.2.1, es5.2.2.1, rfl, es5.2.2.2.2⟩ (fun s6 Is6 Fs6 (es6 : s6 64 2 = s0 64 2 ∧ s6 64 4 = (s0 64 2) ∧ s6 64 3 = s0 64 3 ∧ s6 64 5 = 0 ∧ s6 63 2 = s0 63 2) => ?_))
        clear es5
        refine h_aload_n (pc' := 52) rfl rfl rfl ?_
        refine h_getI (pc' := 55) (v := s0 64 2) rfl rfl rfl rfl rfl es6.1 (fun z7 hz7 => ?_)
        have tz7 := tf_64_2 I0
        refine h_aload_n (pc' := 56) rfl rfl rfl ?_
        refine h_getI (pc' := 59) (v := σ 64 1) rfl rfl rfl rfl rfl (Fs6 64 1 rfl) (fun z8 hz8 => ?_)
        have tz8 := tf_64_1 hI
        refine h_cge (tg := 74) (pc' := 62) rfl rfl rfl hz7 hz8 (fun c9 => ?_) (fun c9 => ?_)
        · refine h_iconst (pc' := 75) (x := (Int32.ofInt (-1))) rfl rfl rfl ?_
          refine h_istore_n (pc' := 76) (M := [(1, .int (Int32.ofInt (-1))), (0, .ref 64)]) rfl rfl rfl rfl ?_
          refine h_iload_n (pc' := 77) rfl rfl rfl ?_
          refine h_zge (tg := 88) (pc' := 80) rfl rfl rfl ci_m1 (fun c10 => absurd c10 (by omega)) (fun c10 => ?_)
          refine h_aload_n (pc' := 81) rfl rfl rfl ?_
          refine h_iconst (pc' := 82) (x := (Int32.ofInt 0)) rfl rfl rfl ?_
          refine h_put (pc' := 85) rfl rfl rfl rfl rfl rfl ci_0 rfl (h_fgt (E := fun s => s 64 2 = s0 64 2 ∧ s 64 4 = (s0 64 2) ∧ s 64 3 = 0 ∧ s 64 5 = 0 ∧ s 63 2 = s0 63 2) _ (if_64_3 Is6 (by omega)) (Fs6.up rfl) ⟨es6.1, es6.2.1, rfl, es6.2.2.2.1, es6.2.2.2.2⟩ (fun s11 Is11 Fs11 (es11 : s11 64 2 = s0 64 2 ∧ s11 64 4 = (s0 64 2) ∧ s11 64 3 = 0 ∧ s11 64 5 = 0 ∧ s11 63 2 = s0 63 2) => ?_))
          clear es6
          refine h_goto (pc' := 298) rfl rfl ?_
          exact h_vret rfl rfl (kk _ Is11 Fs11 (by omega) (by omega))
        · refine h_aload_n (pc' := 63) rfl rfl rfl ?_
          refine h_getR (pc' := 66) rfl rfl rfl rfl rfl ?_
          refine h_aload_n (pc' := 67) rfl rfl rfl ?_
          refine h_getI (pc' := 70) (v := s0 64 2) rfl rfl rfl rfl rfl es6.1 (fun z12 hz12 => ?_)
          have tz12 := tf_64_2 I0
          refine h_iald (pc' := 71) (v := σ 65 (s0 64 2)) rfl rfl rfl hz12 (by omega) (by omega) (Fs6 65 _ rfl) (fun z13 hz13 => ?_)
          have tz13 := ty_65 hI (s0 64 2)
          refine h_goto (pc' := 75) rfl rfl ?_
          refine h_istore_n (pc' := 76) (M := [(1, .int z13), (0, .ref 64)]) rfl rfl rfl rfl ?_
          refine h_iload_n (pc' := 77) rfl rfl rfl ?_
          refine h_zge (tg := 88) (pc' := 80) rfl rfl rfl hz13 (fun c14 => ?_) (fun c14 => absurd c14 (by omega))
          refine h_iload_n (pc' := 89) rfl rfl rfl ?_
          refine h_bipush (pc' := 91) (x := (Int32.ofInt 97)) rfl rfl cb_97 ?_
          refine h_clt (tg := 160) (pc' := 94) rfl rfl rfl hz13 ci_97 (fun c15 => ?_) (fun c15 => ?_)
          · refine h_iload_n (pc' := 161) rfl rfl rfl ?_
            refine h_bipush (pc' := 163) (x := (Int32.ofInt 48)) rfl rfl cb_48 ?_
            refine h_clt (tg := 273) (pc' := 166) rfl rfl rfl hz13 ci_48 (fun c16 => ?_) (fun c16 => ?_)
            · refine h_aload_n (pc' := 274) rfl rfl rfl ?_
              refine h_dup (pc' := 275) rfl rfl rfl ?_
              refine h_getI (pc' := 278) (v := s0 64 2) rfl rfl rfl rfl rfl es6.1 (fun z17 hz17 => ?_)
              have tz17 := tf_64_2 I0
              refine h_iconst (pc' := 279) (x := (Int32.ofInt 1)) rfl rfl rfl ?_
              refine h_iadd (pc' := 280) rfl rfl hz17 ci_1 rfl (by omega) (by omega) (fun z18 hz18 => ?_)
              refine h_put (pc' := 283) rfl rfl rfl rfl rfl rfl hz18 rfl (h_fgt (E := fun s => s 64 2 = ((s0 64 2) + 1) ∧ s 64 4 = (s0 64 2) ∧ s 64 3 = s0 64 3 ∧ s 64 5 = 0 ∧ s 63 2 = s0 63 2) _ (if_64_2 Is6 (by omega)) (Fs6.up rfl) ⟨rfl, es6.2.1, es6.2.2.1, es6.2.2.2.1, es6.2.2.2.2⟩ (fun s19 Is19 Fs19 (es19 : s19 64 2 = ((s0 64 2) + 1) ∧ s19 64 4 = (s0 64 2) ∧ s19 64 3 = s0 64 3 ∧ s19 64 5 = 0 ∧ s19 63 2 = s0 63 2) => ?_))
              clear es6
              refine h_aload_n (pc' := 284) rfl rfl rfl ?_
              refine h_iload_n (pc' := 285) rfl rfl rfl ?_
              refine h_bipush (pc' := 287) (x := (Int32.ofInt 59)) rfl rfl cb_59 ?_
              refine h_cne (tg := 294) (pc' := 290) rfl rfl rfl hz13 ci_59 (fun c20 => ?_) (fun c20 => absurd c20 (by omega))
              refine h_iconst (pc' := 295) (x := (Int32.ofInt 4)) rfl rfl rfl ?_
              refine h_put (pc' := 298) rfl rfl rfl rfl rfl rfl ci_4 rfl (h_fgt (E := fun s => s 64 2 = ((s0 64 2) + 1) ∧ s 64 4 = (s0 64 2) ∧ s 64 3 = 4 ∧ s 64 5 = 0 ∧ s 63 2 = s0 63 2) _ (if_64_3 Is19 (by omega)) (Fs19.up rfl) ⟨es19.1, es19.2.1, rfl, es19.2.2.2.1, es19.2.2.2.2⟩ (fun s21 Is21 Fs21 (es21 : s21 64 2 = ((s0 64 2) + 1) ∧ s21 64 4 = (s0 64 2) ∧ s21 64 3 = 4 ∧ s21 64 5 = 0 ∧ s21 63 2 = s0 63 2) => ?_))
              clear es19
              exact h_vret rfl rfl (kk _ Is21 Fs21 (by omega) (by omega))
            · refine h_iload_n (pc' := 167) rfl rfl rfl ?_
              refine h_bipush (pc' := 169) (x := (Int32.ofInt 57)) rfl rfl cb_57 ?_
              refine h_cgt (tg := 273) (pc' := 172) rfl rfl rfl hz13 ci_57 (fun c22 => ?_) (fun c22 => ?_)
              · refine h_aload_n (pc' := 274) rfl rfl rfl ?_
                refine h_dup (pc' := 275) rfl rfl rfl ?_
                refine h_getI (pc' := 278) (v := s0 64 2) rfl rfl rfl rfl rfl es6.1 (fun z23 hz23 => ?_)
                have tz23 := tf_64_2 I0
                refine h_iconst (pc' := 279) (x := (Int32.ofInt 1)) rfl rfl rfl ?_
                refine h_iadd (pc' := 280) rfl rfl hz23 ci_1 rfl (by omega) (by omega) (fun z24 hz24 => ?_)
                refine h_put (pc' := 283) rfl rfl rfl rfl rfl rfl hz24 rfl (h_fgt (E := fun s => s 64 2 = ((s0 64 2) + 1) ∧ s 64 4 = (s0 64 2) ∧ s 64 3 = s0 64 3 ∧ s 64 5 = 0 ∧ s 63 2 = s0 63 2) _ (if_64_2 Is6 (by omega)) (Fs6.up rfl) ⟨rfl, es6.2.1, es6.2.2.1, es6.2.2.2.1, es6.2.2.2.2⟩ (fun s25 Is25 Fs25 (es25 : s25 64 2 = ((s0 64 2) + 1) ∧ s25 64 4 = (s0 64 2) ∧ s25 64 3 = s0 64 3 ∧ s25 64 5 = 0 ∧ s25 63 2 = s0 63 2) => ?_))
                clear es6
                refine h_aload_n (pc' := 284) rfl rfl rfl ?_
                refine h_iload_n (pc' := 285) rfl rfl rfl ?_
                refine h_bipush (pc' := 287) (x := (Int32.ofInt 59)) rfl rfl cb_59 ?_
                refine h_cne (tg := 294) (pc' := 290) rfl rfl rfl hz13 ci_59 (fun c26 => ?_) (fun c26 => ?_)
                · refine h_iconst (pc' := 295) (x := (Int32.ofInt 4)) rfl rfl rfl ?_
                  refine h_put (pc' := 298) rfl rfl rfl rfl rfl rfl ci_4 rfl (h_fgt (E := fun s => s 64 2 = ((s0 64 2) + 1) ∧ s 64 4 = (s0 64 2) ∧ s 64 3 = 4 ∧ s 64 5 = 0 ∧ s 63 2 = s0 63 2) _ (if_64_3 Is25 (by omega)) (Fs25.up rfl) ⟨es25.1, es25.2.1, rfl, es25.2.2.2.1, es25.2.2.2.2⟩ (fun s27 Is27 Fs27 (es27 : s27 64 2 = ((s0 64 2) + 1) ∧ s27 64 4 = (s0 64 2) ∧ s27 64 3 = 4 ∧ s27 64 5 = 0 ∧ s27 63 2 = s0 63 2) => ?_))
                  clear es25
                  exact h_vret rfl rfl (kk _ Is27 Fs27 (by omega) (by omega))
                · refine h_iconst (pc' := 291) (x := (Int32.ofInt 3)) rfl rfl rfl ?_
                  refine h_goto (pc' := 295) rfl rfl ?_
                  refine h_put (pc' := 298) rfl rfl rfl rfl rfl rfl ci_3 rfl (h_fgt (E := fun s => s 64 2 = ((s0 64 2) + 1) ∧ s 64 4 = (s0 64 2) ∧ s 64 3 = 3 ∧ s 64 5 = 0 ∧ s 63 2 = s0 63 2) _ (if_64_3 Is25 (by omega)) (Fs25.up rfl) ⟨es25.1, es25.2.1, rfl, es25.2.2.2.1, es25.2.2.2.2⟩ (fun s28 Is28 Fs28 (es28 : s28 64 2 = ((s0 64 2) + 1) ∧ s28 64 4 = (s0 64 2) ∧ s28 64 3 = 3 ∧ s28 64 5 = 0 ∧ s28 63 2 = s0 63 2) => ?_))
                  clear es25
                  exact h_vret rfl rfl (kk _ Is28 Fs28 (by omega) (by omega))
              · exact h_wk [(0, .ref 64), (1, .int z13)] ⟨rfl, rfl, trivial⟩ (ih.2.2 _ Is6 Fs6 z13 _ hz13 (by omega) (by omega) (by omega) (by omega) (by omega) (by omega) (by omega))
          · refine h_iload_n (pc' := 95) rfl rfl rfl ?_
            refine h_bipush (pc' := 97) (x := (Int32.ofInt 122)) rfl rfl cb_122 ?_
            refine h_cgt (tg := 160) (pc' := 100) rfl rfl rfl hz13 ci_122 (fun c29 => ?_) (fun c29 => ?_)
            · refine h_iload_n (pc' := 161) rfl rfl rfl ?_
              refine h_bipush (pc' := 163) (x := (Int32.ofInt 48)) rfl rfl cb_48 ?_
              refine h_clt (tg := 273) (pc' := 166) rfl rfl rfl hz13 ci_48 (fun c30 => absurd c30 (by omega)) (fun c30 => ?_)
              refine h_iload_n (pc' := 167) rfl rfl rfl ?_
              refine h_bipush (pc' := 169) (x := (Int32.ofInt 57)) rfl rfl cb_57 ?_
              refine h_cgt (tg := 273) (pc' := 172) rfl rfl rfl hz13 ci_57 (fun c31 => ?_) (fun c31 => absurd c31 (by omega))
              refine h_aload_n (pc' := 274) rfl rfl rfl ?_
              refine h_dup (pc' := 275) rfl rfl rfl ?_
              refine h_getI (pc' := 278) (v := s0 64 2) rfl rfl rfl rfl rfl es6.1 (fun z32 hz32 => ?_)
              have tz32 := tf_64_2 I0
              refine h_iconst (pc' := 279) (x := (Int32.ofInt 1)) rfl rfl rfl ?_
              refine h_iadd (pc' := 280) rfl rfl hz32 ci_1 rfl (by omega) (by omega) (fun z33 hz33 => ?_)
              refine h_put (pc' := 283) rfl rfl rfl rfl rfl rfl hz33 rfl (h_fgt (E := fun s => s 64 2 = ((s0 64 2) + 1) ∧ s 64 4 = (s0 64 2) ∧ s 64 3 = s0 64 3 ∧ s 64 5 = 0 ∧ s 63 2 = s0 63 2) _ (if_64_2 Is6 (by omega)) (Fs6.up rfl) ⟨rfl, es6.2.1, es6.2.2.1, es6.2.2.2.1, es6.2.2.2.2⟩ (fun s34 Is34 Fs34 (es34 : s34 64 2 = ((s0 64 2) + 1) ∧ s34 64 4 = (s0 64 2) ∧ s34 64 3 = s0 64 3 ∧ s34 64 5 = 0 ∧ s34 63 2 = s0 63 2) => ?_))
              clear es6
              refine h_aload_n (pc' := 284) rfl rfl rfl ?_
              refine h_iload_n (pc' := 285) rfl rfl rfl ?_
              refine h_bipush (pc' := 287) (x := (Int32.ofInt 59)) rfl rfl cb_59 ?_
              refine h_cne (tg := 294) (pc' := 290) rfl rfl rfl hz13 ci_59 (fun c35 => ?_) (fun c35 => absurd c35 (by omega))
              refine h_iconst (pc' := 295) (x := (Int32.ofInt 4)) rfl rfl rfl ?_
              refine h_put (pc' := 298) rfl rfl rfl rfl rfl rfl ci_4 rfl (h_fgt (E := fun s => s 64 2 = ((s0 64 2) + 1) ∧ s 64 4 = (s0 64 2) ∧ s 64 3 = 4 ∧ s 64 5 = 0 ∧ s 63 2 = s0 63 2) _ (if_64_3 Is34 (by omega)) (Fs34.up rfl) ⟨es34.1, es34.2.1, rfl, es34.2.2.2.1, es34.2.2.2.2⟩ (fun s36 Is36 Fs36 (es36 : s36 64 2 = ((s0 64 2) + 1) ∧ s36 64 4 = (s0 64 2) ∧ s36 64 3 = 4 ∧ s36 64 5 = 0 ∧ s36 63 2 = s0 63 2) => ?_))
              clear es34
              exact h_vret rfl rfl (kk _ Is36 Fs36 (by omega) (by omega))
            · exact h_wk [(0, .ref 64), (1, .int z13)] ⟨rfl, rfl, trivial⟩ (ih.2.1 _ Is6 Fs6 z13 _ hz13 (by omega) (by omega) (by omega))
      · refine h_aload_n (pc' := 12) rfl rfl rfl ?_
        refine h_getR (pc' := 15) rfl rfl rfl rfl rfl ?_
        refine h_aload_n (pc' := 16) rfl rfl rfl ?_
        refine h_getI (pc' := 19) (v := s0 64 2) rfl rfl rfl rfl rfl rfl (fun z37 hz37 => ?_)
        have tz37 := tf_64_2 I0
        refine h_iald (pc' := 20) (v := σ 65 (s0 64 2)) rfl rfl rfl hz37 (by omega) (by omega) (F0_ 65 _ rfl) (fun z38 hz38 => ?_)
        have tz38 := ty_65 hI (s0 64 2)
        refine h_bipush (pc' := 22) (x := (Int32.ofInt 32)) rfl rfl cb_32 ?_
        refine h_cne (tg := 38) (pc' := 25) rfl rfl rfl hz38 ci_32 (fun c39 => ?_) (fun c39 => ?_)
        · refine h_aload_n (pc' := 39) rfl rfl rfl ?_
          refine h_aload_n (pc' := 40) rfl rfl rfl ?_
          refine h_getI (pc' := 43) (v := s0 64 2) rfl rfl rfl rfl rfl rfl (fun z40 hz40 => ?_)
          have tz40 := tf_64_2 I0
          refine h_put (pc' := 46) rfl rfl rfl rfl rfl rfl hz40 rfl (h_fgt (E := fun s => s 64 2 = s0 64 2 ∧ s 64 4 = (s0 64 2) ∧ s 64 3 = s0 64 3 ∧ s 64 5 = s0 64 5 ∧ s 63 2 = s0 63 2) _ (if_64_4 I0 (by omega)) (F0_.up rfl) ⟨rfl, rfl, rfl, rfl, rfl⟩ (fun s41 Is41 Fs41 (es41 : s41 64 2 = s0 64 2 ∧ s41 64 4 = (s0 64 2) ∧ s41 64 3 = s0 64 3 ∧ s41 64 5 = s0 64 5 ∧ s41 63 2 = s0 63 2) => ?_))
          refine h_aload_n (pc' := 47) rfl rfl rfl ?_
          refine h_iconst (pc' := 48) (x := (Int32.ofInt 0)) rfl rfl rfl ?_
          refine h_put (pc' := 51) rfl rfl rfl rfl rfl rfl ci_0 rfl (h_fgt (E := fun s => s 64 2 = s0 64 2 ∧ s 64 4 = (s0 64 2) ∧ s 64 3 = s0 64 3 ∧ s 64 5 = 0 ∧ s 63 2 = s0 63 2) _ (if_64_5 Is41 (h_rgv ci_0)) (Fs41.up rfl) ⟨es41.1, es41.2.1, es41.2.2.1, rfl, es41.2.2.2.2⟩ (fun s42 Is42 Fs42 (es42 : s42 64 2 = s0 64 2 ∧ s42 64 4 = (s0 64 2) ∧ s42 64 3 = s0 64 3 ∧ s42 64 5 = 0 ∧ s42 63 2 = s0 63 2) => ?_))
          clear es41
          refine h_aload_n (pc' := 52) rfl rfl rfl ?_
          refine h_getI (pc' := 55) (v := s0 64 2) rfl rfl rfl rfl rfl es42.1 (fun z43 hz43 => ?_)
          have tz43 := tf_64_2 I0
          refine h_aload_n (pc' := 56) rfl rfl rfl ?_
          refine h_getI (pc' := 59) (v := σ 64 1) rfl rfl rfl rfl rfl (Fs42 64 1 rfl) (fun z44 hz44 => ?_)
          have tz44 := tf_64_1 hI
          refine h_cge (tg := 74) (pc' := 62) rfl rfl rfl hz43 hz44 (fun c45 => ?_) (fun c45 => ?_)
          · refine h_iconst (pc' := 75) (x := (Int32.ofInt (-1))) rfl rfl rfl ?_
            refine h_istore_n (pc' := 76) (M := [(1, .int (Int32.ofInt (-1))), (0, .ref 64)]) rfl rfl rfl rfl ?_
            refine h_iload_n (pc' := 77) rfl rfl rfl ?_
            refine h_zge (tg := 88) (pc' := 80) rfl rfl rfl ci_m1 (fun c46 => absurd c46 (by omega)) (fun c46 => ?_)
            refine h_aload_n (pc' := 81) rfl rfl rfl ?_
            refine h_iconst (pc' := 82) (x := (Int32.ofInt 0)) rfl rfl rfl ?_
            refine h_put (pc' := 85) rfl rfl rfl rfl rfl rfl ci_0 rfl (h_fgt (E := fun s => s 64 2 = s0 64 2 ∧ s 64 4 = (s0 64 2) ∧ s 64 3 = 0 ∧ s 64 5 = 0 ∧ s 63 2 = s0 63 2) _ (if_64_3 Is42 (by omega)) (Fs42.up rfl) ⟨es42.1, es42.2.1, rfl, es42.2.2.2.1, es42.2.2.2.2⟩ (fun s47 Is47 Fs47 (es47 : s47 64 2 = s0 64 2 ∧ s47 64 4 = (s0 64 2) ∧ s47 64 3 = 0 ∧ s47 64 5 = 0 ∧ s47 63 2 = s0 63 2) => ?_))
            clear es42
            refine h_goto (pc' := 298) rfl rfl ?_
            exact h_vret rfl rfl (kk _ Is47 Fs47 (by omega) (by omega))
          · refine h_aload_n (pc' := 63) rfl rfl rfl ?_
            refine h_getR (pc' := 66) rfl rfl rfl rfl rfl ?_
            refine h_aload_n (pc' := 67) rfl rfl rfl ?_
            refine h_getI (pc' := 70) (v := s0 64 2) rfl rfl rfl rfl rfl es42.1 (fun z48 hz48 => ?_)
            have tz48 := tf_64_2 I0
            refine h_iald (pc' := 71) (v := σ 65 (s0 64 2)) rfl rfl rfl hz48 (by omega) (by omega) (Fs42 65 _ rfl) (fun z49 hz49 => ?_)
            have tz49 := ty_65 hI (s0 64 2)
            refine h_goto (pc' := 75) rfl rfl ?_
            refine h_istore_n (pc' := 76) (M := [(1, .int z49), (0, .ref 64)]) rfl rfl rfl rfl ?_
            refine h_iload_n (pc' := 77) rfl rfl rfl ?_
            refine h_zge (tg := 88) (pc' := 80) rfl rfl rfl hz49 (fun c50 => ?_) (fun c50 => absurd c50 (by omega))
            refine h_iload_n (pc' := 89) rfl rfl rfl ?_
            refine h_bipush (pc' := 91) (x := (Int32.ofInt 97)) rfl rfl cb_97 ?_
            refine h_clt (tg := 160) (pc' := 94) rfl rfl rfl hz49 ci_97 (fun c51 => ?_) (fun c51 => ?_)
            · refine h_iload_n (pc' := 161) rfl rfl rfl ?_
              refine h_bipush (pc' := 163) (x := (Int32.ofInt 48)) rfl rfl cb_48 ?_
              refine h_clt (tg := 273) (pc' := 166) rfl rfl rfl hz49 ci_48 (fun c52 => ?_) (fun c52 => ?_)
              · refine h_aload_n (pc' := 274) rfl rfl rfl ?_
                refine h_dup (pc' := 275) rfl rfl rfl ?_
                refine h_getI (pc' := 278) (v := s0 64 2) rfl rfl rfl rfl rfl es42.1 (fun z53 hz53 => ?_)
                have tz53 := tf_64_2 I0
                refine h_iconst (pc' := 279) (x := (Int32.ofInt 1)) rfl rfl rfl ?_
                refine h_iadd (pc' := 280) rfl rfl hz53 ci_1 rfl (by omega) (by omega) (fun z54 hz54 => ?_)
                refine h_put (pc' := 283) rfl rfl rfl rfl rfl rfl hz54 rfl (h_fgt (E := fun s => s 64 2 = ((s0 64 2) + 1) ∧ s 64 4 = (s0 64 2) ∧ s 64 3 = s0 64 3 ∧ s 64 5 = 0 ∧ s 63 2 = s0 63 2) _ (if_64_2 Is42 (by omega)) (Fs42.up rfl) ⟨rfl, es42.2.1, es42.2.2.1, es42.2.2.2.1, es42.2.2.2.2⟩ (fun s55 Is55 Fs55 (es55 : s55 64 2 = ((s0 64 2) + 1) ∧ s55 64 4 = (s0 64 2) ∧ s55 64 3 = s0 64 3 ∧ s55 64 5 = 0 ∧ s55 63 2 = s0 63 2) => ?_))
                clear es42
                refine h_aload_n (pc' := 284) rfl rfl rfl ?_
                refine h_iload_n (pc' := 285) rfl rfl rfl ?_
                refine h_bipush (pc' := 287) (x := (Int32.ofInt 59)) rfl rfl cb_59 ?_
                refine h_cne (tg := 294) (pc' := 290) rfl rfl rfl hz49 ci_59 (fun c56 => ?_) (fun c56 => absurd c56 (by omega))
                refine h_iconst (pc' := 295) (x := (Int32.ofInt 4)) rfl rfl rfl ?_
                refine h_put (pc' := 298) rfl rfl rfl rfl rfl rfl ci_4 rfl (h_fgt (E := fun s => s 64 2 = ((s0 64 2) + 1) ∧ s 64 4 = (s0 64 2) ∧ s 64 3 = 4 ∧ s 64 5 = 0 ∧ s 63 2 = s0 63 2) _ (if_64_3 Is55 (by omega)) (Fs55.up rfl) ⟨es55.1, es55.2.1, rfl, es55.2.2.2.1, es55.2.2.2.2⟩ (fun s57 Is57 Fs57 (es57 : s57 64 2 = ((s0 64 2) + 1) ∧ s57 64 4 = (s0 64 2) ∧ s57 64 3 = 4 ∧ s57 64 5 = 0 ∧ s57 63 2 = s0 63 2) => ?_))
                clear es55
                exact h_vret rfl rfl (kk _ Is57 Fs57 (by omega) (by omega))
              · refine h_iload_n (pc' := 167) rfl rfl rfl ?_
                refine h_bipush (pc' := 169) (x := (Int32.ofInt 57)) rfl rfl cb_57 ?_
                refine h_cgt (tg := 273) (pc' := 172) rfl rfl rfl hz49 ci_57 (fun c58 => ?_) (fun c58 => ?_)
                · refine h_aload_n (pc' := 274) rfl rfl rfl ?_
                  refine h_dup (pc' := 275) rfl rfl rfl ?_
                  refine h_getI (pc' := 278) (v := s0 64 2) rfl rfl rfl rfl rfl es42.1 (fun z59 hz59 => ?_)
                  have tz59 := tf_64_2 I0
                  refine h_iconst (pc' := 279) (x := (Int32.ofInt 1)) rfl rfl rfl ?_
                  refine h_iadd (pc' := 280) rfl rfl hz59 ci_1 rfl (by omega) (by omega) (fun z60 hz60 => ?_)
                  refine h_put (pc' := 283) rfl rfl rfl rfl rfl rfl hz60 rfl (h_fgt (E := fun s => s 64 2 = ((s0 64 2) + 1) ∧ s 64 4 = (s0 64 2) ∧ s 64 3 = s0 64 3 ∧ s 64 5 = 0 ∧ s 63 2 = s0 63 2) _ (if_64_2 Is42 (by omega)) (Fs42.up rfl) ⟨rfl, es42.2.1, es42.2.2.1, es42.2.2.2.1, es42.2.2.2.2⟩ (fun s61 Is61 Fs61 (es61 : s61 64 2 = ((s0 64 2) + 1) ∧ s61 64 4 = (s0 64 2) ∧ s61 64 3 = s0 64 3 ∧ s61 64 5 = 0 ∧ s61 63 2 = s0 63 2) => ?_))
                  clear es42
                  refine h_aload_n (pc' := 284) rfl rfl rfl ?_
                  refine h_iload_n (pc' := 285) rfl rfl rfl ?_
                  refine h_bipush (pc' := 287) (x := (Int32.ofInt 59)) rfl rfl cb_59 ?_
                  refine h_cne (tg := 294) (pc' := 290) rfl rfl rfl hz49 ci_59 (fun c62 => ?_) (fun c62 => ?_)
                  · refine h_iconst (pc' := 295) (x := (Int32.ofInt 4)) rfl rfl rfl ?_
                    refine h_put (pc' := 298) rfl rfl rfl rfl rfl rfl ci_4 rfl (h_fgt (E := fun s => s 64 2 = ((s0 64 2) + 1) ∧ s 64 4 = (s0 64 2) ∧ s 64 3 = 4 ∧ s 64 5 = 0 ∧ s 63 2 = s0 63 2) _ (if_64_3 Is61 (by omega)) (Fs61.up rfl) ⟨es61.1, es61.2.1, rfl, es61.2.2.2.1, es61.2.2.2.2⟩ (fun s63 Is63 Fs63 (es63 : s63 64 2 = ((s0 64 2) + 1) ∧ s63 64 4 = (s0 64 2) ∧ s63 64 3 = 4 ∧ s63 64 5 = 0 ∧ s63 63 2 = s0 63 2) => ?_))
                    clear es61
                    exact h_vret rfl rfl (kk _ Is63 Fs63 (by omega) (by omega))
                  · refine h_iconst (pc' := 291) (x := (Int32.ofInt 3)) rfl rfl rfl ?_
                    refine h_goto (pc' := 295) rfl rfl ?_
                    refine h_put (pc' := 298) rfl rfl rfl rfl rfl rfl ci_3 rfl (h_fgt (E := fun s => s 64 2 = ((s0 64 2) + 1) ∧ s 64 4 = (s0 64 2) ∧ s 64 3 = 3 ∧ s 64 5 = 0 ∧ s 63 2 = s0 63 2) _ (if_64_3 Is61 (by omega)) (Fs61.up rfl) ⟨es61.1, es61.2.1, rfl, es61.2.2.2.1, es61.2.2.2.2⟩ (fun s64 Is64 Fs64 (es64 : s64 64 2 = ((s0 64 2) + 1) ∧ s64 64 4 = (s0 64 2) ∧ s64 64 3 = 3 ∧ s64 64 5 = 0 ∧ s64 63 2 = s0 63 2) => ?_))
                    clear es61
                    exact h_vret rfl rfl (kk _ Is64 Fs64 (by omega) (by omega))
                · exact h_wk [(0, .ref 64), (1, .int z49)] ⟨rfl, rfl, trivial⟩ (ih.2.2 _ Is42 Fs42 z49 _ hz49 (by omega) (by omega) (by omega) (by omega) (by omega) (by omega) (by omega))
            · refine h_iload_n (pc' := 95) rfl rfl rfl ?_
              refine h_bipush (pc' := 97) (x := (Int32.ofInt 122)) rfl rfl cb_122 ?_
              refine h_cgt (tg := 160) (pc' := 100) rfl rfl rfl hz49 ci_122 (fun c65 => ?_) (fun c65 => ?_)
              · refine h_iload_n (pc' := 161) rfl rfl rfl ?_
                refine h_bipush (pc' := 163) (x := (Int32.ofInt 48)) rfl rfl cb_48 ?_
                refine h_clt (tg := 273) (pc' := 166) rfl rfl rfl hz49 ci_48 (fun c66 => absurd c66 (by omega)) (fun c66 => ?_)
                refine h_iload_n (pc' := 167) rfl rfl rfl ?_
                refine h_bipush (pc' := 169) (x := (Int32.ofInt 57)) rfl rfl cb_57 ?_
                refine h_cgt (tg := 273) (pc' := 172) rfl rfl rfl hz49 ci_57 (fun c67 => ?_) (fun c67 => absurd c67 (by omega))
                refine h_aload_n (pc' := 274) rfl rfl rfl ?_
                refine h_dup (pc' := 275) rfl rfl rfl ?_
                refine h_getI (pc' := 278) (v := s0 64 2) rfl rfl rfl rfl rfl es42.1 (fun z68 hz68 => ?_)
                have tz68 := tf_64_2 I0
                refine h_iconst (pc' := 279) (x := (Int32.ofInt 1)) rfl rfl rfl ?_
                refine h_iadd (pc' := 280) rfl rfl hz68 ci_1 rfl (by omega) (by omega) (fun z69 hz69 => ?_)
                refine h_put (pc' := 283) rfl rfl rfl rfl rfl rfl hz69 rfl (h_fgt (E := fun s => s 64 2 = ((s0 64 2) + 1) ∧ s 64 4 = (s0 64 2) ∧ s 64 3 = s0 64 3 ∧ s 64 5 = 0 ∧ s 63 2 = s0 63 2) _ (if_64_2 Is42 (by omega)) (Fs42.up rfl) ⟨rfl, es42.2.1, es42.2.2.1, es42.2.2.2.1, es42.2.2.2.2⟩ (fun s70 Is70 Fs70 (es70 : s70 64 2 = ((s0 64 2) + 1) ∧ s70 64 4 = (s0 64 2) ∧ s70 64 3 = s0 64 3 ∧ s70 64 5 = 0 ∧ s70 63 2 = s0 63 2) => ?_))
                clear es42
                refine h_aload_n (pc' := 284) rfl rfl rfl ?_
                refine h_iload_n (pc' := 285) rfl rfl rfl ?_
                refine h_bipush (pc' := 287) (x := (Int32.ofInt 59)) rfl rfl cb_59 ?_
                refine h_cne (tg := 294) (pc' := 290) rfl rfl rfl hz49 ci_59 (fun c71 => ?_) (fun c71 => absurd c71 (by omega))
                refine h_iconst (pc' := 295) (x := (Int32.ofInt 4)) rfl rfl rfl ?_
                refine h_put (pc' := 298) rfl rfl rfl rfl rfl rfl ci_4 rfl (h_fgt (E := fun s => s 64 2 = ((s0 64 2) + 1) ∧ s 64 4 = (s0 64 2) ∧ s 64 3 = 4 ∧ s 64 5 = 0 ∧ s 63 2 = s0 63 2) _ (if_64_3 Is70 (by omega)) (Fs70.up rfl) ⟨es70.1, es70.2.1, rfl, es70.2.2.2.1, es70.2.2.2.2⟩ (fun s72 Is72 Fs72 (es72 : s72 64 2 = ((s0 64 2) + 1) ∧ s72 64 4 = (s0 64 2) ∧ s72 64 3 = 4 ∧ s72 64 5 = 0 ∧ s72 63 2 = s0 63 2) => ?_))
                clear es70
                exact h_vret rfl rfl (kk _ Is72 Fs72 (by omega) (by omega))
              · exact h_wk [(0, .ref 64), (1, .int z49)] ⟨rfl, rfl, trivial⟩ (ih.2.1 _ Is42 Fs42 z49 _ hz49 (by omega) (by omega) (by omega))
        · refine h_aload_n (pc' := 26) rfl rfl rfl ?_
          refine h_dup (pc' := 27) rfl rfl rfl ?_
          refine h_getI (pc' := 30) (v := s0 64 2) rfl rfl rfl rfl rfl rfl (fun z73 hz73 => ?_)
          have tz73 := tf_64_2 I0
          refine h_iconst (pc' := 31) (x := (Int32.ofInt 1)) rfl rfl rfl ?_
          refine h_iadd (pc' := 32) rfl rfl hz73 ci_1 rfl (by omega) (by omega) (fun z74 hz74 => ?_)
          refine h_put (pc' := 35) rfl rfl rfl rfl rfl rfl hz74 rfl (h_fgt (E := fun s => s 64 2 = ((s0 64 2) + 1) ∧ s 64 4 = s0 64 4 ∧ s 64 3 = s0 64 3 ∧ s 64 5 = s0 64 5 ∧ s 63 2 = s0 63 2) _ (if_64_2 I0 (by omega)) (F0_.up rfl) ⟨rfl, rfl, rfl, rfl, rfl⟩ (fun s75 Is75 Fs75 (es75 : s75 64 2 = ((s0 64 2) + 1) ∧ s75 64 4 = s0 64 4 ∧ s75 64 3 = s0 64 3 ∧ s75 64 5 = s0 64 5 ∧ s75 63 2 = s0 63 2) => ?_))
          refine h_goto (pc' := 0) rfl rfl ?_
          exact h_wk [(0, .ref 64)] ⟨rfl, trivial⟩ (ih.1 _ Is75 Fs75  (by omega) (by omega))
    · intro s0 I0 F0_ y1 b1 hy1 ry1 ex0 hm; have gh0 := tf_64_2 I0
      refine h_aload_n (pc' := 101) rfl rfl rfl ?_
      refine h_getI (pc' := 104) (v := s0 64 2) rfl rfl rfl rfl rfl rfl (fun z1 hz1 => ?_)
      have tz1 := tf_64_2 I0
      refine h_aload_n (pc' := 105) rfl rfl rfl ?_
      refine h_getI (pc' := 108) (v := σ 64 1) rfl rfl rfl rfl rfl (F0_ 64 1 rfl) (fun z2 hz2 => ?_)
      have tz2 := tf_64_1 hI
      refine h_cge (tg := 152) (pc' := 111) rfl rfl rfl hz1 hz2 (fun c3 => ?_) (fun c3 => ?_)
      · refine h_aload_n (pc' := 153) rfl rfl rfl ?_
        refine h_iconst (pc' := 154) (x := (Int32.ofInt 1)) rfl rfl rfl ?_
        refine h_put (pc' := 157) rfl rfl rfl rfl rfl rfl ci_1 rfl (h_fgt (E := fun s => s 64 2 = s0 64 2 ∧ s 64 4 = s0 64 4 ∧ s 64 3 = 1 ∧ s 64 5 = s0 64 5 ∧ s 63 2 = s0 63 2) _ (if_64_3 I0 (by omega)) (F0_.up rfl) ⟨rfl, rfl, rfl, rfl, rfl⟩ (fun s4 Is4 Fs4 (es4 : s4 64 2 = s0 64 2 ∧ s4 64 4 = s0 64 4 ∧ s4 64 3 = 1 ∧ s4 64 5 = s0 64 5 ∧ s4 63 2 = s0 63 2) => ?_))
        refine h_goto (pc' := 298) rfl rfl ?_
        exact h_vret rfl rfl (kk _ Is4 Fs4 (by omega) (by omega))
      · refine h_aload_n (pc' := 112) rfl rfl rfl ?_
        refine h_getR (pc' := 115) rfl rfl rfl rfl rfl ?_
        refine h_aload_n (pc' := 116) rfl rfl rfl ?_
        refine h_getI (pc' := 119) (v := s0 64 2) rfl rfl rfl rfl rfl rfl (fun z5 hz5 => ?_)
        have tz5 := tf_64_2 I0
        refine h_iald (pc' := 120) (v := σ 65 (s0 64 2)) rfl rfl rfl hz5 (by omega) (by omega) (F0_ 65 _ rfl) (fun z6 hz6 => ?_)
        have tz6 := ty_65 hI (s0 64 2)
        refine h_bipush (pc' := 122) (x := (Int32.ofInt 97)) rfl rfl cb_97 ?_
        refine h_clt (tg := 152) (pc' := 125) rfl rfl rfl hz6 ci_97 (fun c7 => ?_) (fun c7 => ?_)
        · refine h_aload_n (pc' := 153) rfl rfl rfl ?_
          refine h_iconst (pc' := 154) (x := (Int32.ofInt 1)) rfl rfl rfl ?_
          refine h_put (pc' := 157) rfl rfl rfl rfl rfl rfl ci_1 rfl (h_fgt (E := fun s => s 64 2 = s0 64 2 ∧ s 64 4 = s0 64 4 ∧ s 64 3 = 1 ∧ s 64 5 = s0 64 5 ∧ s 63 2 = s0 63 2) _ (if_64_3 I0 (by omega)) (F0_.up rfl) ⟨rfl, rfl, rfl, rfl, rfl⟩ (fun s8 Is8 Fs8 (es8 : s8 64 2 = s0 64 2 ∧ s8 64 4 = s0 64 4 ∧ s8 64 3 = 1 ∧ s8 64 5 = s0 64 5 ∧ s8 63 2 = s0 63 2) => ?_))
          refine h_goto (pc' := 298) rfl rfl ?_
          exact h_vret rfl rfl (kk _ Is8 Fs8 (by omega) (by omega))
        · refine h_aload_n (pc' := 126) rfl rfl rfl ?_
          refine h_getR (pc' := 129) rfl rfl rfl rfl rfl ?_
          refine h_aload_n (pc' := 130) rfl rfl rfl ?_
          refine h_getI (pc' := 133) (v := s0 64 2) rfl rfl rfl rfl rfl rfl (fun z9 hz9 => ?_)
          have tz9 := tf_64_2 I0
          refine h_iald (pc' := 134) (v := σ 65 (s0 64 2)) rfl rfl rfl hz9 (by omega) (by omega) (F0_ 65 _ rfl) (fun z10 hz10 => ?_)
          have tz10 := ty_65 hI (s0 64 2)
          refine h_bipush (pc' := 136) (x := (Int32.ofInt 122)) rfl rfl cb_122 ?_
          refine h_cgt (tg := 152) (pc' := 139) rfl rfl rfl hz10 ci_122 (fun c11 => ?_) (fun c11 => ?_)
          · refine h_aload_n (pc' := 153) rfl rfl rfl ?_
            refine h_iconst (pc' := 154) (x := (Int32.ofInt 1)) rfl rfl rfl ?_
            refine h_put (pc' := 157) rfl rfl rfl rfl rfl rfl ci_1 rfl (h_fgt (E := fun s => s 64 2 = s0 64 2 ∧ s 64 4 = s0 64 4 ∧ s 64 3 = 1 ∧ s 64 5 = s0 64 5 ∧ s 63 2 = s0 63 2) _ (if_64_3 I0 (by omega)) (F0_.up rfl) ⟨rfl, rfl, rfl, rfl, rfl⟩ (fun s12 Is12 Fs12 (es12 : s12 64 2 = s0 64 2 ∧ s12 64 4 = s0 64 4 ∧ s12 64 3 = 1 ∧ s12 64 5 = s0 64 5 ∧ s12 63 2 = s0 63 2) => ?_))
            refine h_goto (pc' := 298) rfl rfl ?_
            exact h_vret rfl rfl (kk _ Is12 Fs12 (by omega) (by omega))
          · refine h_aload_n (pc' := 140) rfl rfl rfl ?_
            refine h_dup (pc' := 141) rfl rfl rfl ?_
            refine h_getI (pc' := 144) (v := s0 64 2) rfl rfl rfl rfl rfl rfl (fun z13 hz13 => ?_)
            have tz13 := tf_64_2 I0
            refine h_iconst (pc' := 145) (x := (Int32.ofInt 1)) rfl rfl rfl ?_
            refine h_iadd (pc' := 146) rfl rfl hz13 ci_1 rfl (by omega) (by omega) (fun z14 hz14 => ?_)
            refine h_put (pc' := 149) rfl rfl rfl rfl rfl rfl hz14 rfl (h_fgt (E := fun s => s 64 2 = ((s0 64 2) + 1) ∧ s 64 4 = s0 64 4 ∧ s 64 3 = s0 64 3 ∧ s 64 5 = s0 64 5 ∧ s 63 2 = s0 63 2) _ (if_64_2 I0 (by omega)) (F0_.up rfl) ⟨rfl, rfl, rfl, rfl, rfl⟩ (fun s15 Is15 Fs15 (es15 : s15 64 2 = ((s0 64 2) + 1) ∧ s15 64 4 = s0 64 4 ∧ s15 64 3 = s0 64 3 ∧ s15 64 5 = s0 64 5 ∧ s15 63 2 = s0 63 2) => ?_))
            refine h_goto (pc' := 100) rfl rfl ?_
            exact h_wk [(0, .ref 64), (1, .int y1)] ⟨rfl, rfl, trivial⟩ (ih.2.1 _ Is15 Fs15 y1 _ hy1 (by omega) (by omega) (by omega))
    · intro s0 I0 F0_ y1 b1 hy1 ry1 ex0 ex1 ex2 ex3 ex4 hm; have gh0 := tf_64_2 I0
      refine h_aload_n (pc' := 173) rfl rfl rfl ?_
      refine h_getI (pc' := 176) (v := s0 64 2) rfl rfl rfl rfl rfl rfl (fun z1 hz1 => ?_)
      have tz1 := tf_64_2 I0
      refine h_aload_n (pc' := 177) rfl rfl rfl ?_
      refine h_getI (pc' := 180) (v := σ 64 1) rfl rfl rfl rfl rfl (F0_ 64 1 rfl) (fun z2 hz2 => ?_)
      have tz2 := tf_64_1 hI
      refine h_cge (tg := 248) (pc' := 183) rfl rfl rfl hz1 hz2 (fun c3 => ?_) (fun c3 => ?_)
      · refine h_aload_n (pc' := 249) rfl rfl rfl ?_
        refine h_aload_n (pc' := 250) rfl rfl rfl ?_
        refine h_getI (pc' := 253) (v := s0 64 2) rfl rfl rfl rfl rfl rfl (fun z4 hz4 => ?_)
        have tz4 := tf_64_2 I0
        refine h_aload_n (pc' := 254) rfl rfl rfl ?_
        refine h_getI (pc' := 257) (v := s0 64 4) rfl rfl rfl rfl rfl rfl (fun z5 hz5 => ?_)
        have tz5 := tf_64_4 I0
        refine h_isub (pc' := 258) rfl rfl hz4 hz5 rfl (by omega) (by omega) (fun z6 hz6 => ?_)
        refine h_iconst (pc' := 259) (x := (Int32.ofInt 2)) rfl rfl rfl ?_
        refine h_cgt (tg := 266) (pc' := 262) rfl rfl rfl hz6 ci_2 (fun c7 => ?_) (fun c7 => ?_)
        · refine h_iconst (pc' := 267) (x := (Int32.ofInt 4)) rfl rfl rfl ?_
          refine h_put (pc' := 270) rfl rfl rfl rfl rfl rfl ci_4 rfl (h_fgt (E := fun s => s 64 2 = s0 64 2 ∧ s 64 4 = s0 64 4 ∧ s 64 3 = 4 ∧ s 64 5 = s0 64 5 ∧ s 63 2 = s0 63 2) _ (if_64_3 I0 (by omega)) (F0_.up rfl) ⟨rfl, rfl, rfl, rfl, rfl⟩ (fun s8 Is8 Fs8 (es8 : s8 64 2 = s0 64 2 ∧ s8 64 4 = s0 64 4 ∧ s8 64 3 = 4 ∧ s8 64 5 = s0 64 5 ∧ s8 63 2 = s0 63 2) => ?_))
          refine h_goto (pc' := 298) rfl rfl ?_
          exact h_vret rfl rfl (kk _ Is8 Fs8 (by omega) (by omega))
        · refine h_iconst (pc' := 263) (x := (Int32.ofInt 2)) rfl rfl rfl ?_
          refine h_goto (pc' := 267) rfl rfl ?_
          refine h_put (pc' := 270) rfl rfl rfl rfl rfl rfl ci_2 rfl (h_fgt (E := fun s => s 64 2 = s0 64 2 ∧ s 64 4 = s0 64 4 ∧ s 64 3 = 2 ∧ s 64 5 = s0 64 5 ∧ s 63 2 = s0 63 2) _ (if_64_3 I0 (by omega)) (F0_.up rfl) ⟨rfl, rfl, rfl, rfl, rfl⟩ (fun s9 Is9 Fs9 (es9 : s9 64 2 = s0 64 2 ∧ s9 64 4 = s0 64 4 ∧ s9 64 3 = 2 ∧ s9 64 5 = s0 64 5 ∧ s9 63 2 = s0 63 2) => ?_))
          refine h_goto (pc' := 298) rfl rfl ?_
          exact h_vret rfl rfl (kk _ Is9 Fs9 (by omega) (by omega))
      · refine h_aload_n (pc' := 184) rfl rfl rfl ?_
        refine h_getR (pc' := 187) rfl rfl rfl rfl rfl ?_
        refine h_aload_n (pc' := 188) rfl rfl rfl ?_
        refine h_getI (pc' := 191) (v := s0 64 2) rfl rfl rfl rfl rfl rfl (fun z10 hz10 => ?_)
        have tz10 := tf_64_2 I0
        refine h_iald (pc' := 192) (v := σ 65 (s0 64 2)) rfl rfl rfl hz10 (by omega) (by omega) (F0_ 65 _ rfl) (fun z11 hz11 => ?_)
        have tz11 := ty_65 hI (s0 64 2)
        refine h_bipush (pc' := 194) (x := (Int32.ofInt 48)) rfl rfl cb_48 ?_
        refine h_clt (tg := 248) (pc' := 197) rfl rfl rfl hz11 ci_48 (fun c12 => ?_) (fun c12 => ?_)
        · refine h_aload_n (pc' := 249) rfl rfl rfl ?_
          refine h_aload_n (pc' := 250) rfl rfl rfl ?_
          refine h_getI (pc' := 253) (v := s0 64 2) rfl rfl rfl rfl rfl rfl (fun z13 hz13 => ?_)
          have tz13 := tf_64_2 I0
          refine h_aload_n (pc' := 254) rfl rfl rfl ?_
          refine h_getI (pc' := 257) (v := s0 64 4) rfl rfl rfl rfl rfl rfl (fun z14 hz14 => ?_)
          have tz14 := tf_64_4 I0
          refine h_isub (pc' := 258) rfl rfl hz13 hz14 rfl (by omega) (by omega) (fun z15 hz15 => ?_)
          refine h_iconst (pc' := 259) (x := (Int32.ofInt 2)) rfl rfl rfl ?_
          refine h_cgt (tg := 266) (pc' := 262) rfl rfl rfl hz15 ci_2 (fun c16 => ?_) (fun c16 => ?_)
          · refine h_iconst (pc' := 267) (x := (Int32.ofInt 4)) rfl rfl rfl ?_
            refine h_put (pc' := 270) rfl rfl rfl rfl rfl rfl ci_4 rfl (h_fgt (E := fun s => s 64 2 = s0 64 2 ∧ s 64 4 = s0 64 4 ∧ s 64 3 = 4 ∧ s 64 5 = s0 64 5 ∧ s 63 2 = s0 63 2) _ (if_64_3 I0 (by omega)) (F0_.up rfl) ⟨rfl, rfl, rfl, rfl, rfl⟩ (fun s17 Is17 Fs17 (es17 : s17 64 2 = s0 64 2 ∧ s17 64 4 = s0 64 4 ∧ s17 64 3 = 4 ∧ s17 64 5 = s0 64 5 ∧ s17 63 2 = s0 63 2) => ?_))
            refine h_goto (pc' := 298) rfl rfl ?_
            exact h_vret rfl rfl (kk _ Is17 Fs17 (by omega) (by omega))
          · refine h_iconst (pc' := 263) (x := (Int32.ofInt 2)) rfl rfl rfl ?_
            refine h_goto (pc' := 267) rfl rfl ?_
            refine h_put (pc' := 270) rfl rfl rfl rfl rfl rfl ci_2 rfl (h_fgt (E := fun s => s 64 2 = s0 64 2 ∧ s 64 4 = s0 64 4 ∧ s 64 3 = 2 ∧ s 64 5 = s0 64 5 ∧ s 63 2 = s0 63 2) _ (if_64_3 I0 (by omega)) (F0_.up rfl) ⟨rfl, rfl, rfl, rfl, rfl⟩ (fun s18 Is18 Fs18 (es18 : s18 64 2 = s0 64 2 ∧ s18 64 4 = s0 64 4 ∧ s18 64 3 = 2 ∧ s18 64 5 = s0 64 5 ∧ s18 63 2 = s0 63 2) => ?_))
            refine h_goto (pc' := 298) rfl rfl ?_
            exact h_vret rfl rfl (kk _ Is18 Fs18 (by omega) (by omega))
        · refine h_aload_n (pc' := 198) rfl rfl rfl ?_
          refine h_getR (pc' := 201) rfl rfl rfl rfl rfl ?_
          refine h_aload_n (pc' := 202) rfl rfl rfl ?_
          refine h_getI (pc' := 205) (v := s0 64 2) rfl rfl rfl rfl rfl rfl (fun z19 hz19 => ?_)
          have tz19 := tf_64_2 I0
          refine h_iald (pc' := 206) (v := σ 65 (s0 64 2)) rfl rfl rfl hz19 (by omega) (by omega) (F0_ 65 _ rfl) (fun z20 hz20 => ?_)
          have tz20 := ty_65 hI (s0 64 2)
          refine h_bipush (pc' := 208) (x := (Int32.ofInt 57)) rfl rfl cb_57 ?_
          refine h_cgt (tg := 248) (pc' := 211) rfl rfl rfl hz20 ci_57 (fun c21 => ?_) (fun c21 => ?_)
          · refine h_aload_n (pc' := 249) rfl rfl rfl ?_
            refine h_aload_n (pc' := 250) rfl rfl rfl ?_
            refine h_getI (pc' := 253) (v := s0 64 2) rfl rfl rfl rfl rfl rfl (fun z22 hz22 => ?_)
            have tz22 := tf_64_2 I0
            refine h_aload_n (pc' := 254) rfl rfl rfl ?_
            refine h_getI (pc' := 257) (v := s0 64 4) rfl rfl rfl rfl rfl rfl (fun z23 hz23 => ?_)
            have tz23 := tf_64_4 I0
            refine h_isub (pc' := 258) rfl rfl hz22 hz23 rfl (by omega) (by omega) (fun z24 hz24 => ?_)
            refine h_iconst (pc' := 259) (x := (Int32.ofInt 2)) rfl rfl rfl ?_
            refine h_cgt (tg := 266) (pc' := 262) rfl rfl rfl hz24 ci_2 (fun c25 => ?_) (fun c25 => ?_)
            · refine h_iconst (pc' := 267) (x := (Int32.ofInt 4)) rfl rfl rfl ?_
              refine h_put (pc' := 270) rfl rfl rfl rfl rfl rfl ci_4 rfl (h_fgt (E := fun s => s 64 2 = s0 64 2 ∧ s 64 4 = s0 64 4 ∧ s 64 3 = 4 ∧ s 64 5 = s0 64 5 ∧ s 63 2 = s0 63 2) _ (if_64_3 I0 (by omega)) (F0_.up rfl) ⟨rfl, rfl, rfl, rfl, rfl⟩ (fun s26 Is26 Fs26 (es26 : s26 64 2 = s0 64 2 ∧ s26 64 4 = s0 64 4 ∧ s26 64 3 = 4 ∧ s26 64 5 = s0 64 5 ∧ s26 63 2 = s0 63 2) => ?_))
              refine h_goto (pc' := 298) rfl rfl ?_
              exact h_vret rfl rfl (kk _ Is26 Fs26 (by omega) (by omega))
            · refine h_iconst (pc' := 263) (x := (Int32.ofInt 2)) rfl rfl rfl ?_
              refine h_goto (pc' := 267) rfl rfl ?_
              refine h_put (pc' := 270) rfl rfl rfl rfl rfl rfl ci_2 rfl (h_fgt (E := fun s => s 64 2 = s0 64 2 ∧ s 64 4 = s0 64 4 ∧ s 64 3 = 2 ∧ s 64 5 = s0 64 5 ∧ s 63 2 = s0 63 2) _ (if_64_3 I0 (by omega)) (F0_.up rfl) ⟨rfl, rfl, rfl, rfl, rfl⟩ (fun s27 Is27 Fs27 (es27 : s27 64 2 = s0 64 2 ∧ s27 64 4 = s0 64 4 ∧ s27 64 3 = 2 ∧ s27 64 5 = s0 64 5 ∧ s27 63 2 = s0 63 2) => ?_))
              refine h_goto (pc' := 298) rfl rfl ?_
              exact h_vret rfl rfl (kk _ Is27 Fs27 (by omega) (by omega))
          · refine h_aload_n (pc' := 212) rfl rfl rfl ?_
            refine h_aload_n (pc' := 213) rfl rfl rfl ?_
            refine h_getI (pc' := 216) (v := s0 64 5) rfl rfl rfl rfl rfl rfl (fun z28 hz28 => ?_)
            have tz28 := tf_64_5 I0
            refine h_bipush (pc' := 218) (x := (Int32.ofInt 10)) rfl rfl cb_10 ?_
            refine h_imulA (pc' := 219) rfl rfl (fun z29 hz29 => ?_)
            have dz29 := h_imulC hz28 ci_10 hz29
            refine h_aload_n (pc' := 220) rfl rfl rfl ?_
            refine h_getR (pc' := 223) rfl rfl rfl rfl rfl ?_
            refine h_aload_n (pc' := 224) rfl rfl rfl ?_
            refine h_getI (pc' := 227) (v := s0 64 2) rfl rfl rfl rfl rfl rfl (fun z30 hz30 => ?_)
            have tz30 := tf_64_2 I0
            refine h_iald (pc' := 228) (v := σ 65 (s0 64 2)) rfl rfl rfl hz30 (by omega) (by omega) (F0_ 65 _ rfl) (fun z31 hz31 => ?_)
            have tz31 := ty_65 hI (s0 64 2)
            refine h_iaddA (pc' := 229) rfl rfl (fun z32 hz32 => ?_)
            have dz32 := h_iaddC (rfl : z29.toInt = _) hz31 hz32
            refine h_bipush (pc' := 231) (x := (Int32.ofInt 48)) rfl rfl cb_48 ?_
            refine h_isubA (pc' := 232) rfl rfl (fun z33 hz33 => ?_)
            have dz33 := h_isubC (rfl : z32.toInt = _) ci_48 hz33
            refine h_put (pc' := 235) rfl rfl rfl rfl rfl rfl rfl rfl (h_fgt (E := fun s => s 64 2 = s0 64 2 ∧ s 64 4 = s0 64 4 ∧ s 64 3 = s0 64 3 ∧ s 64 5 = z33.toInt ∧ s 63 2 = s0 63 2) _ (if_64_5 I0 (h_rgv rfl)) (F0_.up rfl) ⟨rfl, rfl, rfl, rfl, rfl⟩ (fun s34 Is34 Fs34 (es34 : s34 64 2 = s0 64 2 ∧ s34 64 4 = s0 64 4 ∧ s34 64 3 = s0 64 3 ∧ s34 64 5 = z33.toInt ∧ s34 63 2 = s0 63 2) => ?_))
            refine h_aload_n (pc' := 236) rfl rfl rfl ?_
            refine h_dup (pc' := 237) rfl rfl rfl ?_
            refine h_getI (pc' := 240) (v := s0 64 2) rfl rfl rfl rfl rfl es34.1 (fun z35 hz35 => ?_)
            have tz35 := tf_64_2 I0
            refine h_iconst (pc' := 241) (x := (Int32.ofInt 1)) rfl rfl rfl ?_
            refine h_iadd (pc' := 242) rfl rfl hz35 ci_1 rfl (by omega) (by omega) (fun z36 hz36 => ?_)
            refine h_put (pc' := 245) rfl rfl rfl rfl rfl rfl hz36 rfl (h_fgt (E := fun s => s 64 2 = ((s0 64 2) + 1) ∧ s 64 4 = s0 64 4 ∧ s 64 3 = s0 64 3 ∧ s 64 5 = z33.toInt ∧ s 63 2 = s0 63 2) _ (if_64_2 Is34 (by omega)) (Fs34.up rfl) ⟨rfl, es34.2.1, es34.2.2.1, es34.2.2.2.1, es34.2.2.2.2⟩ (fun s37 Is37 Fs37 (es37 : s37 64 2 = ((s0 64 2) + 1) ∧ s37 64 4 = s0 64 4 ∧ s37 64 3 = s0 64 3 ∧ s37 64 5 = z33.toInt ∧ s37 63 2 = s0 63 2) => ?_))
            clear es34
            refine h_goto (pc' := 172) rfl rfl ?_
            exact h_wk [(0, .ref 64), (1, .int y1)] ⟨rfl, rfl, trivial⟩ (ih.2.2 _ Is37 Fs37 y1 _ hy1 (by omega) (by omega) (by omega) (by omega) (by omega) (by omega) (by omega))
set_option maxHeartbeats 100000000 in
theorem v_readToken {ns : Nat} (σ : h_S) (hI : h_I σ) {Q : Option Value → h_S → Prop} (kk : ∀ (τ : h_S), h_I τ → h_F (k_in kf_v_readToken) τ σ → (¬ τ 64 3 = 2 ∨ (0 ≤ τ 64 5 ∧ τ 64 5 ≤ 99)) → (τ 63 2 = σ 63 2) → Q none τ) : h_T g_P (g_Y ns) 75 0 [(0, .ref 64)] [] σ Q := by
  have F00 : h_F (k_in kf_v_readToken) σ σ := h_F.rf
  have ge0 := tf_64_2 hI
  exact h_wk [(0, .ref 64)] ⟨rfl, trivial⟩ ((v_readToken_l ns σ hI  kk 1000000000000).1 _ hI F00  (by omega) (by omega))
theorem v_isName0_l (ns : Nat) (σ : h_S) (hI : h_I σ) {Q : Option Value → h_S → Prop} (kk : ∀ (r : Int32) (b : Int) (hb : r.toInt = b), (0 ≤ b ∧ b ≤ 1) → Q (some (.int r)) σ) : ∀ n : Nat, (∀ (y2 : Int32) (b2 : Int), y2.toInt = b2 → (0 ≤ b2 ∧ b2 ≤ 5) → (σ 64 2 - σ 64 4 = 5) → (5 + 1 - b2) * 1000000 + 1000000000 ≤ (n : Int) → h_T g_P (g_Y ns) 77 20 [(0, .ref 64), (1, .ref 1), (2, .int y2)] [] σ Q) := by
  intro n
  induction n with
  | zero => exact by intro  y2 b2 hy2 ry2 ex0 hm; have gh0 := tf_64_2 hI; exfalso; omega
  | succ n ih =>
    intro  y2 b2 hy2 ry2 ex0 hm; have gh0 := tf_64_2 hI
    refine h_iload_n (pc' := 21) rfl rfl rfl ?_
    refine h_aload_n (pc' := 22) rfl rfl rfl ?_
    refine h_str (pc' := 25) (x := (Int32.ofInt 5)) rfl rfl rfl rfl rfl ?_
    refine h_cge (tg := 55) (pc' := 28) rfl rfl rfl hy2 ci_5 (fun c1 => ?_) (fun c1 => ?_)
    · refine h_iconst (pc' := 56) (x := (Int32.ofInt 1)) rfl rfl rfl ?_
      exact h_zret rfl rfl ci_1 (by omega) (kk _ _ ci_1 (by omega))
    · refine h_aload_n (pc' := 29) rfl rfl rfl ?_
      refine h_getR (pc' := 32) rfl rfl rfl rfl rfl ?_
      refine h_aload_n (pc' := 33) rfl rfl rfl ?_
      refine h_getI (pc' := 36) (v := σ 64 4) rfl rfl rfl rfl rfl rfl (fun z2 hz2 => ?_)
      have tz2 := tf_64_4 hI
      refine h_iload_n (pc' := 37) rfl rfl rfl ?_
      refine h_iadd (pc' := 38) rfl rfl hz2 hy2 rfl (by omega) (by omega) (fun z3 hz3 => ?_)
      refine h_iald (pc' := 39) (v := σ 65 ((σ 64 4) + b2)) rfl rfl rfl hz3 (by omega) (by omega) rfl (fun z4 hz4 => ?_)
      have tz4 := ty_65 hI ((σ 64 4) + b2)
      refine h_aload_n (pc' := 40) rfl rfl rfl ?_
      refine h_iload_n (pc' := 41) rfl rfl rfl ?_
      refine h_chr (np := 1) (pc' := 44) (b := g_tx 1) rfl rfl rfl rfl hy2 (by omega) (by show _ < ((5 : Nat) : Int); omega) rfl (fun z5 hz5 => ?_)
      refine h_ceq (tg := 49) (pc' := 47) rfl rfl rfl hz4 rfl (fun c6 => ?_) (fun c6 => ?_)
      · refine h_iinc (pc' := 52) (M := fun z7 => [(2, .int z7), (0, .ref 64), (1, .ref 1)]) rfl rfl rfl rfl hy2 ci_1 rfl (by omega) (by omega) (fun _ => rfl) (fun z7 hz7 => ?_)
        refine h_goto (pc' := 20) rfl rfl ?_
        exact h_wk [(0, .ref 64), (1, .ref 1), (2, .int z7)] ⟨rfl, rfl, rfl, trivial⟩ (ih z7 _ hz7 (by omega) (by omega) (by omega))
      · refine h_iconst (pc' := 48) (x := (Int32.ofInt 0)) rfl rfl rfl ?_
        exact h_zret rfl rfl ci_0 (by omega) (kk _ _ ci_0 (by omega))
theorem v_isName0 {ns : Nat} (σ : h_S) (hI : h_I σ) {Q : Option Value → h_S → Prop} (kk : ∀ (r : Int32) (b : Int) (hb : r.toInt = b), (0 ≤ b ∧ b ≤ 1) → Q (some (.int r)) σ) : h_T g_P (g_Y ns) 77 0 [(0, .ref 64), (1, .ref 1)] [] σ Q := by
  refine h_aload_n (pc' := 1) rfl rfl rfl ?_
  refine h_getI (pc' := 4) (v := σ 64 2) rfl rfl rfl rfl rfl rfl (fun z1 hz1 => ?_)
  have tz1 := tf_64_2 hI
  refine h_aload_n (pc' := 5) rfl rfl rfl ?_
  refine h_getI (pc' := 8) (v := σ 64 4) rfl rfl rfl rfl rfl rfl (fun z2 hz2 => ?_)
  have tz2 := tf_64_4 hI
  refine h_isub (pc' := 9) rfl rfl hz1 hz2 rfl (by omega) (by omega) (fun z3 hz3 => ?_)
  refine h_aload_n (pc' := 10) rfl rfl rfl ?_
  refine h_str (pc' := 13) (x := (Int32.ofInt 5)) rfl rfl rfl rfl rfl ?_
  refine h_ceq (tg := 18) (pc' := 16) rfl rfl rfl hz3 ci_5 (fun c4 => ?_) (fun c4 => ?_)
  · refine h_iconst (pc' := 19) (x := (Int32.ofInt 0)) rfl rfl rfl ?_
    refine h_istore_n (pc' := 20) (M := [(2, .int (Int32.ofInt 0)), (0, .ref 64), (1, .ref 1)]) rfl rfl rfl rfl ?_
    exact h_wk [(0, .ref 64), (1, .ref 1), (2, .int (Int32.ofInt 0))] ⟨rfl, rfl, rfl, trivial⟩ ((v_isName0_l ns σ hI  kk 1000000000000) (Int32.ofInt 0) _ ci_0 (by omega) (by omega) (by omega))
  · refine h_iconst (pc' := 17) (x := (Int32.ofInt 0)) rfl rfl rfl ?_
    exact h_zret rfl rfl ci_0 (by omega) (kk _ _ ci_0 (by omega))
theorem v_isName1_l (ns : Nat) (σ : h_S) (hI : h_I σ) {Q : Option Value → h_S → Prop} (kk : ∀ (r : Int32) (b : Int) (hb : r.toInt = b), (0 ≤ b ∧ b ≤ 1) → Q (some (.int r)) σ) : ∀ n : Nat, (∀ (y2 : Int32) (b2 : Int), y2.toInt = b2 → (0 ≤ b2 ∧ b2 ≤ 7) → (σ 64 2 - σ 64 4 = 7) → (7 + 1 - b2) * 1000000 + 1000000000 ≤ (n : Int) → h_T g_P (g_Y ns) 77 20 [(0, .ref 64), (1, .ref 2), (2, .int y2)] [] σ Q) := by
  intro n
  induction n with
  | zero => exact by intro  y2 b2 hy2 ry2 ex0 hm; have gh0 := tf_64_2 hI; exfalso; omega
  | succ n ih =>
    intro  y2 b2 hy2 ry2 ex0 hm; have gh0 := tf_64_2 hI
    refine h_iload_n (pc' := 21) rfl rfl rfl ?_
    refine h_aload_n (pc' := 22) rfl rfl rfl ?_
    refine h_str (pc' := 25) (x := (Int32.ofInt 7)) rfl rfl rfl rfl rfl ?_
    refine h_cge (tg := 55) (pc' := 28) rfl rfl rfl hy2 ci_7 (fun c1 => ?_) (fun c1 => ?_)
    · refine h_iconst (pc' := 56) (x := (Int32.ofInt 1)) rfl rfl rfl ?_
      exact h_zret rfl rfl ci_1 (by omega) (kk _ _ ci_1 (by omega))
    · refine h_aload_n (pc' := 29) rfl rfl rfl ?_
      refine h_getR (pc' := 32) rfl rfl rfl rfl rfl ?_
      refine h_aload_n (pc' := 33) rfl rfl rfl ?_
      refine h_getI (pc' := 36) (v := σ 64 4) rfl rfl rfl rfl rfl rfl (fun z2 hz2 => ?_)
      have tz2 := tf_64_4 hI
      refine h_iload_n (pc' := 37) rfl rfl rfl ?_
      refine h_iadd (pc' := 38) rfl rfl hz2 hy2 rfl (by omega) (by omega) (fun z3 hz3 => ?_)
      refine h_iald (pc' := 39) (v := σ 65 ((σ 64 4) + b2)) rfl rfl rfl hz3 (by omega) (by omega) rfl (fun z4 hz4 => ?_)
      have tz4 := ty_65 hI ((σ 64 4) + b2)
      refine h_aload_n (pc' := 40) rfl rfl rfl ?_
      refine h_iload_n (pc' := 41) rfl rfl rfl ?_
      refine h_chr (np := 1) (pc' := 44) (b := g_tx 2) rfl rfl rfl rfl hy2 (by omega) (by show _ < ((7 : Nat) : Int); omega) rfl (fun z5 hz5 => ?_)
      refine h_ceq (tg := 49) (pc' := 47) rfl rfl rfl hz4 rfl (fun c6 => ?_) (fun c6 => ?_)
      · refine h_iinc (pc' := 52) (M := fun z7 => [(2, .int z7), (0, .ref 64), (1, .ref 2)]) rfl rfl rfl rfl hy2 ci_1 rfl (by omega) (by omega) (fun _ => rfl) (fun z7 hz7 => ?_)
        refine h_goto (pc' := 20) rfl rfl ?_
        exact h_wk [(0, .ref 64), (1, .ref 2), (2, .int z7)] ⟨rfl, rfl, rfl, trivial⟩ (ih z7 _ hz7 (by omega) (by omega) (by omega))
      · refine h_iconst (pc' := 48) (x := (Int32.ofInt 0)) rfl rfl rfl ?_
        exact h_zret rfl rfl ci_0 (by omega) (kk _ _ ci_0 (by omega))
theorem v_isName1 {ns : Nat} (σ : h_S) (hI : h_I σ) {Q : Option Value → h_S → Prop} (kk : ∀ (r : Int32) (b : Int) (hb : r.toInt = b), (0 ≤ b ∧ b ≤ 1) → Q (some (.int r)) σ) : h_T g_P (g_Y ns) 77 0 [(0, .ref 64), (1, .ref 2)] [] σ Q := by
  refine h_aload_n (pc' := 1) rfl rfl rfl ?_
  refine h_getI (pc' := 4) (v := σ 64 2) rfl rfl rfl rfl rfl rfl (fun z1 hz1 => ?_)
  have tz1 := tf_64_2 hI
  refine h_aload_n (pc' := 5) rfl rfl rfl ?_
  refine h_getI (pc' := 8) (v := σ 64 4) rfl rfl rfl rfl rfl rfl (fun z2 hz2 => ?_)
  have tz2 := tf_64_4 hI
  refine h_isub (pc' := 9) rfl rfl hz1 hz2 rfl (by omega) (by omega) (fun z3 hz3 => ?_)
  refine h_aload_n (pc' := 10) rfl rfl rfl ?_
  refine h_str (pc' := 13) (x := (Int32.ofInt 7)) rfl rfl rfl rfl rfl ?_
  refine h_ceq (tg := 18) (pc' := 16) rfl rfl rfl hz3 ci_7 (fun c4 => ?_) (fun c4 => ?_)
  · refine h_iconst (pc' := 19) (x := (Int32.ofInt 0)) rfl rfl rfl ?_
    refine h_istore_n (pc' := 20) (M := [(2, .int (Int32.ofInt 0)), (0, .ref 64), (1, .ref 2)]) rfl rfl rfl rfl ?_
    exact h_wk [(0, .ref 64), (1, .ref 2), (2, .int (Int32.ofInt 0))] ⟨rfl, rfl, rfl, trivial⟩ ((v_isName1_l ns σ hI  kk 1000000000000) (Int32.ofInt 0) _ ci_0 (by omega) (by omega) (by omega))
  · refine h_iconst (pc' := 17) (x := (Int32.ofInt 0)) rfl rfl rfl ?_
    exact h_zret rfl rfl ci_0 (by omega) (kk _ _ ci_0 (by omega))
theorem v_isName2_l (ns : Nat) (σ : h_S) (hI : h_I σ) {Q : Option Value → h_S → Prop} (kk : ∀ (r : Int32) (b : Int) (hb : r.toInt = b), (0 ≤ b ∧ b ≤ 1) → Q (some (.int r)) σ) : ∀ n : Nat, (∀ (y2 : Int32) (b2 : Int), y2.toInt = b2 → (0 ≤ b2 ∧ b2 ≤ 7) → (σ 64 2 - σ 64 4 = 7) → (7 + 1 - b2) * 1000000 + 1000000000 ≤ (n : Int) → h_T g_P (g_Y ns) 77 20 [(0, .ref 64), (1, .ref 3), (2, .int y2)] [] σ Q) := by
  intro n
  induction n with
  | zero => exact by intro  y2 b2 hy2 ry2 ex0 hm; have gh0 := tf_64_2 hI; exfalso; omega
  | succ n ih =>
    intro  y2 b2 hy2 ry2 ex0 hm; have gh0 := tf_64_2 hI
    refine h_iload_n (pc' := 21) rfl rfl rfl ?_
    refine h_aload_n (pc' := 22) rfl rfl rfl ?_
    refine h_str (pc' := 25) (x := (Int32.ofInt 7)) rfl rfl rfl rfl rfl ?_
    refine h_cge (tg := 55) (pc' := 28) rfl rfl rfl hy2 ci_7 (fun c1 => ?_) (fun c1 => ?_)
    · refine h_iconst (pc' := 56) (x := (Int32.ofInt 1)) rfl rfl rfl ?_
      exact h_zret rfl rfl ci_1 (by omega) (kk _ _ ci_1 (by omega))
    · refine h_aload_n (pc' := 29) rfl rfl rfl ?_
      refine h_getR (pc' := 32) rfl rfl rfl rfl rfl ?_
      refine h_aload_n (pc' := 33) rfl rfl rfl ?_
      refine h_getI (pc' := 36) (v := σ 64 4) rfl rfl rfl rfl rfl rfl (fun z2 hz2 => ?_)
      have tz2 := tf_64_4 hI
      refine h_iload_n (pc' := 37) rfl rfl rfl ?_
      refine h_iadd (pc' := 38) rfl rfl hz2 hy2 rfl (by omega) (by omega) (fun z3 hz3 => ?_)
      refine h_iald (pc' := 39) (v := σ 65 ((σ 64 4) + b2)) rfl rfl rfl hz3 (by omega) (by omega) rfl (fun z4 hz4 => ?_)
      have tz4 := ty_65 hI ((σ 64 4) + b2)
      refine h_aload_n (pc' := 40) rfl rfl rfl ?_
      refine h_iload_n (pc' := 41) rfl rfl rfl ?_
      refine h_chr (np := 1) (pc' := 44) (b := g_tx 3) rfl rfl rfl rfl hy2 (by omega) (by show _ < ((7 : Nat) : Int); omega) rfl (fun z5 hz5 => ?_)
      refine h_ceq (tg := 49) (pc' := 47) rfl rfl rfl hz4 rfl (fun c6 => ?_) (fun c6 => ?_)
      · refine h_iinc (pc' := 52) (M := fun z7 => [(2, .int z7), (0, .ref 64), (1, .ref 3)]) rfl rfl rfl rfl hy2 ci_1 rfl (by omega) (by omega) (fun _ => rfl) (fun z7 hz7 => ?_)
        refine h_goto (pc' := 20) rfl rfl ?_
        exact h_wk [(0, .ref 64), (1, .ref 3), (2, .int z7)] ⟨rfl, rfl, rfl, trivial⟩ (ih z7 _ hz7 (by omega) (by omega) (by omega))
      · refine h_iconst (pc' := 48) (x := (Int32.ofInt 0)) rfl rfl rfl ?_
        exact h_zret rfl rfl ci_0 (by omega) (kk _ _ ci_0 (by omega))
theorem v_isName2 {ns : Nat} (σ : h_S) (hI : h_I σ) {Q : Option Value → h_S → Prop} (kk : ∀ (r : Int32) (b : Int) (hb : r.toInt = b), (0 ≤ b ∧ b ≤ 1) → Q (some (.int r)) σ) : h_T g_P (g_Y ns) 77 0 [(0, .ref 64), (1, .ref 3)] [] σ Q := by
  refine h_aload_n (pc' := 1) rfl rfl rfl ?_
  refine h_getI (pc' := 4) (v := σ 64 2) rfl rfl rfl rfl rfl rfl (fun z1 hz1 => ?_)
  have tz1 := tf_64_2 hI
  refine h_aload_n (pc' := 5) rfl rfl rfl ?_
  refine h_getI (pc' := 8) (v := σ 64 4) rfl rfl rfl rfl rfl rfl (fun z2 hz2 => ?_)
  have tz2 := tf_64_4 hI
  refine h_isub (pc' := 9) rfl rfl hz1 hz2 rfl (by omega) (by omega) (fun z3 hz3 => ?_)
  refine h_aload_n (pc' := 10) rfl rfl rfl ?_
  refine h_str (pc' := 13) (x := (Int32.ofInt 7)) rfl rfl rfl rfl rfl ?_
  refine h_ceq (tg := 18) (pc' := 16) rfl rfl rfl hz3 ci_7 (fun c4 => ?_) (fun c4 => ?_)
  · refine h_iconst (pc' := 19) (x := (Int32.ofInt 0)) rfl rfl rfl ?_
    refine h_istore_n (pc' := 20) (M := [(2, .int (Int32.ofInt 0)), (0, .ref 64), (1, .ref 3)]) rfl rfl rfl rfl ?_
    exact h_wk [(0, .ref 64), (1, .ref 3), (2, .int (Int32.ofInt 0))] ⟨rfl, rfl, rfl, trivial⟩ ((v_isName2_l ns σ hI  kk 1000000000000) (Int32.ofInt 0) _ ci_0 (by omega) (by omega) (by omega))
  · refine h_iconst (pc' := 17) (x := (Int32.ofInt 0)) rfl rfl rfl ?_
    exact h_zret rfl rfl ci_0 (by omega) (kk _ _ ci_0 (by omega))
theorem v_isName3_l (ns : Nat) (σ : h_S) (hI : h_I σ) {Q : Option Value → h_S → Prop} (kk : ∀ (r : Int32) (b : Int) (hb : r.toInt = b), (0 ≤ b ∧ b ≤ 1) → Q (some (.int r)) σ) : ∀ n : Nat, (∀ (y2 : Int32) (b2 : Int), y2.toInt = b2 → (0 ≤ b2 ∧ b2 ≤ 8) → (σ 64 2 - σ 64 4 = 8) → (8 + 1 - b2) * 1000000 + 1000000000 ≤ (n : Int) → h_T g_P (g_Y ns) 77 20 [(0, .ref 64), (1, .ref 4), (2, .int y2)] [] σ Q) := by
  intro n
  induction n with
  | zero => exact by intro  y2 b2 hy2 ry2 ex0 hm; have gh0 := tf_64_2 hI; exfalso; omega
  | succ n ih =>
    intro  y2 b2 hy2 ry2 ex0 hm; have gh0 := tf_64_2 hI
    refine h_iload_n (pc' := 21) rfl rfl rfl ?_
    refine h_aload_n (pc' := 22) rfl rfl rfl ?_
    refine h_str (pc' := 25) (x := (Int32.ofInt 8)) rfl rfl rfl rfl rfl ?_
    refine h_cge (tg := 55) (pc' := 28) rfl rfl rfl hy2 ci_8 (fun c1 => ?_) (fun c1 => ?_)
    · refine h_iconst (pc' := 56) (x := (Int32.ofInt 1)) rfl rfl rfl ?_
      exact h_zret rfl rfl ci_1 (by omega) (kk _ _ ci_1 (by omega))
    · refine h_aload_n (pc' := 29) rfl rfl rfl ?_
      refine h_getR (pc' := 32) rfl rfl rfl rfl rfl ?_
      refine h_aload_n (pc' := 33) rfl rfl rfl ?_
      refine h_getI (pc' := 36) (v := σ 64 4) rfl rfl rfl rfl rfl rfl (fun z2 hz2 => ?_)
      have tz2 := tf_64_4 hI
      refine h_iload_n (pc' := 37) rfl rfl rfl ?_
      refine h_iadd (pc' := 38) rfl rfl hz2 hy2 rfl (by omega) (by omega) (fun z3 hz3 => ?_)
      refine h_iald (pc' := 39) (v := σ 65 ((σ 64 4) + b2)) rfl rfl rfl hz3 (by omega) (by omega) rfl (fun z4 hz4 => ?_)
      have tz4 := ty_65 hI ((σ 64 4) + b2)
      refine h_aload_n (pc' := 40) rfl rfl rfl ?_
      refine h_iload_n (pc' := 41) rfl rfl rfl ?_
      refine h_chr (np := 1) (pc' := 44) (b := g_tx 4) rfl rfl rfl rfl hy2 (by omega) (by show _ < ((8 : Nat) : Int); omega) rfl (fun z5 hz5 => ?_)
      refine h_ceq (tg := 49) (pc' := 47) rfl rfl rfl hz4 rfl (fun c6 => ?_) (fun c6 => ?_)
      · refine h_iinc (pc' := 52) (M := fun z7 => [(2, .int z7), (0, .ref 64), (1, .ref 4)]) rfl rfl rfl rfl hy2 ci_1 rfl (by omega) (by omega) (fun _ => rfl) (fun z7 hz7 => ?_)
        refine h_goto (pc' := 20) rfl rfl ?_
        exact h_wk [(0, .ref 64), (1, .ref 4), (2, .int z7)] ⟨rfl, rfl, rfl, trivial⟩ (ih z7 _ hz7 (by omega) (by omega) (by omega))
      · refine h_iconst (pc' := 48) (x := (Int32.ofInt 0)) rfl rfl rfl ?_
        exact h_zret rfl rfl ci_0 (by omega) (kk _ _ ci_0 (by omega))
theorem v_isName3 {ns : Nat} (σ : h_S) (hI : h_I σ) {Q : Option Value → h_S → Prop} (kk : ∀ (r : Int32) (b : Int) (hb : r.toInt = b), (0 ≤ b ∧ b ≤ 1) → Q (some (.int r)) σ) : h_T g_P (g_Y ns) 77 0 [(0, .ref 64), (1, .ref 4)] [] σ Q := by
  refine h_aload_n (pc' := 1) rfl rfl rfl ?_
  refine h_getI (pc' := 4) (v := σ 64 2) rfl rfl rfl rfl rfl rfl (fun z1 hz1 => ?_)
  have tz1 := tf_64_2 hI
  refine h_aload_n (pc' := 5) rfl rfl rfl ?_
  refine h_getI (pc' := 8) (v := σ 64 4) rfl rfl rfl rfl rfl rfl (fun z2 hz2 => ?_)
  have tz2 := tf_64_4 hI
  refine h_isub (pc' := 9) rfl rfl hz1 hz2 rfl (by omega) (by omega) (fun z3 hz3 => ?_)
  refine h_aload_n (pc' := 10) rfl rfl rfl ?_
  refine h_str (pc' := 13) (x := (Int32.ofInt 8)) rfl rfl rfl rfl rfl ?_
  refine h_ceq (tg := 18) (pc' := 16) rfl rfl rfl hz3 ci_8 (fun c4 => ?_) (fun c4 => ?_)
  · refine h_iconst (pc' := 19) (x := (Int32.ofInt 0)) rfl rfl rfl ?_
    refine h_istore_n (pc' := 20) (M := [(2, .int (Int32.ofInt 0)), (0, .ref 64), (1, .ref 4)]) rfl rfl rfl rfl ?_
    exact h_wk [(0, .ref 64), (1, .ref 4), (2, .int (Int32.ofInt 0))] ⟨rfl, rfl, rfl, trivial⟩ ((v_isName3_l ns σ hI  kk 1000000000000) (Int32.ofInt 0) _ ci_0 (by omega) (by omega) (by omega))
  · refine h_iconst (pc' := 17) (x := (Int32.ofInt 0)) rfl rfl rfl ?_
    exact h_zret rfl rfl ci_0 (by omega) (kk _ _ ci_0 (by omega))
theorem v_isName4_l (ns : Nat) (σ : h_S) (hI : h_I σ) {Q : Option Value → h_S → Prop} (kk : ∀ (r : Int32) (b : Int) (hb : r.toInt = b), (0 ≤ b ∧ b ≤ 1) → Q (some (.int r)) σ) : ∀ n : Nat, (∀ (y2 : Int32) (b2 : Int), y2.toInt = b2 → (0 ≤ b2 ∧ b2 ≤ 5) → (σ 64 2 - σ 64 4 = 5) → (5 + 1 - b2) * 1000000 + 1000000000 ≤ (n : Int) → h_T g_P (g_Y ns) 77 20 [(0, .ref 64), (1, .ref 5), (2, .int y2)] [] σ Q) := by
  intro n
  induction n with
  | zero => exact by intro  y2 b2 hy2 ry2 ex0 hm; have gh0 := tf_64_2 hI; exfalso; omega
  | succ n ih =>
    intro  y2 b2 hy2 ry2 ex0 hm; have gh0 := tf_64_2 hI
    refine h_iload_n (pc' := 21) rfl rfl rfl ?_
    refine h_aload_n (pc' := 22) rfl rfl rfl ?_
    refine h_str (pc' := 25) (x := (Int32.ofInt 5)) rfl rfl rfl rfl rfl ?_
    refine h_cge (tg := 55) (pc' := 28) rfl rfl rfl hy2 ci_5 (fun c1 => ?_) (fun c1 => ?_)
    · refine h_iconst (pc' := 56) (x := (Int32.ofInt 1)) rfl rfl rfl ?_
      exact h_zret rfl rfl ci_1 (by omega) (kk _ _ ci_1 (by omega))
    · refine h_aload_n (pc' := 29) rfl rfl rfl ?_
      refine h_getR (pc' := 32) rfl rfl rfl rfl rfl ?_
      refine h_aload_n (pc' := 33) rfl rfl rfl ?_
      refine h_getI (pc' := 36) (v := σ 64 4) rfl rfl rfl rfl rfl rfl (fun z2 hz2 => ?_)
      have tz2 := tf_64_4 hI
      refine h_iload_n (pc' := 37) rfl rfl rfl ?_
      refine h_iadd (pc' := 38) rfl rfl hz2 hy2 rfl (by omega) (by omega) (fun z3 hz3 => ?_)
      refine h_iald (pc' := 39) (v := σ 65 ((σ 64 4) + b2)) rfl rfl rfl hz3 (by omega) (by omega) rfl (fun z4 hz4 => ?_)
      have tz4 := ty_65 hI ((σ 64 4) + b2)
      refine h_aload_n (pc' := 40) rfl rfl rfl ?_
      refine h_iload_n (pc' := 41) rfl rfl rfl ?_
      refine h_chr (np := 1) (pc' := 44) (b := g_tx 5) rfl rfl rfl rfl hy2 (by omega) (by show _ < ((5 : Nat) : Int); omega) rfl (fun z5 hz5 => ?_)
      refine h_ceq (tg := 49) (pc' := 47) rfl rfl rfl hz4 rfl (fun c6 => ?_) (fun c6 => ?_)
      · refine h_iinc (pc' := 52) (M := fun z7 => [(2, .int z7), (0, .ref 64), (1, .ref 5)]) rfl rfl rfl rfl hy2 ci_1 rfl (by omega) (by omega) (fun _ => rfl) (fun z7 hz7 => ?_)
        refine h_goto (pc' := 20) rfl rfl ?_
        exact h_wk [(0, .ref 64), (1, .ref 5), (2, .int z7)] ⟨rfl, rfl, rfl, trivial⟩ (ih z7 _ hz7 (by omega) (by omega) (by omega))
      · refine h_iconst (pc' := 48) (x := (Int32.ofInt 0)) rfl rfl rfl ?_
        exact h_zret rfl rfl ci_0 (by omega) (kk _ _ ci_0 (by omega))
theorem v_isName4 {ns : Nat} (σ : h_S) (hI : h_I σ) {Q : Option Value → h_S → Prop} (kk : ∀ (r : Int32) (b : Int) (hb : r.toInt = b), (0 ≤ b ∧ b ≤ 1) → Q (some (.int r)) σ) : h_T g_P (g_Y ns) 77 0 [(0, .ref 64), (1, .ref 5)] [] σ Q := by
  refine h_aload_n (pc' := 1) rfl rfl rfl ?_
  refine h_getI (pc' := 4) (v := σ 64 2) rfl rfl rfl rfl rfl rfl (fun z1 hz1 => ?_)
  have tz1 := tf_64_2 hI
  refine h_aload_n (pc' := 5) rfl rfl rfl ?_
  refine h_getI (pc' := 8) (v := σ 64 4) rfl rfl rfl rfl rfl rfl (fun z2 hz2 => ?_)
  have tz2 := tf_64_4 hI
  refine h_isub (pc' := 9) rfl rfl hz1 hz2 rfl (by omega) (by omega) (fun z3 hz3 => ?_)
  refine h_aload_n (pc' := 10) rfl rfl rfl ?_
  refine h_str (pc' := 13) (x := (Int32.ofInt 5)) rfl rfl rfl rfl rfl ?_
  refine h_ceq (tg := 18) (pc' := 16) rfl rfl rfl hz3 ci_5 (fun c4 => ?_) (fun c4 => ?_)
  · refine h_iconst (pc' := 19) (x := (Int32.ofInt 0)) rfl rfl rfl ?_
    refine h_istore_n (pc' := 20) (M := [(2, .int (Int32.ofInt 0)), (0, .ref 64), (1, .ref 5)]) rfl rfl rfl rfl ?_
    exact h_wk [(0, .ref 64), (1, .ref 5), (2, .int (Int32.ofInt 0))] ⟨rfl, rfl, rfl, trivial⟩ ((v_isName4_l ns σ hI  kk 1000000000000) (Int32.ofInt 0) _ ci_0 (by omega) (by omega) (by omega))
  · refine h_iconst (pc' := 17) (x := (Int32.ofInt 0)) rfl rfl rfl ?_
    exact h_zret rfl rfl ci_0 (by omega) (kk _ _ ci_0 (by omega))
theorem v_isName5_l (ns : Nat) (σ : h_S) (hI : h_I σ) {Q : Option Value → h_S → Prop} (kk : ∀ (r : Int32) (b : Int) (hb : r.toInt = b), (0 ≤ b ∧ b ≤ 1) → Q (some (.int r)) σ) : ∀ n : Nat, (∀ (y2 : Int32) (b2 : Int), y2.toInt = b2 → (0 ≤ b2 ∧ b2 ≤ 4) → (σ 64 2 - σ 64 4 = 4) → (4 + 1 - b2) * 1000000 + 1000000000 ≤ (n : Int) → h_T g_P (g_Y ns) 77 20 [(0, .ref 64), (1, .ref 6), (2, .int y2)] [] σ Q) := by
  intro n
  induction n with
  | zero => exact by intro  y2 b2 hy2 ry2 ex0 hm; have gh0 := tf_64_2 hI; exfalso; omega
  | succ n ih =>
    intro  y2 b2 hy2 ry2 ex0 hm; have gh0 := tf_64_2 hI
    refine h_iload_n (pc' := 21) rfl rfl rfl ?_
    refine h_aload_n (pc' := 22) rfl rfl rfl ?_
    refine h_str (pc' := 25) (x := (Int32.ofInt 4)) rfl rfl rfl rfl rfl ?_
    refine h_cge (tg := 55) (pc' := 28) rfl rfl rfl hy2 ci_4 (fun c1 => ?_) (fun c1 => ?_)
    · refine h_iconst (pc' := 56) (x := (Int32.ofInt 1)) rfl rfl rfl ?_
      exact h_zret rfl rfl ci_1 (by omega) (kk _ _ ci_1 (by omega))
    · refine h_aload_n (pc' := 29) rfl rfl rfl ?_
      refine h_getR (pc' := 32) rfl rfl rfl rfl rfl ?_
      refine h_aload_n (pc' := 33) rfl rfl rfl ?_
      refine h_getI (pc' := 36) (v := σ 64 4) rfl rfl rfl rfl rfl rfl (fun z2 hz2 => ?_)
      have tz2 := tf_64_4 hI
      refine h_iload_n (pc' := 37) rfl rfl rfl ?_
      refine h_iadd (pc' := 38) rfl rfl hz2 hy2 rfl (by omega) (by omega) (fun z3 hz3 => ?_)
      refine h_iald (pc' := 39) (v := σ 65 ((σ 64 4) + b2)) rfl rfl rfl hz3 (by omega) (by omega) rfl (fun z4 hz4 => ?_)
      have tz4 := ty_65 hI ((σ 64 4) + b2)
      refine h_aload_n (pc' := 40) rfl rfl rfl ?_
      refine h_iload_n (pc' := 41) rfl rfl rfl ?_
      refine h_chr (np := 1) (pc' := 44) (b := g_tx 6) rfl rfl rfl rfl hy2 (by omega) (by show _ < ((4 : Nat) : Int); omega) rfl (fun z5 hz5 => ?_)
      refine h_ceq (tg := 49) (pc' := 47) rfl rfl rfl hz4 rfl (fun c6 => ?_) (fun c6 => ?_)
      · refine h_iinc (pc' := 52) (M := fun z7 => [(2, .int z7), (0, .ref 64), (1, .ref 6)]) rfl rfl rfl rfl hy2 ci_1 rfl (by omega) (by omega) (fun _ => rfl) (fun z7 hz7 => ?_)
        refine h_goto (pc' := 20) rfl rfl ?_
        exact h_wk [(0, .ref 64), (1, .ref 6), (2, .int z7)] ⟨rfl, rfl, rfl, trivial⟩ (ih z7 _ hz7 (by omega) (by omega) (by omega))
      · refine h_iconst (pc' := 48) (x := (Int32.ofInt 0)) rfl rfl rfl ?_
        exact h_zret rfl rfl ci_0 (by omega) (kk _ _ ci_0 (by omega))
theorem v_isName5 {ns : Nat} (σ : h_S) (hI : h_I σ) {Q : Option Value → h_S → Prop} (kk : ∀ (r : Int32) (b : Int) (hb : r.toInt = b), (0 ≤ b ∧ b ≤ 1) → Q (some (.int r)) σ) : h_T g_P (g_Y ns) 77 0 [(0, .ref 64), (1, .ref 6)] [] σ Q := by
  refine h_aload_n (pc' := 1) rfl rfl rfl ?_
  refine h_getI (pc' := 4) (v := σ 64 2) rfl rfl rfl rfl rfl rfl (fun z1 hz1 => ?_)
  have tz1 := tf_64_2 hI
  refine h_aload_n (pc' := 5) rfl rfl rfl ?_
  refine h_getI (pc' := 8) (v := σ 64 4) rfl rfl rfl rfl rfl rfl (fun z2 hz2 => ?_)
  have tz2 := tf_64_4 hI
  refine h_isub (pc' := 9) rfl rfl hz1 hz2 rfl (by omega) (by omega) (fun z3 hz3 => ?_)
  refine h_aload_n (pc' := 10) rfl rfl rfl ?_
  refine h_str (pc' := 13) (x := (Int32.ofInt 4)) rfl rfl rfl rfl rfl ?_
  refine h_ceq (tg := 18) (pc' := 16) rfl rfl rfl hz3 ci_4 (fun c4 => ?_) (fun c4 => ?_)
  · refine h_iconst (pc' := 19) (x := (Int32.ofInt 0)) rfl rfl rfl ?_
    refine h_istore_n (pc' := 20) (M := [(2, .int (Int32.ofInt 0)), (0, .ref 64), (1, .ref 6)]) rfl rfl rfl rfl ?_
    exact h_wk [(0, .ref 64), (1, .ref 6), (2, .int (Int32.ofInt 0))] ⟨rfl, rfl, rfl, trivial⟩ ((v_isName5_l ns σ hI  kk 1000000000000) (Int32.ofInt 0) _ ci_0 (by omega) (by omega) (by omega))
  · refine h_iconst (pc' := 17) (x := (Int32.ofInt 0)) rfl rfl rfl ?_
    exact h_zret rfl rfl ci_0 (by omega) (kk _ _ ci_0 (by omega))
theorem v_isName6_l (ns : Nat) (σ : h_S) (hI : h_I σ) {Q : Option Value → h_S → Prop} (kk : ∀ (r : Int32) (b : Int) (hb : r.toInt = b), (0 ≤ b ∧ b ≤ 1) → Q (some (.int r)) σ) : ∀ n : Nat, (∀ (y2 : Int32) (b2 : Int), y2.toInt = b2 → (0 ≤ b2 ∧ b2 ≤ 4) → (σ 64 2 - σ 64 4 = 4) → (4 + 1 - b2) * 1000000 + 1000000000 ≤ (n : Int) → h_T g_P (g_Y ns) 77 20 [(0, .ref 64), (1, .ref 7), (2, .int y2)] [] σ Q) := by
  intro n
  induction n with
  | zero => exact by intro  y2 b2 hy2 ry2 ex0 hm; have gh0 := tf_64_2 hI; exfalso; omega
  | succ n ih =>
    intro  y2 b2 hy2 ry2 ex0 hm; have gh0 := tf_64_2 hI
    refine h_iload_n (pc' := 21) rfl rfl rfl ?_
    refine h_aload_n (pc' := 22) rfl rfl rfl ?_
    refine h_str (pc' := 25) (x := (Int32.ofInt 4)) rfl rfl rfl rfl rfl ?_
    refine h_cge (tg := 55) (pc' := 28) rfl rfl rfl hy2 ci_4 (fun c1 => ?_) (fun c1 => ?_)
    · refine h_iconst (pc' := 56) (x := (Int32.ofInt 1)) rfl rfl rfl ?_
      exact h_zret rfl rfl ci_1 (by omega) (kk _ _ ci_1 (by omega))
    · refine h_aload_n (pc' := 29) rfl rfl rfl ?_
      refine h_getR (pc' := 32) rfl rfl rfl rfl rfl ?_
      refine h_aload_n (pc' := 33) rfl rfl rfl ?_
      refine h_getI (pc' := 36) (v := σ 64 4) rfl rfl rfl rfl rfl rfl (fun z2 hz2 => ?_)
      have tz2 := tf_64_4 hI
      refine h_iload_n (pc' := 37) rfl rfl rfl ?_
      refine h_iadd (pc' := 38) rfl rfl hz2 hy2 rfl (by omega) (by omega) (fun z3 hz3 => ?_)
      refine h_iald (pc' := 39) (v := σ 65 ((σ 64 4) + b2)) rfl rfl rfl hz3 (by omega) (by omega) rfl (fun z4 hz4 => ?_)
      have tz4 := ty_65 hI ((σ 64 4) + b2)
      refine h_aload_n (pc' := 40) rfl rfl rfl ?_
      refine h_iload_n (pc' := 41) rfl rfl rfl ?_
      refine h_chr (np := 1) (pc' := 44) (b := g_tx 7) rfl rfl rfl rfl hy2 (by omega) (by show _ < ((4 : Nat) : Int); omega) rfl (fun z5 hz5 => ?_)
      refine h_ceq (tg := 49) (pc' := 47) rfl rfl rfl hz4 rfl (fun c6 => ?_) (fun c6 => ?_)
      · refine h_iinc (pc' := 52) (M := fun z7 => [(2, .int z7), (0, .ref 64), (1, .ref 7)]) rfl rfl rfl rfl hy2 ci_1 rfl (by omega) (by omega) (fun _ => rfl) (fun z7 hz7 => ?_)
        refine h_goto (pc' := 20) rfl rfl ?_
        exact h_wk [(0, .ref 64), (1, .ref 7), (2, .int z7)] ⟨rfl, rfl, rfl, trivial⟩ (ih z7 _ hz7 (by omega) (by omega) (by omega))
      · refine h_iconst (pc' := 48) (x := (Int32.ofInt 0)) rfl rfl rfl ?_
        exact h_zret rfl rfl ci_0 (by omega) (kk _ _ ci_0 (by omega))
theorem v_isName6 {ns : Nat} (σ : h_S) (hI : h_I σ) {Q : Option Value → h_S → Prop} (kk : ∀ (r : Int32) (b : Int) (hb : r.toInt = b), (0 ≤ b ∧ b ≤ 1) → Q (some (.int r)) σ) : h_T g_P (g_Y ns) 77 0 [(0, .ref 64), (1, .ref 7)] [] σ Q := by
  refine h_aload_n (pc' := 1) rfl rfl rfl ?_
  refine h_getI (pc' := 4) (v := σ 64 2) rfl rfl rfl rfl rfl rfl (fun z1 hz1 => ?_)
  have tz1 := tf_64_2 hI
  refine h_aload_n (pc' := 5) rfl rfl rfl ?_
  refine h_getI (pc' := 8) (v := σ 64 4) rfl rfl rfl rfl rfl rfl (fun z2 hz2 => ?_)
  have tz2 := tf_64_4 hI
  refine h_isub (pc' := 9) rfl rfl hz1 hz2 rfl (by omega) (by omega) (fun z3 hz3 => ?_)
  refine h_aload_n (pc' := 10) rfl rfl rfl ?_
  refine h_str (pc' := 13) (x := (Int32.ofInt 4)) rfl rfl rfl rfl rfl ?_
  refine h_ceq (tg := 18) (pc' := 16) rfl rfl rfl hz3 ci_4 (fun c4 => ?_) (fun c4 => ?_)
  · refine h_iconst (pc' := 19) (x := (Int32.ofInt 0)) rfl rfl rfl ?_
    refine h_istore_n (pc' := 20) (M := [(2, .int (Int32.ofInt 0)), (0, .ref 64), (1, .ref 7)]) rfl rfl rfl rfl ?_
    exact h_wk [(0, .ref 64), (1, .ref 7), (2, .int (Int32.ofInt 0))] ⟨rfl, rfl, rfl, trivial⟩ ((v_isName6_l ns σ hI  kk 1000000000000) (Int32.ofInt 0) _ ci_0 (by omega) (by omega) (by omega))
  · refine h_iconst (pc' := 17) (x := (Int32.ofInt 0)) rfl rfl rfl ?_
    exact h_zret rfl rfl ci_0 (by omega) (kk _ _ ci_0 (by omega))
theorem v_isName7_l (ns : Nat) (σ : h_S) (hI : h_I σ) {Q : Option Value → h_S → Prop} (kk : ∀ (r : Int32) (b : Int) (hb : r.toInt = b), (0 ≤ b ∧ b ≤ 1) → Q (some (.int r)) σ) : ∀ n : Nat, (∀ (y2 : Int32) (b2 : Int), y2.toInt = b2 → (0 ≤ b2 ∧ b2 ≤ 4) → (σ 64 2 - σ 64 4 = 4) → (4 + 1 - b2) * 1000000 + 1000000000 ≤ (n : Int) → h_T g_P (g_Y ns) 77 20 [(0, .ref 64), (1, .ref 8), (2, .int y2)] [] σ Q) := by
  intro n
  induction n with
  | zero => exact by intro  y2 b2 hy2 ry2 ex0 hm; have gh0 := tf_64_2 hI; exfalso; omega
  | succ n ih =>
    intro  y2 b2 hy2 ry2 ex0 hm; have gh0 := tf_64_2 hI
    refine h_iload_n (pc' := 21) rfl rfl rfl ?_
    refine h_aload_n (pc' := 22) rfl rfl rfl ?_
    refine h_str (pc' := 25) (x := (Int32.ofInt 4)) rfl rfl rfl rfl rfl ?_
    refine h_cge (tg := 55) (pc' := 28) rfl rfl rfl hy2 ci_4 (fun c1 => ?_) (fun c1 => ?_)
    · refine h_iconst (pc' := 56) (x := (Int32.ofInt 1)) rfl rfl rfl ?_
      exact h_zret rfl rfl ci_1 (by omega) (kk _ _ ci_1 (by omega))
    · refine h_aload_n (pc' := 29) rfl rfl rfl ?_
      refine h_getR (pc' := 32) rfl rfl rfl rfl rfl ?_
      refine h_aload_n (pc' := 33) rfl rfl rfl ?_
      refine h_getI (pc' := 36) (v := σ 64 4) rfl rfl rfl rfl rfl rfl (fun z2 hz2 => ?_)
      have tz2 := tf_64_4 hI
      refine h_iload_n (pc' := 37) rfl rfl rfl ?_
      refine h_iadd (pc' := 38) rfl rfl hz2 hy2 rfl (by omega) (by omega) (fun z3 hz3 => ?_)
      refine h_iald (pc' := 39) (v := σ 65 ((σ 64 4) + b2)) rfl rfl rfl hz3 (by omega) (by omega) rfl (fun z4 hz4 => ?_)
      have tz4 := ty_65 hI ((σ 64 4) + b2)
      refine h_aload_n (pc' := 40) rfl rfl rfl ?_
      refine h_iload_n (pc' := 41) rfl rfl rfl ?_
      refine h_chr (np := 1) (pc' := 44) (b := g_tx 8) rfl rfl rfl rfl hy2 (by omega) (by show _ < ((4 : Nat) : Int); omega) rfl (fun z5 hz5 => ?_)
      refine h_ceq (tg := 49) (pc' := 47) rfl rfl rfl hz4 rfl (fun c6 => ?_) (fun c6 => ?_)
      · refine h_iinc (pc' := 52) (M := fun z7 => [(2, .int z7), (0, .ref 64), (1, .ref 8)]) rfl rfl rfl rfl hy2 ci_1 rfl (by omega) (by omega) (fun _ => rfl) (fun z7 hz7 => ?_)
        refine h_goto (pc' := 20) rfl rfl ?_
        exact h_wk [(0, .ref 64), (1, .ref 8), (2, .int z7)] ⟨rfl, rfl, rfl, trivial⟩ (ih z7 _ hz7 (by omega) (by omega) (by omega))
      · refine h_iconst (pc' := 48) (x := (Int32.ofInt 0)) rfl rfl rfl ?_
        exact h_zret rfl rfl ci_0 (by omega) (kk _ _ ci_0 (by omega))
theorem v_isName7 {ns : Nat} (σ : h_S) (hI : h_I σ) {Q : Option Value → h_S → Prop} (kk : ∀ (r : Int32) (b : Int) (hb : r.toInt = b), (0 ≤ b ∧ b ≤ 1) → Q (some (.int r)) σ) : h_T g_P (g_Y ns) 77 0 [(0, .ref 64), (1, .ref 8)] [] σ Q := by
  refine h_aload_n (pc' := 1) rfl rfl rfl ?_
  refine h_getI (pc' := 4) (v := σ 64 2) rfl rfl rfl rfl rfl rfl (fun z1 hz1 => ?_)
  have tz1 := tf_64_2 hI
  refine h_aload_n (pc' := 5) rfl rfl rfl ?_
  refine h_getI (pc' := 8) (v := σ 64 4) rfl rfl rfl rfl rfl rfl (fun z2 hz2 => ?_)
  have tz2 := tf_64_4 hI
  refine h_isub (pc' := 9) rfl rfl hz1 hz2 rfl (by omega) (by omega) (fun z3 hz3 => ?_)
  refine h_aload_n (pc' := 10) rfl rfl rfl ?_
  refine h_str (pc' := 13) (x := (Int32.ofInt 4)) rfl rfl rfl rfl rfl ?_
  refine h_ceq (tg := 18) (pc' := 16) rfl rfl rfl hz3 ci_4 (fun c4 => ?_) (fun c4 => ?_)
  · refine h_iconst (pc' := 19) (x := (Int32.ofInt 0)) rfl rfl rfl ?_
    refine h_istore_n (pc' := 20) (M := [(2, .int (Int32.ofInt 0)), (0, .ref 64), (1, .ref 8)]) rfl rfl rfl rfl ?_
    exact h_wk [(0, .ref 64), (1, .ref 8), (2, .int (Int32.ofInt 0))] ⟨rfl, rfl, rfl, trivial⟩ ((v_isName7_l ns σ hI  kk 1000000000000) (Int32.ofInt 0) _ ci_0 (by omega) (by omega) (by omega))
  · refine h_iconst (pc' := 17) (x := (Int32.ofInt 0)) rfl rfl rfl ?_
    exact h_zret rfl rfl ci_0 (by omega) (kk _ _ ci_0 (by omega))
theorem v_whichName {ns : Nat} (σ : h_S) (hI : h_I σ) {Q : Option Value → h_S → Prop} (kk : ∀ (r : Int32) (b : Int) (hb : r.toInt = b), ((-4) ≤ b ∧ b ≤ 7) → (b = -4 ∨ 0 ≤ b) → Q (some (.int r)) σ) : h_T g_P (g_Y ns) 76 0 [(0, .ref 64)] [] σ Q := by
  refine h_aload_n (pc' := 1) rfl rfl rfl ?_
  refine h_ldcS (pc' := 3) (q := 1) rfl rfl rfl ?_
  refine h_call (sp := false) (pc' := 6) (M := [(0, .ref 64), (1, .ref 1)]) rfl rfl rfl rfl rfl rfl rfl rfl ?_
  refine v_isName0 _ hI  (fun r1 br1 hr1 tr1 => h_Kv ?_)
  refine h_zeq (tg := 11) (pc' := 9) rfl rfl rfl hr1 (fun c3 => ?_) (fun c3 => ?_)
  · refine h_aload_n (pc' := 12) rfl rfl rfl ?_
    refine h_ldcS (pc' := 14) (q := 2) rfl rfl rfl ?_
    refine h_call (sp := false) (pc' := 17) (M := [(0, .ref 64), (1, .ref 2)]) rfl rfl rfl rfl rfl rfl rfl rfl ?_
    refine v_isName1 _ hI  (fun r4 br4 hr4 tr4 => h_Kv ?_)
    refine h_zeq (tg := 22) (pc' := 20) rfl rfl rfl hr4 (fun c6 => ?_) (fun c6 => ?_)
    · refine h_aload_n (pc' := 23) rfl rfl rfl ?_
      refine h_ldcS (pc' := 25) (q := 3) rfl rfl rfl ?_
      refine h_call (sp := false) (pc' := 28) (M := [(0, .ref 64), (1, .ref 3)]) rfl rfl rfl rfl rfl rfl rfl rfl ?_
      refine v_isName2 _ hI  (fun r7 br7 hr7 tr7 => h_Kv ?_)
      refine h_zeq (tg := 33) (pc' := 31) rfl rfl rfl hr7 (fun c9 => ?_) (fun c9 => ?_)
      · refine h_aload_n (pc' := 34) rfl rfl rfl ?_
        refine h_ldcS (pc' := 36) (q := 4) rfl rfl rfl ?_
        refine h_call (sp := false) (pc' := 39) (M := [(0, .ref 64), (1, .ref 4)]) rfl rfl rfl rfl rfl rfl rfl rfl ?_
        refine v_isName3 _ hI  (fun r10 br10 hr10 tr10 => h_Kv ?_)
        refine h_zeq (tg := 44) (pc' := 42) rfl rfl rfl hr10 (fun c12 => ?_) (fun c12 => ?_)
        · refine h_aload_n (pc' := 45) rfl rfl rfl ?_
          refine h_ldcS (pc' := 47) (q := 5) rfl rfl rfl ?_
          refine h_call (sp := false) (pc' := 50) (M := [(0, .ref 64), (1, .ref 5)]) rfl rfl rfl rfl rfl rfl rfl rfl ?_
          refine v_isName4 _ hI  (fun r13 br13 hr13 tr13 => h_Kv ?_)
          refine h_zeq (tg := 55) (pc' := 53) rfl rfl rfl hr13 (fun c15 => ?_) (fun c15 => ?_)
          · refine h_aload_n (pc' := 56) rfl rfl rfl ?_
            refine h_ldcS (pc' := 58) (q := 6) rfl rfl rfl ?_
            refine h_call (sp := false) (pc' := 61) (M := [(0, .ref 64), (1, .ref 6)]) rfl rfl rfl rfl rfl rfl rfl rfl ?_
            refine v_isName5 _ hI  (fun r16 br16 hr16 tr16 => h_Kv ?_)
            refine h_zeq (tg := 66) (pc' := 64) rfl rfl rfl hr16 (fun c18 => ?_) (fun c18 => ?_)
            · refine h_aload_n (pc' := 67) rfl rfl rfl ?_
              refine h_ldcS (pc' := 69) (q := 7) rfl rfl rfl ?_
              refine h_call (sp := false) (pc' := 72) (M := [(0, .ref 64), (1, .ref 7)]) rfl rfl rfl rfl rfl rfl rfl rfl ?_
              refine v_isName6 _ hI  (fun r19 br19 hr19 tr19 => h_Kv ?_)
              refine h_zeq (tg := 78) (pc' := 75) rfl rfl rfl hr19 (fun c21 => ?_) (fun c21 => ?_)
              · refine h_aload_n (pc' := 79) rfl rfl rfl ?_
                refine h_ldcS (pc' := 81) (q := 8) rfl rfl rfl ?_
                refine h_call (sp := false) (pc' := 84) (M := [(0, .ref 64), (1, .ref 8)]) rfl rfl rfl rfl rfl rfl rfl rfl ?_
                refine v_isName7 _ hI  (fun r22 br22 hr22 tr22 => h_Kv ?_)
                refine h_zeq (tg := 92) (pc' := 87) rfl rfl rfl hr22 (fun c24 => ?_) (fun c24 => ?_)
                · refine h_bipush (pc' := 94) (x := (Int32.ofInt (-4))) rfl rfl cb_m4 ?_
                  exact h_iret rfl rfl (kk _ _ ci_m4 (by omega) (by omega))
                · refine h_bipush (pc' := 89) (x := (Int32.ofInt 7)) rfl rfl cb_7 ?_
                  refine h_goto (pc' := 94) rfl rfl ?_
                  exact h_iret rfl rfl (kk _ _ ci_7 (by omega) (by omega))
              · refine h_bipush (pc' := 77) (x := (Int32.ofInt 6)) rfl rfl cb_6 ?_
                exact h_iret rfl rfl (kk _ _ ci_6 (by omega) (by omega))
            · refine h_iconst (pc' := 65) (x := (Int32.ofInt 5)) rfl rfl rfl ?_
              exact h_iret rfl rfl (kk _ _ ci_5 (by omega) (by omega))
          · refine h_iconst (pc' := 54) (x := (Int32.ofInt 4)) rfl rfl rfl ?_
            exact h_iret rfl rfl (kk _ _ ci_4 (by omega) (by omega))
        · refine h_iconst (pc' := 43) (x := (Int32.ofInt 3)) rfl rfl rfl ?_
          exact h_iret rfl rfl (kk _ _ ci_3 (by omega) (by omega))
      · refine h_iconst (pc' := 32) (x := (Int32.ofInt 2)) rfl rfl rfl ?_
        exact h_iret rfl rfl (kk _ _ ci_2 (by omega) (by omega))
    · refine h_iconst (pc' := 21) (x := (Int32.ofInt 1)) rfl rfl rfl ?_
      exact h_iret rfl rfl (kk _ _ ci_1 (by omega) (by omega))
  · refine h_iconst (pc' := 10) (x := (Int32.ofInt 0)) rfl rfl rfl ?_
    exact h_iret rfl rfl (kk _ _ ci_0 (by omega) (by omega))
def kf_v_stepX : List Nat := [64514, 64515, 65538, 65539, 65540, 65541]
set_option maxHeartbeats 100000000 in
theorem v_stepX {ns : Nat} (σ : h_S) (hI : h_I σ) {Q : Option Value → h_S → Prop} (kk : ∀ (τ : h_S), h_I τ → h_F (k_in kf_v_stepX) τ σ → (((1 ≤ σ 63 2 ∧ σ 63 2 ≤ 6) ∧ (1 ≤ τ 63 2 ∧ τ 63 2 ≤ 6)) ∨ ((σ 63 2 = 0) ∧ (1 ≤ τ 63 2 ∧ τ 63 2 ≤ 6)) ∨ ((σ 63 2 = 0) ∧ (τ 63 2 = 0) ∧ (¬ τ 64 3 = 2 ∨ (0 ≤ τ 64 5 ∧ τ 64 5 ≤ 99)))) → Q none τ) : h_T g_P (g_Y ns) 54 0 [(0, .ref 63)] [] σ Q := by
  have F00 : h_F (k_in kf_v_stepX) σ σ := h_F.rf
  have ge0 := tf_63_2 hI
  refine h_aload_n (pc' := 1) rfl rfl rfl ?_
  refine h_getI (pc' := 4) (v := σ 63 2) rfl rfl rfl rfl rfl rfl (fun z1 hz1 => ?_)
  have tz1 := tf_63_2 hI
  refine h_zne (tg := 37) (pc' := 7) rfl rfl rfl hz1 (fun c2 => ?_) (fun c2 => ?_)
  · exact h_vret rfl rfl (kk _ hI F00 (Or.inl ⟨by omega, by omega⟩))
  · refine h_aload_n (pc' := 8) rfl rfl rfl ?_
    refine h_getR (pc' := 11) rfl rfl rfl rfl rfl ?_
    refine h_call (sp := false) (pc' := 14) (M := [(0, .ref 64)]) rfl rfl rfl rfl rfl rfl rfl rfl ?_
    refine v_readToken _ hI  (fun s4 Is4 Gs4 ps4_0 ps4_1 => h_Kn ?_)
    have Fs4 := (Gs4.mono (B := kf_v_stepX) rfl).tr F00
    have es4_0 : s4 63 2 = σ 63 2 := (Gs4 63 2 rfl).trans rfl
    refine h_aload_n (pc' := 15) rfl rfl rfl ?_
    refine h_getR (pc' := 18) rfl rfl rfl rfl rfl ?_
    refine h_getI (pc' := 21) (v := s4 64 3) rfl rfl rfl rfl rfl rfl (fun z5 hz5 => ?_)
    have tz5 := tf_64_3 Is4
    refine h_iconst (pc' := 22) (x := (Int32.ofInt 4)) rfl rfl rfl ?_
    refine h_cne (tg := 37) (pc' := 25) rfl rfl rfl hz5 ci_4 (fun c6 => ?_) (fun c6 => ?_)
    · exact h_vret rfl rfl (kk _ Is4 Fs4 (Or.inr (Or.inr ⟨by omega, by omega, by omega⟩)))
    · refine h_aload_n (pc' := 26) rfl rfl rfl ?_
      refine h_iconst (pc' := 27) (x := (Int32.ofInt 1)) rfl rfl rfl ?_
      refine h_aload_n (pc' := 28) rfl rfl rfl ?_
      refine h_getR (pc' := 31) rfl rfl rfl rfl rfl ?_
      refine h_getI (pc' := 34) (v := s4 64 4) rfl rfl rfl rfl rfl rfl (fun z7 hz7 => ?_)
      have tz7 := tf_64_4 Is4
      refine h_call (sp := false) (pc' := 37) (M := [(0, .ref 63), (1, .int (Int32.ofInt 1)), (2, .int z7)]) rfl rfl rfl rfl rfl rfl rfl rfl ?_
      refine h_aload_n (pc' := 1) rfl rfl rfl ?_
      refine h_getI (pc' := 4) (v := σ 63 2) rfl rfl rfl rfl rfl es4_0 (fun z8 hz8 => ?_)
      have tz8 := tf_63_2 hI
      refine h_zne (tg := 17) (pc' := 7) rfl rfl rfl hz8 (fun c9 => absurd c9 (by omega)) (fun c9 => ?_)
      refine h_aload_n (pc' := 8) rfl rfl rfl ?_
      refine h_iload_n (pc' := 9) rfl rfl rfl ?_
      refine h_put (pc' := 12) rfl rfl rfl rfl rfl rfl ci_1 rfl (h_fgt (E := fun s => s 63 2 = 1 ∧ s 64 3 = s4 64 3 ∧ s 64 5 = s4 64 5) _ (if_63_2 Is4 (by omega)) (Fs4.up rfl) ⟨rfl, rfl, rfl⟩ (fun s10 Is10 Fs10 (es10 : s10 63 2 = 1 ∧ s10 64 3 = s4 64 3 ∧ s10 64 5 = s4 64 5) => ?_))
      clear es4_0
      refine h_aload_n (pc' := 13) rfl rfl rfl ?_
      refine h_iload_n (pc' := 14) rfl rfl rfl ?_
      refine h_put (pc' := 17) rfl rfl rfl rfl rfl rfl hz7 rfl (h_fgt (E := fun s => s 63 2 = 1 ∧ s 64 3 = s4 64 3 ∧ s 64 5 = s4 64 5) _ (if_63_3 Is10 (h_rgv hz7)) (Fs10.up rfl) ⟨es10.1, es10.2.1, es10.2.2⟩ (fun s11 Is11 Fs11 (es11 : s11 63 2 = 1 ∧ s11 64 3 = s4 64 3 ∧ s11 64 5 = s4 64 5) => ?_))
      clear es10
      refine h_vret rfl rfl (h_Kn ?_)
      exact h_vret rfl rfl (kk _ Is11 Fs11 (Or.inr (Or.inl ⟨by omega, by omega⟩)))
def kf_v_takeName : List Nat := [64514, 64515, 65538, 65539, 65540, 65541]
set_option maxHeartbeats 100000000 in
theorem v_takeName {ns : Nat} (σ : h_S) (hI : h_I σ) (x0 : Int32) (a0 : Int) (hx0 : x0.toInt = a0) (ra0 : 0 ≤ a0 ∧ a0 ≤ 1) {Q : Option Value → h_S → Prop} (kk : ∀ (τ : h_S), h_I τ → h_F (k_in kf_v_takeName) τ σ → (((1 ≤ σ 63 2 ∧ σ 63 2 ≤ 6) ∧ (1 ≤ τ 63 2 ∧ τ 63 2 ≤ 6)) ∨ ((σ 63 2 = 0) ∧ (1 ≤ τ 63 2 ∧ τ 63 2 ≤ 6)) ∨ ((σ 63 2 = 0) ∧ (τ 63 2 = 0) ∧ (¬ τ 64 3 = 2 ∨ (0 ≤ τ 64 5 ∧ τ 64 5 ≤ 99)))) → Q none τ) : h_T g_P (g_Y ns) 57 0 [(0, .ref 63), (1, .int x0)] [] σ Q := by
  have F00 : h_F (k_in kf_v_takeName) σ σ := h_F.rf
  have ge0 := tf_63_2 hI
  refine h_iload_n (pc' := 1) rfl rfl rfl ?_
  refine h_zeq (tg := 16) (pc' := 4) rfl rfl rfl hx0 (fun c1 => ?_) (fun c1 => ?_)
  · refine h_aload_n (pc' := 17) rfl rfl rfl ?_
    refine h_call (sp := false) (pc' := 20) (M := [(0, .ref 63)]) rfl rfl rfl rfl rfl rfl rfl rfl ?_
    refine v_stepX _ hI  (fun s3 Is3 Gs3 pcs3 => h_Kn ?_)
    have Fs3 := (Gs3.mono (B := kf_v_takeName) rfl).tr F00
    rcases pcs3 with pcs3 | pcs3 | pcs3
    · exact h_vret rfl rfl (kk _ Is3 Fs3 (Or.inl ⟨by omega, by omega⟩))
    · exact h_vret rfl rfl (kk _ Is3 Fs3 (Or.inr (Or.inl ⟨by omega, by omega⟩)))
    · exact h_vret rfl rfl (kk _ Is3 Fs3 (Or.inr (Or.inr ⟨by omega, by omega, by omega⟩)))
  · refine h_aload_n (pc' := 5) rfl rfl rfl ?_
    refine h_iconst (pc' := 6) (x := (Int32.ofInt 5)) rfl rfl rfl ?_
    refine h_aload_n (pc' := 7) rfl rfl rfl ?_
    refine h_getR (pc' := 10) rfl rfl rfl rfl rfl ?_
    refine h_getI (pc' := 13) (v := σ 64 4) rfl rfl rfl rfl rfl rfl (fun z4 hz4 => ?_)
    have tz4 := tf_64_4 hI
    refine h_call (sp := false) (pc' := 16) (M := [(0, .ref 63), (1, .int (Int32.ofInt 5)), (2, .int z4)]) rfl rfl rfl rfl rfl rfl rfl rfl ?_
    refine h_aload_n (pc' := 1) rfl rfl rfl ?_
    refine h_getI (pc' := 4) (v := σ 63 2) rfl rfl rfl rfl rfl rfl (fun z5 hz5 => ?_)
    have tz5 := tf_63_2 hI
    refine h_zne (tg := 17) (pc' := 7) rfl rfl rfl hz5 (fun c6 => ?_) (fun c6 => ?_)
    · refine h_vret rfl rfl (h_Kn ?_)
      refine h_aload_n (pc' := 17) rfl rfl rfl ?_
      refine h_call (sp := false) (pc' := 20) (M := [(0, .ref 63)]) rfl rfl rfl rfl rfl rfl rfl rfl ?_
      refine v_stepX _ hI  (fun s8 Is8 Gs8 pcs8 => h_Kn ?_)
      have Fs8 := (Gs8.mono (B := kf_v_takeName) rfl).tr F00
      rcases pcs8 with pcs8 | pcs8 | pcs8
      · exact h_vret rfl rfl (kk _ Is8 Fs8 (Or.inl ⟨by omega, by omega⟩))
      · exfalso; omega
      · exfalso; omega
    · refine h_aload_n (pc' := 8) rfl rfl rfl ?_
      refine h_iload_n (pc' := 9) rfl rfl rfl ?_
      refine h_put (pc' := 12) rfl rfl rfl rfl rfl rfl ci_5 rfl (h_fgt (E := fun s => s 63 2 = 5 ∧ s 64 3 = σ 64 3 ∧ s 64 5 = σ 64 5) _ (if_63_2 hI (by omega)) (F00.up rfl) ⟨rfl, rfl, rfl⟩ (fun s9 Is9 Fs9 (es9 : s9 63 2 = 5 ∧ s9 64 3 = σ 64 3 ∧ s9 64 5 = σ 64 5) => ?_))
      refine h_aload_n (pc' := 13) rfl rfl rfl ?_
      refine h_iload_n (pc' := 14) rfl rfl rfl ?_
      refine h_put (pc' := 17) rfl rfl rfl rfl rfl rfl hz4 rfl (h_fgt (E := fun s => s 63 2 = 5 ∧ s 64 3 = σ 64 3 ∧ s 64 5 = σ 64 5) _ (if_63_3 Is9 (h_rgv hz4)) (Fs9.up rfl) ⟨es9.1, es9.2.1, es9.2.2⟩ (fun s10 Is10 Fs10 (es10 : s10 63 2 = 5 ∧ s10 64 3 = σ 64 3 ∧ s10 64 5 = σ 64 5) => ?_))
      clear es9
      refine h_vret rfl rfl (h_Kn ?_)
      refine h_aload_n (pc' := 17) rfl rfl rfl ?_
      refine h_call (sp := false) (pc' := 20) (M := [(0, .ref 63)]) rfl rfl rfl rfl rfl rfl rfl rfl ?_
      refine v_stepX _ Is10  (fun s12 Is12 Gs12 pcs12 => h_Kn ?_)
      have Fs12 := (Gs12.mono (B := kf_v_takeName) rfl).tr Fs10
      rcases pcs12 with pcs12 | pcs12 | pcs12
      · exact h_vret rfl rfl (kk _ Is12 Fs12 (Or.inr (Or.inl ⟨by omega, by omega⟩)))
      · exfalso; omega
      · exfalso; omega
def kf_v_takeNumber : List Nat := [64514, 64515, 65538, 65539, 65540, 65541]
set_option maxHeartbeats 100000000 in
theorem v_takeNumber {ns : Nat} (σ : h_S) (hI : h_I σ) (x0 : Int32) (a0 : Int) (hx0 : x0.toInt = a0) (pr0 : (¬ σ 63 2 = 0 ∨ ¬ σ 64 3 = 2 ∨ (0 ≤ σ 64 5 ∧ σ 64 5 ≤ 99))) {Q : Option Value → h_S → Prop} (kk : ∀ (r : Int32) (b : Int) (hb : r.toInt = b) (τ : h_S), h_I τ → h_F (k_in kf_v_takeNumber) τ σ → (((1 ≤ σ 63 2 ∧ σ 63 2 ≤ 6) ∧ (1 ≤ τ 63 2 ∧ τ 63 2 ≤ 6)) ∨ ((σ 63 2 = 0) ∧ (1 ≤ τ 63 2 ∧ τ 63 2 ≤ 6)) ∨ ((σ 63 2 = 0) ∧ (τ 63 2 = 0) ∧ (0 ≤ b ∧ b ≤ 99) ∧ (¬ τ 64 3 = 2 ∨ (0 ≤ τ 64 5 ∧ τ 64 5 ≤ 99)) ∧ (b ≤ a0))) → Q (some (.int r)) τ) : h_T g_P (g_Y ns) 58 0 [(0, .ref 63), (1, .int x0)] [] σ Q := by
  have F00 : h_F (k_in kf_v_takeNumber) σ σ := h_F.rf
  have ge0 := tf_63_2 hI
  refine h_aload_n (pc' := 1) rfl rfl rfl ?_
  refine h_getI (pc' := 4) (v := σ 63 2) rfl rfl rfl rfl rfl rfl (fun z1 hz1 => ?_)
  have tz1 := tf_63_2 hI
  refine h_zne (tg := 30) (pc' := 7) rfl rfl rfl hz1 (fun c2 => ?_) (fun c2 => ?_)
  · refine h_aload_n (pc' := 31) rfl rfl rfl ?_
    refine h_getI (pc' := 34) (v := σ 63 2) rfl rfl rfl rfl rfl rfl (fun z3 hz3 => ?_)
    have tz3 := tf_63_2 hI
    refine h_zne (tg := 60) (pc' := 37) rfl rfl rfl hz3 (fun c4 => ?_) (fun c4 => absurd c4 (by omega))
    refine h_aload_n (pc' := 61) rfl rfl rfl ?_
    refine h_getR (pc' := 64) rfl rfl rfl rfl rfl ?_
    refine h_getI (pc' := 67) (v := σ 64 5) rfl rfl rfl rfl rfl rfl (fun z5 hz5 => ?_)
    have tz5 := tf_64_5 hI
    refine h_istore_n (pc' := 68) (M := [(2, .int z5), (0, .ref 63), (1, .int x0)]) rfl rfl rfl rfl ?_
    refine h_aload_n (pc' := 69) rfl rfl rfl ?_
    refine h_call (sp := false) (pc' := 72) (M := [(0, .ref 63)]) rfl rfl rfl rfl rfl rfl rfl rfl ?_
    refine v_stepX _ hI  (fun s7 Is7 Gs7 pcs7 => h_Kn ?_)
    have Fs7 := (Gs7.mono (B := kf_v_takeNumber) rfl).tr F00
    rcases pcs7 with pcs7 | pcs7 | pcs7
    · refine h_iload_n (pc' := 73) rfl rfl rfl ?_
      exact h_iret rfl rfl (kk _ _ hz5 _ Is7 Fs7 (Or.inl ⟨by omega, by omega⟩))
    · exfalso; omega
    · exfalso; omega
  · refine h_aload_n (pc' := 8) rfl rfl rfl ?_
    refine h_getR (pc' := 11) rfl rfl rfl rfl rfl ?_
    refine h_getI (pc' := 14) (v := σ 64 3) rfl rfl rfl rfl rfl rfl (fun z8 hz8 => ?_)
    have tz8 := tf_64_3 hI
    refine h_iconst (pc' := 15) (x := (Int32.ofInt 2)) rfl rfl rfl ?_
    refine h_ceq (tg := 30) (pc' := 18) rfl rfl rfl hz8 ci_2 (fun c9 => ?_) (fun c9 => ?_)
    · refine h_aload_n (pc' := 31) rfl rfl rfl ?_
      refine h_getI (pc' := 34) (v := σ 63 2) rfl rfl rfl rfl rfl rfl (fun z10 hz10 => ?_)
      have tz10 := tf_63_2 hI
      refine h_zne (tg := 60) (pc' := 37) rfl rfl rfl hz10 (fun c11 => absurd c11 (by omega)) (fun c11 => ?_)
      refine h_aload_n (pc' := 38) rfl rfl rfl ?_
      refine h_getR (pc' := 41) rfl rfl rfl rfl rfl ?_
      refine h_getI (pc' := 44) (v := σ 64 5) rfl rfl rfl rfl rfl rfl (fun z12 hz12 => ?_)
      have tz12 := tf_64_5 hI
      refine h_iload_n (pc' := 45) rfl rfl rfl ?_
      refine h_cle (tg := 60) (pc' := 48) rfl rfl rfl hz12 hx0 (fun c13 => ?_) (fun c13 => ?_)
      · refine h_aload_n (pc' := 61) rfl rfl rfl ?_
        refine h_getR (pc' := 64) rfl rfl rfl rfl rfl ?_
        refine h_getI (pc' := 67) (v := σ 64 5) rfl rfl rfl rfl rfl rfl (fun z14 hz14 => ?_)
        have tz14 := tf_64_5 hI
        refine h_istore_n (pc' := 68) (M := [(2, .int z14), (0, .ref 63), (1, .int x0)]) rfl rfl rfl rfl ?_
        refine h_aload_n (pc' := 69) rfl rfl rfl ?_
        refine h_call (sp := false) (pc' := 72) (M := [(0, .ref 63)]) rfl rfl rfl rfl rfl rfl rfl rfl ?_
        refine v_stepX _ hI  (fun s16 Is16 Gs16 pcs16 => h_Kn ?_)
        have Fs16 := (Gs16.mono (B := kf_v_takeNumber) rfl).tr F00
        rcases pcs16 with pcs16 | pcs16 | pcs16
        · exfalso; omega
        · refine h_iload_n (pc' := 73) rfl rfl rfl ?_
          exact h_iret rfl rfl (kk _ _ hz14 _ Is16 Fs16 (Or.inr (Or.inl ⟨by omega, by omega⟩)))
        · refine h_iload_n (pc' := 73) rfl rfl rfl ?_
          exact h_iret rfl rfl (kk _ _ hz14 _ Is16 Fs16 (by omega))
      · refine h_aload_n (pc' := 49) rfl rfl rfl ?_
        refine h_iconst (pc' := 50) (x := (Int32.ofInt 3)) rfl rfl rfl ?_
        refine h_aload_n (pc' := 51) rfl rfl rfl ?_
        refine h_getR (pc' := 54) rfl rfl rfl rfl rfl ?_
        refine h_getI (pc' := 57) (v := σ 64 4) rfl rfl rfl rfl rfl rfl (fun z17 hz17 => ?_)
        have tz17 := tf_64_4 hI
        refine h_call (sp := false) (pc' := 60) (M := [(0, .ref 63), (1, .int (Int32.ofInt 3)), (2, .int z17)]) rfl rfl rfl rfl rfl rfl rfl rfl ?_
        refine h_aload_n (pc' := 1) rfl rfl rfl ?_
        refine h_getI (pc' := 4) (v := σ 63 2) rfl rfl rfl rfl rfl rfl (fun z18 hz18 => ?_)
        have tz18 := tf_63_2 hI
        refine h_zne (tg := 17) (pc' := 7) rfl rfl rfl hz18 (fun c19 => absurd c19 (by omega)) (fun c19 => ?_)
        refine h_aload_n (pc' := 8) rfl rfl rfl ?_
        refine h_iload_n (pc' := 9) rfl rfl rfl ?_
        refine h_put (pc' := 12) rfl rfl rfl rfl rfl rfl ci_3 rfl (h_fgt (E := fun s => s 63 2 = 3 ∧ s 64 3 = σ 64 3 ∧ s 64 5 = σ 64 5) _ (if_63_2 hI (by omega)) (F00.up rfl) ⟨rfl, rfl, rfl⟩ (fun s20 Is20 Fs20 (es20 : s20 63 2 = 3 ∧ s20 64 3 = σ 64 3 ∧ s20 64 5 = σ 64 5) => ?_))
        refine h_aload_n (pc' := 13) rfl rfl rfl ?_
        refine h_iload_n (pc' := 14) rfl rfl rfl ?_
        refine h_put (pc' := 17) rfl rfl rfl rfl rfl rfl hz17 rfl (h_fgt (E := fun s => s 63 2 = 3 ∧ s 64 3 = σ 64 3 ∧ s 64 5 = σ 64 5) _ (if_63_3 Is20 (h_rgv hz17)) (Fs20.up rfl) ⟨es20.1, es20.2.1, es20.2.2⟩ (fun s21 Is21 Fs21 (es21 : s21 63 2 = 3 ∧ s21 64 3 = σ 64 3 ∧ s21 64 5 = σ 64 5) => ?_))
        clear es20
        refine h_vret rfl rfl (h_Kn ?_)
        refine h_aload_n (pc' := 61) rfl rfl rfl ?_
        refine h_getR (pc' := 64) rfl rfl rfl rfl rfl ?_
        refine h_getI (pc' := 67) (v := σ 64 5) rfl rfl rfl rfl rfl es21.2.2 (fun z22 hz22 => ?_)
        have tz22 := tf_64_5 hI
        refine h_istore_n (pc' := 68) (M := [(2, .int z22), (0, .ref 63), (1, .int x0)]) rfl rfl rfl rfl ?_
        refine h_aload_n (pc' := 69) rfl rfl rfl ?_
        refine h_call (sp := false) (pc' := 72) (M := [(0, .ref 63)]) rfl rfl rfl rfl rfl rfl rfl rfl ?_
        refine v_stepX _ Is21  (fun s24 Is24 Gs24 pcs24 => h_Kn ?_)
        have Fs24 := (Gs24.mono (B := kf_v_takeNumber) rfl).tr Fs21
        rcases pcs24 with pcs24 | pcs24 | pcs24
        · refine h_iload_n (pc' := 73) rfl rfl rfl ?_
          exact h_iret rfl rfl (kk _ _ hz22 _ Is24 Fs24 (Or.inr (Or.inl ⟨by omega, by omega⟩)))
        · exfalso; omega
        · exfalso; omega
    · refine h_aload_n (pc' := 19) rfl rfl rfl ?_
      refine h_iconst (pc' := 20) (x := (Int32.ofInt 2)) rfl rfl rfl ?_
      refine h_aload_n (pc' := 21) rfl rfl rfl ?_
      refine h_getR (pc' := 24) rfl rfl rfl rfl rfl ?_
      refine h_getI (pc' := 27) (v := σ 64 4) rfl rfl rfl rfl rfl rfl (fun z25 hz25 => ?_)
      have tz25 := tf_64_4 hI
      refine h_call (sp := false) (pc' := 30) (M := [(0, .ref 63), (1, .int (Int32.ofInt 2)), (2, .int z25)]) rfl rfl rfl rfl rfl rfl rfl rfl ?_
      refine h_aload_n (pc' := 1) rfl rfl rfl ?_
      refine h_getI (pc' := 4) (v := σ 63 2) rfl rfl rfl rfl rfl rfl (fun z26 hz26 => ?_)
      have tz26 := tf_63_2 hI
      refine h_zne (tg := 17) (pc' := 7) rfl rfl rfl hz26 (fun c27 => absurd c27 (by omega)) (fun c27 => ?_)
      refine h_aload_n (pc' := 8) rfl rfl rfl ?_
      refine h_iload_n (pc' := 9) rfl rfl rfl ?_
      refine h_put (pc' := 12) rfl rfl rfl rfl rfl rfl ci_2 rfl (h_fgt (E := fun s => s 63 2 = 2 ∧ s 64 3 = σ 64 3 ∧ s 64 5 = σ 64 5) _ (if_63_2 hI (by omega)) (F00.up rfl) ⟨rfl, rfl, rfl⟩ (fun s28 Is28 Fs28 (es28 : s28 63 2 = 2 ∧ s28 64 3 = σ 64 3 ∧ s28 64 5 = σ 64 5) => ?_))
      refine h_aload_n (pc' := 13) rfl rfl rfl ?_
      refine h_iload_n (pc' := 14) rfl rfl rfl ?_
      refine h_put (pc' := 17) rfl rfl rfl rfl rfl rfl hz25 rfl (h_fgt (E := fun s => s 63 2 = 2 ∧ s 64 3 = σ 64 3 ∧ s 64 5 = σ 64 5) _ (if_63_3 Is28 (h_rgv hz25)) (Fs28.up rfl) ⟨es28.1, es28.2.1, es28.2.2⟩ (fun s29 Is29 Fs29 (es29 : s29 63 2 = 2 ∧ s29 64 3 = σ 64 3 ∧ s29 64 5 = σ 64 5) => ?_))
      clear es28
      refine h_vret rfl rfl (h_Kn ?_)
      refine h_aload_n (pc' := 31) rfl rfl rfl ?_
      refine h_getI (pc' := 34) (v := 2) rfl rfl rfl rfl rfl es29.1 (fun z30 hz30 => ?_)
      refine h_zne (tg := 60) (pc' := 37) rfl rfl rfl hz30 (fun c31 => ?_) (fun c31 => absurd c31 (by omega))
      refine h_aload_n (pc' := 61) rfl rfl rfl ?_
      refine h_getR (pc' := 64) rfl rfl rfl rfl rfl ?_
      refine h_getI (pc' := 67) (v := σ 64 5) rfl rfl rfl rfl rfl es29.2.2 (fun z32 hz32 => ?_)
      have tz32 := tf_64_5 hI
      refine h_istore_n (pc' := 68) (M := [(2, .int z32), (0, .ref 63), (1, .int x0)]) rfl rfl rfl rfl ?_
      refine h_aload_n (pc' := 69) rfl rfl rfl ?_
      refine h_call (sp := false) (pc' := 72) (M := [(0, .ref 63)]) rfl rfl rfl rfl rfl rfl rfl rfl ?_
      refine v_stepX _ Is29  (fun s34 Is34 Gs34 pcs34 => h_Kn ?_)
      have Fs34 := (Gs34.mono (B := kf_v_takeNumber) rfl).tr Fs29
      rcases pcs34 with pcs34 | pcs34 | pcs34
      · refine h_iload_n (pc' := 73) rfl rfl rfl ?_
        exact h_iret rfl rfl (kk _ _ hz32 _ Is34 Fs34 (Or.inr (Or.inl ⟨by omega, by omega⟩)))
      · exfalso; omega
      · exfalso; omega
