set_option maxHeartbeats 100000000 in
theorem lp_sp {ns : Nat} {σ1 σ2 : h_S} (hI1 : h_I σ1) (hI2 : h_I σ2) (hTL : d_tape σ1 σ2) {cs1 cs2 : List d_Fr} {Q : d_Q} (kx0 : ∀ (s t : h_S), h_I s → h_I t → h_F (k_in k_lx) s σ1 → h_F (k_in k_lm) t σ2 → (s 64 2 = t 98 15) → (t 98 13 = 0) → (s 63 2 = σ1 63 2) → (s 64 2 ≤ σ1 64 1) → (σ1 64 2 ≤ s 64 2) → ∀ lv2 mem2, h_loc [(0, .ref 98)] lv2 → h_R (g_Y ns) t mem2 → h_T g_P (g_Y ns) 75 38 [(0, .ref 64)] [] s (d_cs g_P (g_Y ns) cs1 (d_L g_P (g_Y ns) (148, 34, lv2, []) cs2 mem2 Q))) : ∀ (n : Nat) (s t : h_S), h_I s → h_I t → h_F (k_in k_lx) s σ1 → h_F (k_in k_lm) t σ2 → (s 64 2 = t 98 15) → (t 98 13 = 0) → (s 63 2 = σ1 63 2) → (s 64 2 ≤ σ1 64 1) → (σ1 64 2 ≤ s 64 2) → (161 - s 64 2) ≤ (n : Int) → ∀ lv2 mem2, h_loc [(0, .ref 98)] lv2 → h_R (g_Y ns) t mem2 → h_T g_P (g_Y ns) 75 0 [(0, .ref 64)] [] s (d_cs g_P (g_Y ns) cs1 (d_L g_P (g_Y ns) (148, 8, lv2, []) cs2 mem2 Q)) := by
  have hT := hTL.1
  have hL := hTL.2
  intro n
  induction n with
  | zero => intro s0 t0 I0 J0 F0_ H0_ ex0 ex1 ex2 ex3 ex4 hm lv2 mem2 hl2 hR2; have ge0 := tf_64_2 I0; have ge1 := tf_64_1 hI1; exfalso; omega
  | succ n ih =>
    intro s0 t0 I0 J0 F0_ H0_ ex0 ex1 ex2 ex3 ex4 hm lv2 mem2 hl2 hR2; have ge0 := tf_64_2 I0; have ge1 := tf_64_1 hI1
    refine h_aload_n (pc' := 1) rfl rfl rfl ?_
    refine h_getI (pc' := 4) (v := s0 64 2) rfl rfl rfl rfl rfl rfl (fun z1 hz1 => ?_)
    have tz1 := tf_64_2 I0
    refine h_aload_n (pc' := 5) rfl rfl rfl ?_
    refine h_getI (pc' := 8) (v := σ1 64 1) rfl rfl rfl rfl rfl (F0_ 64 1 rfl) (fun z2 hz2 => ?_)
    have tz2 := tf_64_1 hI1
    refine h_cge (tg := 38) (pc' := 11) rfl rfl rfl hz1 hz2 (fun c3 => ?_) (fun c3 => ?_)
    · clear hz1 hz2
      refine d_toM (g_inj ns) hl2 hR2 (fun lvw4 memw4 hlw4 hRw4 => ?_)
      show h_T g_P (g_Y ns) 148 8 [(0, .ref 98)] [] t0 _
      refine h_aload_n (pc' := 9) rfl rfl rfl ?_
      refine h_aload_n (pc' := 10) rfl rfl rfl ?_
      refine h_getI (pc' := 13) (v := t0 98 15) rfl rfl rfl rfl rfl rfl (fun z5 hz5 => ?_)
      have tz5 := tf_98_15 J0
      refine h_call (sp := false) (pc' := 16) (M := [(0, .ref 98), (1, .int z5)]) rfl rfl rfl rfl rfl rfl rfl rfl ?_
      refine h_iload_n (pc' := 1) rfl rfl rfl ?_
      refine h_aload_n (pc' := 2) rfl rfl rfl ?_
      refine h_getI (pc' := 5) (v := σ2 98 11) rfl rfl rfl rfl rfl (H0_ 98 11 rfl) (fun z6 hz6 => ?_)
      have tz6 := tf_98_11 hI2
      refine h_cge (tg := 17) (pc' := 8) rfl rfl rfl hz5 hz6 (fun c7 => ?_) (fun c7 => absurd c7 (by omega))
      clear hz6
      refine h_bipush (pc' := 19) (x := (Int32.ofInt (-4))) rfl rfl cb_m4 ?_
      refine h_iret rfl rfl (h_Kv ?_)
      clear hz5
      refine h_bipush (pc' := 18) (x := (Int32.ofInt 32)) rfl rfl cb_32 ?_
      refine h_cne (tg := 34) (pc' := 21) rfl rfl rfl ci_m4 ci_32 (fun c8 => ?_) (fun c8 => absurd c8 (by omega))
      refine d_toL (g_inj ns) hlw4 hRw4 (fun lvw9 memw9 hlw9 hRw9 => ?_)
      show h_T g_P (g_Y ns) 75 38 [(0, .ref 64)] [] s0 _
      exact h_wk [(0, .ref 64)] ⟨rfl, trivial⟩ (kx0 _ _ I0 J0 F0_ H0_ (by omega) (by omega) (by omega) (by omega) (by omega) _ _ (h_al_ok ⟨rfl, trivial⟩ hlw9) hRw9)
    · clear hz1 hz2
      refine h_aload_n (pc' := 12) rfl rfl rfl ?_
      refine h_getR (pc' := 15) rfl rfl rfl rfl rfl ?_
      refine h_aload_n (pc' := 16) rfl rfl rfl ?_
      refine h_getI (pc' := 19) (v := s0 64 2) rfl rfl rfl rfl rfl rfl (fun z10 hz10 => ?_)
      refine h_iald (pc' := 20) (v := σ1 65 (s0 64 2)) rfl rfl rfl hz10 (by omega) (by omega) (F0_ 65 _ rfl) (fun z11 hz11 => ?_)
      have tz11 := ty_65 hI1 (s0 64 2)
      have lz11 := hT (s0 64 2) (by omega) (by omega)
      clear hz10
      refine h_bipush (pc' := 22) (x := (Int32.ofInt 32)) rfl rfl cb_32 ?_
      refine h_cne (tg := 38) (pc' := 25) rfl rfl rfl hz11 ci_32 (fun c12 => ?_) (fun c12 => ?_)
      · clear hz11
        refine d_toM (g_inj ns) hl2 hR2 (fun lvw13 memw13 hlw13 hRw13 => ?_)
        show h_T g_P (g_Y ns) 148 8 [(0, .ref 98)] [] t0 _
        refine h_aload_n (pc' := 9) rfl rfl rfl ?_
        refine h_aload_n (pc' := 10) rfl rfl rfl ?_
        refine h_getI (pc' := 13) (v := t0 98 15) rfl rfl rfl rfl rfl rfl (fun z14 hz14 => ?_)
        have tz14 := tf_98_15 J0
        refine h_call (sp := false) (pc' := 16) (M := [(0, .ref 98), (1, .int z14)]) rfl rfl rfl rfl rfl rfl rfl rfl ?_
        refine h_iload_n (pc' := 1) rfl rfl rfl ?_
        refine h_aload_n (pc' := 2) rfl rfl rfl ?_
        refine h_getI (pc' := 5) (v := σ2 98 11) rfl rfl rfl rfl rfl (H0_ 98 11 rfl) (fun z15 hz15 => ?_)
        have tz15 := tf_98_11 hI2
        refine h_cge (tg := 17) (pc' := 8) rfl rfl rfl hz14 hz15 (fun c16 => absurd c16 (by omega)) (fun c16 => ?_)
        clear hz15
        refine h_aload_n (pc' := 9) rfl rfl rfl ?_
        refine h_getR (pc' := 12) rfl rfl rfl rfl rfl ?_
        refine h_iload_n (pc' := 13) rfl rfl rfl ?_
        refine h_iald (pc' := 14) (v := σ2 102 (t0 98 15)) rfl rfl rfl hz14 (by omega) (by omega) (H0_ 102 _ rfl) (fun z17 hz17 => ?_)
        have tz17 := ty_102 hI2 (t0 98 15)
        have lz17 : σ2 102 (t0 98 15) = σ1 65 (s0 64 2) := (congrArg (σ2 102) (show (t0 98 15) = (s0 64 2) by omega)).trans lz11.symm
        refine h_goto (pc' := 19) rfl rfl ?_
        refine h_iret rfl rfl (h_Kv ?_)
        clear hz14
        refine h_bipush (pc' := 18) (x := (Int32.ofInt 32)) rfl rfl cb_32 ?_
        refine h_cne (tg := 34) (pc' := 21) rfl rfl rfl hz17 ci_32 (fun c18 => ?_) (fun c18 => ?_)
        · clear hz17
          refine d_toL (g_inj ns) hlw13 hRw13 (fun lvw19 memw19 hlw19 hRw19 => ?_)
          show h_T g_P (g_Y ns) 75 38 [(0, .ref 64)] [] s0 _
          exact h_wk [(0, .ref 64)] ⟨rfl, trivial⟩ (kx0 _ _ I0 J0 F0_ H0_ (by omega) (by omega) (by omega) (by omega) (by omega) _ _ (h_al_ok ⟨rfl, trivial⟩ hlw19) hRw19)
        · clear hz17
          refine h_aload_n (pc' := 22) rfl rfl rfl ?_
          refine h_dup (pc' := 23) rfl rfl rfl ?_
          refine h_getI (pc' := 26) (v := t0 98 15) rfl rfl rfl rfl rfl rfl (fun z20 hz20 => ?_)
          refine h_iconst (pc' := 27) (x := (Int32.ofInt 1)) rfl rfl rfl ?_
          refine h_iadd (pc' := 28) rfl rfl hz20 ci_1 rfl (by omega) (by omega) (fun z21 hz21 => ?_)
          clear hz20
          refine h_put (pc' := 31) rfl rfl rfl rfl rfl rfl hz21 rfl (h_fgt (E := fun s => s 98 15 = ((t0 98 15) + 1) ∧ s 98 16 = t0 98 16 ∧ s 98 17 = t0 98 17 ∧ s 98 18 = t0 98 18 ∧ s 98 13 = t0 98 13 ∧ s 98 14 = t0 98 14) _ (if_98_15 J0 (by omega)) (H0_.up rfl) ⟨rfl, rfl, rfl, rfl, rfl, rfl⟩ (fun s22 Is22 Fs22 (es22 : s22 98 15 = ((t0 98 15) + 1) ∧ s22 98 16 = t0 98 16 ∧ s22 98 17 = t0 98 17 ∧ s22 98 18 = t0 98 18 ∧ s22 98 13 = t0 98 13 ∧ s22 98 14 = t0 98 14) => ?_))
          refine h_goto (pc' := 8) rfl rfl ?_
          exfalso
          omega
      · clear hz11
        refine h_aload_n (pc' := 26) rfl rfl rfl ?_
        refine h_dup (pc' := 27) rfl rfl rfl ?_
        refine h_getI (pc' := 30) (v := s0 64 2) rfl rfl rfl rfl rfl rfl (fun z23 hz23 => ?_)
        refine h_iconst (pc' := 31) (x := (Int32.ofInt 1)) rfl rfl rfl ?_
        refine h_iadd (pc' := 32) rfl rfl hz23 ci_1 rfl (by omega) (by omega) (fun z24 hz24 => ?_)
        clear hz23
        refine h_put (pc' := 35) rfl rfl rfl rfl rfl rfl hz24 rfl (h_fgt (E := fun s => s 64 2 = ((s0 64 2) + 1) ∧ s 64 4 = s0 64 4 ∧ s 64 3 = s0 64 3 ∧ s 64 5 = s0 64 5 ∧ s 63 2 = s0 63 2 ∧ s 63 3 = s0 63 3) _ (if_64_2 I0 (by omega)) (F0_.up rfl) ⟨rfl, rfl, rfl, rfl, rfl, rfl⟩ (fun s25 Is25 Fs25 (es25 : s25 64 2 = ((s0 64 2) + 1) ∧ s25 64 4 = s0 64 4 ∧ s25 64 3 = s0 64 3 ∧ s25 64 5 = s0 64 5 ∧ s25 63 2 = s0 63 2 ∧ s25 63 3 = s0 63 3) => ?_))
        refine h_goto (pc' := 0) rfl rfl ?_
        refine d_toM (g_inj ns) hl2 hR2 (fun lvw26 memw26 hlw26 hRw26 => ?_)
        show h_T g_P (g_Y ns) 148 8 [(0, .ref 98)] [] t0 _
        refine h_aload_n (pc' := 9) rfl rfl rfl ?_
        refine h_aload_n (pc' := 10) rfl rfl rfl ?_
        refine h_getI (pc' := 13) (v := t0 98 15) rfl rfl rfl rfl rfl rfl (fun z27 hz27 => ?_)
        have tz27 := tf_98_15 J0
        refine h_call (sp := false) (pc' := 16) (M := [(0, .ref 98), (1, .int z27)]) rfl rfl rfl rfl rfl rfl rfl rfl ?_
        refine h_iload_n (pc' := 1) rfl rfl rfl ?_
        refine h_aload_n (pc' := 2) rfl rfl rfl ?_
        refine h_getI (pc' := 5) (v := σ2 98 11) rfl rfl rfl rfl rfl (H0_ 98 11 rfl) (fun z28 hz28 => ?_)
        have tz28 := tf_98_11 hI2
        refine h_cge (tg := 17) (pc' := 8) rfl rfl rfl hz27 hz28 (fun c29 => absurd c29 (by omega)) (fun c29 => ?_)
        clear hz28
        refine h_aload_n (pc' := 9) rfl rfl rfl ?_
        refine h_getR (pc' := 12) rfl rfl rfl rfl rfl ?_
        refine h_iload_n (pc' := 13) rfl rfl rfl ?_
        refine h_iald (pc' := 14) (v := σ2 102 (t0 98 15)) rfl rfl rfl hz27 (by omega) (by omega) (H0_ 102 _ rfl) (fun z30 hz30 => ?_)
        have tz30 := ty_102 hI2 (t0 98 15)
        have lz30 : σ2 102 (t0 98 15) = σ1 65 (s0 64 2) := (congrArg (σ2 102) (show (t0 98 15) = (s0 64 2) by omega)).trans lz11.symm
        refine h_goto (pc' := 19) rfl rfl ?_
        refine h_iret rfl rfl (h_Kv ?_)
        clear hz27
        refine h_bipush (pc' := 18) (x := (Int32.ofInt 32)) rfl rfl cb_32 ?_
        refine h_cne (tg := 34) (pc' := 21) rfl rfl rfl hz30 ci_32 (fun c31 => absurd c31 (by omega)) (fun c31 => ?_)
        clear hz30
        refine h_aload_n (pc' := 22) rfl rfl rfl ?_
        refine h_dup (pc' := 23) rfl rfl rfl ?_
        refine h_getI (pc' := 26) (v := t0 98 15) rfl rfl rfl rfl rfl rfl (fun z32 hz32 => ?_)
        refine h_iconst (pc' := 27) (x := (Int32.ofInt 1)) rfl rfl rfl ?_
        refine h_iadd (pc' := 28) rfl rfl hz32 ci_1 rfl (by omega) (by omega) (fun z33 hz33 => ?_)
        clear hz32
        refine h_put (pc' := 31) rfl rfl rfl rfl rfl rfl hz33 rfl (h_fgt (E := fun s => s 98 15 = ((t0 98 15) + 1) ∧ s 98 16 = t0 98 16 ∧ s 98 17 = t0 98 17 ∧ s 98 18 = t0 98 18 ∧ s 98 13 = t0 98 13 ∧ s 98 14 = t0 98 14) _ (if_98_15 J0 (by omega)) (H0_.up rfl) ⟨rfl, rfl, rfl, rfl, rfl, rfl⟩ (fun s34 Is34 Fs34 (es34 : s34 98 15 = ((t0 98 15) + 1) ∧ s34 98 16 = t0 98 16 ∧ s34 98 17 = t0 98 17 ∧ s34 98 18 = t0 98 18 ∧ s34 98 13 = t0 98 13 ∧ s34 98 14 = t0 98 14) => ?_))
        refine h_goto (pc' := 8) rfl rfl ?_
        refine d_toL (g_inj ns) hlw26 hRw26 (fun lvw35 memw35 hlw35 hRw35 => ?_)
        show h_T g_P (g_Y ns) 75 0 [(0, .ref 64)] [] s25 _
        exact h_wk [(0, .ref 64)] ⟨rfl, trivial⟩ (ih _ _ Is25 Is34 Fs25 Fs34   (by omega) (by omega) (by omega) (by omega) (by omega) (by omega) _ _ (h_al_ok ⟨rfl, trivial⟩ hlw35) hRw35)
set_option maxHeartbeats 100000000 in
theorem lp_le {ns : Nat} {σ1 σ2 : h_S} (hI1 : h_I σ1) (hI2 : h_I σ2) (hTL : d_tape σ1 σ2) {cs1 cs2 : List d_Fr} {Q : d_Q} (kx0 : ∀ (s t : h_S), h_I s → h_I t → h_F (k_in k_lx) s σ1 → h_F (k_in k_lm) t σ2 → (s 64 2 = t 98 15) → (s 64 4 = t 98 16) → (t 98 13 = 0) → (s 63 2 = σ1 63 2) → (s 64 2 ≤ σ1 64 1) → (t 98 16 < t 98 15) → (σ1 64 2 ≤ s 64 2) → ∀ lv2 mem2, h_loc [(0, .ref 98)] lv2 → h_R (g_Y ns) t mem2 → h_T g_P (g_Y ns) 75 152 [(0, .ref 64)] [] s (d_cs g_P (g_Y ns) cs1 (d_L g_P (g_Y ns) (148, 118, lv2, []) cs2 mem2 Q))) : ∀ (n : Nat) (s t : h_S), h_I s → h_I t → h_F (k_in k_lx) s σ1 → h_F (k_in k_lm) t σ2 → (s 64 2 = t 98 15) → (s 64 4 = t 98 16) → (t 98 13 = 0) → (s 63 2 = σ1 63 2) → (s 64 2 ≤ σ1 64 1) → (t 98 16 < t 98 15) → (σ1 64 2 ≤ s 64 2) → (161 - s 64 2) ≤ (n : Int) → ∀ lv2 mem2, h_loc [(0, .ref 98)] lv2 → h_R (g_Y ns) t mem2 → h_T g_P (g_Y ns) 75 100 [(0, .ref 64)] [] s (d_cs g_P (g_Y ns) cs1 (d_L g_P (g_Y ns) (148, 84, lv2, []) cs2 mem2 Q)) := by
  have hT := hTL.1
  have hL := hTL.2
  intro n
  induction n with
  | zero => intro s0 t0 I0 J0 F0_ H0_ ex0 ex1 ex2 ex3 ex4 ex5 ex6 hm lv2 mem2 hl2 hR2; have ge0 := tf_64_2 I0; have ge1 := tf_64_1 hI1; exfalso; omega
  | succ n ih =>
    intro s0 t0 I0 J0 F0_ H0_ ex0 ex1 ex2 ex3 ex4 ex5 ex6 hm lv2 mem2 hl2 hR2; have ge0 := tf_64_2 I0; have ge1 := tf_64_1 hI1
    refine h_aload_n (pc' := 101) rfl rfl rfl ?_
    refine h_getI (pc' := 104) (v := s0 64 2) rfl rfl rfl rfl rfl rfl (fun z1 hz1 => ?_)
    have tz1 := tf_64_2 I0
    refine h_aload_n (pc' := 105) rfl rfl rfl ?_
    refine h_getI (pc' := 108) (v := σ1 64 1) rfl rfl rfl rfl rfl (F0_ 64 1 rfl) (fun z2 hz2 => ?_)
    have tz2 := tf_64_1 hI1
    refine h_cge (tg := 152) (pc' := 111) rfl rfl rfl hz1 hz2 (fun c3 => ?_) (fun c3 => ?_)
    · clear hz1 hz2
      refine d_toM (g_inj ns) hl2 hR2 (fun lvw4 memw4 hlw4 hRw4 => ?_)
      show h_T g_P (g_Y ns) 148 84 [(0, .ref 98)] [] t0 _
      refine h_aload_n (pc' := 85) rfl rfl rfl ?_
      refine h_aload_n (pc' := 86) rfl rfl rfl ?_
      refine h_getI (pc' := 89) (v := t0 98 15) rfl rfl rfl rfl rfl rfl (fun z5 hz5 => ?_)
      have tz5 := tf_98_15 J0
      refine h_call (sp := false) (pc' := 92) (M := [(0, .ref 98), (1, .int z5)]) rfl rfl rfl rfl rfl rfl rfl rfl ?_
      refine h_iload_n (pc' := 1) rfl rfl rfl ?_
      refine h_aload_n (pc' := 2) rfl rfl rfl ?_
      refine h_getI (pc' := 5) (v := σ2 98 11) rfl rfl rfl rfl rfl (H0_ 98 11 rfl) (fun z6 hz6 => ?_)
      have tz6 := tf_98_11 hI2
      refine h_cge (tg := 17) (pc' := 8) rfl rfl rfl hz5 hz6 (fun c7 => ?_) (fun c7 => absurd c7 (by omega))
      clear hz6
      refine h_bipush (pc' := 19) (x := (Int32.ofInt (-4))) rfl rfl cb_m4 ?_
      refine h_iret rfl rfl (h_Kv ?_)
      clear hz5
      refine h_i2l (pc' := 93) rfl rfl ci_m4 (fun z8 hz8 => ?_)
      refine h_ldc2 (pc' := 96) (x := (Int64.ofInt 97)) rfl rfl rfl ?_
      refine h_ldc2 (pc' := 99) (x := (Int64.ofInt 122)) rfl rfl rfl ?_
      refine h_calls (pc' := 102) (M := [(0, .long z8), (2, .long (Int64.ofInt 97)), (4, .long (Int64.ofInt 122))]) rfl rfl rfl rfl rfl rfl ?_
      refine h_lload_n (pc' := 1) rfl rfl rfl ?_
      refine h_lload_n (pc' := 2) rfl rfl rfl ?_
      refine h_lcmp (pc' := 3) rfl rfl hz8 cl_97 (fun z9 hz9 => ?_)
      refine h_zlt (tg := 17) (pc' := 6) rfl rfl rfl rfl (fun c10 => ?_) (fun c10 => absurd c10 (by omega))
      replace c10 := (h_lcr hz9).1 c10
      clear hz9
      refine h_iconst (pc' := 18) (x := (Int32.ofInt 0)) rfl rfl rfl ?_
      refine h_zret rfl rfl ci_0 (by omega) (h_Kv ?_)
      clear hz8
      refine h_zeq (tg := 118) (pc' := 105) rfl rfl rfl ci_0 (fun c11 => ?_) (fun c11 => absurd c11 (by omega))
      refine d_toL (g_inj ns) hlw4 hRw4 (fun lvw12 memw12 hlw12 hRw12 => ?_)
      show h_T g_P (g_Y ns) 75 152 [(0, .ref 64)] [] s0 _
      exact h_wk [(0, .ref 64)] ⟨rfl, trivial⟩ (kx0 _ _ I0 J0 F0_ H0_ (by omega) (by omega) (by omega) (by omega) (by omega) (by omega) (by omega) _ _ (h_al_ok ⟨rfl, trivial⟩ hlw12) hRw12)
    · clear hz1 hz2
      refine h_aload_n (pc' := 112) rfl rfl rfl ?_
      refine h_getR (pc' := 115) rfl rfl rfl rfl rfl ?_
      refine h_aload_n (pc' := 116) rfl rfl rfl ?_
      refine h_getI (pc' := 119) (v := s0 64 2) rfl rfl rfl rfl rfl rfl (fun z13 hz13 => ?_)
      refine h_iald (pc' := 120) (v := σ1 65 (s0 64 2)) rfl rfl rfl hz13 (by omega) (by omega) (F0_ 65 _ rfl) (fun z14 hz14 => ?_)
      have tz14 := ty_65 hI1 (s0 64 2)
      have lz14 := hT (s0 64 2) (by omega) (by omega)
      clear hz13
      refine h_bipush (pc' := 122) (x := (Int32.ofInt 97)) rfl rfl cb_97 ?_
      refine h_clt (tg := 152) (pc' := 125) rfl rfl rfl hz14 ci_97 (fun c15 => ?_) (fun c15 => ?_)
      · clear hz14
        refine d_toM (g_inj ns) hl2 hR2 (fun lvw16 memw16 hlw16 hRw16 => ?_)
        show h_T g_P (g_Y ns) 148 84 [(0, .ref 98)] [] t0 _
        refine h_aload_n (pc' := 85) rfl rfl rfl ?_
        refine h_aload_n (pc' := 86) rfl rfl rfl ?_
        refine h_getI (pc' := 89) (v := t0 98 15) rfl rfl rfl rfl rfl rfl (fun z17 hz17 => ?_)
        have tz17 := tf_98_15 J0
        refine h_call (sp := false) (pc' := 92) (M := [(0, .ref 98), (1, .int z17)]) rfl rfl rfl rfl rfl rfl rfl rfl ?_
        refine h_iload_n (pc' := 1) rfl rfl rfl ?_
        refine h_aload_n (pc' := 2) rfl rfl rfl ?_
        refine h_getI (pc' := 5) (v := σ2 98 11) rfl rfl rfl rfl rfl (H0_ 98 11 rfl) (fun z18 hz18 => ?_)
        have tz18 := tf_98_11 hI2
        refine h_cge (tg := 17) (pc' := 8) rfl rfl rfl hz17 hz18 (fun c19 => absurd c19 (by omega)) (fun c19 => ?_)
        clear hz18
        refine h_aload_n (pc' := 9) rfl rfl rfl ?_
        refine h_getR (pc' := 12) rfl rfl rfl rfl rfl ?_
        refine h_iload_n (pc' := 13) rfl rfl rfl ?_
        refine h_iald (pc' := 14) (v := σ2 102 (t0 98 15)) rfl rfl rfl hz17 (by omega) (by omega) (H0_ 102 _ rfl) (fun z20 hz20 => ?_)
        have tz20 := ty_102 hI2 (t0 98 15)
        have lz20 : σ2 102 (t0 98 15) = σ1 65 (s0 64 2) := (congrArg (σ2 102) (show (t0 98 15) = (s0 64 2) by omega)).trans lz14.symm
        refine h_goto (pc' := 19) rfl rfl ?_
        refine h_iret rfl rfl (h_Kv ?_)
        clear hz17
        refine h_i2l (pc' := 93) rfl rfl hz20 (fun z21 hz21 => ?_)
        clear hz20
        refine h_ldc2 (pc' := 96) (x := (Int64.ofInt 97)) rfl rfl rfl ?_
        refine h_ldc2 (pc' := 99) (x := (Int64.ofInt 122)) rfl rfl rfl ?_
        refine h_calls (pc' := 102) (M := [(0, .long z21), (2, .long (Int64.ofInt 97)), (4, .long (Int64.ofInt 122))]) rfl rfl rfl rfl rfl rfl ?_
        refine h_lload_n (pc' := 1) rfl rfl rfl ?_
        refine h_lload_n (pc' := 2) rfl rfl rfl ?_
        refine h_lcmp (pc' := 3) rfl rfl hz21 cl_97 (fun z22 hz22 => ?_)
        refine h_zlt (tg := 17) (pc' := 6) rfl rfl rfl rfl (fun c23 => ?_) (fun c23 => absurd c23 (by omega))
        replace c23 := (h_lcr hz22).1 c23
        clear hz22
        refine h_iconst (pc' := 18) (x := (Int32.ofInt 0)) rfl rfl rfl ?_
        refine h_zret rfl rfl ci_0 (by omega) (h_Kv ?_)
        clear hz21
        refine h_zeq (tg := 118) (pc' := 105) rfl rfl rfl ci_0 (fun c24 => ?_) (fun c24 => absurd c24 (by omega))
        refine d_toL (g_inj ns) hlw16 hRw16 (fun lvw25 memw25 hlw25 hRw25 => ?_)
        show h_T g_P (g_Y ns) 75 152 [(0, .ref 64)] [] s0 _
        exact h_wk [(0, .ref 64)] ⟨rfl, trivial⟩ (kx0 _ _ I0 J0 F0_ H0_ (by omega) (by omega) (by omega) (by omega) (by omega) (by omega) (by omega) _ _ (h_al_ok ⟨rfl, trivial⟩ hlw25) hRw25)
      · clear hz14
        refine h_aload_n (pc' := 126) rfl rfl rfl ?_
        refine h_getR (pc' := 129) rfl rfl rfl rfl rfl ?_
        refine h_aload_n (pc' := 130) rfl rfl rfl ?_
        refine h_getI (pc' := 133) (v := s0 64 2) rfl rfl rfl rfl rfl rfl (fun z26 hz26 => ?_)
        refine h_iald (pc' := 134) (v := σ1 65 (s0 64 2)) rfl rfl rfl hz26 (by omega) (by omega) (F0_ 65 _ rfl) (fun z27 hz27 => ?_)
        clear hz26
        refine h_bipush (pc' := 136) (x := (Int32.ofInt 122)) rfl rfl cb_122 ?_
        refine h_cgt (tg := 152) (pc' := 139) rfl rfl rfl hz27 ci_122 (fun c28 => ?_) (fun c28 => ?_)
        · clear hz27
          refine d_toM (g_inj ns) hl2 hR2 (fun lvw29 memw29 hlw29 hRw29 => ?_)
          show h_T g_P (g_Y ns) 148 84 [(0, .ref 98)] [] t0 _
          refine h_aload_n (pc' := 85) rfl rfl rfl ?_
          refine h_aload_n (pc' := 86) rfl rfl rfl ?_
          refine h_getI (pc' := 89) (v := t0 98 15) rfl rfl rfl rfl rfl rfl (fun z30 hz30 => ?_)
          have tz30 := tf_98_15 J0
          refine h_call (sp := false) (pc' := 92) (M := [(0, .ref 98), (1, .int z30)]) rfl rfl rfl rfl rfl rfl rfl rfl ?_
          refine h_iload_n (pc' := 1) rfl rfl rfl ?_
          refine h_aload_n (pc' := 2) rfl rfl rfl ?_
          refine h_getI (pc' := 5) (v := σ2 98 11) rfl rfl rfl rfl rfl (H0_ 98 11 rfl) (fun z31 hz31 => ?_)
          have tz31 := tf_98_11 hI2
          refine h_cge (tg := 17) (pc' := 8) rfl rfl rfl hz30 hz31 (fun c32 => absurd c32 (by omega)) (fun c32 => ?_)
          clear hz31
          refine h_aload_n (pc' := 9) rfl rfl rfl ?_
          refine h_getR (pc' := 12) rfl rfl rfl rfl rfl ?_
          refine h_iload_n (pc' := 13) rfl rfl rfl ?_
          refine h_iald (pc' := 14) (v := σ2 102 (t0 98 15)) rfl rfl rfl hz30 (by omega) (by omega) (H0_ 102 _ rfl) (fun z33 hz33 => ?_)
          have tz33 := ty_102 hI2 (t0 98 15)
          have lz33 : σ2 102 (t0 98 15) = σ1 65 (s0 64 2) := (congrArg (σ2 102) (show (t0 98 15) = (s0 64 2) by omega)).trans lz14.symm
          refine h_goto (pc' := 19) rfl rfl ?_
          refine h_iret rfl rfl (h_Kv ?_)
          clear hz30
          refine h_i2l (pc' := 93) rfl rfl hz33 (fun z34 hz34 => ?_)
          clear hz33
          refine h_ldc2 (pc' := 96) (x := (Int64.ofInt 97)) rfl rfl rfl ?_
          refine h_ldc2 (pc' := 99) (x := (Int64.ofInt 122)) rfl rfl rfl ?_
          refine h_calls (pc' := 102) (M := [(0, .long z34), (2, .long (Int64.ofInt 97)), (4, .long (Int64.ofInt 122))]) rfl rfl rfl rfl rfl rfl ?_
          refine h_lload_n (pc' := 1) rfl rfl rfl ?_
          refine h_lload_n (pc' := 2) rfl rfl rfl ?_
          refine h_lcmp (pc' := 3) rfl rfl hz34 cl_97 (fun z35 hz35 => ?_)
          refine h_zlt (tg := 17) (pc' := 6) rfl rfl rfl rfl (fun c36 => absurd c36 (by omega)) (fun c36 => ?_)
          replace c36 := (h_lcr hz35).2.1 c36
          clear hz35
          refine h_lload_n (pc' := 7) rfl rfl rfl ?_
          refine h_lload (pc' := 9) rfl rfl rfl ?_
          refine h_lcmp (pc' := 10) rfl rfl hz34 cl_122 (fun z37 hz37 => ?_)
          refine h_zgt (tg := 17) (pc' := 13) rfl rfl rfl rfl (fun c38 => ?_) (fun c38 => absurd c38 (by omega))
          replace c38 := (h_lcr hz37).2.2.2.1 c38
          clear hz37
          refine h_iconst (pc' := 18) (x := (Int32.ofInt 0)) rfl rfl rfl ?_
          refine h_zret rfl rfl ci_0 (by omega) (h_Kv ?_)
          clear hz34
          refine h_zeq (tg := 118) (pc' := 105) rfl rfl rfl ci_0 (fun c39 => ?_) (fun c39 => absurd c39 (by omega))
          refine d_toL (g_inj ns) hlw29 hRw29 (fun lvw40 memw40 hlw40 hRw40 => ?_)
          show h_T g_P (g_Y ns) 75 152 [(0, .ref 64)] [] s0 _
          exact h_wk [(0, .ref 64)] ⟨rfl, trivial⟩ (kx0 _ _ I0 J0 F0_ H0_ (by omega) (by omega) (by omega) (by omega) (by omega) (by omega) (by omega) _ _ (h_al_ok ⟨rfl, trivial⟩ hlw40) hRw40)
        · clear hz27
          refine h_aload_n (pc' := 140) rfl rfl rfl ?_
          refine h_dup (pc' := 141) rfl rfl rfl ?_
          refine h_getI (pc' := 144) (v := s0 64 2) rfl rfl rfl rfl rfl rfl (fun z41 hz41 => ?_)
          refine h_iconst (pc' := 145) (x := (Int32.ofInt 1)) rfl rfl rfl ?_
          refine h_iadd (pc' := 146) rfl rfl hz41 ci_1 rfl (by omega) (by omega) (fun z42 hz42 => ?_)
          clear hz41
          refine h_put (pc' := 149) rfl rfl rfl rfl rfl rfl hz42 rfl (h_fgt (E := fun s => s 64 2 = ((s0 64 2) + 1) ∧ s 64 4 = s0 64 4 ∧ s 64 3 = s0 64 3 ∧ s 64 5 = s0 64 5 ∧ s 63 2 = s0 63 2 ∧ s 63 3 = s0 63 3) _ (if_64_2 I0 (by omega)) (F0_.up rfl) ⟨rfl, rfl, rfl, rfl, rfl, rfl⟩ (fun s43 Is43 Fs43 (es43 : s43 64 2 = ((s0 64 2) + 1) ∧ s43 64 4 = s0 64 4 ∧ s43 64 3 = s0 64 3 ∧ s43 64 5 = s0 64 5 ∧ s43 63 2 = s0 63 2 ∧ s43 63 3 = s0 63 3) => ?_))
          refine h_goto (pc' := 100) rfl rfl ?_
          refine d_toM (g_inj ns) hl2 hR2 (fun lvw44 memw44 hlw44 hRw44 => ?_)
          show h_T g_P (g_Y ns) 148 84 [(0, .ref 98)] [] t0 _
          refine h_aload_n (pc' := 85) rfl rfl rfl ?_
          refine h_aload_n (pc' := 86) rfl rfl rfl ?_
          refine h_getI (pc' := 89) (v := t0 98 15) rfl rfl rfl rfl rfl rfl (fun z45 hz45 => ?_)
          have tz45 := tf_98_15 J0
          refine h_call (sp := false) (pc' := 92) (M := [(0, .ref 98), (1, .int z45)]) rfl rfl rfl rfl rfl rfl rfl rfl ?_
          refine h_iload_n (pc' := 1) rfl rfl rfl ?_
          refine h_aload_n (pc' := 2) rfl rfl rfl ?_
          refine h_getI (pc' := 5) (v := σ2 98 11) rfl rfl rfl rfl rfl (H0_ 98 11 rfl) (fun z46 hz46 => ?_)
          have tz46 := tf_98_11 hI2
          refine h_cge (tg := 17) (pc' := 8) rfl rfl rfl hz45 hz46 (fun c47 => absurd c47 (by omega)) (fun c47 => ?_)
          clear hz46
          refine h_aload_n (pc' := 9) rfl rfl rfl ?_
          refine h_getR (pc' := 12) rfl rfl rfl rfl rfl ?_
          refine h_iload_n (pc' := 13) rfl rfl rfl ?_
          refine h_iald (pc' := 14) (v := σ2 102 (t0 98 15)) rfl rfl rfl hz45 (by omega) (by omega) (H0_ 102 _ rfl) (fun z48 hz48 => ?_)
          have tz48 := ty_102 hI2 (t0 98 15)
          have lz48 : σ2 102 (t0 98 15) = σ1 65 (s0 64 2) := (congrArg (σ2 102) (show (t0 98 15) = (s0 64 2) by omega)).trans lz14.symm
          refine h_goto (pc' := 19) rfl rfl ?_
          refine h_iret rfl rfl (h_Kv ?_)
          clear hz45
          refine h_i2l (pc' := 93) rfl rfl hz48 (fun z49 hz49 => ?_)
          clear hz48
          refine h_ldc2 (pc' := 96) (x := (Int64.ofInt 97)) rfl rfl rfl ?_
          refine h_ldc2 (pc' := 99) (x := (Int64.ofInt 122)) rfl rfl rfl ?_
          refine h_calls (pc' := 102) (M := [(0, .long z49), (2, .long (Int64.ofInt 97)), (4, .long (Int64.ofInt 122))]) rfl rfl rfl rfl rfl rfl ?_
          refine h_lload_n (pc' := 1) rfl rfl rfl ?_
          refine h_lload_n (pc' := 2) rfl rfl rfl ?_
          refine h_lcmp (pc' := 3) rfl rfl hz49 cl_97 (fun z50 hz50 => ?_)
          refine h_zlt (tg := 17) (pc' := 6) rfl rfl rfl rfl (fun c51 => absurd c51 (by omega)) (fun c51 => ?_)
          replace c51 := (h_lcr hz50).2.1 c51
          clear hz50
          refine h_lload_n (pc' := 7) rfl rfl rfl ?_
          refine h_lload (pc' := 9) rfl rfl rfl ?_
          refine h_lcmp (pc' := 10) rfl rfl hz49 cl_122 (fun z52 hz52 => ?_)
          refine h_zgt (tg := 17) (pc' := 13) rfl rfl rfl rfl (fun c53 => absurd c53 (by omega)) (fun c53 => ?_)
          replace c53 := (h_lcr hz52).2.2.1 c53
          clear hz52
          refine h_iconst (pc' := 14) (x := (Int32.ofInt 1)) rfl rfl rfl ?_
          refine h_goto (pc' := 18) rfl rfl ?_
          refine h_zret rfl rfl ci_1 (by omega) (h_Kv ?_)
          clear hz49
          refine h_zeq (tg := 118) (pc' := 105) rfl rfl rfl ci_1 (fun c54 => absurd c54 (by omega)) (fun c54 => ?_)
          refine h_aload_n (pc' := 106) rfl rfl rfl ?_
          refine h_dup (pc' := 107) rfl rfl rfl ?_
          refine h_getI (pc' := 110) (v := t0 98 15) rfl rfl rfl rfl rfl rfl (fun z55 hz55 => ?_)
          refine h_iconst (pc' := 111) (x := (Int32.ofInt 1)) rfl rfl rfl ?_
          refine h_iadd (pc' := 112) rfl rfl hz55 ci_1 rfl (by omega) (by omega) (fun z56 hz56 => ?_)
          clear hz55
          refine h_put (pc' := 115) rfl rfl rfl rfl rfl rfl hz56 rfl (h_fgt (E := fun s => s 98 15 = ((t0 98 15) + 1) ∧ s 98 16 = t0 98 16 ∧ s 98 17 = t0 98 17 ∧ s 98 18 = t0 98 18 ∧ s 98 13 = t0 98 13 ∧ s 98 14 = t0 98 14) _ (if_98_15 J0 (by omega)) (H0_.up rfl) ⟨rfl, rfl, rfl, rfl, rfl, rfl⟩ (fun s57 Is57 Fs57 (es57 : s57 98 15 = ((t0 98 15) + 1) ∧ s57 98 16 = t0 98 16 ∧ s57 98 17 = t0 98 17 ∧ s57 98 18 = t0 98 18 ∧ s57 98 13 = t0 98 13 ∧ s57 98 14 = t0 98 14) => ?_))
          refine h_goto (pc' := 84) rfl rfl ?_
          refine d_toL (g_inj ns) hlw44 hRw44 (fun lvw58 memw58 hlw58 hRw58 => ?_)
          show h_T g_P (g_Y ns) 75 100 [(0, .ref 64)] [] s43 _
          exact h_wk [(0, .ref 64)] ⟨rfl, trivial⟩ (ih _ _ Is43 Is57 Fs43 Fs57   (by omega) (by omega) (by omega) (by omega) (by omega) (by omega) (by omega) (by omega) _ _ (h_al_ok ⟨rfl, trivial⟩ hlw58) hRw58)
set_option maxHeartbeats 100000000 in
theorem lp_di {ns : Nat} {σ1 σ2 : h_S} (hI1 : h_I σ1) (hI2 : h_I σ2) (hTL : d_tape σ1 σ2) {cs1 cs2 : List d_Fr} {Q : d_Q} (kx0 : ∀ (s t : h_S), h_I s → h_I t → h_F (k_in k_lx) s σ1 → h_F (k_in k_lm) t σ2 → (s 64 2 = t 98 15) → (s 64 4 = t 98 16) → (t 98 13 = 0) → (s 63 2 = σ1 63 2) → (s 64 2 ≤ σ1 64 1) → (σ1 64 2 ≤ s 64 2) → (((0 ≤ s 64 5 ∧ s 64 5 ≤ 9) ∧ (0 ≤ t 98 18 ∧ t 98 18 ≤ 9) ∧ (s 64 5 = t 98 18) ∧ (s 64 2 = s 64 4 + 1)) ∨ ((0 ≤ s 64 5 ∧ s 64 5 ≤ 99) ∧ (0 ≤ t 98 18 ∧ t 98 18 ≤ 99) ∧ (s 64 5 = t 98 18) ∧ (s 64 2 = s 64 4 + 2)) ∨ ((s 64 4 + 3 ≤ s 64 2))) → ∀ lv2 mem2, h_loc [(0, .ref 98)] lv2 → h_R (g_Y ns) t mem2 → h_T g_P (g_Y ns) 75 248 [(0, .ref 64)] [] s (d_cs g_P (g_Y ns) cs1 (d_L g_P (g_Y ns) (148, 217, lv2, []) cs2 mem2 Q))) : ∀ (n : Nat) (s t : h_S), h_I s → h_I t → h_F (k_in k_lx) s σ1 → h_F (k_in k_lm) t σ2 → (s 64 2 = t 98 15) → (s 64 4 = t 98 16) → (t 98 13 = 0) → (s 63 2 = σ1 63 2) → (s 64 2 ≤ σ1 64 1) → (σ1 64 2 ≤ s 64 2) → (((0 ≤ s 64 5 ∧ s 64 5 ≤ 9) ∧ (0 ≤ t 98 18 ∧ t 98 18 ≤ 9) ∧ (s 64 5 = t 98 18) ∧ (s 64 2 = s 64 4 + 1)) ∨ ((0 ≤ s 64 5 ∧ s 64 5 ≤ 99) ∧ (0 ≤ t 98 18 ∧ t 98 18 ≤ 99) ∧ (s 64 5 = t 98 18) ∧ (s 64 2 = s 64 4 + 2)) ∨ ((s 64 4 + 3 ≤ s 64 2))) → (161 - s 64 2) ≤ (n : Int) → ∀ lv2 mem2, h_loc [(0, .ref 98)] lv2 → h_R (g_Y ns) t mem2 → h_T g_P (g_Y ns) 75 172 [(0, .ref 64)] [] s (d_cs g_P (g_Y ns) cs1 (d_L g_P (g_Y ns) (148, 140, lv2, []) cs2 mem2 Q)) := by
  have hT := hTL.1
  have hL := hTL.2
  intro n
  induction n with
  | zero => intro s0 t0 I0 J0 F0_ H0_ ex0 ex1 ex2 ex3 ex4 ex5 pc0 hm lv2 mem2 hl2 hR2; have ge0 := tf_64_2 I0; have ge1 := tf_64_1 hI1; exfalso; omega
  | succ n ih =>
    intro s0 t0 I0 J0 F0_ H0_ ex0 ex1 ex2 ex3 ex4 ex5 pc0 hm lv2 mem2 hl2 hR2; have ge0 := tf_64_2 I0; have ge1 := tf_64_1 hI1
    rcases pc0 with pc0 | pc0 | pc0
    · show h_T g_P (g_Y ns) 75 172 [(0, .ref 64)] [] s0 _
      refine h_aload_n (pc' := 173) rfl rfl rfl ?_
      refine h_getI (pc' := 176) (v := s0 64 2) rfl rfl rfl rfl rfl rfl (fun z1 hz1 => ?_)
      have tz1 := tf_64_2 I0
      refine h_aload_n (pc' := 177) rfl rfl rfl ?_
      refine h_getI (pc' := 180) (v := σ1 64 1) rfl rfl rfl rfl rfl (F0_ 64 1 rfl) (fun z2 hz2 => ?_)
      have tz2 := tf_64_1 hI1
      refine h_cge (tg := 248) (pc' := 183) rfl rfl rfl hz1 hz2 (fun c3 => ?_) (fun c3 => ?_)
      · clear hz1 hz2
        refine d_toM (g_inj ns) hl2 hR2 (fun lvw4 memw4 hlw4 hRw4 => ?_)
        show h_T g_P (g_Y ns) 148 140 [(0, .ref 98)] [] t0 _
        refine h_aload_n (pc' := 141) rfl rfl rfl ?_
        refine h_aload_n (pc' := 142) rfl rfl rfl ?_
        refine h_getI (pc' := 145) (v := t0 98 15) rfl rfl rfl rfl rfl rfl (fun z5 hz5 => ?_)
        have tz5 := tf_98_15 J0
        refine h_call (sp := false) (pc' := 148) (M := [(0, .ref 98), (1, .int z5)]) rfl rfl rfl rfl rfl rfl rfl rfl ?_
        refine h_iload_n (pc' := 1) rfl rfl rfl ?_
        refine h_aload_n (pc' := 2) rfl rfl rfl ?_
        refine h_getI (pc' := 5) (v := σ2 98 11) rfl rfl rfl rfl rfl (H0_ 98 11 rfl) (fun z6 hz6 => ?_)
        have tz6 := tf_98_11 hI2
        refine h_cge (tg := 17) (pc' := 8) rfl rfl rfl hz5 hz6 (fun c7 => ?_) (fun c7 => absurd c7 (by omega))
        clear hz6
        refine h_bipush (pc' := 19) (x := (Int32.ofInt (-4))) rfl rfl cb_m4 ?_
        refine h_iret rfl rfl (h_Kv ?_)
        clear hz5
        refine h_i2l (pc' := 149) rfl rfl ci_m4 (fun z8 hz8 => ?_)
        refine h_ldc2 (pc' := 152) (x := (Int64.ofInt 48)) rfl rfl rfl ?_
        refine h_ldc2 (pc' := 155) (x := (Int64.ofInt 57)) rfl rfl rfl ?_
        refine h_calls (pc' := 158) (M := [(0, .long z8), (2, .long (Int64.ofInt 48)), (4, .long (Int64.ofInt 57))]) rfl rfl rfl rfl rfl rfl ?_
        refine h_lload_n (pc' := 1) rfl rfl rfl ?_
        refine h_lload_n (pc' := 2) rfl rfl rfl ?_
        refine h_lcmp (pc' := 3) rfl rfl hz8 cl_48 (fun z9 hz9 => ?_)
        refine h_zlt (tg := 17) (pc' := 6) rfl rfl rfl rfl (fun c10 => ?_) (fun c10 => absurd c10 (by omega))
        replace c10 := (h_lcr hz9).1 c10
        clear hz9
        refine h_iconst (pc' := 18) (x := (Int32.ofInt 0)) rfl rfl rfl ?_
        refine h_zret rfl rfl ci_0 (by omega) (h_Kv ?_)
        clear hz8
        refine h_zeq (tg := 217) (pc' := 161) rfl rfl rfl ci_0 (fun c11 => ?_) (fun c11 => absurd c11 (by omega))
        refine d_toL (g_inj ns) hlw4 hRw4 (fun lvw12 memw12 hlw12 hRw12 => ?_)
        show h_T g_P (g_Y ns) 75 248 [(0, .ref 64)] [] s0 _
        exact h_wk [(0, .ref 64)] ⟨rfl, trivial⟩ (kx0 _ _ I0 J0 F0_ H0_ (by omega) (by omega) (by omega) (by omega) (by omega) (by omega) (Or.inl ⟨by omega, by omega, by omega, by omega⟩) _ _ (h_al_ok ⟨rfl, trivial⟩ hlw12) hRw12)
      · clear hz1 hz2
        refine h_aload_n (pc' := 184) rfl rfl rfl ?_
        refine h_getR (pc' := 187) rfl rfl rfl rfl rfl ?_
        refine h_aload_n (pc' := 188) rfl rfl rfl ?_
        refine h_getI (pc' := 191) (v := s0 64 2) rfl rfl rfl rfl rfl rfl (fun z13 hz13 => ?_)
        refine h_iald (pc' := 192) (v := σ1 65 (s0 64 2)) rfl rfl rfl hz13 (by omega) (by omega) (F0_ 65 _ rfl) (fun z14 hz14 => ?_)
        have tz14 := ty_65 hI1 (s0 64 2)
        have lz14 := hT (s0 64 2) (by omega) (by omega)
        clear hz13
        refine h_bipush (pc' := 194) (x := (Int32.ofInt 48)) rfl rfl cb_48 ?_
        refine h_clt (tg := 248) (pc' := 197) rfl rfl rfl hz14 ci_48 (fun c15 => ?_) (fun c15 => ?_)
        · clear hz14
          refine d_toM (g_inj ns) hl2 hR2 (fun lvw16 memw16 hlw16 hRw16 => ?_)
          show h_T g_P (g_Y ns) 148 140 [(0, .ref 98)] [] t0 _
          refine h_aload_n (pc' := 141) rfl rfl rfl ?_
          refine h_aload_n (pc' := 142) rfl rfl rfl ?_
          refine h_getI (pc' := 145) (v := t0 98 15) rfl rfl rfl rfl rfl rfl (fun z17 hz17 => ?_)
          have tz17 := tf_98_15 J0
          refine h_call (sp := false) (pc' := 148) (M := [(0, .ref 98), (1, .int z17)]) rfl rfl rfl rfl rfl rfl rfl rfl ?_
          refine h_iload_n (pc' := 1) rfl rfl rfl ?_
          refine h_aload_n (pc' := 2) rfl rfl rfl ?_
          refine h_getI (pc' := 5) (v := σ2 98 11) rfl rfl rfl rfl rfl (H0_ 98 11 rfl) (fun z18 hz18 => ?_)
          have tz18 := tf_98_11 hI2
          refine h_cge (tg := 17) (pc' := 8) rfl rfl rfl hz17 hz18 (fun c19 => absurd c19 (by omega)) (fun c19 => ?_)
          clear hz18
          refine h_aload_n (pc' := 9) rfl rfl rfl ?_
          refine h_getR (pc' := 12) rfl rfl rfl rfl rfl ?_
          refine h_iload_n (pc' := 13) rfl rfl rfl ?_
          refine h_iald (pc' := 14) (v := σ2 102 (t0 98 15)) rfl rfl rfl hz17 (by omega) (by omega) (H0_ 102 _ rfl) (fun z20 hz20 => ?_)
          have tz20 := ty_102 hI2 (t0 98 15)
          have lz20 : σ2 102 (t0 98 15) = σ1 65 (s0 64 2) := (congrArg (σ2 102) (show (t0 98 15) = (s0 64 2) by omega)).trans lz14.symm
          refine h_goto (pc' := 19) rfl rfl ?_
          refine h_iret rfl rfl (h_Kv ?_)
          clear hz17
          refine h_i2l (pc' := 149) rfl rfl hz20 (fun z21 hz21 => ?_)
          clear hz20
          refine h_ldc2 (pc' := 152) (x := (Int64.ofInt 48)) rfl rfl rfl ?_
          refine h_ldc2 (pc' := 155) (x := (Int64.ofInt 57)) rfl rfl rfl ?_
          refine h_calls (pc' := 158) (M := [(0, .long z21), (2, .long (Int64.ofInt 48)), (4, .long (Int64.ofInt 57))]) rfl rfl rfl rfl rfl rfl ?_
          refine h_lload_n (pc' := 1) rfl rfl rfl ?_
          refine h_lload_n (pc' := 2) rfl rfl rfl ?_
          refine h_lcmp (pc' := 3) rfl rfl hz21 cl_48 (fun z22 hz22 => ?_)
          refine h_zlt (tg := 17) (pc' := 6) rfl rfl rfl rfl (fun c23 => ?_) (fun c23 => absurd c23 (by omega))
          replace c23 := (h_lcr hz22).1 c23
          clear hz22
          refine h_iconst (pc' := 18) (x := (Int32.ofInt 0)) rfl rfl rfl ?_
          refine h_zret rfl rfl ci_0 (by omega) (h_Kv ?_)
          clear hz21
          refine h_zeq (tg := 217) (pc' := 161) rfl rfl rfl ci_0 (fun c24 => ?_) (fun c24 => absurd c24 (by omega))
          refine d_toL (g_inj ns) hlw16 hRw16 (fun lvw25 memw25 hlw25 hRw25 => ?_)
          show h_T g_P (g_Y ns) 75 248 [(0, .ref 64)] [] s0 _
          exact h_wk [(0, .ref 64)] ⟨rfl, trivial⟩ (kx0 _ _ I0 J0 F0_ H0_ (by omega) (by omega) (by omega) (by omega) (by omega) (by omega) (Or.inl ⟨by omega, by omega, by omega, by omega⟩) _ _ (h_al_ok ⟨rfl, trivial⟩ hlw25) hRw25)
        · clear hz14
          refine h_aload_n (pc' := 198) rfl rfl rfl ?_
          refine h_getR (pc' := 201) rfl rfl rfl rfl rfl ?_
          refine h_aload_n (pc' := 202) rfl rfl rfl ?_
          refine h_getI (pc' := 205) (v := s0 64 2) rfl rfl rfl rfl rfl rfl (fun z26 hz26 => ?_)
          refine h_iald (pc' := 206) (v := σ1 65 (s0 64 2)) rfl rfl rfl hz26 (by omega) (by omega) (F0_ 65 _ rfl) (fun z27 hz27 => ?_)
          clear hz26
          refine h_bipush (pc' := 208) (x := (Int32.ofInt 57)) rfl rfl cb_57 ?_
          refine h_cgt (tg := 248) (pc' := 211) rfl rfl rfl hz27 ci_57 (fun c28 => ?_) (fun c28 => ?_)
          · clear hz27
            refine d_toM (g_inj ns) hl2 hR2 (fun lvw29 memw29 hlw29 hRw29 => ?_)
            show h_T g_P (g_Y ns) 148 140 [(0, .ref 98)] [] t0 _
            refine h_aload_n (pc' := 141) rfl rfl rfl ?_
            refine h_aload_n (pc' := 142) rfl rfl rfl ?_
            refine h_getI (pc' := 145) (v := t0 98 15) rfl rfl rfl rfl rfl rfl (fun z30 hz30 => ?_)
            have tz30 := tf_98_15 J0
            refine h_call (sp := false) (pc' := 148) (M := [(0, .ref 98), (1, .int z30)]) rfl rfl rfl rfl rfl rfl rfl rfl ?_
            refine h_iload_n (pc' := 1) rfl rfl rfl ?_
            refine h_aload_n (pc' := 2) rfl rfl rfl ?_
            refine h_getI (pc' := 5) (v := σ2 98 11) rfl rfl rfl rfl rfl (H0_ 98 11 rfl) (fun z31 hz31 => ?_)
            have tz31 := tf_98_11 hI2
            refine h_cge (tg := 17) (pc' := 8) rfl rfl rfl hz30 hz31 (fun c32 => absurd c32 (by omega)) (fun c32 => ?_)
            clear hz31
            refine h_aload_n (pc' := 9) rfl rfl rfl ?_
            refine h_getR (pc' := 12) rfl rfl rfl rfl rfl ?_
            refine h_iload_n (pc' := 13) rfl rfl rfl ?_
            refine h_iald (pc' := 14) (v := σ2 102 (t0 98 15)) rfl rfl rfl hz30 (by omega) (by omega) (H0_ 102 _ rfl) (fun z33 hz33 => ?_)
            have tz33 := ty_102 hI2 (t0 98 15)
            have lz33 : σ2 102 (t0 98 15) = σ1 65 (s0 64 2) := (congrArg (σ2 102) (show (t0 98 15) = (s0 64 2) by omega)).trans lz14.symm
            refine h_goto (pc' := 19) rfl rfl ?_
            refine h_iret rfl rfl (h_Kv ?_)
            clear hz30
            refine h_i2l (pc' := 149) rfl rfl hz33 (fun z34 hz34 => ?_)
            clear hz33
            refine h_ldc2 (pc' := 152) (x := (Int64.ofInt 48)) rfl rfl rfl ?_
            refine h_ldc2 (pc' := 155) (x := (Int64.ofInt 57)) rfl rfl rfl ?_
            refine h_calls (pc' := 158) (M := [(0, .long z34), (2, .long (Int64.ofInt 48)), (4, .long (Int64.ofInt 57))]) rfl rfl rfl rfl rfl rfl ?_
            refine h_lload_n (pc' := 1) rfl rfl rfl ?_
            refine h_lload_n (pc' := 2) rfl rfl rfl ?_
            refine h_lcmp (pc' := 3) rfl rfl hz34 cl_48 (fun z35 hz35 => ?_)
            refine h_zlt (tg := 17) (pc' := 6) rfl rfl rfl rfl (fun c36 => absurd c36 (by omega)) (fun c36 => ?_)
            replace c36 := (h_lcr hz35).2.1 c36
            clear hz35
            refine h_lload_n (pc' := 7) rfl rfl rfl ?_
            refine h_lload (pc' := 9) rfl rfl rfl ?_
            refine h_lcmp (pc' := 10) rfl rfl hz34 cl_57 (fun z37 hz37 => ?_)
            refine h_zgt (tg := 17) (pc' := 13) rfl rfl rfl rfl (fun c38 => ?_) (fun c38 => absurd c38 (by omega))
            replace c38 := (h_lcr hz37).2.2.2.1 c38
            clear hz37
            refine h_iconst (pc' := 18) (x := (Int32.ofInt 0)) rfl rfl rfl ?_
            refine h_zret rfl rfl ci_0 (by omega) (h_Kv ?_)
            clear hz34
            refine h_zeq (tg := 217) (pc' := 161) rfl rfl rfl ci_0 (fun c39 => ?_) (fun c39 => absurd c39 (by omega))
            refine d_toL (g_inj ns) hlw29 hRw29 (fun lvw40 memw40 hlw40 hRw40 => ?_)
            show h_T g_P (g_Y ns) 75 248 [(0, .ref 64)] [] s0 _
            exact h_wk [(0, .ref 64)] ⟨rfl, trivial⟩ (kx0 _ _ I0 J0 F0_ H0_ (by omega) (by omega) (by omega) (by omega) (by omega) (by omega) (Or.inl ⟨by omega, by omega, by omega, by omega⟩) _ _ (h_al_ok ⟨rfl, trivial⟩ hlw40) hRw40)
          · clear hz27
            refine h_aload_n (pc' := 212) rfl rfl rfl ?_
            refine h_aload_n (pc' := 213) rfl rfl rfl ?_
            refine h_getI (pc' := 216) (v := s0 64 5) rfl rfl rfl rfl rfl rfl (fun z41 hz41 => ?_)
            have tz41 := tf_64_5 I0
            refine h_bipush (pc' := 218) (x := (Int32.ofInt 10)) rfl rfl cb_10 ?_
            refine h_imul (pc' := 219) rfl rfl hz41 ci_10 rfl (by have g0 := h_rgv hz41; omega) (by have g0 := h_rgv hz41; omega) (fun z42 hz42 => ?_)
            clear hz41
            refine h_aload_n (pc' := 220) rfl rfl rfl ?_
            refine h_getR (pc' := 223) rfl rfl rfl rfl rfl ?_
            refine h_aload_n (pc' := 224) rfl rfl rfl ?_
            refine h_getI (pc' := 227) (v := s0 64 2) rfl rfl rfl rfl rfl rfl (fun z43 hz43 => ?_)
            refine h_iald (pc' := 228) (v := σ1 65 (s0 64 2)) rfl rfl rfl hz43 (by omega) (by omega) (F0_ 65 _ rfl) (fun z44 hz44 => ?_)
            clear hz43
            refine h_iadd (pc' := 229) rfl rfl hz42 hz44 rfl (by omega) (by omega) (fun z45 hz45 => ?_)
            clear hz42 hz44
            refine h_bipush (pc' := 231) (x := (Int32.ofInt 48)) rfl rfl cb_48 ?_
            refine h_isub (pc' := 232) rfl rfl hz45 ci_48 rfl (by omega) (by omega) (fun z46 hz46 => ?_)
            clear hz45
            refine h_put (pc' := 235) rfl rfl rfl rfl rfl rfl hz46 rfl (h_fgt (E := fun s => s 64 2 = s0 64 2 ∧ s 64 4 = s0 64 4 ∧ s 64 3 = s0 64 3 ∧ s 64 5 = ((((s0 64 5) * 10) + (σ1 65 (s0 64 2))) - 48) ∧ s 63 2 = s0 63 2 ∧ s 63 3 = s0 63 3) _ (if_64_5 I0 (h_rgv hz46)) (F0_.up rfl) ⟨rfl, rfl, rfl, rfl, rfl, rfl⟩ (fun s47 Is47 Fs47 (es47 : s47 64 2 = s0 64 2 ∧ s47 64 4 = s0 64 4 ∧ s47 64 3 = s0 64 3 ∧ s47 64 5 = ((((s0 64 5) * 10) + (σ1 65 (s0 64 2))) - 48) ∧ s47 63 2 = s0 63 2 ∧ s47 63 3 = s0 63 3) => ?_))
            refine h_aload_n (pc' := 236) rfl rfl rfl ?_
            refine h_dup (pc' := 237) rfl rfl rfl ?_
            refine h_getI (pc' := 240) (v := s0 64 2) rfl rfl rfl rfl rfl es47.1 (fun z48 hz48 => ?_)
            refine h_iconst (pc' := 241) (x := (Int32.ofInt 1)) rfl rfl rfl ?_
            refine h_iadd (pc' := 242) rfl rfl hz48 ci_1 rfl (by omega) (by omega) (fun z49 hz49 => ?_)
            clear hz48
            refine h_put (pc' := 245) rfl rfl rfl rfl rfl rfl hz49 rfl (h_fgt (E := fun s => s 64 2 = ((s0 64 2) + 1) ∧ s 64 4 = s0 64 4 ∧ s 64 3 = s0 64 3 ∧ s 64 5 = ((((s0 64 5) * 10) + (σ1 65 (s0 64 2))) - 48) ∧ s 63 2 = s0 63 2 ∧ s 63 3 = s0 63 3) _ (if_64_2 Is47 (by omega)) (Fs47.up rfl) ⟨rfl, es47.2.1, es47.2.2.1, es47.2.2.2.1, es47.2.2.2.2.1, es47.2.2.2.2.2⟩ (fun s50 Is50 Fs50 (es50 : s50 64 2 = ((s0 64 2) + 1) ∧ s50 64 4 = s0 64 4 ∧ s50 64 3 = s0 64 3 ∧ s50 64 5 = ((((s0 64 5) * 10) + (σ1 65 (s0 64 2))) - 48) ∧ s50 63 2 = s0 63 2 ∧ s50 63 3 = s0 63 3) => ?_))
            clear es47
            refine h_goto (pc' := 172) rfl rfl ?_
            refine d_toM (g_inj ns) hl2 hR2 (fun lvw51 memw51 hlw51 hRw51 => ?_)
            show h_T g_P (g_Y ns) 148 140 [(0, .ref 98)] [] t0 _
            refine h_aload_n (pc' := 141) rfl rfl rfl ?_
            refine h_aload_n (pc' := 142) rfl rfl rfl ?_
            refine h_getI (pc' := 145) (v := t0 98 15) rfl rfl rfl rfl rfl rfl (fun z52 hz52 => ?_)
            have tz52 := tf_98_15 J0
            refine h_call (sp := false) (pc' := 148) (M := [(0, .ref 98), (1, .int z52)]) rfl rfl rfl rfl rfl rfl rfl rfl ?_
            refine h_iload_n (pc' := 1) rfl rfl rfl ?_
            refine h_aload_n (pc' := 2) rfl rfl rfl ?_
            refine h_getI (pc' := 5) (v := σ2 98 11) rfl rfl rfl rfl rfl (H0_ 98 11 rfl) (fun z53 hz53 => ?_)
            have tz53 := tf_98_11 hI2
            refine h_cge (tg := 17) (pc' := 8) rfl rfl rfl hz52 hz53 (fun c54 => absurd c54 (by omega)) (fun c54 => ?_)
            clear hz53
            refine h_aload_n (pc' := 9) rfl rfl rfl ?_
            refine h_getR (pc' := 12) rfl rfl rfl rfl rfl ?_
            refine h_iload_n (pc' := 13) rfl rfl rfl ?_
            refine h_iald (pc' := 14) (v := σ2 102 (t0 98 15)) rfl rfl rfl hz52 (by omega) (by omega) (H0_ 102 _ rfl) (fun z55 hz55 => ?_)
            have tz55 := ty_102 hI2 (t0 98 15)
            have lz55 : σ2 102 (t0 98 15) = σ1 65 (s0 64 2) := (congrArg (σ2 102) (show (t0 98 15) = (s0 64 2) by omega)).trans lz14.symm
            refine h_goto (pc' := 19) rfl rfl ?_
            refine h_iret rfl rfl (h_Kv ?_)
            clear hz52
            refine h_i2l (pc' := 149) rfl rfl hz55 (fun z56 hz56 => ?_)
            clear hz55
            refine h_ldc2 (pc' := 152) (x := (Int64.ofInt 48)) rfl rfl rfl ?_
            refine h_ldc2 (pc' := 155) (x := (Int64.ofInt 57)) rfl rfl rfl ?_
            refine h_calls (pc' := 158) (M := [(0, .long z56), (2, .long (Int64.ofInt 48)), (4, .long (Int64.ofInt 57))]) rfl rfl rfl rfl rfl rfl ?_
            refine h_lload_n (pc' := 1) rfl rfl rfl ?_
            refine h_lload_n (pc' := 2) rfl rfl rfl ?_
            refine h_lcmp (pc' := 3) rfl rfl hz56 cl_48 (fun z57 hz57 => ?_)
            refine h_zlt (tg := 17) (pc' := 6) rfl rfl rfl rfl (fun c58 => absurd c58 (by omega)) (fun c58 => ?_)
            replace c58 := (h_lcr hz57).2.1 c58
            clear hz57
            refine h_lload_n (pc' := 7) rfl rfl rfl ?_
            refine h_lload (pc' := 9) rfl rfl rfl ?_
            refine h_lcmp (pc' := 10) rfl rfl hz56 cl_57 (fun z59 hz59 => ?_)
            refine h_zgt (tg := 17) (pc' := 13) rfl rfl rfl rfl (fun c60 => absurd c60 (by omega)) (fun c60 => ?_)
            replace c60 := (h_lcr hz59).2.2.1 c60
            clear hz59
            refine h_iconst (pc' := 14) (x := (Int32.ofInt 1)) rfl rfl rfl ?_
            refine h_goto (pc' := 18) rfl rfl ?_
            refine h_zret rfl rfl ci_1 (by omega) (h_Kv ?_)
            clear hz56
            refine h_zeq (tg := 217) (pc' := 161) rfl rfl rfl ci_1 (fun c61 => absurd c61 (by omega)) (fun c61 => ?_)
            refine h_aload_n (pc' := 162) rfl rfl rfl ?_
            refine h_aload_n (pc' := 163) rfl rfl rfl ?_
            refine h_getI (pc' := 166) (v := t0 98 15) rfl rfl rfl rfl rfl rfl (fun z62 hz62 => ?_)
            refine h_aload_n (pc' := 167) rfl rfl rfl ?_
            refine h_getI (pc' := 170) (v := t0 98 16) rfl rfl rfl rfl rfl rfl (fun z63 hz63 => ?_)
            have tz63 := tf_98_16 J0
            refine h_isub (pc' := 171) rfl rfl hz62 hz63 rfl (by omega) (by omega) (fun z64 hz64 => ?_)
            clear hz62 hz63
            refine h_iconst (pc' := 172) (x := (Int32.ofInt 2)) rfl rfl rfl ?_
            refine h_cge (tg := 197) (pc' := 175) rfl rfl rfl hz64 ci_2 (fun c65 => ?_) (fun c65 => ?_)
            · clear hz64
              refine h_aload_n (pc' := 198) rfl rfl rfl ?_
              refine h_getI (pc' := 201) (v := t0 98 18) rfl rfl rfl rfl rfl rfl (fun z66 hz66 => ?_)
              have tz66 := tf_98_18 J0
              refine h_put (pc' := 204) rfl rfl rfl rfl rfl rfl hz66 rfl (h_fgt (E := fun s => s 98 15 = t0 98 15 ∧ s 98 16 = t0 98 16 ∧ s 98 17 = t0 98 17 ∧ s 98 18 = (t0 98 18) ∧ s 98 13 = t0 98 13 ∧ s 98 14 = t0 98 14) _ (if_98_18 J0 (by omega)) (H0_.up rfl) ⟨rfl, rfl, rfl, rfl, rfl, rfl⟩ (fun s67 Is67 Fs67 (es67 : s67 98 15 = t0 98 15 ∧ s67 98 16 = t0 98 16 ∧ s67 98 17 = t0 98 17 ∧ s67 98 18 = (t0 98 18) ∧ s67 98 13 = t0 98 13 ∧ s67 98 14 = t0 98 14) => ?_))
              refine h_aload_n (pc' := 205) rfl rfl rfl ?_
              refine h_dup (pc' := 206) rfl rfl rfl ?_
              refine h_getI (pc' := 209) (v := t0 98 15) rfl rfl rfl rfl rfl es67.1 (fun z68 hz68 => ?_)
              refine h_iconst (pc' := 210) (x := (Int32.ofInt 1)) rfl rfl rfl ?_
              refine h_iadd (pc' := 211) rfl rfl hz68 ci_1 rfl (by omega) (by omega) (fun z69 hz69 => ?_)
              clear hz68
              refine h_put (pc' := 214) rfl rfl rfl rfl rfl rfl hz69 rfl (h_fgt (E := fun s => s 98 15 = ((t0 98 15) + 1) ∧ s 98 16 = t0 98 16 ∧ s 98 17 = t0 98 17 ∧ s 98 18 = (t0 98 18) ∧ s 98 13 = t0 98 13 ∧ s 98 14 = t0 98 14) _ (if_98_15 Is67 (by omega)) (Fs67.up rfl) ⟨rfl, es67.2.1, es67.2.2.1, es67.2.2.2.1, es67.2.2.2.2.1, es67.2.2.2.2.2⟩ (fun s70 Is70 Fs70 (es70 : s70 98 15 = ((t0 98 15) + 1) ∧ s70 98 16 = t0 98 16 ∧ s70 98 17 = t0 98 17 ∧ s70 98 18 = (t0 98 18) ∧ s70 98 13 = t0 98 13 ∧ s70 98 14 = t0 98 14) => ?_))
              clear es67
              refine h_goto (pc' := 140) rfl rfl ?_
              refine d_toL (g_inj ns) hlw51 hRw51 (fun lvw71 memw71 hlw71 hRw71 => ?_)
              show h_T g_P (g_Y ns) 75 172 [(0, .ref 64)] [] s50 _
              exact h_wk [(0, .ref 64)] ⟨rfl, trivial⟩ (ih _ _ Is50 Is70 Fs50 Fs70   (by omega) (by omega) (by omega) (by omega) (by omega) (by omega) (Or.inr (Or.inl ⟨by omega, by omega, by omega, by omega⟩)) (by omega) _ _ (h_al_ok ⟨rfl, trivial⟩ hlw71) hRw71)
            · clear hz64
              refine h_bipush (pc' := 177) (x := (Int32.ofInt 10)) rfl rfl cb_10 ?_
              refine h_aload_n (pc' := 178) rfl rfl rfl ?_
              refine h_getI (pc' := 181) (v := t0 98 18) rfl rfl rfl rfl rfl rfl (fun z72 hz72 => ?_)
              have tz72 := tf_98_18 J0
              refine h_imul (pc' := 182) rfl rfl ci_10 hz72 rfl (by omega) (by omega) (fun z73 hz73 => ?_)
              clear hz72
              refine h_aload_n (pc' := 183) rfl rfl rfl ?_
              refine h_aload_n (pc' := 184) rfl rfl rfl ?_
              refine h_getI (pc' := 187) (v := t0 98 15) rfl rfl rfl rfl rfl rfl (fun z74 hz74 => ?_)
              refine h_call (sp := false) (pc' := 190) (M := [(0, .ref 98), (1, .int z74)]) rfl rfl rfl rfl rfl rfl rfl rfl ?_
              refine h_iload_n (pc' := 1) rfl rfl rfl ?_
              refine h_aload_n (pc' := 2) rfl rfl rfl ?_
              refine h_getI (pc' := 5) (v := σ2 98 11) rfl rfl rfl rfl rfl (H0_ 98 11 rfl) (fun z75 hz75 => ?_)
              refine h_cge (tg := 17) (pc' := 8) rfl rfl rfl hz74 hz75 (fun c76 => absurd c76 (by omega)) (fun c76 => ?_)
              clear hz75
              refine h_aload_n (pc' := 9) rfl rfl rfl ?_
              refine h_getR (pc' := 12) rfl rfl rfl rfl rfl ?_
              refine h_iload_n (pc' := 13) rfl rfl rfl ?_
              refine h_iald (pc' := 14) (v := σ2 102 (t0 98 15)) rfl rfl rfl hz74 (by omega) (by omega) (H0_ 102 _ rfl) (fun z77 hz77 => ?_)
              refine h_goto (pc' := 19) rfl rfl ?_
              refine h_iret rfl rfl (h_Kv ?_)
              clear hz74
              refine h_iadd (pc' := 191) rfl rfl hz73 hz77 rfl (by omega) (by omega) (fun z78 hz78 => ?_)
              clear hz73 hz77
              refine h_bipush (pc' := 193) (x := (Int32.ofInt 48)) rfl rfl cb_48 ?_
              refine h_isub (pc' := 194) rfl rfl hz78 ci_48 rfl (by omega) (by omega) (fun z79 hz79 => ?_)
              clear hz78
              refine h_goto (pc' := 201) rfl rfl ?_
              refine h_put (pc' := 204) rfl rfl rfl rfl rfl rfl hz79 rfl (h_fgt (E := fun s => s 98 15 = t0 98 15 ∧ s 98 16 = t0 98 16 ∧ s 98 17 = t0 98 17 ∧ s 98 18 = (((10 * (t0 98 18)) + (σ2 102 (t0 98 15))) - 48) ∧ s 98 13 = t0 98 13 ∧ s 98 14 = t0 98 14) _ (if_98_18 J0 (by omega)) (H0_.up rfl) ⟨rfl, rfl, rfl, rfl, rfl, rfl⟩ (fun s80 Is80 Fs80 (es80 : s80 98 15 = t0 98 15 ∧ s80 98 16 = t0 98 16 ∧ s80 98 17 = t0 98 17 ∧ s80 98 18 = (((10 * (t0 98 18)) + (σ2 102 (t0 98 15))) - 48) ∧ s80 98 13 = t0 98 13 ∧ s80 98 14 = t0 98 14) => ?_))
              refine h_aload_n (pc' := 205) rfl rfl rfl ?_
              refine h_dup (pc' := 206) rfl rfl rfl ?_
              refine h_getI (pc' := 209) (v := t0 98 15) rfl rfl rfl rfl rfl es80.1 (fun z81 hz81 => ?_)
              refine h_iconst (pc' := 210) (x := (Int32.ofInt 1)) rfl rfl rfl ?_
              refine h_iadd (pc' := 211) rfl rfl hz81 ci_1 rfl (by omega) (by omega) (fun z82 hz82 => ?_)
              clear hz81
              refine h_put (pc' := 214) rfl rfl rfl rfl rfl rfl hz82 rfl (h_fgt (E := fun s => s 98 15 = ((t0 98 15) + 1) ∧ s 98 16 = t0 98 16 ∧ s 98 17 = t0 98 17 ∧ s 98 18 = (((10 * (t0 98 18)) + (σ2 102 (t0 98 15))) - 48) ∧ s 98 13 = t0 98 13 ∧ s 98 14 = t0 98 14) _ (if_98_15 Is80 (by omega)) (Fs80.up rfl) ⟨rfl, es80.2.1, es80.2.2.1, es80.2.2.2.1, es80.2.2.2.2.1, es80.2.2.2.2.2⟩ (fun s83 Is83 Fs83 (es83 : s83 98 15 = ((t0 98 15) + 1) ∧ s83 98 16 = t0 98 16 ∧ s83 98 17 = t0 98 17 ∧ s83 98 18 = (((10 * (t0 98 18)) + (σ2 102 (t0 98 15))) - 48) ∧ s83 98 13 = t0 98 13 ∧ s83 98 14 = t0 98 14) => ?_))
              clear es80
              refine h_goto (pc' := 140) rfl rfl ?_
              refine d_toL (g_inj ns) hlw51 hRw51 (fun lvw84 memw84 hlw84 hRw84 => ?_)
              show h_T g_P (g_Y ns) 75 172 [(0, .ref 64)] [] s50 _
              exact h_wk [(0, .ref 64)] ⟨rfl, trivial⟩ (ih _ _ Is50 Is83 Fs50 Fs83   (by omega) (by omega) (by omega) (by omega) (by omega) (by omega) (Or.inr (Or.inl ⟨by omega, by omega, by omega, by omega⟩)) (by omega) _ _ (h_al_ok ⟨rfl, trivial⟩ hlw84) hRw84)
    · show h_T g_P (g_Y ns) 75 172 [(0, .ref 64)] [] s0 _
      refine h_aload_n (pc' := 173) rfl rfl rfl ?_
      refine h_getI (pc' := 176) (v := s0 64 2) rfl rfl rfl rfl rfl rfl (fun z85 hz85 => ?_)
      have tz85 := tf_64_2 I0
      refine h_aload_n (pc' := 177) rfl rfl rfl ?_
      refine h_getI (pc' := 180) (v := σ1 64 1) rfl rfl rfl rfl rfl (F0_ 64 1 rfl) (fun z86 hz86 => ?_)
      have tz86 := tf_64_1 hI1
      refine h_cge (tg := 248) (pc' := 183) rfl rfl rfl hz85 hz86 (fun c87 => ?_) (fun c87 => ?_)
      · clear hz85 hz86
        refine d_toM (g_inj ns) hl2 hR2 (fun lvw88 memw88 hlw88 hRw88 => ?_)
        show h_T g_P (g_Y ns) 148 140 [(0, .ref 98)] [] t0 _
        refine h_aload_n (pc' := 141) rfl rfl rfl ?_
        refine h_aload_n (pc' := 142) rfl rfl rfl ?_
        refine h_getI (pc' := 145) (v := t0 98 15) rfl rfl rfl rfl rfl rfl (fun z89 hz89 => ?_)
        have tz89 := tf_98_15 J0
        refine h_call (sp := false) (pc' := 148) (M := [(0, .ref 98), (1, .int z89)]) rfl rfl rfl rfl rfl rfl rfl rfl ?_
        refine h_iload_n (pc' := 1) rfl rfl rfl ?_
        refine h_aload_n (pc' := 2) rfl rfl rfl ?_
        refine h_getI (pc' := 5) (v := σ2 98 11) rfl rfl rfl rfl rfl (H0_ 98 11 rfl) (fun z90 hz90 => ?_)
        have tz90 := tf_98_11 hI2
        refine h_cge (tg := 17) (pc' := 8) rfl rfl rfl hz89 hz90 (fun c91 => ?_) (fun c91 => absurd c91 (by omega))
        clear hz90
        refine h_bipush (pc' := 19) (x := (Int32.ofInt (-4))) rfl rfl cb_m4 ?_
        refine h_iret rfl rfl (h_Kv ?_)
        clear hz89
        refine h_i2l (pc' := 149) rfl rfl ci_m4 (fun z92 hz92 => ?_)
        refine h_ldc2 (pc' := 152) (x := (Int64.ofInt 48)) rfl rfl rfl ?_
        refine h_ldc2 (pc' := 155) (x := (Int64.ofInt 57)) rfl rfl rfl ?_
        refine h_calls (pc' := 158) (M := [(0, .long z92), (2, .long (Int64.ofInt 48)), (4, .long (Int64.ofInt 57))]) rfl rfl rfl rfl rfl rfl ?_
        refine h_lload_n (pc' := 1) rfl rfl rfl ?_
        refine h_lload_n (pc' := 2) rfl rfl rfl ?_
        refine h_lcmp (pc' := 3) rfl rfl hz92 cl_48 (fun z93 hz93 => ?_)
        refine h_zlt (tg := 17) (pc' := 6) rfl rfl rfl rfl (fun c94 => ?_) (fun c94 => absurd c94 (by omega))
        replace c94 := (h_lcr hz93).1 c94
        clear hz93
        refine h_iconst (pc' := 18) (x := (Int32.ofInt 0)) rfl rfl rfl ?_
        refine h_zret rfl rfl ci_0 (by omega) (h_Kv ?_)
        clear hz92
        refine h_zeq (tg := 217) (pc' := 161) rfl rfl rfl ci_0 (fun c95 => ?_) (fun c95 => absurd c95 (by omega))
        refine d_toL (g_inj ns) hlw88 hRw88 (fun lvw96 memw96 hlw96 hRw96 => ?_)
        show h_T g_P (g_Y ns) 75 248 [(0, .ref 64)] [] s0 _
        exact h_wk [(0, .ref 64)] ⟨rfl, trivial⟩ (kx0 _ _ I0 J0 F0_ H0_ (by omega) (by omega) (by omega) (by omega) (by omega) (by omega) (Or.inr (Or.inl ⟨by omega, by omega, by omega, by omega⟩)) _ _ (h_al_ok ⟨rfl, trivial⟩ hlw96) hRw96)
      · clear hz85 hz86
        refine h_aload_n (pc' := 184) rfl rfl rfl ?_
        refine h_getR (pc' := 187) rfl rfl rfl rfl rfl ?_
        refine h_aload_n (pc' := 188) rfl rfl rfl ?_
        refine h_getI (pc' := 191) (v := s0 64 2) rfl rfl rfl rfl rfl rfl (fun z97 hz97 => ?_)
        refine h_iald (pc' := 192) (v := σ1 65 (s0 64 2)) rfl rfl rfl hz97 (by omega) (by omega) (F0_ 65 _ rfl) (fun z98 hz98 => ?_)
        have tz98 := ty_65 hI1 (s0 64 2)
        have lz98 := hT (s0 64 2) (by omega) (by omega)
        clear hz97
        refine h_bipush (pc' := 194) (x := (Int32.ofInt 48)) rfl rfl cb_48 ?_
        refine h_clt (tg := 248) (pc' := 197) rfl rfl rfl hz98 ci_48 (fun c99 => ?_) (fun c99 => ?_)
        · clear hz98
          refine d_toM (g_inj ns) hl2 hR2 (fun lvw100 memw100 hlw100 hRw100 => ?_)
          show h_T g_P (g_Y ns) 148 140 [(0, .ref 98)] [] t0 _
          refine h_aload_n (pc' := 141) rfl rfl rfl ?_
          refine h_aload_n (pc' := 142) rfl rfl rfl ?_
          refine h_getI (pc' := 145) (v := t0 98 15) rfl rfl rfl rfl rfl rfl (fun z101 hz101 => ?_)
          have tz101 := tf_98_15 J0
          refine h_call (sp := false) (pc' := 148) (M := [(0, .ref 98), (1, .int z101)]) rfl rfl rfl rfl rfl rfl rfl rfl ?_
          refine h_iload_n (pc' := 1) rfl rfl rfl ?_
          refine h_aload_n (pc' := 2) rfl rfl rfl ?_
          refine h_getI (pc' := 5) (v := σ2 98 11) rfl rfl rfl rfl rfl (H0_ 98 11 rfl) (fun z102 hz102 => ?_)
          have tz102 := tf_98_11 hI2
          refine h_cge (tg := 17) (pc' := 8) rfl rfl rfl hz101 hz102 (fun c103 => absurd c103 (by omega)) (fun c103 => ?_)
          clear hz102
          refine h_aload_n (pc' := 9) rfl rfl rfl ?_
          refine h_getR (pc' := 12) rfl rfl rfl rfl rfl ?_
          refine h_iload_n (pc' := 13) rfl rfl rfl ?_
          refine h_iald (pc' := 14) (v := σ2 102 (t0 98 15)) rfl rfl rfl hz101 (by omega) (by omega) (H0_ 102 _ rfl) (fun z104 hz104 => ?_)
          have tz104 := ty_102 hI2 (t0 98 15)
          have lz104 : σ2 102 (t0 98 15) = σ1 65 (s0 64 2) := (congrArg (σ2 102) (show (t0 98 15) = (s0 64 2) by omega)).trans lz98.symm
          refine h_goto (pc' := 19) rfl rfl ?_
          refine h_iret rfl rfl (h_Kv ?_)
          clear hz101
          refine h_i2l (pc' := 149) rfl rfl hz104 (fun z105 hz105 => ?_)
          clear hz104
          refine h_ldc2 (pc' := 152) (x := (Int64.ofInt 48)) rfl rfl rfl ?_
          refine h_ldc2 (pc' := 155) (x := (Int64.ofInt 57)) rfl rfl rfl ?_
          refine h_calls (pc' := 158) (M := [(0, .long z105), (2, .long (Int64.ofInt 48)), (4, .long (Int64.ofInt 57))]) rfl rfl rfl rfl rfl rfl ?_
          refine h_lload_n (pc' := 1) rfl rfl rfl ?_
          refine h_lload_n (pc' := 2) rfl rfl rfl ?_
          refine h_lcmp (pc' := 3) rfl rfl hz105 cl_48 (fun z106 hz106 => ?_)
          refine h_zlt (tg := 17) (pc' := 6) rfl rfl rfl rfl (fun c107 => ?_) (fun c107 => absurd c107 (by omega))
          replace c107 := (h_lcr hz106).1 c107
          clear hz106
          refine h_iconst (pc' := 18) (x := (Int32.ofInt 0)) rfl rfl rfl ?_
          refine h_zret rfl rfl ci_0 (by omega) (h_Kv ?_)
          clear hz105
          refine h_zeq (tg := 217) (pc' := 161) rfl rfl rfl ci_0 (fun c108 => ?_) (fun c108 => absurd c108 (by omega))
          refine d_toL (g_inj ns) hlw100 hRw100 (fun lvw109 memw109 hlw109 hRw109 => ?_)
          show h_T g_P (g_Y ns) 75 248 [(0, .ref 64)] [] s0 _
          exact h_wk [(0, .ref 64)] ⟨rfl, trivial⟩ (kx0 _ _ I0 J0 F0_ H0_ (by omega) (by omega) (by omega) (by omega) (by omega) (by omega) (Or.inr (Or.inl ⟨by omega, by omega, by omega, by omega⟩)) _ _ (h_al_ok ⟨rfl, trivial⟩ hlw109) hRw109)
        · clear hz98
          refine h_aload_n (pc' := 198) rfl rfl rfl ?_
          refine h_getR (pc' := 201) rfl rfl rfl rfl rfl ?_
          refine h_aload_n (pc' := 202) rfl rfl rfl ?_
          refine h_getI (pc' := 205) (v := s0 64 2) rfl rfl rfl rfl rfl rfl (fun z110 hz110 => ?_)
          refine h_iald (pc' := 206) (v := σ1 65 (s0 64 2)) rfl rfl rfl hz110 (by omega) (by omega) (F0_ 65 _ rfl) (fun z111 hz111 => ?_)
          clear hz110
          refine h_bipush (pc' := 208) (x := (Int32.ofInt 57)) rfl rfl cb_57 ?_
          refine h_cgt (tg := 248) (pc' := 211) rfl rfl rfl hz111 ci_57 (fun c112 => ?_) (fun c112 => ?_)
          · clear hz111
            refine d_toM (g_inj ns) hl2 hR2 (fun lvw113 memw113 hlw113 hRw113 => ?_)
            show h_T g_P (g_Y ns) 148 140 [(0, .ref 98)] [] t0 _
            refine h_aload_n (pc' := 141) rfl rfl rfl ?_
            refine h_aload_n (pc' := 142) rfl rfl rfl ?_
            refine h_getI (pc' := 145) (v := t0 98 15) rfl rfl rfl rfl rfl rfl (fun z114 hz114 => ?_)
            have tz114 := tf_98_15 J0
            refine h_call (sp := false) (pc' := 148) (M := [(0, .ref 98), (1, .int z114)]) rfl rfl rfl rfl rfl rfl rfl rfl ?_
            refine h_iload_n (pc' := 1) rfl rfl rfl ?_
            refine h_aload_n (pc' := 2) rfl rfl rfl ?_
            refine h_getI (pc' := 5) (v := σ2 98 11) rfl rfl rfl rfl rfl (H0_ 98 11 rfl) (fun z115 hz115 => ?_)
            have tz115 := tf_98_11 hI2
            refine h_cge (tg := 17) (pc' := 8) rfl rfl rfl hz114 hz115 (fun c116 => absurd c116 (by omega)) (fun c116 => ?_)
            clear hz115
            refine h_aload_n (pc' := 9) rfl rfl rfl ?_
            refine h_getR (pc' := 12) rfl rfl rfl rfl rfl ?_
            refine h_iload_n (pc' := 13) rfl rfl rfl ?_
            refine h_iald (pc' := 14) (v := σ2 102 (t0 98 15)) rfl rfl rfl hz114 (by omega) (by omega) (H0_ 102 _ rfl) (fun z117 hz117 => ?_)
            have tz117 := ty_102 hI2 (t0 98 15)
            have lz117 : σ2 102 (t0 98 15) = σ1 65 (s0 64 2) := (congrArg (σ2 102) (show (t0 98 15) = (s0 64 2) by omega)).trans lz98.symm
            refine h_goto (pc' := 19) rfl rfl ?_
            refine h_iret rfl rfl (h_Kv ?_)
            clear hz114
            refine h_i2l (pc' := 149) rfl rfl hz117 (fun z118 hz118 => ?_)
            clear hz117
            refine h_ldc2 (pc' := 152) (x := (Int64.ofInt 48)) rfl rfl rfl ?_
            refine h_ldc2 (pc' := 155) (x := (Int64.ofInt 57)) rfl rfl rfl ?_
            refine h_calls (pc' := 158) (M := [(0, .long z118), (2, .long (Int64.ofInt 48)), (4, .long (Int64.ofInt 57))]) rfl rfl rfl rfl rfl rfl ?_
            refine h_lload_n (pc' := 1) rfl rfl rfl ?_
            refine h_lload_n (pc' := 2) rfl rfl rfl ?_
            refine h_lcmp (pc' := 3) rfl rfl hz118 cl_48 (fun z119 hz119 => ?_)
            refine h_zlt (tg := 17) (pc' := 6) rfl rfl rfl rfl (fun c120 => absurd c120 (by omega)) (fun c120 => ?_)
            replace c120 := (h_lcr hz119).2.1 c120
            clear hz119
            refine h_lload_n (pc' := 7) rfl rfl rfl ?_
            refine h_lload (pc' := 9) rfl rfl rfl ?_
            refine h_lcmp (pc' := 10) rfl rfl hz118 cl_57 (fun z121 hz121 => ?_)
            refine h_zgt (tg := 17) (pc' := 13) rfl rfl rfl rfl (fun c122 => ?_) (fun c122 => absurd c122 (by omega))
            replace c122 := (h_lcr hz121).2.2.2.1 c122
            clear hz121
            refine h_iconst (pc' := 18) (x := (Int32.ofInt 0)) rfl rfl rfl ?_
            refine h_zret rfl rfl ci_0 (by omega) (h_Kv ?_)
            clear hz118
            refine h_zeq (tg := 217) (pc' := 161) rfl rfl rfl ci_0 (fun c123 => ?_) (fun c123 => absurd c123 (by omega))
            refine d_toL (g_inj ns) hlw113 hRw113 (fun lvw124 memw124 hlw124 hRw124 => ?_)
            show h_T g_P (g_Y ns) 75 248 [(0, .ref 64)] [] s0 _
            exact h_wk [(0, .ref 64)] ⟨rfl, trivial⟩ (kx0 _ _ I0 J0 F0_ H0_ (by omega) (by omega) (by omega) (by omega) (by omega) (by omega) (Or.inr (Or.inl ⟨by omega, by omega, by omega, by omega⟩)) _ _ (h_al_ok ⟨rfl, trivial⟩ hlw124) hRw124)
          · clear hz111
            refine h_aload_n (pc' := 212) rfl rfl rfl ?_
            refine h_aload_n (pc' := 213) rfl rfl rfl ?_
            refine h_getI (pc' := 216) (v := s0 64 5) rfl rfl rfl rfl rfl rfl (fun z125 hz125 => ?_)
            have tz125 := tf_64_5 I0
            refine h_bipush (pc' := 218) (x := (Int32.ofInt 10)) rfl rfl cb_10 ?_
            refine h_imul (pc' := 219) rfl rfl hz125 ci_10 rfl (by have g0 := h_rgv hz125; omega) (by have g0 := h_rgv hz125; omega) (fun z126 hz126 => ?_)
            clear hz125
            refine h_aload_n (pc' := 220) rfl rfl rfl ?_
            refine h_getR (pc' := 223) rfl rfl rfl rfl rfl ?_
            refine h_aload_n (pc' := 224) rfl rfl rfl ?_
            refine h_getI (pc' := 227) (v := s0 64 2) rfl rfl rfl rfl rfl rfl (fun z127 hz127 => ?_)
            refine h_iald (pc' := 228) (v := σ1 65 (s0 64 2)) rfl rfl rfl hz127 (by omega) (by omega) (F0_ 65 _ rfl) (fun z128 hz128 => ?_)
            clear hz127
            refine h_iadd (pc' := 229) rfl rfl hz126 hz128 rfl (by omega) (by omega) (fun z129 hz129 => ?_)
            clear hz126 hz128
            refine h_bipush (pc' := 231) (x := (Int32.ofInt 48)) rfl rfl cb_48 ?_
            refine h_isub (pc' := 232) rfl rfl hz129 ci_48 rfl (by omega) (by omega) (fun z130 hz130 => ?_)
            clear hz129
            refine h_put (pc' := 235) rfl rfl rfl rfl rfl rfl hz130 rfl (h_fgt (E := fun s => s 64 2 = s0 64 2 ∧ s 64 4 = s0 64 4 ∧ s 64 3 = s0 64 3 ∧ s 64 5 = ((((s0 64 5) * 10) + (σ1 65 (s0 64 2))) - 48) ∧ s 63 2 = s0 63 2 ∧ s 63 3 = s0 63 3) _ (if_64_5 I0 (h_rgv hz130)) (F0_.up rfl) ⟨rfl, rfl, rfl, rfl, rfl, rfl⟩ (fun s131 Is131 Fs131 (es131 : s131 64 2 = s0 64 2 ∧ s131 64 4 = s0 64 4 ∧ s131 64 3 = s0 64 3 ∧ s131 64 5 = ((((s0 64 5) * 10) + (σ1 65 (s0 64 2))) - 48) ∧ s131 63 2 = s0 63 2 ∧ s131 63 3 = s0 63 3) => ?_))
            refine h_aload_n (pc' := 236) rfl rfl rfl ?_
            refine h_dup (pc' := 237) rfl rfl rfl ?_
            refine h_getI (pc' := 240) (v := s0 64 2) rfl rfl rfl rfl rfl es131.1 (fun z132 hz132 => ?_)
            refine h_iconst (pc' := 241) (x := (Int32.ofInt 1)) rfl rfl rfl ?_
            refine h_iadd (pc' := 242) rfl rfl hz132 ci_1 rfl (by omega) (by omega) (fun z133 hz133 => ?_)
            clear hz132
            refine h_put (pc' := 245) rfl rfl rfl rfl rfl rfl hz133 rfl (h_fgt (E := fun s => s 64 2 = ((s0 64 2) + 1) ∧ s 64 4 = s0 64 4 ∧ s 64 3 = s0 64 3 ∧ s 64 5 = ((((s0 64 5) * 10) + (σ1 65 (s0 64 2))) - 48) ∧ s 63 2 = s0 63 2 ∧ s 63 3 = s0 63 3) _ (if_64_2 Is131 (by omega)) (Fs131.up rfl) ⟨rfl, es131.2.1, es131.2.2.1, es131.2.2.2.1, es131.2.2.2.2.1, es131.2.2.2.2.2⟩ (fun s134 Is134 Fs134 (es134 : s134 64 2 = ((s0 64 2) + 1) ∧ s134 64 4 = s0 64 4 ∧ s134 64 3 = s0 64 3 ∧ s134 64 5 = ((((s0 64 5) * 10) + (σ1 65 (s0 64 2))) - 48) ∧ s134 63 2 = s0 63 2 ∧ s134 63 3 = s0 63 3) => ?_))
            clear es131
            refine h_goto (pc' := 172) rfl rfl ?_
            refine d_toM (g_inj ns) hl2 hR2 (fun lvw135 memw135 hlw135 hRw135 => ?_)
            show h_T g_P (g_Y ns) 148 140 [(0, .ref 98)] [] t0 _
            refine h_aload_n (pc' := 141) rfl rfl rfl ?_
            refine h_aload_n (pc' := 142) rfl rfl rfl ?_
            refine h_getI (pc' := 145) (v := t0 98 15) rfl rfl rfl rfl rfl rfl (fun z136 hz136 => ?_)
            have tz136 := tf_98_15 J0
            refine h_call (sp := false) (pc' := 148) (M := [(0, .ref 98), (1, .int z136)]) rfl rfl rfl rfl rfl rfl rfl rfl ?_
            refine h_iload_n (pc' := 1) rfl rfl rfl ?_
            refine h_aload_n (pc' := 2) rfl rfl rfl ?_
            refine h_getI (pc' := 5) (v := σ2 98 11) rfl rfl rfl rfl rfl (H0_ 98 11 rfl) (fun z137 hz137 => ?_)
            have tz137 := tf_98_11 hI2
            refine h_cge (tg := 17) (pc' := 8) rfl rfl rfl hz136 hz137 (fun c138 => absurd c138 (by omega)) (fun c138 => ?_)
            clear hz137
            refine h_aload_n (pc' := 9) rfl rfl rfl ?_
            refine h_getR (pc' := 12) rfl rfl rfl rfl rfl ?_
            refine h_iload_n (pc' := 13) rfl rfl rfl ?_
            refine h_iald (pc' := 14) (v := σ2 102 (t0 98 15)) rfl rfl rfl hz136 (by omega) (by omega) (H0_ 102 _ rfl) (fun z139 hz139 => ?_)
            have tz139 := ty_102 hI2 (t0 98 15)
            have lz139 : σ2 102 (t0 98 15) = σ1 65 (s0 64 2) := (congrArg (σ2 102) (show (t0 98 15) = (s0 64 2) by omega)).trans lz98.symm
            refine h_goto (pc' := 19) rfl rfl ?_
            refine h_iret rfl rfl (h_Kv ?_)
            clear hz136
            refine h_i2l (pc' := 149) rfl rfl hz139 (fun z140 hz140 => ?_)
            clear hz139
            refine h_ldc2 (pc' := 152) (x := (Int64.ofInt 48)) rfl rfl rfl ?_
            refine h_ldc2 (pc' := 155) (x := (Int64.ofInt 57)) rfl rfl rfl ?_
            refine h_calls (pc' := 158) (M := [(0, .long z140), (2, .long (Int64.ofInt 48)), (4, .long (Int64.ofInt 57))]) rfl rfl rfl rfl rfl rfl ?_
            refine h_lload_n (pc' := 1) rfl rfl rfl ?_
            refine h_lload_n (pc' := 2) rfl rfl rfl ?_
            refine h_lcmp (pc' := 3) rfl rfl hz140 cl_48 (fun z141 hz141 => ?_)
            refine h_zlt (tg := 17) (pc' := 6) rfl rfl rfl rfl (fun c142 => absurd c142 (by omega)) (fun c142 => ?_)
            replace c142 := (h_lcr hz141).2.1 c142
            clear hz141
            refine h_lload_n (pc' := 7) rfl rfl rfl ?_
            refine h_lload (pc' := 9) rfl rfl rfl ?_
            refine h_lcmp (pc' := 10) rfl rfl hz140 cl_57 (fun z143 hz143 => ?_)
            refine h_zgt (tg := 17) (pc' := 13) rfl rfl rfl rfl (fun c144 => absurd c144 (by omega)) (fun c144 => ?_)
            replace c144 := (h_lcr hz143).2.2.1 c144
            clear hz143
            refine h_iconst (pc' := 14) (x := (Int32.ofInt 1)) rfl rfl rfl ?_
            refine h_goto (pc' := 18) rfl rfl ?_
            refine h_zret rfl rfl ci_1 (by omega) (h_Kv ?_)
            clear hz140
            refine h_zeq (tg := 217) (pc' := 161) rfl rfl rfl ci_1 (fun c145 => absurd c145 (by omega)) (fun c145 => ?_)
            refine h_aload_n (pc' := 162) rfl rfl rfl ?_
            refine h_aload_n (pc' := 163) rfl rfl rfl ?_
            refine h_getI (pc' := 166) (v := t0 98 15) rfl rfl rfl rfl rfl rfl (fun z146 hz146 => ?_)
            refine h_aload_n (pc' := 167) rfl rfl rfl ?_
            refine h_getI (pc' := 170) (v := t0 98 16) rfl rfl rfl rfl rfl rfl (fun z147 hz147 => ?_)
            have tz147 := tf_98_16 J0
            refine h_isub (pc' := 171) rfl rfl hz146 hz147 rfl (by omega) (by omega) (fun z148 hz148 => ?_)
            clear hz146 hz147
            refine h_iconst (pc' := 172) (x := (Int32.ofInt 2)) rfl rfl rfl ?_
            refine h_cge (tg := 197) (pc' := 175) rfl rfl rfl hz148 ci_2 (fun c149 => ?_) (fun c149 => ?_)
            · clear hz148
              refine h_aload_n (pc' := 198) rfl rfl rfl ?_
              refine h_getI (pc' := 201) (v := t0 98 18) rfl rfl rfl rfl rfl rfl (fun z150 hz150 => ?_)
              have tz150 := tf_98_18 J0
              refine h_put (pc' := 204) rfl rfl rfl rfl rfl rfl hz150 rfl (h_fgt (E := fun s => s 98 15 = t0 98 15 ∧ s 98 16 = t0 98 16 ∧ s 98 17 = t0 98 17 ∧ s 98 18 = (t0 98 18) ∧ s 98 13 = t0 98 13 ∧ s 98 14 = t0 98 14) _ (if_98_18 J0 (by omega)) (H0_.up rfl) ⟨rfl, rfl, rfl, rfl, rfl, rfl⟩ (fun s151 Is151 Fs151 (es151 : s151 98 15 = t0 98 15 ∧ s151 98 16 = t0 98 16 ∧ s151 98 17 = t0 98 17 ∧ s151 98 18 = (t0 98 18) ∧ s151 98 13 = t0 98 13 ∧ s151 98 14 = t0 98 14) => ?_))
              refine h_aload_n (pc' := 205) rfl rfl rfl ?_
              refine h_dup (pc' := 206) rfl rfl rfl ?_
              refine h_getI (pc' := 209) (v := t0 98 15) rfl rfl rfl rfl rfl es151.1 (fun z152 hz152 => ?_)
              refine h_iconst (pc' := 210) (x := (Int32.ofInt 1)) rfl rfl rfl ?_
              refine h_iadd (pc' := 211) rfl rfl hz152 ci_1 rfl (by omega) (by omega) (fun z153 hz153 => ?_)
              clear hz152
              refine h_put (pc' := 214) rfl rfl rfl rfl rfl rfl hz153 rfl (h_fgt (E := fun s => s 98 15 = ((t0 98 15) + 1) ∧ s 98 16 = t0 98 16 ∧ s 98 17 = t0 98 17 ∧ s 98 18 = (t0 98 18) ∧ s 98 13 = t0 98 13 ∧ s 98 14 = t0 98 14) _ (if_98_15 Is151 (by omega)) (Fs151.up rfl) ⟨rfl, es151.2.1, es151.2.2.1, es151.2.2.2.1, es151.2.2.2.2.1, es151.2.2.2.2.2⟩ (fun s154 Is154 Fs154 (es154 : s154 98 15 = ((t0 98 15) + 1) ∧ s154 98 16 = t0 98 16 ∧ s154 98 17 = t0 98 17 ∧ s154 98 18 = (t0 98 18) ∧ s154 98 13 = t0 98 13 ∧ s154 98 14 = t0 98 14) => ?_))
              clear es151
              refine h_goto (pc' := 140) rfl rfl ?_
              refine d_toL (g_inj ns) hlw135 hRw135 (fun lvw155 memw155 hlw155 hRw155 => ?_)
              show h_T g_P (g_Y ns) 75 172 [(0, .ref 64)] [] s134 _
              exact h_wk [(0, .ref 64)] ⟨rfl, trivial⟩ (ih _ _ Is134 Is154 Fs134 Fs154   (by omega) (by omega) (by omega) (by omega) (by omega) (by omega) (Or.inr (Or.inr (by omega))) (by omega) _ _ (h_al_ok ⟨rfl, trivial⟩ hlw155) hRw155)
            · clear hz148
              refine h_bipush (pc' := 177) (x := (Int32.ofInt 10)) rfl rfl cb_10 ?_
              refine h_aload_n (pc' := 178) rfl rfl rfl ?_
              refine h_getI (pc' := 181) (v := t0 98 18) rfl rfl rfl rfl rfl rfl (fun z156 hz156 => ?_)
              have tz156 := tf_98_18 J0
              refine h_imul (pc' := 182) rfl rfl ci_10 hz156 rfl (by omega) (by omega) (fun z157 hz157 => ?_)
              clear hz156
              refine h_aload_n (pc' := 183) rfl rfl rfl ?_
              refine h_aload_n (pc' := 184) rfl rfl rfl ?_
              refine h_getI (pc' := 187) (v := t0 98 15) rfl rfl rfl rfl rfl rfl (fun z158 hz158 => ?_)
              refine h_call (sp := false) (pc' := 190) (M := [(0, .ref 98), (1, .int z158)]) rfl rfl rfl rfl rfl rfl rfl rfl ?_
              refine h_iload_n (pc' := 1) rfl rfl rfl ?_
              refine h_aload_n (pc' := 2) rfl rfl rfl ?_
              refine h_getI (pc' := 5) (v := σ2 98 11) rfl rfl rfl rfl rfl (H0_ 98 11 rfl) (fun z159 hz159 => ?_)
              refine h_cge (tg := 17) (pc' := 8) rfl rfl rfl hz158 hz159 (fun c160 => absurd c160 (by omega)) (fun c160 => ?_)
              clear hz159
              refine h_aload_n (pc' := 9) rfl rfl rfl ?_
              refine h_getR (pc' := 12) rfl rfl rfl rfl rfl ?_
              refine h_iload_n (pc' := 13) rfl rfl rfl ?_
              refine h_iald (pc' := 14) (v := σ2 102 (t0 98 15)) rfl rfl rfl hz158 (by omega) (by omega) (H0_ 102 _ rfl) (fun z161 hz161 => ?_)
              refine h_goto (pc' := 19) rfl rfl ?_
              refine h_iret rfl rfl (h_Kv ?_)
              clear hz158
              refine h_iadd (pc' := 191) rfl rfl hz157 hz161 rfl (by omega) (by omega) (fun z162 hz162 => ?_)
              clear hz157 hz161
              refine h_bipush (pc' := 193) (x := (Int32.ofInt 48)) rfl rfl cb_48 ?_
              refine h_isub (pc' := 194) rfl rfl hz162 ci_48 rfl (by omega) (by omega) (fun z163 hz163 => ?_)
              clear hz162
              refine h_goto (pc' := 201) rfl rfl ?_
              refine h_put (pc' := 204) rfl rfl rfl rfl rfl rfl hz163 rfl (h_fgt (E := fun s => s 98 15 = t0 98 15 ∧ s 98 16 = t0 98 16 ∧ s 98 17 = t0 98 17 ∧ s 98 18 = (((10 * (t0 98 18)) + (σ2 102 (t0 98 15))) - 48) ∧ s 98 13 = t0 98 13 ∧ s 98 14 = t0 98 14) _ (if_98_18 J0 (by omega)) (H0_.up rfl) ⟨rfl, rfl, rfl, rfl, rfl, rfl⟩ (fun s164 Is164 Fs164 (es164 : s164 98 15 = t0 98 15 ∧ s164 98 16 = t0 98 16 ∧ s164 98 17 = t0 98 17 ∧ s164 98 18 = (((10 * (t0 98 18)) + (σ2 102 (t0 98 15))) - 48) ∧ s164 98 13 = t0 98 13 ∧ s164 98 14 = t0 98 14) => ?_))
              refine h_aload_n (pc' := 205) rfl rfl rfl ?_
              refine h_dup (pc' := 206) rfl rfl rfl ?_
              refine h_getI (pc' := 209) (v := t0 98 15) rfl rfl rfl rfl rfl es164.1 (fun z165 hz165 => ?_)
              refine h_iconst (pc' := 210) (x := (Int32.ofInt 1)) rfl rfl rfl ?_
              refine h_iadd (pc' := 211) rfl rfl hz165 ci_1 rfl (by omega) (by omega) (fun z166 hz166 => ?_)
              clear hz165
              refine h_put (pc' := 214) rfl rfl rfl rfl rfl rfl hz166 rfl (h_fgt (E := fun s => s 98 15 = ((t0 98 15) + 1) ∧ s 98 16 = t0 98 16 ∧ s 98 17 = t0 98 17 ∧ s 98 18 = (((10 * (t0 98 18)) + (σ2 102 (t0 98 15))) - 48) ∧ s 98 13 = t0 98 13 ∧ s 98 14 = t0 98 14) _ (if_98_15 Is164 (by omega)) (Fs164.up rfl) ⟨rfl, es164.2.1, es164.2.2.1, es164.2.2.2.1, es164.2.2.2.2.1, es164.2.2.2.2.2⟩ (fun s167 Is167 Fs167 (es167 : s167 98 15 = ((t0 98 15) + 1) ∧ s167 98 16 = t0 98 16 ∧ s167 98 17 = t0 98 17 ∧ s167 98 18 = (((10 * (t0 98 18)) + (σ2 102 (t0 98 15))) - 48) ∧ s167 98 13 = t0 98 13 ∧ s167 98 14 = t0 98 14) => ?_))
              clear es164
              refine h_goto (pc' := 140) rfl rfl ?_
              refine d_toL (g_inj ns) hlw135 hRw135 (fun lvw168 memw168 hlw168 hRw168 => ?_)
              show h_T g_P (g_Y ns) 75 172 [(0, .ref 64)] [] s134 _
              exact h_wk [(0, .ref 64)] ⟨rfl, trivial⟩ (ih _ _ Is134 Is167 Fs134 Fs167   (by omega) (by omega) (by omega) (by omega) (by omega) (by omega) (Or.inr (Or.inr (by omega))) (by omega) _ _ (h_al_ok ⟨rfl, trivial⟩ hlw168) hRw168)
    · show h_T g_P (g_Y ns) 75 172 [(0, .ref 64)] [] s0 _
      refine h_aload_n (pc' := 173) rfl rfl rfl ?_
      refine h_getI (pc' := 176) (v := s0 64 2) rfl rfl rfl rfl rfl rfl (fun z169 hz169 => ?_)
      have tz169 := tf_64_2 I0
      refine h_aload_n (pc' := 177) rfl rfl rfl ?_
      refine h_getI (pc' := 180) (v := σ1 64 1) rfl rfl rfl rfl rfl (F0_ 64 1 rfl) (fun z170 hz170 => ?_)
      have tz170 := tf_64_1 hI1
      refine h_cge (tg := 248) (pc' := 183) rfl rfl rfl hz169 hz170 (fun c171 => ?_) (fun c171 => ?_)
      · clear hz169 hz170
        refine d_toM (g_inj ns) hl2 hR2 (fun lvw172 memw172 hlw172 hRw172 => ?_)
        show h_T g_P (g_Y ns) 148 140 [(0, .ref 98)] [] t0 _
        refine h_aload_n (pc' := 141) rfl rfl rfl ?_
        refine h_aload_n (pc' := 142) rfl rfl rfl ?_
        refine h_getI (pc' := 145) (v := t0 98 15) rfl rfl rfl rfl rfl rfl (fun z173 hz173 => ?_)
        have tz173 := tf_98_15 J0
        refine h_call (sp := false) (pc' := 148) (M := [(0, .ref 98), (1, .int z173)]) rfl rfl rfl rfl rfl rfl rfl rfl ?_
        refine h_iload_n (pc' := 1) rfl rfl rfl ?_
        refine h_aload_n (pc' := 2) rfl rfl rfl ?_
        refine h_getI (pc' := 5) (v := σ2 98 11) rfl rfl rfl rfl rfl (H0_ 98 11 rfl) (fun z174 hz174 => ?_)
        have tz174 := tf_98_11 hI2
        refine h_cge (tg := 17) (pc' := 8) rfl rfl rfl hz173 hz174 (fun c175 => ?_) (fun c175 => absurd c175 (by omega))
        clear hz174
        refine h_bipush (pc' := 19) (x := (Int32.ofInt (-4))) rfl rfl cb_m4 ?_
        refine h_iret rfl rfl (h_Kv ?_)
        clear hz173
        refine h_i2l (pc' := 149) rfl rfl ci_m4 (fun z176 hz176 => ?_)
        refine h_ldc2 (pc' := 152) (x := (Int64.ofInt 48)) rfl rfl rfl ?_
        refine h_ldc2 (pc' := 155) (x := (Int64.ofInt 57)) rfl rfl rfl ?_
        refine h_calls (pc' := 158) (M := [(0, .long z176), (2, .long (Int64.ofInt 48)), (4, .long (Int64.ofInt 57))]) rfl rfl rfl rfl rfl rfl ?_
        refine h_lload_n (pc' := 1) rfl rfl rfl ?_
        refine h_lload_n (pc' := 2) rfl rfl rfl ?_
        refine h_lcmp (pc' := 3) rfl rfl hz176 cl_48 (fun z177 hz177 => ?_)
        refine h_zlt (tg := 17) (pc' := 6) rfl rfl rfl rfl (fun c178 => ?_) (fun c178 => absurd c178 (by omega))
        replace c178 := (h_lcr hz177).1 c178
        clear hz177
        refine h_iconst (pc' := 18) (x := (Int32.ofInt 0)) rfl rfl rfl ?_
        refine h_zret rfl rfl ci_0 (by omega) (h_Kv ?_)
        clear hz176
        refine h_zeq (tg := 217) (pc' := 161) rfl rfl rfl ci_0 (fun c179 => ?_) (fun c179 => absurd c179 (by omega))
        refine d_toL (g_inj ns) hlw172 hRw172 (fun lvw180 memw180 hlw180 hRw180 => ?_)
        show h_T g_P (g_Y ns) 75 248 [(0, .ref 64)] [] s0 _
        exact h_wk [(0, .ref 64)] ⟨rfl, trivial⟩ (kx0 _ _ I0 J0 F0_ H0_ (by omega) (by omega) (by omega) (by omega) (by omega) (by omega) (Or.inr (Or.inr (by omega))) _ _ (h_al_ok ⟨rfl, trivial⟩ hlw180) hRw180)
      · clear hz169 hz170
        refine h_aload_n (pc' := 184) rfl rfl rfl ?_
        refine h_getR (pc' := 187) rfl rfl rfl rfl rfl ?_
        refine h_aload_n (pc' := 188) rfl rfl rfl ?_
        refine h_getI (pc' := 191) (v := s0 64 2) rfl rfl rfl rfl rfl rfl (fun z181 hz181 => ?_)
        refine h_iald (pc' := 192) (v := σ1 65 (s0 64 2)) rfl rfl rfl hz181 (by omega) (by omega) (F0_ 65 _ rfl) (fun z182 hz182 => ?_)
        have tz182 := ty_65 hI1 (s0 64 2)
        have lz182 := hT (s0 64 2) (by omega) (by omega)
        clear hz181
        refine h_bipush (pc' := 194) (x := (Int32.ofInt 48)) rfl rfl cb_48 ?_
        refine h_clt (tg := 248) (pc' := 197) rfl rfl rfl hz182 ci_48 (fun c183 => ?_) (fun c183 => ?_)
        · clear hz182
          refine d_toM (g_inj ns) hl2 hR2 (fun lvw184 memw184 hlw184 hRw184 => ?_)
          show h_T g_P (g_Y ns) 148 140 [(0, .ref 98)] [] t0 _
          refine h_aload_n (pc' := 141) rfl rfl rfl ?_
          refine h_aload_n (pc' := 142) rfl rfl rfl ?_
          refine h_getI (pc' := 145) (v := t0 98 15) rfl rfl rfl rfl rfl rfl (fun z185 hz185 => ?_)
          have tz185 := tf_98_15 J0
          refine h_call (sp := false) (pc' := 148) (M := [(0, .ref 98), (1, .int z185)]) rfl rfl rfl rfl rfl rfl rfl rfl ?_
          refine h_iload_n (pc' := 1) rfl rfl rfl ?_
          refine h_aload_n (pc' := 2) rfl rfl rfl ?_
          refine h_getI (pc' := 5) (v := σ2 98 11) rfl rfl rfl rfl rfl (H0_ 98 11 rfl) (fun z186 hz186 => ?_)
          have tz186 := tf_98_11 hI2
          refine h_cge (tg := 17) (pc' := 8) rfl rfl rfl hz185 hz186 (fun c187 => absurd c187 (by omega)) (fun c187 => ?_)
          clear hz186
          refine h_aload_n (pc' := 9) rfl rfl rfl ?_
          refine h_getR (pc' := 12) rfl rfl rfl rfl rfl ?_
          refine h_iload_n (pc' := 13) rfl rfl rfl ?_
          refine h_iald (pc' := 14) (v := σ2 102 (t0 98 15)) rfl rfl rfl hz185 (by omega) (by omega) (H0_ 102 _ rfl) (fun z188 hz188 => ?_)
          have tz188 := ty_102 hI2 (t0 98 15)
          have lz188 : σ2 102 (t0 98 15) = σ1 65 (s0 64 2) := (congrArg (σ2 102) (show (t0 98 15) = (s0 64 2) by omega)).trans lz182.symm
          refine h_goto (pc' := 19) rfl rfl ?_
          refine h_iret rfl rfl (h_Kv ?_)
          clear hz185
          refine h_i2l (pc' := 149) rfl rfl hz188 (fun z189 hz189 => ?_)
          clear hz188
          refine h_ldc2 (pc' := 152) (x := (Int64.ofInt 48)) rfl rfl rfl ?_
          refine h_ldc2 (pc' := 155) (x := (Int64.ofInt 57)) rfl rfl rfl ?_
          refine h_calls (pc' := 158) (M := [(0, .long z189), (2, .long (Int64.ofInt 48)), (4, .long (Int64.ofInt 57))]) rfl rfl rfl rfl rfl rfl ?_
          refine h_lload_n (pc' := 1) rfl rfl rfl ?_
          refine h_lload_n (pc' := 2) rfl rfl rfl ?_
          refine h_lcmp (pc' := 3) rfl rfl hz189 cl_48 (fun z190 hz190 => ?_)
          refine h_zlt (tg := 17) (pc' := 6) rfl rfl rfl rfl (fun c191 => ?_) (fun c191 => absurd c191 (by omega))
          replace c191 := (h_lcr hz190).1 c191
          clear hz190
          refine h_iconst (pc' := 18) (x := (Int32.ofInt 0)) rfl rfl rfl ?_
          refine h_zret rfl rfl ci_0 (by omega) (h_Kv ?_)
          clear hz189
          refine h_zeq (tg := 217) (pc' := 161) rfl rfl rfl ci_0 (fun c192 => ?_) (fun c192 => absurd c192 (by omega))
          refine d_toL (g_inj ns) hlw184 hRw184 (fun lvw193 memw193 hlw193 hRw193 => ?_)
          show h_T g_P (g_Y ns) 75 248 [(0, .ref 64)] [] s0 _
          exact h_wk [(0, .ref 64)] ⟨rfl, trivial⟩ (kx0 _ _ I0 J0 F0_ H0_ (by omega) (by omega) (by omega) (by omega) (by omega) (by omega) (Or.inr (Or.inr (by omega))) _ _ (h_al_ok ⟨rfl, trivial⟩ hlw193) hRw193)
        · clear hz182
          refine h_aload_n (pc' := 198) rfl rfl rfl ?_
          refine h_getR (pc' := 201) rfl rfl rfl rfl rfl ?_
          refine h_aload_n (pc' := 202) rfl rfl rfl ?_
          refine h_getI (pc' := 205) (v := s0 64 2) rfl rfl rfl rfl rfl rfl (fun z194 hz194 => ?_)
          refine h_iald (pc' := 206) (v := σ1 65 (s0 64 2)) rfl rfl rfl hz194 (by omega) (by omega) (F0_ 65 _ rfl) (fun z195 hz195 => ?_)
          clear hz194
          refine h_bipush (pc' := 208) (x := (Int32.ofInt 57)) rfl rfl cb_57 ?_
          refine h_cgt (tg := 248) (pc' := 211) rfl rfl rfl hz195 ci_57 (fun c196 => ?_) (fun c196 => ?_)
          · clear hz195
            refine d_toM (g_inj ns) hl2 hR2 (fun lvw197 memw197 hlw197 hRw197 => ?_)
            show h_T g_P (g_Y ns) 148 140 [(0, .ref 98)] [] t0 _
            refine h_aload_n (pc' := 141) rfl rfl rfl ?_
            refine h_aload_n (pc' := 142) rfl rfl rfl ?_
            refine h_getI (pc' := 145) (v := t0 98 15) rfl rfl rfl rfl rfl rfl (fun z198 hz198 => ?_)
            have tz198 := tf_98_15 J0
            refine h_call (sp := false) (pc' := 148) (M := [(0, .ref 98), (1, .int z198)]) rfl rfl rfl rfl rfl rfl rfl rfl ?_
            refine h_iload_n (pc' := 1) rfl rfl rfl ?_
            refine h_aload_n (pc' := 2) rfl rfl rfl ?_
            refine h_getI (pc' := 5) (v := σ2 98 11) rfl rfl rfl rfl rfl (H0_ 98 11 rfl) (fun z199 hz199 => ?_)
            have tz199 := tf_98_11 hI2
            refine h_cge (tg := 17) (pc' := 8) rfl rfl rfl hz198 hz199 (fun c200 => absurd c200 (by omega)) (fun c200 => ?_)
            clear hz199
            refine h_aload_n (pc' := 9) rfl rfl rfl ?_
            refine h_getR (pc' := 12) rfl rfl rfl rfl rfl ?_
            refine h_iload_n (pc' := 13) rfl rfl rfl ?_
            refine h_iald (pc' := 14) (v := σ2 102 (t0 98 15)) rfl rfl rfl hz198 (by omega) (by omega) (H0_ 102 _ rfl) (fun z201 hz201 => ?_)
            have tz201 := ty_102 hI2 (t0 98 15)
            have lz201 : σ2 102 (t0 98 15) = σ1 65 (s0 64 2) := (congrArg (σ2 102) (show (t0 98 15) = (s0 64 2) by omega)).trans lz182.symm
            refine h_goto (pc' := 19) rfl rfl ?_
            refine h_iret rfl rfl (h_Kv ?_)
            clear hz198
            refine h_i2l (pc' := 149) rfl rfl hz201 (fun z202 hz202 => ?_)
            clear hz201
            refine h_ldc2 (pc' := 152) (x := (Int64.ofInt 48)) rfl rfl rfl ?_
            refine h_ldc2 (pc' := 155) (x := (Int64.ofInt 57)) rfl rfl rfl ?_
            refine h_calls (pc' := 158) (M := [(0, .long z202), (2, .long (Int64.ofInt 48)), (4, .long (Int64.ofInt 57))]) rfl rfl rfl rfl rfl rfl ?_
            refine h_lload_n (pc' := 1) rfl rfl rfl ?_
            refine h_lload_n (pc' := 2) rfl rfl rfl ?_
            refine h_lcmp (pc' := 3) rfl rfl hz202 cl_48 (fun z203 hz203 => ?_)
            refine h_zlt (tg := 17) (pc' := 6) rfl rfl rfl rfl (fun c204 => absurd c204 (by omega)) (fun c204 => ?_)
            replace c204 := (h_lcr hz203).2.1 c204
            clear hz203
            refine h_lload_n (pc' := 7) rfl rfl rfl ?_
            refine h_lload (pc' := 9) rfl rfl rfl ?_
            refine h_lcmp (pc' := 10) rfl rfl hz202 cl_57 (fun z205 hz205 => ?_)
            refine h_zgt (tg := 17) (pc' := 13) rfl rfl rfl rfl (fun c206 => ?_) (fun c206 => absurd c206 (by omega))
            replace c206 := (h_lcr hz205).2.2.2.1 c206
            clear hz205
            refine h_iconst (pc' := 18) (x := (Int32.ofInt 0)) rfl rfl rfl ?_
            refine h_zret rfl rfl ci_0 (by omega) (h_Kv ?_)
            clear hz202
            refine h_zeq (tg := 217) (pc' := 161) rfl rfl rfl ci_0 (fun c207 => ?_) (fun c207 => absurd c207 (by omega))
            refine d_toL (g_inj ns) hlw197 hRw197 (fun lvw208 memw208 hlw208 hRw208 => ?_)
            show h_T g_P (g_Y ns) 75 248 [(0, .ref 64)] [] s0 _
            exact h_wk [(0, .ref 64)] ⟨rfl, trivial⟩ (kx0 _ _ I0 J0 F0_ H0_ (by omega) (by omega) (by omega) (by omega) (by omega) (by omega) (Or.inr (Or.inr (by omega))) _ _ (h_al_ok ⟨rfl, trivial⟩ hlw208) hRw208)
          · clear hz195
            refine h_aload_n (pc' := 212) rfl rfl rfl ?_
            refine h_aload_n (pc' := 213) rfl rfl rfl ?_
            refine h_getI (pc' := 216) (v := s0 64 5) rfl rfl rfl rfl rfl rfl (fun z209 hz209 => ?_)
            have tz209 := tf_64_5 I0
            refine h_bipush (pc' := 218) (x := (Int32.ofInt 10)) rfl rfl cb_10 ?_
            refine h_imulA (pc' := 219) rfl rfl (fun z210 hz210 => ?_)
            clear hz209
            refine h_aload_n (pc' := 220) rfl rfl rfl ?_
            refine h_getR (pc' := 223) rfl rfl rfl rfl rfl ?_
            refine h_aload_n (pc' := 224) rfl rfl rfl ?_
            refine h_getI (pc' := 227) (v := s0 64 2) rfl rfl rfl rfl rfl rfl (fun z211 hz211 => ?_)
            refine h_iald (pc' := 228) (v := σ1 65 (s0 64 2)) rfl rfl rfl hz211 (by omega) (by omega) (F0_ 65 _ rfl) (fun z212 hz212 => ?_)
            clear hz211
            refine h_iaddA (pc' := 229) rfl rfl (fun z213 hz213 => ?_)
            clear hz212
            refine h_bipush (pc' := 231) (x := (Int32.ofInt 48)) rfl rfl cb_48 ?_
            refine h_isubA (pc' := 232) rfl rfl (fun z214 hz214 => ?_)
            refine h_put (pc' := 235) rfl rfl rfl rfl rfl rfl rfl rfl (h_fgt (E := fun s => s 64 2 = s0 64 2 ∧ s 64 4 = s0 64 4 ∧ s 64 3 = s0 64 3 ∧ s 64 5 = z214.toInt ∧ s 63 2 = s0 63 2 ∧ s 63 3 = s0 63 3) _ (if_64_5 I0 (h_rgv rfl)) (F0_.up rfl) ⟨rfl, rfl, rfl, rfl, rfl, rfl⟩ (fun s215 Is215 Fs215 (es215 : s215 64 2 = s0 64 2 ∧ s215 64 4 = s0 64 4 ∧ s215 64 3 = s0 64 3 ∧ s215 64 5 = z214.toInt ∧ s215 63 2 = s0 63 2 ∧ s215 63 3 = s0 63 3) => ?_))
            refine h_aload_n (pc' := 236) rfl rfl rfl ?_
            refine h_dup (pc' := 237) rfl rfl rfl ?_
            refine h_getI (pc' := 240) (v := s0 64 2) rfl rfl rfl rfl rfl es215.1 (fun z216 hz216 => ?_)
            refine h_iconst (pc' := 241) (x := (Int32.ofInt 1)) rfl rfl rfl ?_
            refine h_iadd (pc' := 242) rfl rfl hz216 ci_1 rfl (by omega) (by omega) (fun z217 hz217 => ?_)
            clear hz216
            refine h_put (pc' := 245) rfl rfl rfl rfl rfl rfl hz217 rfl (h_fgt (E := fun s => s 64 2 = ((s0 64 2) + 1) ∧ s 64 4 = s0 64 4 ∧ s 64 3 = s0 64 3 ∧ s 64 5 = z214.toInt ∧ s 63 2 = s0 63 2 ∧ s 63 3 = s0 63 3) _ (if_64_2 Is215 (by omega)) (Fs215.up rfl) ⟨rfl, es215.2.1, es215.2.2.1, es215.2.2.2.1, es215.2.2.2.2.1, es215.2.2.2.2.2⟩ (fun s218 Is218 Fs218 (es218 : s218 64 2 = ((s0 64 2) + 1) ∧ s218 64 4 = s0 64 4 ∧ s218 64 3 = s0 64 3 ∧ s218 64 5 = z214.toInt ∧ s218 63 2 = s0 63 2 ∧ s218 63 3 = s0 63 3) => ?_))
            clear es215
            refine h_goto (pc' := 172) rfl rfl ?_
            refine d_toM (g_inj ns) hl2 hR2 (fun lvw219 memw219 hlw219 hRw219 => ?_)
            show h_T g_P (g_Y ns) 148 140 [(0, .ref 98)] [] t0 _
            refine h_aload_n (pc' := 141) rfl rfl rfl ?_
            refine h_aload_n (pc' := 142) rfl rfl rfl ?_
            refine h_getI (pc' := 145) (v := t0 98 15) rfl rfl rfl rfl rfl rfl (fun z220 hz220 => ?_)
            have tz220 := tf_98_15 J0
            refine h_call (sp := false) (pc' := 148) (M := [(0, .ref 98), (1, .int z220)]) rfl rfl rfl rfl rfl rfl rfl rfl ?_
            refine h_iload_n (pc' := 1) rfl rfl rfl ?_
            refine h_aload_n (pc' := 2) rfl rfl rfl ?_
            refine h_getI (pc' := 5) (v := σ2 98 11) rfl rfl rfl rfl rfl (H0_ 98 11 rfl) (fun z221 hz221 => ?_)
            have tz221 := tf_98_11 hI2
            refine h_cge (tg := 17) (pc' := 8) rfl rfl rfl hz220 hz221 (fun c222 => absurd c222 (by omega)) (fun c222 => ?_)
            clear hz221
            refine h_aload_n (pc' := 9) rfl rfl rfl ?_
            refine h_getR (pc' := 12) rfl rfl rfl rfl rfl ?_
            refine h_iload_n (pc' := 13) rfl rfl rfl ?_
            refine h_iald (pc' := 14) (v := σ2 102 (t0 98 15)) rfl rfl rfl hz220 (by omega) (by omega) (H0_ 102 _ rfl) (fun z223 hz223 => ?_)
            have tz223 := ty_102 hI2 (t0 98 15)
            have lz223 : σ2 102 (t0 98 15) = σ1 65 (s0 64 2) := (congrArg (σ2 102) (show (t0 98 15) = (s0 64 2) by omega)).trans lz182.symm
            refine h_goto (pc' := 19) rfl rfl ?_
            refine h_iret rfl rfl (h_Kv ?_)
            clear hz220
            refine h_i2l (pc' := 149) rfl rfl hz223 (fun z224 hz224 => ?_)
            clear hz223
            refine h_ldc2 (pc' := 152) (x := (Int64.ofInt 48)) rfl rfl rfl ?_
            refine h_ldc2 (pc' := 155) (x := (Int64.ofInt 57)) rfl rfl rfl ?_
            refine h_calls (pc' := 158) (M := [(0, .long z224), (2, .long (Int64.ofInt 48)), (4, .long (Int64.ofInt 57))]) rfl rfl rfl rfl rfl rfl ?_
            refine h_lload_n (pc' := 1) rfl rfl rfl ?_
            refine h_lload_n (pc' := 2) rfl rfl rfl ?_
            refine h_lcmp (pc' := 3) rfl rfl hz224 cl_48 (fun z225 hz225 => ?_)
            refine h_zlt (tg := 17) (pc' := 6) rfl rfl rfl rfl (fun c226 => absurd c226 (by omega)) (fun c226 => ?_)
            replace c226 := (h_lcr hz225).2.1 c226
            clear hz225
            refine h_lload_n (pc' := 7) rfl rfl rfl ?_
            refine h_lload (pc' := 9) rfl rfl rfl ?_
            refine h_lcmp (pc' := 10) rfl rfl hz224 cl_57 (fun z227 hz227 => ?_)
            refine h_zgt (tg := 17) (pc' := 13) rfl rfl rfl rfl (fun c228 => absurd c228 (by omega)) (fun c228 => ?_)
            replace c228 := (h_lcr hz227).2.2.1 c228
            clear hz227
            refine h_iconst (pc' := 14) (x := (Int32.ofInt 1)) rfl rfl rfl ?_
            refine h_goto (pc' := 18) rfl rfl ?_
            refine h_zret rfl rfl ci_1 (by omega) (h_Kv ?_)
            clear hz224
            refine h_zeq (tg := 217) (pc' := 161) rfl rfl rfl ci_1 (fun c229 => absurd c229 (by omega)) (fun c229 => ?_)
            refine h_aload_n (pc' := 162) rfl rfl rfl ?_
            refine h_aload_n (pc' := 163) rfl rfl rfl ?_
            refine h_getI (pc' := 166) (v := t0 98 15) rfl rfl rfl rfl rfl rfl (fun z230 hz230 => ?_)
            refine h_aload_n (pc' := 167) rfl rfl rfl ?_
            refine h_getI (pc' := 170) (v := t0 98 16) rfl rfl rfl rfl rfl rfl (fun z231 hz231 => ?_)
            have tz231 := tf_98_16 J0
            refine h_isub (pc' := 171) rfl rfl hz230 hz231 rfl (by omega) (by omega) (fun z232 hz232 => ?_)
            clear hz230 hz231
            refine h_iconst (pc' := 172) (x := (Int32.ofInt 2)) rfl rfl rfl ?_
            refine h_cge (tg := 197) (pc' := 175) rfl rfl rfl hz232 ci_2 (fun c233 => ?_) (fun c233 => ?_)
            · clear hz232
              refine h_aload_n (pc' := 198) rfl rfl rfl ?_
              refine h_getI (pc' := 201) (v := t0 98 18) rfl rfl rfl rfl rfl rfl (fun z234 hz234 => ?_)
              have tz234 := tf_98_18 J0
              refine h_put (pc' := 204) rfl rfl rfl rfl rfl rfl hz234 rfl (h_fgt (E := fun s => s 98 15 = t0 98 15 ∧ s 98 16 = t0 98 16 ∧ s 98 17 = t0 98 17 ∧ s 98 18 = (t0 98 18) ∧ s 98 13 = t0 98 13 ∧ s 98 14 = t0 98 14) _ (if_98_18 J0 (by omega)) (H0_.up rfl) ⟨rfl, rfl, rfl, rfl, rfl, rfl⟩ (fun s235 Is235 Fs235 (es235 : s235 98 15 = t0 98 15 ∧ s235 98 16 = t0 98 16 ∧ s235 98 17 = t0 98 17 ∧ s235 98 18 = (t0 98 18) ∧ s235 98 13 = t0 98 13 ∧ s235 98 14 = t0 98 14) => ?_))
              refine h_aload_n (pc' := 205) rfl rfl rfl ?_
              refine h_dup (pc' := 206) rfl rfl rfl ?_
              refine h_getI (pc' := 209) (v := t0 98 15) rfl rfl rfl rfl rfl es235.1 (fun z236 hz236 => ?_)
              refine h_iconst (pc' := 210) (x := (Int32.ofInt 1)) rfl rfl rfl ?_
              refine h_iadd (pc' := 211) rfl rfl hz236 ci_1 rfl (by omega) (by omega) (fun z237 hz237 => ?_)
              clear hz236
              refine h_put (pc' := 214) rfl rfl rfl rfl rfl rfl hz237 rfl (h_fgt (E := fun s => s 98 15 = ((t0 98 15) + 1) ∧ s 98 16 = t0 98 16 ∧ s 98 17 = t0 98 17 ∧ s 98 18 = (t0 98 18) ∧ s 98 13 = t0 98 13 ∧ s 98 14 = t0 98 14) _ (if_98_15 Is235 (by omega)) (Fs235.up rfl) ⟨rfl, es235.2.1, es235.2.2.1, es235.2.2.2.1, es235.2.2.2.2.1, es235.2.2.2.2.2⟩ (fun s238 Is238 Fs238 (es238 : s238 98 15 = ((t0 98 15) + 1) ∧ s238 98 16 = t0 98 16 ∧ s238 98 17 = t0 98 17 ∧ s238 98 18 = (t0 98 18) ∧ s238 98 13 = t0 98 13 ∧ s238 98 14 = t0 98 14) => ?_))
              clear es235
              refine h_goto (pc' := 140) rfl rfl ?_
              refine d_toL (g_inj ns) hlw219 hRw219 (fun lvw239 memw239 hlw239 hRw239 => ?_)
              show h_T g_P (g_Y ns) 75 172 [(0, .ref 64)] [] s218 _
              exact h_wk [(0, .ref 64)] ⟨rfl, trivial⟩ (ih _ _ Is218 Is238 Fs218 Fs238   (by omega) (by omega) (by omega) (by omega) (by omega) (by omega) (Or.inr (Or.inr (by omega))) (by omega) _ _ (h_al_ok ⟨rfl, trivial⟩ hlw239) hRw239)
            · clear hz232
              refine h_bipush (pc' := 177) (x := (Int32.ofInt 10)) rfl rfl cb_10 ?_
              refine h_aload_n (pc' := 178) rfl rfl rfl ?_
              refine h_getI (pc' := 181) (v := t0 98 18) rfl rfl rfl rfl rfl rfl (fun z240 hz240 => ?_)
              have tz240 := tf_98_18 J0
              refine h_imul (pc' := 182) rfl rfl ci_10 hz240 rfl (by omega) (by omega) (fun z241 hz241 => ?_)
              clear hz240
              refine h_aload_n (pc' := 183) rfl rfl rfl ?_
              refine h_aload_n (pc' := 184) rfl rfl rfl ?_
              refine h_getI (pc' := 187) (v := t0 98 15) rfl rfl rfl rfl rfl rfl (fun z242 hz242 => ?_)
              refine h_call (sp := false) (pc' := 190) (M := [(0, .ref 98), (1, .int z242)]) rfl rfl rfl rfl rfl rfl rfl rfl ?_
              refine h_iload_n (pc' := 1) rfl rfl rfl ?_
              refine h_aload_n (pc' := 2) rfl rfl rfl ?_
              refine h_getI (pc' := 5) (v := σ2 98 11) rfl rfl rfl rfl rfl (H0_ 98 11 rfl) (fun z243 hz243 => ?_)
              refine h_cge (tg := 17) (pc' := 8) rfl rfl rfl hz242 hz243 (fun c244 => absurd c244 (by omega)) (fun c244 => ?_)
              clear hz243
              refine h_aload_n (pc' := 9) rfl rfl rfl ?_
              refine h_getR (pc' := 12) rfl rfl rfl rfl rfl ?_
              refine h_iload_n (pc' := 13) rfl rfl rfl ?_
              refine h_iald (pc' := 14) (v := σ2 102 (t0 98 15)) rfl rfl rfl hz242 (by omega) (by omega) (H0_ 102 _ rfl) (fun z245 hz245 => ?_)
              refine h_goto (pc' := 19) rfl rfl ?_
              refine h_iret rfl rfl (h_Kv ?_)
              clear hz242
              refine h_iadd (pc' := 191) rfl rfl hz241 hz245 rfl (by omega) (by omega) (fun z246 hz246 => ?_)
              clear hz241 hz245
              refine h_bipush (pc' := 193) (x := (Int32.ofInt 48)) rfl rfl cb_48 ?_
              refine h_isub (pc' := 194) rfl rfl hz246 ci_48 rfl (by omega) (by omega) (fun z247 hz247 => ?_)
              clear hz246
              refine h_goto (pc' := 201) rfl rfl ?_
              refine h_put (pc' := 204) rfl rfl rfl rfl rfl rfl hz247 rfl (h_fgt (E := fun s => s 98 15 = t0 98 15 ∧ s 98 16 = t0 98 16 ∧ s 98 17 = t0 98 17 ∧ s 98 18 = (((10 * (t0 98 18)) + (σ2 102 (t0 98 15))) - 48) ∧ s 98 13 = t0 98 13 ∧ s 98 14 = t0 98 14) _ (if_98_18 J0 (by omega)) (H0_.up rfl) ⟨rfl, rfl, rfl, rfl, rfl, rfl⟩ (fun s248 Is248 Fs248 (es248 : s248 98 15 = t0 98 15 ∧ s248 98 16 = t0 98 16 ∧ s248 98 17 = t0 98 17 ∧ s248 98 18 = (((10 * (t0 98 18)) + (σ2 102 (t0 98 15))) - 48) ∧ s248 98 13 = t0 98 13 ∧ s248 98 14 = t0 98 14) => ?_))
              refine h_aload_n (pc' := 205) rfl rfl rfl ?_
              refine h_dup (pc' := 206) rfl rfl rfl ?_
              refine h_getI (pc' := 209) (v := t0 98 15) rfl rfl rfl rfl rfl es248.1 (fun z249 hz249 => ?_)
              refine h_iconst (pc' := 210) (x := (Int32.ofInt 1)) rfl rfl rfl ?_
              refine h_iadd (pc' := 211) rfl rfl hz249 ci_1 rfl (by omega) (by omega) (fun z250 hz250 => ?_)
              clear hz249
              refine h_put (pc' := 214) rfl rfl rfl rfl rfl rfl hz250 rfl (h_fgt (E := fun s => s 98 15 = ((t0 98 15) + 1) ∧ s 98 16 = t0 98 16 ∧ s 98 17 = t0 98 17 ∧ s 98 18 = (((10 * (t0 98 18)) + (σ2 102 (t0 98 15))) - 48) ∧ s 98 13 = t0 98 13 ∧ s 98 14 = t0 98 14) _ (if_98_15 Is248 (by omega)) (Fs248.up rfl) ⟨rfl, es248.2.1, es248.2.2.1, es248.2.2.2.1, es248.2.2.2.2.1, es248.2.2.2.2.2⟩ (fun s251 Is251 Fs251 (es251 : s251 98 15 = ((t0 98 15) + 1) ∧ s251 98 16 = t0 98 16 ∧ s251 98 17 = t0 98 17 ∧ s251 98 18 = (((10 * (t0 98 18)) + (σ2 102 (t0 98 15))) - 48) ∧ s251 98 13 = t0 98 13 ∧ s251 98 14 = t0 98 14) => ?_))
              clear es248
              refine h_goto (pc' := 140) rfl rfl ?_
              refine d_toL (g_inj ns) hlw219 hRw219 (fun lvw252 memw252 hlw252 hRw252 => ?_)
              show h_T g_P (g_Y ns) 75 172 [(0, .ref 64)] [] s218 _
              exact h_wk [(0, .ref 64)] ⟨rfl, trivial⟩ (ih _ _ Is218 Is251 Fs218 Fs251   (by omega) (by omega) (by omega) (by omega) (by omega) (by omega) (Or.inr (Or.inr (by omega))) (by omega) _ _ (h_al_ok ⟨rfl, trivial⟩ hlw252) hRw252)
