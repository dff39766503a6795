def kf_v_lines : List Nat := [100378, 100379, 109567, 110591]
set_option maxHeartbeats 100000000 in
theorem v_lines_l (ns : Nat) (σ : h_S) (hI : h_I σ) (x0 : Int32) (a0 : Int) (hx0 : x0.toInt = a0) (ra0 : 0 ≤ a0 ∧ a0 ≤ 2) {Q : Option Value → h_S → Prop} (kk : ∀ (τ : h_S), h_I τ → h_F (k_in kf_v_lines) τ σ → Q none τ) : ∀ n : Nat, (∀ (s0 : h_S), h_I s0 → h_F (k_in kf_v_lines) s0 σ → 1 ≤ (n : Int) → h_T g_P (g_Y ns) 198 19 [(0, .ref 98), (1, .int x0), (2, .int (Int32.ofInt (-1)))] [] s0 Q) ∧ (∀ (s0 : h_S), h_I s0 → h_F (k_in kf_v_lines) s0 σ → (-1 ≤ s0 106 0 ∧ s0 106 0 ≤ 5) → (7 - s0 106 0) * 16777216 + 1 ≤ (n : Int) → h_T g_P (g_Y ns) 198 19 [(0, .ref 98), (1, .int x0), (2, .int (Int32.ofInt 0))] [] s0 Q) ∧ (∀ (s0 : h_S), h_I s0 → h_F (k_in kf_v_lines) s0 σ → (0 ≤ s0 106 0 ∧ s0 106 0 ≤ 5) → (-1 ≤ s0 106 1 ∧ s0 106 1 ≤ 5) → (7 - s0 106 0) * 16777216 + (7 - s0 106 1) * 1048576 + 1 ≤ (n : Int) → h_T g_P (g_Y ns) 198 19 [(0, .ref 98), (1, .int x0), (2, .int (Int32.ofInt 1))] [] s0 Q) ∧ (∀ (s0 : h_S), h_I s0 → h_F (k_in kf_v_lines) s0 σ → (0 ≤ s0 106 0 ∧ s0 106 0 ≤ 5) → (0 ≤ s0 106 1 ∧ s0 106 1 ≤ 5) → (-1 ≤ s0 106 2 ∧ s0 106 2 ≤ 5) → (h_ne (s0 106 0) (s0 106 1)) → (7 - s0 106 0) * 16777216 + (7 - s0 106 1) * 1048576 + (7 - s0 106 2) * 65536 + 1 ≤ (n : Int) → h_T g_P (g_Y ns) 198 19 [(0, .ref 98), (1, .int x0), (2, .int (Int32.ofInt 2))] [] s0 Q) ∧ (∀ (s0 : h_S), h_I s0 → h_F (k_in kf_v_lines) s0 σ → (0 ≤ s0 106 0 ∧ s0 106 0 ≤ 5) → (0 ≤ s0 106 1 ∧ s0 106 1 ≤ 5) → (0 ≤ s0 106 2 ∧ s0 106 2 ≤ 5) → (-1 ≤ s0 106 3 ∧ s0 106 3 ≤ 5) → (h_ne (s0 106 0) (s0 106 1)) → (h_ne (s0 106 0) (s0 106 2)) → (h_ne (s0 106 1) (s0 106 2)) → (7 - s0 106 0) * 16777216 + (7 - s0 106 1) * 1048576 + (7 - s0 106 2) * 65536 + (7 - s0 106 3) * 4096 + 1 ≤ (n : Int) → h_T g_P (g_Y ns) 198 19 [(0, .ref 98), (1, .int x0), (2, .int (Int32.ofInt 3))] [] s0 Q) ∧ (∀ (s0 : h_S), h_I s0 → h_F (k_in kf_v_lines) s0 σ → (0 ≤ s0 106 0 ∧ s0 106 0 ≤ 5) → (0 ≤ s0 106 1 ∧ s0 106 1 ≤ 5) → (0 ≤ s0 106 2 ∧ s0 106 2 ≤ 5) → (0 ≤ s0 106 3 ∧ s0 106 3 ≤ 5) → (-1 ≤ s0 106 4 ∧ s0 106 4 ≤ 5) → (h_ne (s0 106 0) (s0 106 1)) → (h_ne (s0 106 0) (s0 106 2)) → (h_ne (s0 106 1) (s0 106 2)) → (h_ne (s0 106 0) (s0 106 3)) → (h_ne (s0 106 1) (s0 106 3)) → (h_ne (s0 106 2) (s0 106 3)) → (7 - s0 106 0) * 16777216 + (7 - s0 106 1) * 1048576 + (7 - s0 106 2) * 65536 + (7 - s0 106 3) * 4096 + (7 - s0 106 4) * 256 + 1 ≤ (n : Int) → h_T g_P (g_Y ns) 198 19 [(0, .ref 98), (1, .int x0), (2, .int (Int32.ofInt 4))] [] s0 Q) ∧ (∀ (s0 : h_S), h_I s0 → h_F (k_in kf_v_lines) s0 σ → (0 ≤ s0 106 0 ∧ s0 106 0 ≤ 5) → (0 ≤ s0 106 1 ∧ s0 106 1 ≤ 5) → (0 ≤ s0 106 2 ∧ s0 106 2 ≤ 5) → (0 ≤ s0 106 3 ∧ s0 106 3 ≤ 5) → (0 ≤ s0 106 4 ∧ s0 106 4 ≤ 5) → (-1 ≤ s0 106 5 ∧ s0 106 5 ≤ 5) → (h_ne (s0 106 0) (s0 106 1)) → (h_ne (s0 106 0) (s0 106 2)) → (h_ne (s0 106 1) (s0 106 2)) → (h_ne (s0 106 0) (s0 106 3)) → (h_ne (s0 106 1) (s0 106 3)) → (h_ne (s0 106 2) (s0 106 3)) → (h_ne (s0 106 0) (s0 106 4)) → (h_ne (s0 106 1) (s0 106 4)) → (h_ne (s0 106 2) (s0 106 4)) → (h_ne (s0 106 3) (s0 106 4)) → (7 - s0 106 0) * 16777216 + (7 - s0 106 1) * 1048576 + (7 - s0 106 2) * 65536 + (7 - s0 106 3) * 4096 + (7 - s0 106 4) * 256 + (7 - s0 106 5) * 16 + 1 ≤ (n : Int) → h_T g_P (g_Y ns) 198 19 [(0, .ref 98), (1, .int x0), (2, .int (Int32.ofInt 5))] [] s0 Q) ∧ (∀ (s0 : h_S), h_I s0 → h_F (k_in kf_v_lines) s0 σ → (0 ≤ s0 106 0 ∧ s0 106 0 ≤ 5) → (0 ≤ s0 106 1 ∧ s0 106 1 ≤ 5) → (0 ≤ s0 106 2 ∧ s0 106 2 ≤ 5) → (0 ≤ s0 106 3 ∧ s0 106 3 ≤ 5) → (0 ≤ s0 106 4 ∧ s0 106 4 ≤ 5) → (0 ≤ s0 106 5 ∧ s0 106 5 ≤ 5) → (-1 ≤ s0 106 6 ∧ s0 106 6 ≤ 5) → (h_ne (s0 106 0) (s0 106 1)) → (h_ne (s0 106 0) (s0 106 2)) → (h_ne (s0 106 1) (s0 106 2)) → (h_ne (s0 106 0) (s0 106 3)) → (h_ne (s0 106 1) (s0 106 3)) → (h_ne (s0 106 2) (s0 106 3)) → (h_ne (s0 106 0) (s0 106 4)) → (h_ne (s0 106 1) (s0 106 4)) → (h_ne (s0 106 2) (s0 106 4)) → (h_ne (s0 106 3) (s0 106 4)) → (h_ne (s0 106 0) (s0 106 5)) → (h_ne (s0 106 1) (s0 106 5)) → (h_ne (s0 106 2) (s0 106 5)) → (h_ne (s0 106 3) (s0 106 5)) → (h_ne (s0 106 4) (s0 106 5)) → (7 - s0 106 0) * 16777216 + (7 - s0 106 1) * 1048576 + (7 - s0 106 2) * 65536 + (7 - s0 106 3) * 4096 + (7 - s0 106 4) * 256 + (7 - s0 106 5) * 16 + (7 - s0 106 6) * 1 + 1 ≤ (n : Int) → h_T g_P (g_Y ns) 198 19 [(0, .ref 98), (1, .int x0), (2, .int (Int32.ofInt 6))] [] s0 Q) := by
  intro n
  induction n with
  | zero => exact ⟨by intro s0 I0 F0_ hm; exfalso; omega, by intro s0 I0 F0_ ex0 hm; exfalso; omega, by intro s0 I0 F0_ ex0 ex1 hm; exfalso; omega, by intro s0 I0 F0_ ex0 ex1 ex2 ex3 hm; exfalso; omega, by intro s0 I0 F0_ ex0 ex1 ex2 ex3 ex4 ex5 ex6 hm; exfalso; omega, by intro s0 I0 F0_ ex0 ex1 ex2 ex3 ex4 ex5 ex6 ex7 ex8 ex9 ex10 hm; exfalso; omega, by intro s0 I0 F0_ ex0 ex1 ex2 ex3 ex4 ex5 ex6 ex7 ex8 ex9 ex10 ex11 ex12 ex13 ex14 ex15 hm; exfalso; omega, by intro s0 I0 F0_ ex0 ex1 ex2 ex3 ex4 ex5 ex6 ex7 ex8 ex9 ex10 ex11 ex12 ex13 ex14 ex15 ex16 ex17 ex18 ex19 ex20 ex21 hm; exfalso; omega⟩
  | succ n ih =>
    refine ⟨?_, ?_, ?_, ?_, ?_, ?_, ?_, ?_⟩
    · intro s0 I0 F0_ hm
      refine h_iload_n (pc' := 20) rfl rfl rfl ?_
      refine h_zlt (tg := 120) (pc' := 23) rfl rfl rfl ci_m1 (fun c1 => ?_) (fun c1 => absurd c1 (by omega))
      exact h_vret rfl rfl (kk _ I0 F0_)
    · intro s0 I0 F0_ ex0 hm
      refine h_iload_n (pc' := 20) rfl rfl rfl ?_
      refine h_zlt (tg := 120) (pc' := 23) rfl rfl rfl ci_0 (fun c1 => absurd c1 (by omega)) (fun c1 => ?_)
      refine h_aload_n (pc' := 24) rfl rfl rfl ?_
      refine h_getR (pc' := 27) rfl rfl rfl rfl rfl ?_
      refine h_iload_n (pc' := 28) rfl rfl rfl ?_
      refine h_dup2 (pc' := 29) rfl rfl rfl ?_
      refine h_iald (pc' := 30) (v := s0 106 0) rfl rfl rfl ci_0 (by omega) (by omega) rfl (fun z2 hz2 => ?_)
      have tz2 := ty_106 I0 0
      refine h_iconst (pc' := 31) (x := (Int32.ofInt 1)) rfl rfl rfl ?_
      refine h_iadd (pc' := 32) rfl rfl hz2 ci_1 rfl (by omega) (by omega) (fun z3 hz3 => ?_)
      refine h_iast (pc' := 33) rfl rfl rfl rfl ci_0 (by omega) (by omega) hz3 (h_fgt (E := fun s => s 106 0 = ((s0 106 0) + 1) ∧ s 106 1 = s0 106 1 ∧ s 106 2 = s0 106 2 ∧ s 106 3 = s0 106 3 ∧ s 106 4 = s0 106 4 ∧ s 106 5 = s0 106 5 ∧ s 106 6 = s0 106 6) _ (in_106 I0 (by omega)) (F0_.up rfl) ⟨rfl, rfl, rfl, rfl, rfl, rfl, rfl⟩ (fun s4 Is4 Fs4 (es4 : s4 106 0 = ((s0 106 0) + 1) ∧ s4 106 1 = s0 106 1 ∧ s4 106 2 = s0 106 2 ∧ s4 106 3 = s0 106 3 ∧ s4 106 4 = s0 106 4 ∧ s4 106 5 = s0 106 5 ∧ s4 106 6 = s0 106 6) => ?_))
      refine h_aload_n (pc' := 34) rfl rfl rfl ?_
      refine h_getR (pc' := 37) rfl rfl rfl rfl rfl ?_
      refine h_iload_n (pc' := 38) rfl rfl rfl ?_
      refine h_iald (pc' := 39) (v := ((s0 106 0) + 1)) rfl rfl rfl ci_0 (by omega) (by omega) es4.1 (fun z5 hz5 => ?_)
      refine h_aload_n (pc' := 40) rfl rfl rfl ?_
      refine h_getI (pc' := 43) (v := σ 98 1) rfl rfl rfl rfl rfl (Fs4 98 1 rfl) (fun z6 hz6 => ?_)
      have tz6 := tf_98_1 hI
      refine h_clt (tg := 52) (pc' := 46) rfl rfl rfl hz5 hz6 (fun c7 => ?_) (fun c7 => ?_)
      · refine h_aload_n (pc' := 53) rfl rfl rfl ?_
        refine h_iload_n (pc' := 54) rfl rfl rfl ?_
        refine h_iload_n (pc' := 55) rfl rfl rfl ?_
        refine h_call (sp := false) (pc' := 58) (M := [(0, .ref 98), (1, .int x0), (2, .int (Int32.ofInt 0))]) rfl rfl rfl rfl rfl rfl rfl rfl ?_
        refine v_stands0 _ Is4 x0 _ hx0 (by omega)  (by omega) (fun r8 br8 hr8 tr8 => h_Kv ?_)
        refine h_zeq (tg := 19) (pc' := 61) rfl rfl rfl hr8 (fun c10 => ?_) (fun c10 => ?_)
        · exact h_wk [(0, .ref 98), (1, .int x0), (2, .int (Int32.ofInt 0))] ⟨rfl, rfl, rfl, trivial⟩ (ih.2.1 _ Is4 Fs4  (by omega) (by omega))
        · refine h_iload_n (pc' := 62) rfl rfl rfl ?_
          refine h_iconst (pc' := 63) (x := (Int32.ofInt 1)) rfl rfl rfl ?_
          refine h_iadd (pc' := 64) (c := 1) rfl rfl ci_0 ci_1 rfl (by omega) (by omega) (fun z11 hz11 => ?_)
          refine h_aload_n (pc' := 65) rfl rfl rfl ?_
          refine h_getI (pc' := 68) (v := s4 98 26) rfl rfl rfl rfl rfl rfl (fun z12 hz12 => ?_)
          have tz12 := tf_98_26 Is4
          refine h_cle (tg := 83) (pc' := 71) rfl rfl rfl hz11 hz12 (fun c13 => ?_) (fun c13 => ?_)
          · refine h_aload_n (pc' := 84) rfl rfl rfl ?_
            refine h_dup (pc' := 85) rfl rfl rfl ?_
            refine h_getI (pc' := 88) (v := s4 98 27) rfl rfl rfl rfl rfl rfl (fun z14 hz14 => ?_)
            have tz14 := tf_98_27 Is4
            refine h_iload_n (pc' := 89) rfl rfl rfl ?_
            refine h_iconst (pc' := 90) (x := (Int32.ofInt 1)) rfl rfl rfl ?_
            refine h_iadd (pc' := 91) (c := 1) rfl rfl ci_0 ci_1 rfl (by omega) (by omega) (fun z15 hz15 => ?_)
            refine h_aload_n (pc' := 92) rfl rfl rfl ?_
            refine h_getI (pc' := 95) (v := s4 98 26) rfl rfl rfl rfl rfl rfl (fun z16 hz16 => ?_)
            have tz16 := tf_98_26 Is4
            refine h_cne (tg := 102) (pc' := 98) rfl rfl rfl hz15 hz16 (fun c17 => ?_) (fun c17 => ?_)
            · refine h_iconst (pc' := 103) (x := (Int32.ofInt 0)) rfl rfl rfl ?_
              refine h_iadd (pc' := 104) rfl rfl hz14 ci_0 rfl (by have g0 := h_rgv hz14; omega) (by have g0 := h_rgv hz14; omega) (fun z18 hz18 => ?_)
              refine h_put (pc' := 107) rfl rfl rfl rfl rfl rfl hz18 rfl (h_fgt (E := fun s => s 106 0 = ((s0 106 0) + 1) ∧ s 106 1 = s0 106 1 ∧ s 106 2 = s0 106 2 ∧ s 106 3 = s0 106 3 ∧ s 106 4 = s0 106 4 ∧ s 106 5 = s0 106 5 ∧ s 106 6 = s0 106 6) _ (if_98_27 Is4 (h_rgv hz18)) (Fs4.up rfl) ⟨es4.1, es4.2.1, es4.2.2.1, es4.2.2.2.1, es4.2.2.2.2.1, es4.2.2.2.2.2.1, es4.2.2.2.2.2.2⟩ (fun s19 Is19 Fs19 (es19 : s19 106 0 = ((s0 106 0) + 1) ∧ s19 106 1 = s0 106 1 ∧ s19 106 2 = s0 106 2 ∧ s19 106 3 = s0 106 3 ∧ s19 106 4 = s0 106 4 ∧ s19 106 5 = s0 106 5 ∧ s19 106 6 = s0 106 6) => ?_))
              clear es4
              refine h_iinc (pc' := 110) (b := 1) (M := fun z20 => [(2, .int z20), (0, .ref 98), (1, .int x0)]) rfl rfl rfl rfl ci_0 ci_1 rfl (by omega) (by omega) (fun _ => rfl) (fun z20 hz20 => ?_)
              refine h_aload_n (pc' := 111) rfl rfl rfl ?_
              refine h_getR (pc' := 114) rfl rfl rfl rfl rfl ?_
              refine h_iload_n (pc' := 115) rfl rfl rfl ?_
              refine h_iconst (pc' := 116) (x := (Int32.ofInt (-1))) rfl rfl rfl ?_
              refine h_iast (pc' := 117) rfl rfl rfl rfl hz20 (by omega) (by omega) ci_m1 (h_fgt (E := fun s => s 106 0 = ((s0 106 0) + 1) ∧ s 106 1 = (-1) ∧ s 106 2 = s0 106 2 ∧ s 106 3 = s0 106 3 ∧ s 106 4 = s0 106 4 ∧ s 106 5 = s0 106 5 ∧ s 106 6 = s0 106 6) _ (in_106 Is19 (by omega)) (Fs19.up rfl) ⟨es19.1, rfl, es19.2.2.1, es19.2.2.2.1, es19.2.2.2.2.1, es19.2.2.2.2.2.1, es19.2.2.2.2.2.2⟩ (fun s21 Is21 Fs21 (es21 : s21 106 0 = ((s0 106 0) + 1) ∧ s21 106 1 = (-1) ∧ s21 106 2 = s0 106 2 ∧ s21 106 3 = s0 106 3 ∧ s21 106 4 = s0 106 4 ∧ s21 106 5 = s0 106 5 ∧ s21 106 6 = s0 106 6) => ?_))
              clear es19
              refine h_goto (pc' := 19) rfl rfl ?_
              have qz20 : z20 = (Int32.ofInt 1) := h_lit hz20 ci_1
              subst qz20
              exact h_wk [(0, .ref 98), (1, .int x0), (2, .int (Int32.ofInt 1))] ⟨rfl, rfl, rfl, trivial⟩ (ih.2.2.1 _ Is21 Fs21  (by omega) (by omega) (by omega))
            · refine h_iconst (pc' := 99) (x := (Int32.ofInt 1)) rfl rfl rfl ?_
              refine h_goto (pc' := 103) rfl rfl ?_
              refine h_iaddA (pc' := 104) rfl rfl (fun z22 hz22 => ?_)
              refine h_put (pc' := 107) rfl rfl rfl rfl rfl rfl rfl rfl (h_fgt (E := fun s => s 106 0 = ((s0 106 0) + 1) ∧ s 106 1 = s0 106 1 ∧ s 106 2 = s0 106 2 ∧ s 106 3 = s0 106 3 ∧ s 106 4 = s0 106 4 ∧ s 106 5 = s0 106 5 ∧ s 106 6 = s0 106 6) _ (if_98_27 Is4 (h_rgv rfl)) (Fs4.up rfl) ⟨es4.1, es4.2.1, es4.2.2.1, es4.2.2.2.1, es4.2.2.2.2.1, es4.2.2.2.2.2.1, es4.2.2.2.2.2.2⟩ (fun s23 Is23 Fs23 (es23 : s23 106 0 = ((s0 106 0) + 1) ∧ s23 106 1 = s0 106 1 ∧ s23 106 2 = s0 106 2 ∧ s23 106 3 = s0 106 3 ∧ s23 106 4 = s0 106 4 ∧ s23 106 5 = s0 106 5 ∧ s23 106 6 = s0 106 6) => ?_))
              clear es4
              refine h_iinc (pc' := 110) (b := 1) (M := fun z24 => [(2, .int z24), (0, .ref 98), (1, .int x0)]) rfl rfl rfl rfl ci_0 ci_1 rfl (by omega) (by omega) (fun _ => rfl) (fun z24 hz24 => ?_)
              refine h_aload_n (pc' := 111) rfl rfl rfl ?_
              refine h_getR (pc' := 114) rfl rfl rfl rfl rfl ?_
              refine h_iload_n (pc' := 115) rfl rfl rfl ?_
              refine h_iconst (pc' := 116) (x := (Int32.ofInt (-1))) rfl rfl rfl ?_
              refine h_iast (pc' := 117) rfl rfl rfl rfl hz24 (by omega) (by omega) ci_m1 (h_fgt (E := fun s => s 106 0 = ((s0 106 0) + 1) ∧ s 106 1 = (-1) ∧ s 106 2 = s0 106 2 ∧ s 106 3 = s0 106 3 ∧ s 106 4 = s0 106 4 ∧ s 106 5 = s0 106 5 ∧ s 106 6 = s0 106 6) _ (in_106 Is23 (by omega)) (Fs23.up rfl) ⟨es23.1, rfl, es23.2.2.1, es23.2.2.2.1, es23.2.2.2.2.1, es23.2.2.2.2.2.1, es23.2.2.2.2.2.2⟩ (fun s25 Is25 Fs25 (es25 : s25 106 0 = ((s0 106 0) + 1) ∧ s25 106 1 = (-1) ∧ s25 106 2 = s0 106 2 ∧ s25 106 3 = s0 106 3 ∧ s25 106 4 = s0 106 4 ∧ s25 106 5 = s0 106 5 ∧ s25 106 6 = s0 106 6) => ?_))
              clear es23
              refine h_goto (pc' := 19) rfl rfl ?_
              have qz24 : z24 = (Int32.ofInt 1) := h_lit hz24 ci_1
              subst qz24
              exact h_wk [(0, .ref 98), (1, .int x0), (2, .int (Int32.ofInt 1))] ⟨rfl, rfl, rfl, trivial⟩ (ih.2.2.1 _ Is25 Fs25  (by omega) (by omega) (by omega))
          · refine h_aload_n (pc' := 72) rfl rfl rfl ?_
            refine h_iload_n (pc' := 73) rfl rfl rfl ?_
            refine h_iconst (pc' := 74) (x := (Int32.ofInt 1)) rfl rfl rfl ?_
            refine h_iadd (pc' := 75) (c := 1) rfl rfl ci_0 ci_1 rfl (by omega) (by omega) (fun z26 hz26 => ?_)
            refine h_call (sp := false) (pc' := 78) (M := [(0, .ref 98), (1, .int z26)]) rfl rfl rfl rfl rfl rfl rfl rfl ?_
            refine v_keepsRow _ Is4 z26 _ hz26 (by omega) (fun s28 Is28 Gs28 ps28_0 ps28_1 ps28_2 ps28_3 ps28_4 ps28_5 ps28_6 => h_Kn ?_)
            have Fs28 := (Gs28.mono (B := kf_v_lines) rfl).tr Fs4
            have es28_0 : s28 106 0 = ((s0 106 0) + 1) := (Gs28 106 0 rfl).trans es4.1
            have es28_1 : s28 106 1 = s0 106 1 := (Gs28 106 1 rfl).trans es4.2.1
            have es28_2 : s28 106 2 = s0 106 2 := (Gs28 106 2 rfl).trans es4.2.2.1
            have es28_3 : s28 106 3 = s0 106 3 := (Gs28 106 3 rfl).trans es4.2.2.2.1
            have es28_4 : s28 106 4 = s0 106 4 := (Gs28 106 4 rfl).trans es4.2.2.2.2.1
            have es28_5 : s28 106 5 = s0 106 5 := (Gs28 106 5 rfl).trans es4.2.2.2.2.2.1
            have es28_6 : s28 106 6 = s0 106 6 := (Gs28 106 6 rfl).trans es4.2.2.2.2.2.2
            refine h_aload_n (pc' := 79) rfl rfl rfl ?_
            refine h_iconst (pc' := 80) (x := (Int32.ofInt 0)) rfl rfl rfl ?_
            refine h_put (pc' := 83) rfl rfl rfl rfl rfl rfl ci_0 rfl (h_fgt (E := fun s => s 106 0 = ((s0 106 0) + 1) ∧ s 106 1 = s0 106 1 ∧ s 106 2 = s0 106 2 ∧ s 106 3 = s0 106 3 ∧ s 106 4 = s0 106 4 ∧ s 106 5 = s0 106 5 ∧ s 106 6 = s0 106 6) _ (if_98_27 Is28 (h_rgv ci_0)) (Fs28.up rfl) ⟨es28_0, es28_1, es28_2, es28_3, es28_4, es28_5, es28_6⟩ (fun s29 Is29 Fs29 (es29 : s29 106 0 = ((s0 106 0) + 1) ∧ s29 106 1 = s0 106 1 ∧ s29 106 2 = s0 106 2 ∧ s29 106 3 = s0 106 3 ∧ s29 106 4 = s0 106 4 ∧ s29 106 5 = s0 106 5 ∧ s29 106 6 = s0 106 6) => ?_))
            clear es28_0 es28_1 es28_2 es28_3 es28_4 es28_5 es28_6
            refine h_aload_n (pc' := 84) rfl rfl rfl ?_
            refine h_dup (pc' := 85) rfl rfl rfl ?_
            refine h_getI (pc' := 88) (v := s29 98 27) rfl rfl rfl rfl rfl rfl (fun z30 hz30 => ?_)
            have tz30 := tf_98_27 Is29
            refine h_iload_n (pc' := 89) rfl rfl rfl ?_
            refine h_iconst (pc' := 90) (x := (Int32.ofInt 1)) rfl rfl rfl ?_
            refine h_iadd (pc' := 91) (c := 1) rfl rfl ci_0 ci_1 rfl (by omega) (by omega) (fun z31 hz31 => ?_)
            refine h_aload_n (pc' := 92) rfl rfl rfl ?_
            refine h_getI (pc' := 95) (v := s29 98 26) rfl rfl rfl rfl rfl rfl (fun z32 hz32 => ?_)
            have tz32 := tf_98_26 Is29
            refine h_cne (tg := 102) (pc' := 98) rfl rfl rfl hz31 hz32 (fun c33 => ?_) (fun c33 => ?_)
            · refine h_iconst (pc' := 103) (x := (Int32.ofInt 0)) rfl rfl rfl ?_
              refine h_iadd (pc' := 104) rfl rfl hz30 ci_0 rfl (by have g0 := h_rgv hz30; omega) (by have g0 := h_rgv hz30; omega) (fun z34 hz34 => ?_)
              refine h_put (pc' := 107) rfl rfl rfl rfl rfl rfl hz34 rfl (h_fgt (E := fun s => s 106 0 = ((s0 106 0) + 1) ∧ s 106 1 = s0 106 1 ∧ s 106 2 = s0 106 2 ∧ s 106 3 = s0 106 3 ∧ s 106 4 = s0 106 4 ∧ s 106 5 = s0 106 5 ∧ s 106 6 = s0 106 6) _ (if_98_27 Is29 (h_rgv hz34)) (Fs29.up rfl) ⟨es29.1, es29.2.1, es29.2.2.1, es29.2.2.2.1, es29.2.2.2.2.1, es29.2.2.2.2.2.1, es29.2.2.2.2.2.2⟩ (fun s35 Is35 Fs35 (es35 : s35 106 0 = ((s0 106 0) + 1) ∧ s35 106 1 = s0 106 1 ∧ s35 106 2 = s0 106 2 ∧ s35 106 3 = s0 106 3 ∧ s35 106 4 = s0 106 4 ∧ s35 106 5 = s0 106 5 ∧ s35 106 6 = s0 106 6) => ?_))
              clear es29
              refine h_iinc (pc' := 110) (b := 1) (M := fun z36 => [(2, .int z36), (0, .ref 98), (1, .int x0)]) rfl rfl rfl rfl ci_0 ci_1 rfl (by omega) (by omega) (fun _ => rfl) (fun z36 hz36 => ?_)
              refine h_aload_n (pc' := 111) rfl rfl rfl ?_
              refine h_getR (pc' := 114) rfl rfl rfl rfl rfl ?_
              refine h_iload_n (pc' := 115) rfl rfl rfl ?_
              refine h_iconst (pc' := 116) (x := (Int32.ofInt (-1))) rfl rfl rfl ?_
              refine h_iast (pc' := 117) rfl rfl rfl rfl hz36 (by omega) (by omega) ci_m1 (h_fgt (E := fun s => s 106 0 = ((s0 106 0) + 1) ∧ s 106 1 = (-1) ∧ s 106 2 = s0 106 2 ∧ s 106 3 = s0 106 3 ∧ s 106 4 = s0 106 4 ∧ s 106 5 = s0 106 5 ∧ s 106 6 = s0 106 6) _ (in_106 Is35 (by omega)) (Fs35.up rfl) ⟨es35.1, rfl, es35.2.2.1, es35.2.2.2.1, es35.2.2.2.2.1, es35.2.2.2.2.2.1, es35.2.2.2.2.2.2⟩ (fun s37 Is37 Fs37 (es37 : s37 106 0 = ((s0 106 0) + 1) ∧ s37 106 1 = (-1) ∧ s37 106 2 = s0 106 2 ∧ s37 106 3 = s0 106 3 ∧ s37 106 4 = s0 106 4 ∧ s37 106 5 = s0 106 5 ∧ s37 106 6 = s0 106 6) => ?_))
              clear es35
              refine h_goto (pc' := 19) rfl rfl ?_
              have qz36 : z36 = (Int32.ofInt 1) := h_lit hz36 ci_1
              subst qz36
              exact h_wk [(0, .ref 98), (1, .int x0), (2, .int (Int32.ofInt 1))] ⟨rfl, rfl, rfl, trivial⟩ (ih.2.2.1 _ Is37 Fs37  (by omega) (by omega) (by omega))
            · refine h_iconst (pc' := 99) (x := (Int32.ofInt 1)) rfl rfl rfl ?_
              refine h_goto (pc' := 103) rfl rfl ?_
              refine h_iaddA (pc' := 104) rfl rfl (fun z38 hz38 => ?_)
              refine h_put (pc' := 107) rfl rfl rfl rfl rfl rfl rfl rfl (h_fgt (E := fun s => s 106 0 = ((s0 106 0) + 1) ∧ s 106 1 = s0 106 1 ∧ s 106 2 = s0 106 2 ∧ s 106 3 = s0 106 3 ∧ s 106 4 = s0 106 4 ∧ s 106 5 = s0 106 5 ∧ s 106 6 = s0 106 6) _ (if_98_27 Is29 (h_rgv rfl)) (Fs29.up rfl) ⟨es29.1, es29.2.1, es29.2.2.1, es29.2.2.2.1, es29.2.2.2.2.1, es29.2.2.2.2.2.1, es29.2.2.2.2.2.2⟩ (fun s39 Is39 Fs39 (es39 : s39 106 0 = ((s0 106 0) + 1) ∧ s39 106 1 = s0 106 1 ∧ s39 106 2 = s0 106 2 ∧ s39 106 3 = s0 106 3 ∧ s39 106 4 = s0 106 4 ∧ s39 106 5 = s0 106 5 ∧ s39 106 6 = s0 106 6) => ?_))
              clear es29
              refine h_iinc (pc' := 110) (b := 1) (M := fun z40 => [(2, .int z40), (0, .ref 98), (1, .int x0)]) rfl rfl rfl rfl ci_0 ci_1 rfl (by omega) (by omega) (fun _ => rfl) (fun z40 hz40 => ?_)
              refine h_aload_n (pc' := 111) rfl rfl rfl ?_
              refine h_getR (pc' := 114) rfl rfl rfl rfl rfl ?_
              refine h_iload_n (pc' := 115) rfl rfl rfl ?_
              refine h_iconst (pc' := 116) (x := (Int32.ofInt (-1))) rfl rfl rfl ?_
              refine h_iast (pc' := 117) rfl rfl rfl rfl hz40 (by omega) (by omega) ci_m1 (h_fgt (E := fun s => s 106 0 = ((s0 106 0) + 1) ∧ s 106 1 = (-1) ∧ s 106 2 = s0 106 2 ∧ s 106 3 = s0 106 3 ∧ s 106 4 = s0 106 4 ∧ s 106 5 = s0 106 5 ∧ s 106 6 = s0 106 6) _ (in_106 Is39 (by omega)) (Fs39.up rfl) ⟨es39.1, rfl, es39.2.2.1, es39.2.2.2.1, es39.2.2.2.2.1, es39.2.2.2.2.2.1, es39.2.2.2.2.2.2⟩ (fun s41 Is41 Fs41 (es41 : s41 106 0 = ((s0 106 0) + 1) ∧ s41 106 1 = (-1) ∧ s41 106 2 = s0 106 2 ∧ s41 106 3 = s0 106 3 ∧ s41 106 4 = s0 106 4 ∧ s41 106 5 = s0 106 5 ∧ s41 106 6 = s0 106 6) => ?_))
              clear es39
              refine h_goto (pc' := 19) rfl rfl ?_
              have qz40 : z40 = (Int32.ofInt 1) := h_lit hz40 ci_1
              subst qz40
              exact h_wk [(0, .ref 98), (1, .int x0), (2, .int (Int32.ofInt 1))] ⟨rfl, rfl, rfl, trivial⟩ (ih.2.2.1 _ Is41 Fs41  (by omega) (by omega) (by omega))
      · refine h_iinc (pc' := 49) (b := (-1)) (M := fun z42 => [(2, .int z42), (0, .ref 98), (1, .int x0)]) rfl rfl rfl rfl ci_0 ci_m1 rfl (by omega) (by omega) (fun _ => rfl) (fun z42 hz42 => ?_)
        refine h_goto (pc' := 19) rfl rfl ?_
        have qz42 : z42 = (Int32.ofInt (-1)) := h_lit hz42 ci_m1
        subst qz42
        exact h_wk [(0, .ref 98), (1, .int x0), (2, .int (Int32.ofInt (-1)))] ⟨rfl, rfl, rfl, trivial⟩ (ih.1 _ Is4 Fs4  (by omega))
    · intro s0 I0 F0_ ex0 ex1 hm
      refine h_iload_n (pc' := 20) rfl rfl rfl ?_
      refine h_zlt (tg := 120) (pc' := 23) rfl rfl rfl ci_1 (fun c1 => absurd c1 (by omega)) (fun c1 => ?_)
      refine h_aload_n (pc' := 24) rfl rfl rfl ?_
      refine h_getR (pc' := 27) rfl rfl rfl rfl rfl ?_
      refine h_iload_n (pc' := 28) rfl rfl rfl ?_
      refine h_dup2 (pc' := 29) rfl rfl rfl ?_
      refine h_iald (pc' := 30) (v := s0 106 1) rfl rfl rfl ci_1 (by omega) (by omega) rfl (fun z2 hz2 => ?_)
      have tz2 := ty_106 I0 1
      refine h_iconst (pc' := 31) (x := (Int32.ofInt 1)) rfl rfl rfl ?_
      refine h_iadd (pc' := 32) rfl rfl hz2 ci_1 rfl (by omega) (by omega) (fun z3 hz3 => ?_)
      refine h_iast (pc' := 33) rfl rfl rfl rfl ci_1 (by omega) (by omega) hz3 (h_fgt (E := fun s => s 106 0 = s0 106 0 ∧ s 106 1 = ((s0 106 1) + 1) ∧ s 106 2 = s0 106 2 ∧ s 106 3 = s0 106 3 ∧ s 106 4 = s0 106 4 ∧ s 106 5 = s0 106 5 ∧ s 106 6 = s0 106 6) _ (in_106 I0 (by omega)) (F0_.up rfl) ⟨rfl, rfl, rfl, rfl, rfl, rfl, rfl⟩ (fun s4 Is4 Fs4 (es4 : s4 106 0 = s0 106 0 ∧ s4 106 1 = ((s0 106 1) + 1) ∧ s4 106 2 = s0 106 2 ∧ s4 106 3 = s0 106 3 ∧ s4 106 4 = s0 106 4 ∧ s4 106 5 = s0 106 5 ∧ s4 106 6 = s0 106 6) => ?_))
      refine h_aload_n (pc' := 34) rfl rfl rfl ?_
      refine h_getR (pc' := 37) rfl rfl rfl rfl rfl ?_
      refine h_iload_n (pc' := 38) rfl rfl rfl ?_
      refine h_iald (pc' := 39) (v := ((s0 106 1) + 1)) rfl rfl rfl ci_1 (by omega) (by omega) es4.2.1 (fun z5 hz5 => ?_)
      refine h_aload_n (pc' := 40) rfl rfl rfl ?_
      refine h_getI (pc' := 43) (v := σ 98 1) rfl rfl rfl rfl rfl (Fs4 98 1 rfl) (fun z6 hz6 => ?_)
      have tz6 := tf_98_1 hI
      refine h_clt (tg := 52) (pc' := 46) rfl rfl rfl hz5 hz6 (fun c7 => ?_) (fun c7 => ?_)
      · refine h_aload_n (pc' := 53) rfl rfl rfl ?_
        refine h_iload_n (pc' := 54) rfl rfl rfl ?_
        refine h_iload_n (pc' := 55) rfl rfl rfl ?_
        refine h_call (sp := false) (pc' := 58) (M := [(0, .ref 98), (1, .int x0), (2, .int (Int32.ofInt 1))]) rfl rfl rfl rfl rfl rfl rfl rfl ?_
        refine v_stands1 _ Is4 x0 _ hx0 (by omega)  (by omega) (by omega) (fun r8 br8 hr8 tr8 ps9_0 => h_Kv ?_)
        refine h_zeq (tg := 19) (pc' := 61) rfl rfl rfl hr8 (fun c10 => ?_) (fun c10 => ?_)
        · exact h_wk [(0, .ref 98), (1, .int x0), (2, .int (Int32.ofInt 1))] ⟨rfl, rfl, rfl, trivial⟩ (ih.2.2.1 _ Is4 Fs4  (by omega) (by omega) (by omega))
        · refine h_iload_n (pc' := 62) rfl rfl rfl ?_
          refine h_iconst (pc' := 63) (x := (Int32.ofInt 1)) rfl rfl rfl ?_
          refine h_iadd (pc' := 64) (c := 2) rfl rfl ci_1 ci_1 rfl (by omega) (by omega) (fun z11 hz11 => ?_)
          refine h_aload_n (pc' := 65) rfl rfl rfl ?_
          refine h_getI (pc' := 68) (v := s4 98 26) rfl rfl rfl rfl rfl rfl (fun z12 hz12 => ?_)
          have tz12 := tf_98_26 Is4
          refine h_cle (tg := 83) (pc' := 71) rfl rfl rfl hz11 hz12 (fun c13 => ?_) (fun c13 => ?_)
          · refine h_aload_n (pc' := 84) rfl rfl rfl ?_
            refine h_dup (pc' := 85) rfl rfl rfl ?_
            refine h_getI (pc' := 88) (v := s4 98 27) rfl rfl rfl rfl rfl rfl (fun z14 hz14 => ?_)
            have tz14 := tf_98_27 Is4
            refine h_iload_n (pc' := 89) rfl rfl rfl ?_
            refine h_iconst (pc' := 90) (x := (Int32.ofInt 1)) rfl rfl rfl ?_
            refine h_iadd (pc' := 91) (c := 2) rfl rfl ci_1 ci_1 rfl (by omega) (by omega) (fun z15 hz15 => ?_)
            refine h_aload_n (pc' := 92) rfl rfl rfl ?_
            refine h_getI (pc' := 95) (v := s4 98 26) rfl rfl rfl rfl rfl rfl (fun z16 hz16 => ?_)
            have tz16 := tf_98_26 Is4
            refine h_cne (tg := 102) (pc' := 98) rfl rfl rfl hz15 hz16 (fun c17 => ?_) (fun c17 => ?_)
            · refine h_iconst (pc' := 103) (x := (Int32.ofInt 0)) rfl rfl rfl ?_
              refine h_iadd (pc' := 104) rfl rfl hz14 ci_0 rfl (by have g0 := h_rgv hz14; omega) (by have g0 := h_rgv hz14; omega) (fun z18 hz18 => ?_)
              refine h_put (pc' := 107) rfl rfl rfl rfl rfl rfl hz18 rfl (h_fgt (E := fun s => s 106 0 = s0 106 0 ∧ s 106 1 = ((s0 106 1) + 1) ∧ s 106 2 = s0 106 2 ∧ s 106 3 = s0 106 3 ∧ s 106 4 = s0 106 4 ∧ s 106 5 = s0 106 5 ∧ s 106 6 = s0 106 6) _ (if_98_27 Is4 (h_rgv hz18)) (Fs4.up rfl) ⟨es4.1, es4.2.1, es4.2.2.1, es4.2.2.2.1, es4.2.2.2.2.1, es4.2.2.2.2.2.1, es4.2.2.2.2.2.2⟩ (fun s19 Is19 Fs19 (es19 : s19 106 0 = s0 106 0 ∧ s19 106 1 = ((s0 106 1) + 1) ∧ s19 106 2 = s0 106 2 ∧ s19 106 3 = s0 106 3 ∧ s19 106 4 = s0 106 4 ∧ s19 106 5 = s0 106 5 ∧ s19 106 6 = s0 106 6) => ?_))
              refine h_iinc (pc' := 110) (b := 2) (M := fun z20 => [(2, .int z20), (0, .ref 98), (1, .int x0)]) rfl rfl rfl rfl ci_1 ci_1 rfl (by omega) (by omega) (fun _ => rfl) (fun z20 hz20 => ?_)
              refine h_aload_n (pc' := 111) rfl rfl rfl ?_
              refine h_getR (pc' := 114) rfl rfl rfl rfl rfl ?_
              refine h_iload_n (pc' := 115) rfl rfl rfl ?_
              refine h_iconst (pc' := 116) (x := (Int32.ofInt (-1))) rfl rfl rfl ?_
              refine h_iast (pc' := 117) rfl rfl rfl rfl hz20 (by omega) (by omega) ci_m1 (h_fgt (E := fun s => s 106 0 = s0 106 0 ∧ s 106 1 = ((s0 106 1) + 1) ∧ s 106 2 = (-1) ∧ s 106 3 = s0 106 3 ∧ s 106 4 = s0 106 4 ∧ s 106 5 = s0 106 5 ∧ s 106 6 = s0 106 6) _ (in_106 Is19 (by omega)) (Fs19.up rfl) ⟨es19.1, es19.2.1, rfl, es19.2.2.2.1, es19.2.2.2.2.1, es19.2.2.2.2.2.1, es19.2.2.2.2.2.2⟩ (fun s21 Is21 Fs21 (es21 : s21 106 0 = s0 106 0 ∧ s21 106 1 = ((s0 106 1) + 1) ∧ s21 106 2 = (-1) ∧ s21 106 3 = s0 106 3 ∧ s21 106 4 = s0 106 4 ∧ s21 106 5 = s0 106 5 ∧ s21 106 6 = s0 106 6) => ?_))
              clear es19
              refine h_goto (pc' := 19) rfl rfl ?_
              have qz20 : z20 = (Int32.ofInt 2) := h_lit hz20 ci_2
              subst qz20
              exact h_wk [(0, .ref 98), (1, .int x0), (2, .int (Int32.ofInt 2))] ⟨rfl, rfl, rfl, trivial⟩ (ih.2.2.2.1 _ Is21 Fs21  (by omega) (by omega) (by omega) (h_ni (by omega)) (by omega))
            · refine h_iconst (pc' := 99) (x := (Int32.ofInt 1)) rfl rfl rfl ?_
              refine h_goto (pc' := 103) rfl rfl ?_
              refine h_iaddA (pc' := 104) rfl rfl (fun z22 hz22 => ?_)
              refine h_put (pc' := 107) rfl rfl rfl rfl rfl rfl rfl rfl (h_fgt (E := fun s => s 106 0 = s0 106 0 ∧ s 106 1 = ((s0 106 1) + 1) ∧ s 106 2 = s0 106 2 ∧ s 106 3 = s0 106 3 ∧ s 106 4 = s0 106 4 ∧ s 106 5 = s0 106 5 ∧ s 106 6 = s0 106 6) _ (if_98_27 Is4 (h_rgv rfl)) (Fs4.up rfl) ⟨es4.1, es4.2.1, es4.2.2.1, es4.2.2.2.1, es4.2.2.2.2.1, es4.2.2.2.2.2.1, es4.2.2.2.2.2.2⟩ (fun s23 Is23 Fs23 (es23 : s23 106 0 = s0 106 0 ∧ s23 106 1 = ((s0 106 1) + 1) ∧ s23 106 2 = s0 106 2 ∧ s23 106 3 = s0 106 3 ∧ s23 106 4 = s0 106 4 ∧ s23 106 5 = s0 106 5 ∧ s23 106 6 = s0 106 6) => ?_))
              refine h_iinc (pc' := 110) (b := 2) (M := fun z24 => [(2, .int z24), (0, .ref 98), (1, .int x0)]) rfl rfl rfl rfl ci_1 ci_1 rfl (by omega) (by omega) (fun _ => rfl) (fun z24 hz24 => ?_)
              refine h_aload_n (pc' := 111) rfl rfl rfl ?_
              refine h_getR (pc' := 114) rfl rfl rfl rfl rfl ?_
              refine h_iload_n (pc' := 115) rfl rfl rfl ?_
              refine h_iconst (pc' := 116) (x := (Int32.ofInt (-1))) rfl rfl rfl ?_
              refine h_iast (pc' := 117) rfl rfl rfl rfl hz24 (by omega) (by omega) ci_m1 (h_fgt (E := fun s => s 106 0 = s0 106 0 ∧ s 106 1 = ((s0 106 1) + 1) ∧ s 106 2 = (-1) ∧ s 106 3 = s0 106 3 ∧ s 106 4 = s0 106 4 ∧ s 106 5 = s0 106 5 ∧ s 106 6 = s0 106 6) _ (in_106 Is23 (by omega)) (Fs23.up rfl) ⟨es23.1, es23.2.1, rfl, es23.2.2.2.1, es23.2.2.2.2.1, es23.2.2.2.2.2.1, es23.2.2.2.2.2.2⟩ (fun s25 Is25 Fs25 (es25 : s25 106 0 = s0 106 0 ∧ s25 106 1 = ((s0 106 1) + 1) ∧ s25 106 2 = (-1) ∧ s25 106 3 = s0 106 3 ∧ s25 106 4 = s0 106 4 ∧ s25 106 5 = s0 106 5 ∧ s25 106 6 = s0 106 6) => ?_))
              clear es23
              refine h_goto (pc' := 19) rfl rfl ?_
              have qz24 : z24 = (Int32.ofInt 2) := h_lit hz24 ci_2
              subst qz24
              exact h_wk [(0, .ref 98), (1, .int x0), (2, .int (Int32.ofInt 2))] ⟨rfl, rfl, rfl, trivial⟩ (ih.2.2.2.1 _ Is25 Fs25  (by omega) (by omega) (by omega) (h_ni (by omega)) (by omega))
          · refine h_aload_n (pc' := 72) rfl rfl rfl ?_
            refine h_iload_n (pc' := 73) rfl rfl rfl ?_
            refine h_iconst (pc' := 74) (x := (Int32.ofInt 1)) rfl rfl rfl ?_
            refine h_iadd (pc' := 75) (c := 2) rfl rfl ci_1 ci_1 rfl (by omega) (by omega) (fun z26 hz26 => ?_)
            refine h_call (sp := false) (pc' := 78) (M := [(0, .ref 98), (1, .int z26)]) rfl rfl rfl rfl rfl rfl rfl rfl ?_
            refine v_keepsRow _ Is4 z26 _ hz26 (by omega) (fun s28 Is28 Gs28 ps28_0 ps28_1 ps28_2 ps28_3 ps28_4 ps28_5 ps28_6 => h_Kn ?_)
            have Fs28 := (Gs28.mono (B := kf_v_lines) rfl).tr Fs4
            have es28_0 : s28 106 0 = s0 106 0 := (Gs28 106 0 rfl).trans es4.1
            have es28_1 : s28 106 1 = ((s0 106 1) + 1) := (Gs28 106 1 rfl).trans es4.2.1
            have es28_2 : s28 106 2 = s0 106 2 := (Gs28 106 2 rfl).trans es4.2.2.1
            have es28_3 : s28 106 3 = s0 106 3 := (Gs28 106 3 rfl).trans es4.2.2.2.1
            have es28_4 : s28 106 4 = s0 106 4 := (Gs28 106 4 rfl).trans es4.2.2.2.2.1
            have es28_5 : s28 106 5 = s0 106 5 := (Gs28 106 5 rfl).trans es4.2.2.2.2.2.1
            have es28_6 : s28 106 6 = s0 106 6 := (Gs28 106 6 rfl).trans es4.2.2.2.2.2.2
            refine h_aload_n (pc' := 79) rfl rfl rfl ?_
            refine h_iconst (pc' := 80) (x := (Int32.ofInt 0)) rfl rfl rfl ?_
            refine h_put (pc' := 83) rfl rfl rfl rfl rfl rfl ci_0 rfl (h_fgt (E := fun s => s 106 0 = s0 106 0 ∧ s 106 1 = ((s0 106 1) + 1) ∧ s 106 2 = s0 106 2 ∧ s 106 3 = s0 106 3 ∧ s 106 4 = s0 106 4 ∧ s 106 5 = s0 106 5 ∧ s 106 6 = s0 106 6) _ (if_98_27 Is28 (h_rgv ci_0)) (Fs28.up rfl) ⟨es28_0, es28_1, es28_2, es28_3, es28_4, es28_5, es28_6⟩ (fun s29 Is29 Fs29 (es29 : s29 106 0 = s0 106 0 ∧ s29 106 1 = ((s0 106 1) + 1) ∧ s29 106 2 = s0 106 2 ∧ s29 106 3 = s0 106 3 ∧ s29 106 4 = s0 106 4 ∧ s29 106 5 = s0 106 5 ∧ s29 106 6 = s0 106 6) => ?_))
            clear es28_0 es28_1 es28_2 es28_3 es28_4 es28_5 es28_6
            refine h_aload_n (pc' := 84) rfl rfl rfl ?_
            refine h_dup (pc' := 85) rfl rfl rfl ?_
            refine h_getI (pc' := 88) (v := s29 98 27) rfl rfl rfl rfl rfl rfl (fun z30 hz30 => ?_)
            have tz30 := tf_98_27 Is29
            refine h_iload_n (pc' := 89) rfl rfl rfl ?_
            refine h_iconst (pc' := 90) (x := (Int32.ofInt 1)) rfl rfl rfl ?_
            refine h_iadd (pc' := 91) (c := 2) rfl rfl ci_1 ci_1 rfl (by omega) (by omega) (fun z31 hz31 => ?_)
            refine h_aload_n (pc' := 92) rfl rfl rfl ?_
            refine h_getI (pc' := 95) (v := s29 98 26) rfl rfl rfl rfl rfl rfl (fun z32 hz32 => ?_)
            have tz32 := tf_98_26 Is29
            refine h_cne (tg := 102) (pc' := 98) rfl rfl rfl hz31 hz32 (fun c33 => ?_) (fun c33 => ?_)
            · refine h_iconst (pc' := 103) (x := (Int32.ofInt 0)) rfl rfl rfl ?_
              refine h_iadd (pc' := 104) rfl rfl hz30 ci_0 rfl (by have g0 := h_rgv hz30; omega) (by have g0 := h_rgv hz30; omega) (fun z34 hz34 => ?_)
              refine h_put (pc' := 107) rfl rfl rfl rfl rfl rfl hz34 rfl (h_fgt (E := fun s => s 106 0 = s0 106 0 ∧ s 106 1 = ((s0 106 1) + 1) ∧ s 106 2 = s0 106 2 ∧ s 106 3 = s0 106 3 ∧ s 106 4 = s0 106 4 ∧ s 106 5 = s0 106 5 ∧ s 106 6 = s0 106 6) _ (if_98_27 Is29 (h_rgv hz34)) (Fs29.up rfl) ⟨es29.1, es29.2.1, es29.2.2.1, es29.2.2.2.1, es29.2.2.2.2.1, es29.2.2.2.2.2.1, es29.2.2.2.2.2.2⟩ (fun s35 Is35 Fs35 (es35 : s35 106 0 = s0 106 0 ∧ s35 106 1 = ((s0 106 1) + 1) ∧ s35 106 2 = s0 106 2 ∧ s35 106 3 = s0 106 3 ∧ s35 106 4 = s0 106 4 ∧ s35 106 5 = s0 106 5 ∧ s35 106 6 = s0 106 6) => ?_))
              clear es29
              refine h_iinc (pc' := 110) (b := 2) (M := fun z36 => [(2, .int z36), (0, .ref 98), (1, .int x0)]) rfl rfl rfl rfl ci_1 ci_1 rfl (by omega) (by omega) (fun _ => rfl) (fun z36 hz36 => ?_)
              refine h_aload_n (pc' := 111) rfl rfl rfl ?_
              refine h_getR (pc' := 114) rfl rfl rfl rfl rfl ?_
              refine h_iload_n (pc' := 115) rfl rfl rfl ?_
              refine h_iconst (pc' := 116) (x := (Int32.ofInt (-1))) rfl rfl rfl ?_
              refine h_iast (pc' := 117) rfl rfl rfl rfl hz36 (by omega) (by omega) ci_m1 (h_fgt (E := fun s => s 106 0 = s0 106 0 ∧ s 106 1 = ((s0 106 1) + 1) ∧ s 106 2 = (-1) ∧ s 106 3 = s0 106 3 ∧ s 106 4 = s0 106 4 ∧ s 106 5 = s0 106 5 ∧ s 106 6 = s0 106 6) _ (in_106 Is35 (by omega)) (Fs35.up rfl) ⟨es35.1, es35.2.1, rfl, es35.2.2.2.1, es35.2.2.2.2.1, es35.2.2.2.2.2.1, es35.2.2.2.2.2.2⟩ (fun s37 Is37 Fs37 (es37 : s37 106 0 = s0 106 0 ∧ s37 106 1 = ((s0 106 1) + 1) ∧ s37 106 2 = (-1) ∧ s37 106 3 = s0 106 3 ∧ s37 106 4 = s0 106 4 ∧ s37 106 5 = s0 106 5 ∧ s37 106 6 = s0 106 6) => ?_))
              clear es35
              refine h_goto (pc' := 19) rfl rfl ?_
              have qz36 : z36 = (Int32.ofInt 2) := h_lit hz36 ci_2
              subst qz36
              exact h_wk [(0, .ref 98), (1, .int x0), (2, .int (Int32.ofInt 2))] ⟨rfl, rfl, rfl, trivial⟩ (ih.2.2.2.1 _ Is37 Fs37  (by omega) (by omega) (by omega) (h_ni (by omega)) (by omega))
            · refine h_iconst (pc' := 99) (x := (Int32.ofInt 1)) rfl rfl rfl ?_
              refine h_goto (pc' := 103) rfl rfl ?_
              refine h_iaddA (pc' := 104) rfl rfl (fun z38 hz38 => ?_)
              refine h_put (pc' := 107) rfl rfl rfl rfl rfl rfl rfl rfl (h_fgt (E := fun s => s 106 0 = s0 106 0 ∧ s 106 1 = ((s0 106 1) + 1) ∧ s 106 2 = s0 106 2 ∧ s 106 3 = s0 106 3 ∧ s 106 4 = s0 106 4 ∧ s 106 5 = s0 106 5 ∧ s 106 6 = s0 106 6) _ (if_98_27 Is29 (h_rgv rfl)) (Fs29.up rfl) ⟨es29.1, es29.2.1, es29.2.2.1, es29.2.2.2.1, es29.2.2.2.2.1, es29.2.2.2.2.2.1, es29.2.2.2.2.2.2⟩ (fun s39 Is39 Fs39 (es39 : s39 106 0 = s0 106 0 ∧ s39 106 1 = ((s0 106 1) + 1) ∧ s39 106 2 = s0 106 2 ∧ s39 106 3 = s0 106 3 ∧ s39 106 4 = s0 106 4 ∧ s39 106 5 = s0 106 5 ∧ s39 106 6 = s0 106 6) => ?_))
              clear es29
              refine h_iinc (pc' := 110) (b := 2) (M := fun z40 => [(2, .int z40), (0, .ref 98), (1, .int x0)]) rfl rfl rfl rfl ci_1 ci_1 rfl (by omega) (by omega) (fun _ => rfl) (fun z40 hz40 => ?_)
              refine h_aload_n (pc' := 111) rfl rfl rfl ?_
              refine h_getR (pc' := 114) rfl rfl rfl rfl rfl ?_
              refine h_iload_n (pc' := 115) rfl rfl rfl ?_
              refine h_iconst (pc' := 116) (x := (Int32.ofInt (-1))) rfl rfl rfl ?_
              refine h_iast (pc' := 117) rfl rfl rfl rfl hz40 (by omega) (by omega) ci_m1 (h_fgt (E := fun s => s 106 0 = s0 106 0 ∧ s 106 1 = ((s0 106 1) + 1) ∧ s 106 2 = (-1) ∧ s 106 3 = s0 106 3 ∧ s 106 4 = s0 106 4 ∧ s 106 5 = s0 106 5 ∧ s 106 6 = s0 106 6) _ (in_106 Is39 (by omega)) (Fs39.up rfl) ⟨es39.1, es39.2.1, rfl, es39.2.2.2.1, es39.2.2.2.2.1, es39.2.2.2.2.2.1, es39.2.2.2.2.2.2⟩ (fun s41 Is41 Fs41 (es41 : s41 106 0 = s0 106 0 ∧ s41 106 1 = ((s0 106 1) + 1) ∧ s41 106 2 = (-1) ∧ s41 106 3 = s0 106 3 ∧ s41 106 4 = s0 106 4 ∧ s41 106 5 = s0 106 5 ∧ s41 106 6 = s0 106 6) => ?_))
              clear es39
              refine h_goto (pc' := 19) rfl rfl ?_
              have qz40 : z40 = (Int32.ofInt 2) := h_lit hz40 ci_2
              subst qz40
              exact h_wk [(0, .ref 98), (1, .int x0), (2, .int (Int32.ofInt 2))] ⟨rfl, rfl, rfl, trivial⟩ (ih.2.2.2.1 _ Is41 Fs41  (by omega) (by omega) (by omega) (h_ni (by omega)) (by omega))
      · refine h_iinc (pc' := 49) (b := 0) (M := fun z42 => [(2, .int z42), (0, .ref 98), (1, .int x0)]) rfl rfl rfl rfl ci_1 ci_m1 rfl (by omega) (by omega) (fun _ => rfl) (fun z42 hz42 => ?_)
        refine h_goto (pc' := 19) rfl rfl ?_
        have qz42 : z42 = (Int32.ofInt 0) := h_lit hz42 ci_0
        subst qz42
        exact h_wk [(0, .ref 98), (1, .int x0), (2, .int (Int32.ofInt 0))] ⟨rfl, rfl, rfl, trivial⟩ (ih.2.1 _ Is4 Fs4  (by omega) (by omega))
    · intro s0 I0 F0_ ex0 ex1 ex2 ex3 hm
      refine h_iload_n (pc' := 20) rfl rfl rfl ?_
      refine h_zlt (tg := 120) (pc' := 23) rfl rfl rfl ci_2 (fun c1 => absurd c1 (by omega)) (fun c1 => ?_)
      refine h_aload_n (pc' := 24) rfl rfl rfl ?_
      refine h_getR (pc' := 27) rfl rfl rfl rfl rfl ?_
      refine h_iload_n (pc' := 28) rfl rfl rfl ?_
      refine h_dup2 (pc' := 29) rfl rfl rfl ?_
      refine h_iald (pc' := 30) (v := s0 106 2) rfl rfl rfl ci_2 (by omega) (by omega) rfl (fun z2 hz2 => ?_)
      have tz2 := ty_106 I0 2
      refine h_iconst (pc' := 31) (x := (Int32.ofInt 1)) rfl rfl rfl ?_
      refine h_iadd (pc' := 32) rfl rfl hz2 ci_1 rfl (by omega) (by omega) (fun z3 hz3 => ?_)
      refine h_iast (pc' := 33) rfl rfl rfl rfl ci_2 (by omega) (by omega) hz3 (h_fgt (E := fun s => s 106 0 = s0 106 0 ∧ s 106 1 = s0 106 1 ∧ s 106 2 = ((s0 106 2) + 1) ∧ s 106 3 = s0 106 3 ∧ s 106 4 = s0 106 4 ∧ s 106 5 = s0 106 5 ∧ s 106 6 = s0 106 6) _ (in_106 I0 (by omega)) (F0_.up rfl) ⟨rfl, rfl, rfl, rfl, rfl, rfl, rfl⟩ (fun s4 Is4 Fs4 (es4 : s4 106 0 = s0 106 0 ∧ s4 106 1 = s0 106 1 ∧ s4 106 2 = ((s0 106 2) + 1) ∧ s4 106 3 = s0 106 3 ∧ s4 106 4 = s0 106 4 ∧ s4 106 5 = s0 106 5 ∧ s4 106 6 = s0 106 6) => ?_))
      refine h_aload_n (pc' := 34) rfl rfl rfl ?_
      refine h_getR (pc' := 37) rfl rfl rfl rfl rfl ?_
      refine h_iload_n (pc' := 38) rfl rfl rfl ?_
      refine h_iald (pc' := 39) (v := ((s0 106 2) + 1)) rfl rfl rfl ci_2 (by omega) (by omega) es4.2.2.1 (fun z5 hz5 => ?_)
      refine h_aload_n (pc' := 40) rfl rfl rfl ?_
      refine h_getI (pc' := 43) (v := σ 98 1) rfl rfl rfl rfl rfl (Fs4 98 1 rfl) (fun z6 hz6 => ?_)
      have tz6 := tf_98_1 hI
      refine h_clt (tg := 52) (pc' := 46) rfl rfl rfl hz5 hz6 (fun c7 => ?_) (fun c7 => ?_)
      · refine h_aload_n (pc' := 53) rfl rfl rfl ?_
        refine h_iload_n (pc' := 54) rfl rfl rfl ?_
        refine h_iload_n (pc' := 55) rfl rfl rfl ?_
        refine h_call (sp := false) (pc' := 58) (M := [(0, .ref 98), (1, .int x0), (2, .int (Int32.ofInt 2))]) rfl rfl rfl rfl rfl rfl rfl rfl ?_
        refine v_stands2 _ Is4 x0 _ hx0 (by omega)  (by omega) (by omega) (fun r8 br8 hr8 tr8 ps9_0 ps9_1 => h_Kv ?_)
        refine h_zeq (tg := 19) (pc' := 61) rfl rfl rfl hr8 (fun c10 => ?_) (fun c10 => ?_)
        · exact h_wk [(0, .ref 98), (1, .int x0), (2, .int (Int32.ofInt 2))] ⟨rfl, rfl, rfl, trivial⟩ (ih.2.2.2.1 _ Is4 Fs4  (by omega) (by omega) (by omega) (h_nf ex3 (by omega) (by omega)) (by omega))
        · refine h_iload_n (pc' := 62) rfl rfl rfl ?_
          refine h_iconst (pc' := 63) (x := (Int32.ofInt 1)) rfl rfl rfl ?_
          refine h_iadd (pc' := 64) (c := 3) rfl rfl ci_2 ci_1 rfl (by omega) (by omega) (fun z11 hz11 => ?_)
          refine h_aload_n (pc' := 65) rfl rfl rfl ?_
          refine h_getI (pc' := 68) (v := s4 98 26) rfl rfl rfl rfl rfl rfl (fun z12 hz12 => ?_)
          have tz12 := tf_98_26 Is4
          refine h_cle (tg := 83) (pc' := 71) rfl rfl rfl hz11 hz12 (fun c13 => ?_) (fun c13 => ?_)
          · refine h_aload_n (pc' := 84) rfl rfl rfl ?_
            refine h_dup (pc' := 85) rfl rfl rfl ?_
            refine h_getI (pc' := 88) (v := s4 98 27) rfl rfl rfl rfl rfl rfl (fun z14 hz14 => ?_)
            have tz14 := tf_98_27 Is4
            refine h_iload_n (pc' := 89) rfl rfl rfl ?_
            refine h_iconst (pc' := 90) (x := (Int32.ofInt 1)) rfl rfl rfl ?_
            refine h_iadd (pc' := 91) (c := 3) rfl rfl ci_2 ci_1 rfl (by omega) (by omega) (fun z15 hz15 => ?_)
            refine h_aload_n (pc' := 92) rfl rfl rfl ?_
            refine h_getI (pc' := 95) (v := s4 98 26) rfl rfl rfl rfl rfl rfl (fun z16 hz16 => ?_)
            have tz16 := tf_98_26 Is4
            refine h_cne (tg := 102) (pc' := 98) rfl rfl rfl hz15 hz16 (fun c17 => ?_) (fun c17 => ?_)
            · refine h_iconst (pc' := 103) (x := (Int32.ofInt 0)) rfl rfl rfl ?_
              refine h_iadd (pc' := 104) rfl rfl hz14 ci_0 rfl (by have g0 := h_rgv hz14; omega) (by have g0 := h_rgv hz14; omega) (fun z18 hz18 => ?_)
              refine h_put (pc' := 107) rfl rfl rfl rfl rfl rfl hz18 rfl (h_fgt (E := fun s => s 106 0 = s0 106 0 ∧ s 106 1 = s0 106 1 ∧ s 106 2 = ((s0 106 2) + 1) ∧ s 106 3 = s0 106 3 ∧ s 106 4 = s0 106 4 ∧ s 106 5 = s0 106 5 ∧ s 106 6 = s0 106 6) _ (if_98_27 Is4 (h_rgv hz18)) (Fs4.up rfl) ⟨es4.1, es4.2.1, es4.2.2.1, es4.2.2.2.1, es4.2.2.2.2.1, es4.2.2.2.2.2.1, es4.2.2.2.2.2.2⟩ (fun s19 Is19 Fs19 (es19 : s19 106 0 = s0 106 0 ∧ s19 106 1 = s0 106 1 ∧ s19 106 2 = ((s0 106 2) + 1) ∧ s19 106 3 = s0 106 3 ∧ s19 106 4 = s0 106 4 ∧ s19 106 5 = s0 106 5 ∧ s19 106 6 = s0 106 6) => ?_))
              refine h_iinc (pc' := 110) (b := 3) (M := fun z20 => [(2, .int z20), (0, .ref 98), (1, .int x0)]) rfl rfl rfl rfl ci_2 ci_1 rfl (by omega) (by omega) (fun _ => rfl) (fun z20 hz20 => ?_)
              refine h_aload_n (pc' := 111) rfl rfl rfl ?_
              refine h_getR (pc' := 114) rfl rfl rfl rfl rfl ?_
              refine h_iload_n (pc' := 115) rfl rfl rfl ?_
              refine h_iconst (pc' := 116) (x := (Int32.ofInt (-1))) rfl rfl rfl ?_
              refine h_iast (pc' := 117) rfl rfl rfl rfl hz20 (by omega) (by omega) ci_m1 (h_fgt (E := fun s => s 106 0 = s0 106 0 ∧ s 106 1 = s0 106 1 ∧ s 106 2 = ((s0 106 2) + 1) ∧ s 106 3 = (-1) ∧ s 106 4 = s0 106 4 ∧ s 106 5 = s0 106 5 ∧ s 106 6 = s0 106 6) _ (in_106 Is19 (by omega)) (Fs19.up rfl) ⟨es19.1, es19.2.1, es19.2.2.1, rfl, es19.2.2.2.2.1, es19.2.2.2.2.2.1, es19.2.2.2.2.2.2⟩ (fun s21 Is21 Fs21 (es21 : s21 106 0 = s0 106 0 ∧ s21 106 1 = s0 106 1 ∧ s21 106 2 = ((s0 106 2) + 1) ∧ s21 106 3 = (-1) ∧ s21 106 4 = s0 106 4 ∧ s21 106 5 = s0 106 5 ∧ s21 106 6 = s0 106 6) => ?_))
              clear es19
              refine h_goto (pc' := 19) rfl rfl ?_
              have qz20 : z20 = (Int32.ofInt 3) := h_lit hz20 ci_3
              subst qz20
              exact h_wk [(0, .ref 98), (1, .int x0), (2, .int (Int32.ofInt 3))] ⟨rfl, rfl, rfl, trivial⟩ (ih.2.2.2.2.1 _ Is21 Fs21  (by omega) (by omega) (by omega) (by omega) (h_nf ex3 (by omega) (by omega)) (h_ni (by omega)) (h_ni (by omega)) (by omega))
            · refine h_iconst (pc' := 99) (x := (Int32.ofInt 1)) rfl rfl rfl ?_
              refine h_goto (pc' := 103) rfl rfl ?_
              refine h_iaddA (pc' := 104) rfl rfl (fun z22 hz22 => ?_)
              refine h_put (pc' := 107) rfl rfl rfl rfl rfl rfl rfl rfl (h_fgt (E := fun s => s 106 0 = s0 106 0 ∧ s 106 1 = s0 106 1 ∧ s 106 2 = ((s0 106 2) + 1) ∧ s 106 3 = s0 106 3 ∧ s 106 4 = s0 106 4 ∧ s 106 5 = s0 106 5 ∧ s 106 6 = s0 106 6) _ (if_98_27 Is4 (h_rgv rfl)) (Fs4.up rfl) ⟨es4.1, es4.2.1, es4.2.2.1, es4.2.2.2.1, es4.2.2.2.2.1, es4.2.2.2.2.2.1, es4.2.2.2.2.2.2⟩ (fun s23 Is23 Fs23 (es23 : s23 106 0 = s0 106 0 ∧ s23 106 1 = s0 106 1 ∧ s23 106 2 = ((s0 106 2) + 1) ∧ s23 106 3 = s0 106 3 ∧ s23 106 4 = s0 106 4 ∧ s23 106 5 = s0 106 5 ∧ s23 106 6 = s0 106 6) => ?_))
              refine h_iinc (pc' := 110) (b := 3) (M := fun z24 => [(2, .int z24), (0, .ref 98), (1, .int x0)]) rfl rfl rfl rfl ci_2 ci_1 rfl (by omega) (by omega) (fun _ => rfl) (fun z24 hz24 => ?_)
              refine h_aload_n (pc' := 111) rfl rfl rfl ?_
              refine h_getR (pc' := 114) rfl rfl rfl rfl rfl ?_
              refine h_iload_n (pc' := 115) rfl rfl rfl ?_
              refine h_iconst (pc' := 116) (x := (Int32.ofInt (-1))) rfl rfl rfl ?_
              refine h_iast (pc' := 117) rfl rfl rfl rfl hz24 (by omega) (by omega) ci_m1 (h_fgt (E := fun s => s 106 0 = s0 106 0 ∧ s 106 1 = s0 106 1 ∧ s 106 2 = ((s0 106 2) + 1) ∧ s 106 3 = (-1) ∧ s 106 4 = s0 106 4 ∧ s 106 5 = s0 106 5 ∧ s 106 6 = s0 106 6) _ (in_106 Is23 (by omega)) (Fs23.up rfl) ⟨es23.1, es23.2.1, es23.2.2.1, rfl, es23.2.2.2.2.1, es23.2.2.2.2.2.1, es23.2.2.2.2.2.2⟩ (fun s25 Is25 Fs25 (es25 : s25 106 0 = s0 106 0 ∧ s25 106 1 = s0 106 1 ∧ s25 106 2 = ((s0 106 2) + 1) ∧ s25 106 3 = (-1) ∧ s25 106 4 = s0 106 4 ∧ s25 106 5 = s0 106 5 ∧ s25 106 6 = s0 106 6) => ?_))
              clear es23
              refine h_goto (pc' := 19) rfl rfl ?_
              have qz24 : z24 = (Int32.ofInt 3) := h_lit hz24 ci_3
              subst qz24
              exact h_wk [(0, .ref 98), (1, .int x0), (2, .int (Int32.ofInt 3))] ⟨rfl, rfl, rfl, trivial⟩ (ih.2.2.2.2.1 _ Is25 Fs25  (by omega) (by omega) (by omega) (by omega) (h_nf ex3 (by omega) (by omega)) (h_ni (by omega)) (h_ni (by omega)) (by omega))
          · refine h_aload_n (pc' := 72) rfl rfl rfl ?_
            refine h_iload_n (pc' := 73) rfl rfl rfl ?_
            refine h_iconst (pc' := 74) (x := (Int32.ofInt 1)) rfl rfl rfl ?_
            refine h_iadd (pc' := 75) (c := 3) rfl rfl ci_2 ci_1 rfl (by omega) (by omega) (fun z26 hz26 => ?_)
            refine h_call (sp := false) (pc' := 78) (M := [(0, .ref 98), (1, .int z26)]) rfl rfl rfl rfl rfl rfl rfl rfl ?_
            refine v_keepsRow _ Is4 z26 _ hz26 (by omega) (fun s28 Is28 Gs28 ps28_0 ps28_1 ps28_2 ps28_3 ps28_4 ps28_5 ps28_6 => h_Kn ?_)
            have Fs28 := (Gs28.mono (B := kf_v_lines) rfl).tr Fs4
            have es28_0 : s28 106 0 = s0 106 0 := (Gs28 106 0 rfl).trans es4.1
            have es28_1 : s28 106 1 = s0 106 1 := (Gs28 106 1 rfl).trans es4.2.1
            have es28_2 : s28 106 2 = ((s0 106 2) + 1) := (Gs28 106 2 rfl).trans es4.2.2.1
            have es28_3 : s28 106 3 = s0 106 3 := (Gs28 106 3 rfl).trans es4.2.2.2.1
            have es28_4 : s28 106 4 = s0 106 4 := (Gs28 106 4 rfl).trans es4.2.2.2.2.1
            have es28_5 : s28 106 5 = s0 106 5 := (Gs28 106 5 rfl).trans es4.2.2.2.2.2.1
            have es28_6 : s28 106 6 = s0 106 6 := (Gs28 106 6 rfl).trans es4.2.2.2.2.2.2
            refine h_aload_n (pc' := 79) rfl rfl rfl ?_
            refine h_iconst (pc' := 80) (x := (Int32.ofInt 0)) rfl rfl rfl ?_
            refine h_put (pc' := 83) rfl rfl rfl rfl rfl rfl ci_0 rfl (h_fgt (E := fun s => s 106 0 = s0 106 0 ∧ s 106 1 = s0 106 1 ∧ s 106 2 = ((s0 106 2) + 1) ∧ s 106 3 = s0 106 3 ∧ s 106 4 = s0 106 4 ∧ s 106 5 = s0 106 5 ∧ s 106 6 = s0 106 6) _ (if_98_27 Is28 (h_rgv ci_0)) (Fs28.up rfl) ⟨es28_0, es28_1, es28_2, es28_3, es28_4, es28_5, es28_6⟩ (fun s29 Is29 Fs29 (es29 : s29 106 0 = s0 106 0 ∧ s29 106 1 = s0 106 1 ∧ s29 106 2 = ((s0 106 2) + 1) ∧ s29 106 3 = s0 106 3 ∧ s29 106 4 = s0 106 4 ∧ s29 106 5 = s0 106 5 ∧ s29 106 6 = s0 106 6) => ?_))
            clear es28_0 es28_1 es28_2 es28_3 es28_4 es28_5 es28_6
            refine h_aload_n (pc' := 84) rfl rfl rfl ?_
            refine h_dup (pc' := 85) rfl rfl rfl ?_
            refine h_getI (pc' := 88) (v := s29 98 27) rfl rfl rfl rfl rfl rfl (fun z30 hz30 => ?_)
            have tz30 := tf_98_27 Is29
            refine h_iload_n (pc' := 89) rfl rfl rfl ?_
            refine h_iconst (pc' := 90) (x := (Int32.ofInt 1)) rfl rfl rfl ?_
            refine h_iadd (pc' := 91) (c := 3) rfl rfl ci_2 ci_1 rfl (by omega) (by omega) (fun z31 hz31 => ?_)
            refine h_aload_n (pc' := 92) rfl rfl rfl ?_
            refine h_getI (pc' := 95) (v := s29 98 26) rfl rfl rfl rfl rfl rfl (fun z32 hz32 => ?_)
            have tz32 := tf_98_26 Is29
            refine h_cne (tg := 102) (pc' := 98) rfl rfl rfl hz31 hz32 (fun c33 => ?_) (fun c33 => ?_)
            · refine h_iconst (pc' := 103) (x := (Int32.ofInt 0)) rfl rfl rfl ?_
              refine h_iadd (pc' := 104) rfl rfl hz30 ci_0 rfl (by have g0 := h_rgv hz30; omega) (by have g0 := h_rgv hz30; omega) (fun z34 hz34 => ?_)
              refine h_put (pc' := 107) rfl rfl rfl rfl rfl rfl hz34 rfl (h_fgt (E := fun s => s 106 0 = s0 106 0 ∧ s 106 1 = s0 106 1 ∧ s 106 2 = ((s0 106 2) + 1) ∧ s 106 3 = s0 106 3 ∧ s 106 4 = s0 106 4 ∧ s 106 5 = s0 106 5 ∧ s 106 6 = s0 106 6) _ (if_98_27 Is29 (h_rgv hz34)) (Fs29.up rfl) ⟨es29.1, es29.2.1, es29.2.2.1, es29.2.2.2.1, es29.2.2.2.2.1, es29.2.2.2.2.2.1, es29.2.2.2.2.2.2⟩ (fun s35 Is35 Fs35 (es35 : s35 106 0 = s0 106 0 ∧ s35 106 1 = s0 106 1 ∧ s35 106 2 = ((s0 106 2) + 1) ∧ s35 106 3 = s0 106 3 ∧ s35 106 4 = s0 106 4 ∧ s35 106 5 = s0 106 5 ∧ s35 106 6 = s0 106 6) => ?_))
              clear es29
              refine h_iinc (pc' := 110) (b := 3) (M := fun z36 => [(2, .int z36), (0, .ref 98), (1, .int x0)]) rfl rfl rfl rfl ci_2 ci_1 rfl (by omega) (by omega) (fun _ => rfl) (fun z36 hz36 => ?_)
              refine h_aload_n (pc' := 111) rfl rfl rfl ?_
              refine h_getR (pc' := 114) rfl rfl rfl rfl rfl ?_
              refine h_iload_n (pc' := 115) rfl rfl rfl ?_
              refine h_iconst (pc' := 116) (x := (Int32.ofInt (-1))) rfl rfl rfl ?_
              refine h_iast (pc' := 117) rfl rfl rfl rfl hz36 (by omega) (by omega) ci_m1 (h_fgt (E := fun s => s 106 0 = s0 106 0 ∧ s 106 1 = s0 106 1 ∧ s 106 2 = ((s0 106 2) + 1) ∧ s 106 3 = (-1) ∧ s 106 4 = s0 106 4 ∧ s 106 5 = s0 106 5 ∧ s 106 6 = s0 106 6) _ (in_106 Is35 (by omega)) (Fs35.up rfl) ⟨es35.1, es35.2.1, es35.2.2.1, rfl, es35.2.2.2.2.1, es35.2.2.2.2.2.1, es35.2.2.2.2.2.2⟩ (fun s37 Is37 Fs37 (es37 : s37 106 0 = s0 106 0 ∧ s37 106 1 = s0 106 1 ∧ s37 106 2 = ((s0 106 2) + 1) ∧ s37 106 3 = (-1) ∧ s37 106 4 = s0 106 4 ∧ s37 106 5 = s0 106 5 ∧ s37 106 6 = s0 106 6) => ?_))
              clear es35
              refine h_goto (pc' := 19) rfl rfl ?_
              have qz36 : z36 = (Int32.ofInt 3) := h_lit hz36 ci_3
              subst qz36
              exact h_wk [(0, .ref 98), (1, .int x0), (2, .int (Int32.ofInt 3))] ⟨rfl, rfl, rfl, trivial⟩ (ih.2.2.2.2.1 _ Is37 Fs37  (by omega) (by omega) (by omega) (by omega) (h_nf ex3 (by omega) (by omega)) (h_ni (by omega)) (h_ni (by omega)) (by omega))
            · refine h_iconst (pc' := 99) (x := (Int32.ofInt 1)) rfl rfl rfl ?_
              refine h_goto (pc' := 103) rfl rfl ?_
              refine h_iaddA (pc' := 104) rfl rfl (fun z38 hz38 => ?_)
              refine h_put (pc' := 107) rfl rfl rfl rfl rfl rfl rfl rfl (h_fgt (E := fun s => s 106 0 = s0 106 0 ∧ s 106 1 = s0 106 1 ∧ s 106 2 = ((s0 106 2) + 1) ∧ s 106 3 = s0 106 3 ∧ s 106 4 = s0 106 4 ∧ s 106 5 = s0 106 5 ∧ s 106 6 = s0 106 6) _ (if_98_27 Is29 (h_rgv rfl)) (Fs29.up rfl) ⟨es29.1, es29.2.1, es29.2.2.1, es29.2.2.2.1, es29.2.2.2.2.1, es29.2.2.2.2.2.1, es29.2.2.2.2.2.2⟩ (fun s39 Is39 Fs39 (es39 : s39 106 0 = s0 106 0 ∧ s39 106 1 = s0 106 1 ∧ s39 106 2 = ((s0 106 2) + 1) ∧ s39 106 3 = s0 106 3 ∧ s39 106 4 = s0 106 4 ∧ s39 106 5 = s0 106 5 ∧ s39 106 6 = s0 106 6) => ?_))
              clear es29
              refine h_iinc (pc' := 110) (b := 3) (M := fun z40 => [(2, .int z40), (0, .ref 98), (1, .int x0)]) rfl rfl rfl rfl ci_2 ci_1 rfl (by omega) (by omega) (fun _ => rfl) (fun z40 hz40 => ?_)
              refine h_aload_n (pc' := 111) rfl rfl rfl ?_
              refine h_getR (pc' := 114) rfl rfl rfl rfl rfl ?_
              refine h_iload_n (pc' := 115) rfl rfl rfl ?_
              refine h_iconst (pc' := 116) (x := (Int32.ofInt (-1))) rfl rfl rfl ?_
              refine h_iast (pc' := 117) rfl rfl rfl rfl hz40 (by omega) (by omega) ci_m1 (h_fgt (E := fun s => s 106 0 = s0 106 0 ∧ s 106 1 = s0 106 1 ∧ s 106 2 = ((s0 106 2) + 1) ∧ s 106 3 = (-1) ∧ s 106 4 = s0 106 4 ∧ s 106 5 = s0 106 5 ∧ s 106 6 = s0 106 6) _ (in_106 Is39 (by omega)) (Fs39.up rfl) ⟨es39.1, es39.2.1, es39.2.2.1, rfl, es39.2.2.2.2.1, es39.2.2.2.2.2.1, es39.2.2.2.2.2.2⟩ (fun s41 Is41 Fs41 (es41 : s41 106 0 = s0 106 0 ∧ s41 106 1 = s0 106 1 ∧ s41 106 2 = ((s0 106 2) + 1) ∧ s41 106 3 = (-1) ∧ s41 106 4 = s0 106 4 ∧ s41 106 5 = s0 106 5 ∧ s41 106 6 = s0 106 6) => ?_))
              clear es39
              refine h_goto (pc' := 19) rfl rfl ?_
              have qz40 : z40 = (Int32.ofInt 3) := h_lit hz40 ci_3
              subst qz40
              exact h_wk [(0, .ref 98), (1, .int x0), (2, .int (Int32.ofInt 3))] ⟨rfl, rfl, rfl, trivial⟩ (ih.2.2.2.2.1 _ Is41 Fs41  (by omega) (by omega) (by omega) (by omega) (h_nf ex3 (by omega) (by omega)) (h_ni (by omega)) (h_ni (by omega)) (by omega))
      · refine h_iinc (pc' := 49) (b := 1) (M := fun z42 => [(2, .int z42), (0, .ref 98), (1, .int x0)]) rfl rfl rfl rfl ci_2 ci_m1 rfl (by omega) (by omega) (fun _ => rfl) (fun z42 hz42 => ?_)
        refine h_goto (pc' := 19) rfl rfl ?_
        have qz42 : z42 = (Int32.ofInt 1) := h_lit hz42 ci_1
        subst qz42
        exact h_wk [(0, .ref 98), (1, .int x0), (2, .int (Int32.ofInt 1))] ⟨rfl, rfl, rfl, trivial⟩ (ih.2.2.1 _ Is4 Fs4  (by omega) (by omega) (by omega))
    · intro s0 I0 F0_ ex0 ex1 ex2 ex3 ex4 ex5 ex6 hm
      refine h_iload_n (pc' := 20) rfl rfl rfl ?_
      refine h_zlt (tg := 120) (pc' := 23) rfl rfl rfl ci_3 (fun c1 => absurd c1 (by omega)) (fun c1 => ?_)
      refine h_aload_n (pc' := 24) rfl rfl rfl ?_
      refine h_getR (pc' := 27) rfl rfl rfl rfl rfl ?_
      refine h_iload_n (pc' := 28) rfl rfl rfl ?_
      refine h_dup2 (pc' := 29) rfl rfl rfl ?_
      refine h_iald (pc' := 30) (v := s0 106 3) rfl rfl rfl ci_3 (by omega) (by omega) rfl (fun z2 hz2 => ?_)
      have tz2 := ty_106 I0 3
      refine h_iconst (pc' := 31) (x := (Int32.ofInt 1)) rfl rfl rfl ?_
      refine h_iadd (pc' := 32) rfl rfl hz2 ci_1 rfl (by omega) (by omega) (fun z3 hz3 => ?_)
      refine h_iast (pc' := 33) rfl rfl rfl rfl ci_3 (by omega) (by omega) hz3 (h_fgt (E := fun s => s 106 0 = s0 106 0 ∧ s 106 1 = s0 106 1 ∧ s 106 2 = s0 106 2 ∧ s 106 3 = ((s0 106 3) + 1) ∧ s 106 4 = s0 106 4 ∧ s 106 5 = s0 106 5 ∧ s 106 6 = s0 106 6) _ (in_106 I0 (by omega)) (F0_.up rfl) ⟨rfl, rfl, rfl, rfl, rfl, rfl, rfl⟩ (fun s4 Is4 Fs4 (es4 : s4 106 0 = s0 106 0 ∧ s4 106 1 = s0 106 1 ∧ s4 106 2 = s0 106 2 ∧ s4 106 3 = ((s0 106 3) + 1) ∧ s4 106 4 = s0 106 4 ∧ s4 106 5 = s0 106 5 ∧ s4 106 6 = s0 106 6) => ?_))
      refine h_aload_n (pc' := 34) rfl rfl rfl ?_
      refine h_getR (pc' := 37) rfl rfl rfl rfl rfl ?_
      refine h_iload_n (pc' := 38) rfl rfl rfl ?_
      refine h_iald (pc' := 39) (v := ((s0 106 3) + 1)) rfl rfl rfl ci_3 (by omega) (by omega) es4.2.2.2.1 (fun z5 hz5 => ?_)
      refine h_aload_n (pc' := 40) rfl rfl rfl ?_
      refine h_getI (pc' := 43) (v := σ 98 1) rfl rfl rfl rfl rfl (Fs4 98 1 rfl) (fun z6 hz6 => ?_)
      have tz6 := tf_98_1 hI
      refine h_clt (tg := 52) (pc' := 46) rfl rfl rfl hz5 hz6 (fun c7 => ?_) (fun c7 => ?_)
      · refine h_aload_n (pc' := 53) rfl rfl rfl ?_
        refine h_iload_n (pc' := 54) rfl rfl rfl ?_
        refine h_iload_n (pc' := 55) rfl rfl rfl ?_
        refine h_call (sp := false) (pc' := 58) (M := [(0, .ref 98), (1, .int x0), (2, .int (Int32.ofInt 3))]) rfl rfl rfl rfl rfl rfl rfl rfl ?_
        refine v_stands3 _ Is4 x0 _ hx0 (by omega)  (by omega) (by omega) (fun r8 br8 hr8 tr8 ps9_0 ps9_1 ps9_2 => h_Kv ?_)
        refine h_zeq (tg := 19) (pc' := 61) rfl rfl rfl hr8 (fun c10 => ?_) (fun c10 => ?_)
        · exact h_wk [(0, .ref 98), (1, .int x0), (2, .int (Int32.ofInt 3))] ⟨rfl, rfl, rfl, trivial⟩ (ih.2.2.2.2.1 _ Is4 Fs4  (by omega) (by omega) (by omega) (by omega) (h_nf ex4 (by omega) (by omega)) (h_nf ex5 (by omega) (by omega)) (h_nf ex6 (by omega) (by omega)) (by omega))
        · refine h_iload_n (pc' := 62) rfl rfl rfl ?_
          refine h_iconst (pc' := 63) (x := (Int32.ofInt 1)) rfl rfl rfl ?_
          refine h_iadd (pc' := 64) (c := 4) rfl rfl ci_3 ci_1 rfl (by omega) (by omega) (fun z11 hz11 => ?_)
          refine h_aload_n (pc' := 65) rfl rfl rfl ?_
          refine h_getI (pc' := 68) (v := s4 98 26) rfl rfl rfl rfl rfl rfl (fun z12 hz12 => ?_)
          have tz12 := tf_98_26 Is4
          refine h_cle (tg := 83) (pc' := 71) rfl rfl rfl hz11 hz12 (fun c13 => ?_) (fun c13 => ?_)
          · refine h_aload_n (pc' := 84) rfl rfl rfl ?_
            refine h_dup (pc' := 85) rfl rfl rfl ?_
            refine h_getI (pc' := 88) (v := s4 98 27) rfl rfl rfl rfl rfl rfl (fun z14 hz14 => ?_)
            have tz14 := tf_98_27 Is4
            refine h_iload_n (pc' := 89) rfl rfl rfl ?_
            refine h_iconst (pc' := 90) (x := (Int32.ofInt 1)) rfl rfl rfl ?_
            refine h_iadd (pc' := 91) (c := 4) rfl rfl ci_3 ci_1 rfl (by omega) (by omega) (fun z15 hz15 => ?_)
            refine h_aload_n (pc' := 92) rfl rfl rfl ?_
            refine h_getI (pc' := 95) (v := s4 98 26) rfl rfl rfl rfl rfl rfl (fun z16 hz16 => ?_)
            have tz16 := tf_98_26 Is4
            refine h_cne (tg := 102) (pc' := 98) rfl rfl rfl hz15 hz16 (fun c17 => ?_) (fun c17 => ?_)
            · refine h_iconst (pc' := 103) (x := (Int32.ofInt 0)) rfl rfl rfl ?_
              refine h_iadd (pc' := 104) rfl rfl hz14 ci_0 rfl (by have g0 := h_rgv hz14; omega) (by have g0 := h_rgv hz14; omega) (fun z18 hz18 => ?_)
              refine h_put (pc' := 107) rfl rfl rfl rfl rfl rfl hz18 rfl (h_fgt (E := fun s => s 106 0 = s0 106 0 ∧ s 106 1 = s0 106 1 ∧ s 106 2 = s0 106 2 ∧ s 106 3 = ((s0 106 3) + 1) ∧ s 106 4 = s0 106 4 ∧ s 106 5 = s0 106 5 ∧ s 106 6 = s0 106 6) _ (if_98_27 Is4 (h_rgv hz18)) (Fs4.up rfl) ⟨es4.1, es4.2.1, es4.2.2.1, es4.2.2.2.1, es4.2.2.2.2.1, es4.2.2.2.2.2.1, es4.2.2.2.2.2.2⟩ (fun s19 Is19 Fs19 (es19 : s19 106 0 = s0 106 0 ∧ s19 106 1 = s0 106 1 ∧ s19 106 2 = s0 106 2 ∧ s19 106 3 = ((s0 106 3) + 1) ∧ s19 106 4 = s0 106 4 ∧ s19 106 5 = s0 106 5 ∧ s19 106 6 = s0 106 6) => ?_))
              refine h_iinc (pc' := 110) (b := 4) (M := fun z20 => [(2, .int z20), (0, .ref 98), (1, .int x0)]) rfl rfl rfl rfl ci_3 ci_1 rfl (by omega) (by omega) (fun _ => rfl) (fun z20 hz20 => ?_)
              refine h_aload_n (pc' := 111) rfl rfl rfl ?_
              refine h_getR (pc' := 114) rfl rfl rfl rfl rfl ?_
              refine h_iload_n (pc' := 115) rfl rfl rfl ?_
              refine h_iconst (pc' := 116) (x := (Int32.ofInt (-1))) rfl rfl rfl ?_
              refine h_iast (pc' := 117) rfl rfl rfl rfl hz20 (by omega) (by omega) ci_m1 (h_fgt (E := fun s => s 106 0 = s0 106 0 ∧ s 106 1 = s0 106 1 ∧ s 106 2 = s0 106 2 ∧ s 106 3 = ((s0 106 3) + 1) ∧ s 106 4 = (-1) ∧ s 106 5 = s0 106 5 ∧ s 106 6 = s0 106 6) _ (in_106 Is19 (by omega)) (Fs19.up rfl) ⟨es19.1, es19.2.1, es19.2.2.1, es19.2.2.2.1, rfl, es19.2.2.2.2.2.1, es19.2.2.2.2.2.2⟩ (fun s21 Is21 Fs21 (es21 : s21 106 0 = s0 106 0 ∧ s21 106 1 = s0 106 1 ∧ s21 106 2 = s0 106 2 ∧ s21 106 3 = ((s0 106 3) + 1) ∧ s21 106 4 = (-1) ∧ s21 106 5 = s0 106 5 ∧ s21 106 6 = s0 106 6) => ?_))
              clear es19
              refine h_goto (pc' := 19) rfl rfl ?_
              have qz20 : z20 = (Int32.ofInt 4) := h_lit hz20 ci_4
              subst qz20
              exact h_wk [(0, .ref 98), (1, .int x0), (2, .int (Int32.ofInt 4))] ⟨rfl, rfl, rfl, trivial⟩ (ih.2.2.2.2.2.1 _ Is21 Fs21  (by omega) (by omega) (by omega) (by omega) (by omega) (h_nf ex4 (by omega) (by omega)) (h_nf ex5 (by omega) (by omega)) (h_nf ex6 (by omega) (by omega)) (h_ni (by omega)) (h_ni (by omega)) (h_ni (by omega)) (by omega))
            · refine h_iconst (pc' := 99) (x := (Int32.ofInt 1)) rfl rfl rfl ?_
              refine h_goto (pc' := 103) rfl rfl ?_
              refine h_iaddA (pc' := 104) rfl rfl (fun z22 hz22 => ?_)
              refine h_put (pc' := 107) rfl rfl rfl rfl rfl rfl rfl rfl (h_fgt (E := fun s => s 106 0 = s0 106 0 ∧ s 106 1 = s0 106 1 ∧ s 106 2 = s0 106 2 ∧ s 106 3 = ((s0 106 3) + 1) ∧ s 106 4 = s0 106 4 ∧ s 106 5 = s0 106 5 ∧ s 106 6 = s0 106 6) _ (if_98_27 Is4 (h_rgv rfl)) (Fs4.up rfl) ⟨es4.1, es4.2.1, es4.2.2.1, es4.2.2.2.1, es4.2.2.2.2.1, es4.2.2.2.2.2.1, es4.2.2.2.2.2.2⟩ (fun s23 Is23 Fs23 (es23 : s23 106 0 = s0 106 0 ∧ s23 106 1 = s0 106 1 ∧ s23 106 2 = s0 106 2 ∧ s23 106 3 = ((s0 106 3) + 1) ∧ s23 106 4 = s0 106 4 ∧ s23 106 5 = s0 106 5 ∧ s23 106 6 = s0 106 6) => ?_))
              refine h_iinc (pc' := 110) (b := 4) (M := fun z24 => [(2, .int z24), (0, .ref 98), (1, .int x0)]) rfl rfl rfl rfl ci_3 ci_1 rfl (by omega) (by omega) (fun _ => rfl) (fun z24 hz24 => ?_)
              refine h_aload_n (pc' := 111) rfl rfl rfl ?_
              refine h_getR (pc' := 114) rfl rfl rfl rfl rfl ?_
              refine h_iload_n (pc' := 115) rfl rfl rfl ?_
              refine h_iconst (pc' := 116) (x := (Int32.ofInt (-1))) rfl rfl rfl ?_
              refine h_iast (pc' := 117) rfl rfl rfl rfl hz24 (by omega) (by omega) ci_m1 (h_fgt (E := fun s => s 106 0 = s0 106 0 ∧ s 106 1 = s0 106 1 ∧ s 106 2 = s0 106 2 ∧ s 106 3 = ((s0 106 3) + 1) ∧ s 106 4 = (-1) ∧ s 106 5 = s0 106 5 ∧ s 106 6 = s0 106 6) _ (in_106 Is23 (by omega)) (Fs23.up rfl) ⟨es23.1, es23.2.1, es23.2.2.1, es23.2.2.2.1, rfl, es23.2.2.2.2.2.1, es23.2.2.2.2.2.2⟩ (fun s25 Is25 Fs25 (es25 : s25 106 0 = s0 106 0 ∧ s25 106 1 = s0 106 1 ∧ s25 106 2 = s0 106 2 ∧ s25 106 3 = ((s0 106 3) + 1) ∧ s25 106 4 = (-1) ∧ s25 106 5 = s0 106 5 ∧ s25 106 6 = s0 106 6) => ?_))
              clear es23
              refine h_goto (pc' := 19) rfl rfl ?_
              have qz24 : z24 = (Int32.ofInt 4) := h_lit hz24 ci_4
              subst qz24
              exact h_wk [(0, .ref 98), (1, .int x0), (2, .int (Int32.ofInt 4))] ⟨rfl, rfl, rfl, trivial⟩ (ih.2.2.2.2.2.1 _ Is25 Fs25  (by omega) (by omega) (by omega) (by omega) (by omega) (h_nf ex4 (by omega) (by omega)) (h_nf ex5 (by omega) (by omega)) (h_nf ex6 (by omega) (by omega)) (h_ni (by omega)) (h_ni (by omega)) (h_ni (by omega)) (by omega))
          · refine h_aload_n (pc' := 72) rfl rfl rfl ?_
            refine h_iload_n (pc' := 73) rfl rfl rfl ?_
            refine h_iconst (pc' := 74) (x := (Int32.ofInt 1)) rfl rfl rfl ?_
            refine h_iadd (pc' := 75) (c := 4) rfl rfl ci_3 ci_1 rfl (by omega) (by omega) (fun z26 hz26 => ?_)
            refine h_call (sp := false) (pc' := 78) (M := [(0, .ref 98), (1, .int z26)]) rfl rfl rfl rfl rfl rfl rfl rfl ?_
            refine v_keepsRow _ Is4 z26 _ hz26 (by omega) (fun s28 Is28 Gs28 ps28_0 ps28_1 ps28_2 ps28_3 ps28_4 ps28_5 ps28_6 => h_Kn ?_)
            have Fs28 := (Gs28.mono (B := kf_v_lines) rfl).tr Fs4
            have es28_0 : s28 106 0 = s0 106 0 := (Gs28 106 0 rfl).trans es4.1
            have es28_1 : s28 106 1 = s0 106 1 := (Gs28 106 1 rfl).trans es4.2.1
            have es28_2 : s28 106 2 = s0 106 2 := (Gs28 106 2 rfl).trans es4.2.2.1
            have es28_3 : s28 106 3 = ((s0 106 3) + 1) := (Gs28 106 3 rfl).trans es4.2.2.2.1
            have es28_4 : s28 106 4 = s0 106 4 := (Gs28 106 4 rfl).trans es4.2.2.2.2.1
            have es28_5 : s28 106 5 = s0 106 5 := (Gs28 106 5 rfl).trans es4.2.2.2.2.2.1
            have es28_6 : s28 106 6 = s0 106 6 := (Gs28 106 6 rfl).trans es4.2.2.2.2.2.2
            refine h_aload_n (pc' := 79) rfl rfl rfl ?_
            refine h_iconst (pc' := 80) (x := (Int32.ofInt 0)) rfl rfl rfl ?_
            refine h_put (pc' := 83) rfl rfl rfl rfl rfl rfl ci_0 rfl (h_fgt (E := fun s => s 106 0 = s0 106 0 ∧ s 106 1 = s0 106 1 ∧ s 106 2 = s0 106 2 ∧ s 106 3 = ((s0 106 3) + 1) ∧ s 106 4 = s0 106 4 ∧ s 106 5 = s0 106 5 ∧ s 106 6 = s0 106 6) _ (if_98_27 Is28 (h_rgv ci_0)) (Fs28.up rfl) ⟨es28_0, es28_1, es28_2, es28_3, es28_4, es28_5, es28_6⟩ (fun s29 Is29 Fs29 (es29 : s29 106 0 = s0 106 0 ∧ s29 106 1 = s0 106 1 ∧ s29 106 2 = s0 106 2 ∧ s29 106 3 = ((s0 106 3) + 1) ∧ s29 106 4 = s0 106 4 ∧ s29 106 5 = s0 106 5 ∧ s29 106 6 = s0 106 6) => ?_))
            clear es28_0 es28_1 es28_2 es28_3 es28_4 es28_5 es28_6
            refine h_aload_n (pc' := 84) rfl rfl rfl ?_
            refine h_dup (pc' := 85) rfl rfl rfl ?_
            refine h_getI (pc' := 88) (v := s29 98 27) rfl rfl rfl rfl rfl rfl (fun z30 hz30 => ?_)
            have tz30 := tf_98_27 Is29
            refine h_iload_n (pc' := 89) rfl rfl rfl ?_
            refine h_iconst (pc' := 90) (x := (Int32.ofInt 1)) rfl rfl rfl ?_
            refine h_iadd (pc' := 91) (c := 4) rfl rfl ci_3 ci_1 rfl (by omega) (by omega) (fun z31 hz31 => ?_)
            refine h_aload_n (pc' := 92) rfl rfl rfl ?_
            refine h_getI (pc' := 95) (v := s29 98 26) rfl rfl rfl rfl rfl rfl (fun z32 hz32 => ?_)
            have tz32 := tf_98_26 Is29
            refine h_cne (tg := 102) (pc' := 98) rfl rfl rfl hz31 hz32 (fun c33 => ?_) (fun c33 => ?_)
            · refine h_iconst (pc' := 103) (x := (Int32.ofInt 0)) rfl rfl rfl ?_
              refine h_iadd (pc' := 104) rfl rfl hz30 ci_0 rfl (by have g0 := h_rgv hz30; omega) (by have g0 := h_rgv hz30; omega) (fun z34 hz34 => ?_)
              refine h_put (pc' := 107) rfl rfl rfl rfl rfl rfl hz34 rfl (h_fgt (E := fun s => s 106 0 = s0 106 0 ∧ s 106 1 = s0 106 1 ∧ s 106 2 = s0 106 2 ∧ s 106 3 = ((s0 106 3) + 1) ∧ s 106 4 = s0 106 4 ∧ s 106 5 = s0 106 5 ∧ s 106 6 = s0 106 6) _ (if_98_27 Is29 (h_rgv hz34)) (Fs29.up rfl) ⟨es29.1, es29.2.1, es29.2.2.1, es29.2.2.2.1, es29.2.2.2.2.1, es29.2.2.2.2.2.1, es29.2.2.2.2.2.2⟩ (fun s35 Is35 Fs35 (es35 : s35 106 0 = s0 106 0 ∧ s35 106 1 = s0 106 1 ∧ s35 106 2 = s0 106 2 ∧ s35 106 3 = ((s0 106 3) + 1) ∧ s35 106 4 = s0 106 4 ∧ s35 106 5 = s0 106 5 ∧ s35 106 6 = s0 106 6) => ?_))
              clear es29
              refine h_iinc (pc' := 110) (b := 4) (M := fun z36 => [(2, .int z36), (0, .ref 98), (1, .int x0)]) rfl rfl rfl rfl ci_3 ci_1 rfl (by omega) (by omega) (fun _ => rfl) (fun z36 hz36 => ?_)
              refine h_aload_n (pc' := 111) rfl rfl rfl ?_
              refine h_getR (pc' := 114) rfl rfl rfl rfl rfl ?_
              refine h_iload_n (pc' := 115) rfl rfl rfl ?_
              refine h_iconst (pc' := 116) (x := (Int32.ofInt (-1))) rfl rfl rfl ?_
              refine h_iast (pc' := 117) rfl rfl rfl rfl hz36 (by omega) (by omega) ci_m1 (h_fgt (E := fun s => s 106 0 = s0 106 0 ∧ s 106 1 = s0 106 1 ∧ s 106 2 = s0 106 2 ∧ s 106 3 = ((s0 106 3) + 1) ∧ s 106 4 = (-1) ∧ s 106 5 = s0 106 5 ∧ s 106 6 = s0 106 6) _ (in_106 Is35 (by omega)) (Fs35.up rfl) ⟨es35.1, es35.2.1, es35.2.2.1, es35.2.2.2.1, rfl, es35.2.2.2.2.2.1, es35.2.2.2.2.2.2⟩ (fun s37 Is37 Fs37 (es37 : s37 106 0 = s0 106 0 ∧ s37 106 1 = s0 106 1 ∧ s37 106 2 = s0 106 2 ∧ s37 106 3 = ((s0 106 3) + 1) ∧ s37 106 4 = (-1) ∧ s37 106 5 = s0 106 5 ∧ s37 106 6 = s0 106 6) => ?_))
              clear es35
              refine h_goto (pc' := 19) rfl rfl ?_
              have qz36 : z36 = (Int32.ofInt 4) := h_lit hz36 ci_4
              subst qz36
              exact h_wk [(0, .ref 98), (1, .int x0), (2, .int (Int32.ofInt 4))] ⟨rfl, rfl, rfl, trivial⟩ (ih.2.2.2.2.2.1 _ Is37 Fs37  (by omega) (by omega) (by omega) (by omega) (by omega) (h_nf ex4 (by omega) (by omega)) (h_nf ex5 (by omega) (by omega)) (h_nf ex6 (by omega) (by omega)) (h_ni (by omega)) (h_ni (by omega)) (h_ni (by omega)) (by omega))
            · refine h_iconst (pc' := 99) (x := (Int32.ofInt 1)) rfl rfl rfl ?_
              refine h_goto (pc' := 103) rfl rfl ?_
              refine h_iaddA (pc' := 104) rfl rfl (fun z38 hz38 => ?_)
              refine h_put (pc' := 107) rfl rfl rfl rfl rfl rfl rfl rfl (h_fgt (E := fun s => s 106 0 = s0 106 0 ∧ s 106 1 = s0 106 1 ∧ s 106 2 = s0 106 2 ∧ s 106 3 = ((s0 106 3) + 1) ∧ s 106 4 = s0 106 4 ∧ s 106 5 = s0 106 5 ∧ s 106 6 = s0 106 6) _ (if_98_27 Is29 (h_rgv rfl)) (Fs29.up rfl) ⟨es29.1, es29.2.1, es29.2.2.1, es29.2.2.2.1, es29.2.2.2.2.1, es29.2.2.2.2.2.1, es29.2.2.2.2.2.2⟩ (fun s39 Is39 Fs39 (es39 : s39 106 0 = s0 106 0 ∧ s39 106 1 = s0 106 1 ∧ s39 106 2 = s0 106 2 ∧ s39 106 3 = ((s0 106 3) + 1) ∧ s39 106 4 = s0 106 4 ∧ s39 106 5 = s0 106 5 ∧ s39 106 6 = s0 106 6) => ?_))
              clear es29
              refine h_iinc (pc' := 110) (b := 4) (M := fun z40 => [(2, .int z40), (0, .ref 98), (1, .int x0)]) rfl rfl rfl rfl ci_3 ci_1 rfl (by omega) (by omega) (fun _ => rfl) (fun z40 hz40 => ?_)
              refine h_aload_n (pc' := 111) rfl rfl rfl ?_
              refine h_getR (pc' := 114) rfl rfl rfl rfl rfl ?_
              refine h_iload_n (pc' := 115) rfl rfl rfl ?_
              refine h_iconst (pc' := 116) (x := (Int32.ofInt (-1))) rfl rfl rfl ?_
              refine h_iast (pc' := 117) rfl rfl rfl rfl hz40 (by omega) (by omega) ci_m1 (h_fgt (E := fun s => s 106 0 = s0 106 0 ∧ s 106 1 = s0 106 1 ∧ s 106 2 = s0 106 2 ∧ s 106 3 = ((s0 106 3) + 1) ∧ s 106 4 = (-1) ∧ s 106 5 = s0 106 5 ∧ s 106 6 = s0 106 6) _ (in_106 Is39 (by omega)) (Fs39.up rfl) ⟨es39.1, es39.2.1, es39.2.2.1, es39.2.2.2.1, rfl, es39.2.2.2.2.2.1, es39.2.2.2.2.2.2⟩ (fun s41 Is41 Fs41 (es41 : s41 106 0 = s0 106 0 ∧ s41 106 1 = s0 106 1 ∧ s41 106 2 = s0 106 2 ∧ s41 106 3 = ((s0 106 3) + 1) ∧ s41 106 4 = (-1) ∧ s41 106 5 = s0 106 5 ∧ s41 106 6 = s0 106 6) => ?_))
              clear es39
              refine h_goto (pc' := 19) rfl rfl ?_
              have qz40 : z40 = (Int32.ofInt 4) := h_lit hz40 ci_4
              subst qz40
              exact h_wk [(0, .ref 98), (1, .int x0), (2, .int (Int32.ofInt 4))] ⟨rfl, rfl, rfl, trivial⟩ (ih.2.2.2.2.2.1 _ Is41 Fs41  (by omega) (by omega) (by omega) (by omega) (by omega) (h_nf ex4 (by omega) (by omega)) (h_nf ex5 (by omega) (by omega)) (h_nf ex6 (by omega) (by omega)) (h_ni (by omega)) (h_ni (by omega)) (h_ni (by omega)) (by omega))
      · refine h_iinc (pc' := 49) (b := 2) (M := fun z42 => [(2, .int z42), (0, .ref 98), (1, .int x0)]) rfl rfl rfl rfl ci_3 ci_m1 rfl (by omega) (by omega) (fun _ => rfl) (fun z42 hz42 => ?_)
        refine h_goto (pc' := 19) rfl rfl ?_
        have qz42 : z42 = (Int32.ofInt 2) := h_lit hz42 ci_2
        subst qz42
        exact h_wk [(0, .ref 98), (1, .int x0), (2, .int (Int32.ofInt 2))] ⟨rfl, rfl, rfl, trivial⟩ (ih.2.2.2.1 _ Is4 Fs4  (by omega) (by omega) (by omega) (h_nf ex4 (by omega) (by omega)) (by omega))
    · intro s0 I0 F0_ ex0 ex1 ex2 ex3 ex4 ex5 ex6 ex7 ex8 ex9 ex10 hm
      refine h_iload_n (pc' := 20) rfl rfl rfl ?_
      refine h_zlt (tg := 120) (pc' := 23) rfl rfl rfl ci_4 (fun c1 => absurd c1 (by omega)) (fun c1 => ?_)
      refine h_aload_n (pc' := 24) rfl rfl rfl ?_
      refine h_getR (pc' := 27) rfl rfl rfl rfl rfl ?_
      refine h_iload_n (pc' := 28) rfl rfl rfl ?_
      refine h_dup2 (pc' := 29) rfl rfl rfl ?_
      refine h_iald (pc' := 30) (v := s0 106 4) rfl rfl rfl ci_4 (by omega) (by omega) rfl (fun z2 hz2 => ?_)
      have tz2 := ty_106 I0 4
      refine h_iconst (pc' := 31) (x := (Int32.ofInt 1)) rfl rfl rfl ?_
      refine h_iadd (pc' := 32) rfl rfl hz2 ci_1 rfl (by omega) (by omega) (fun z3 hz3 => ?_)
      refine h_iast (pc' := 33) rfl rfl rfl rfl ci_4 (by omega) (by omega) hz3 (h_fgt (E := fun s => s 106 0 = s0 106 0 ∧ s 106 1 = s0 106 1 ∧ s 106 2 = s0 106 2 ∧ s 106 3 = s0 106 3 ∧ s 106 4 = ((s0 106 4) + 1) ∧ s 106 5 = s0 106 5 ∧ s 106 6 = s0 106 6) _ (in_106 I0 (by omega)) (F0_.up rfl) ⟨rfl, rfl, rfl, rfl, rfl, rfl, rfl⟩ (fun s4 Is4 Fs4 (es4 : s4 106 0 = s0 106 0 ∧ s4 106 1 = s0 106 1 ∧ s4 106 2 = s0 106 2 ∧ s4 106 3 = s0 106 3 ∧ s4 106 4 = ((s0 106 4) + 1) ∧ s4 106 5 = s0 106 5 ∧ s4 106 6 = s0 106 6) => ?_))
      refine h_aload_n (pc' := 34) rfl rfl rfl ?_
      refine h_getR (pc' := 37) rfl rfl rfl rfl rfl ?_
      refine h_iload_n (pc' := 38) rfl rfl rfl ?_
      refine h_iald (pc' := 39) (v := ((s0 106 4) + 1)) rfl rfl rfl ci_4 (by omega) (by omega) es4.2.2.2.2.1 (fun z5 hz5 => ?_)
      refine h_aload_n (pc' := 40) rfl rfl rfl ?_
      refine h_getI (pc' := 43) (v := σ 98 1) rfl rfl rfl rfl rfl (Fs4 98 1 rfl) (fun z6 hz6 => ?_)
      have tz6 := tf_98_1 hI
      refine h_clt (tg := 52) (pc' := 46) rfl rfl rfl hz5 hz6 (fun c7 => ?_) (fun c7 => ?_)
      · refine h_aload_n (pc' := 53) rfl rfl rfl ?_
        refine h_iload_n (pc' := 54) rfl rfl rfl ?_
        refine h_iload_n (pc' := 55) rfl rfl rfl ?_
        refine h_call (sp := false) (pc' := 58) (M := [(0, .ref 98), (1, .int x0), (2, .int (Int32.ofInt 4))]) rfl rfl rfl rfl rfl rfl rfl rfl ?_
        refine v_stands4 _ Is4 x0 _ hx0 (by omega)  (by omega) (by omega) (fun r8 br8 hr8 tr8 ps9_0 ps9_1 ps9_2 ps9_3 => h_Kv ?_)
        refine h_zeq (tg := 19) (pc' := 61) rfl rfl rfl hr8 (fun c10 => ?_) (fun c10 => ?_)
        · exact h_wk [(0, .ref 98), (1, .int x0), (2, .int (Int32.ofInt 4))] ⟨rfl, rfl, rfl, trivial⟩ (ih.2.2.2.2.2.1 _ Is4 Fs4  (by omega) (by omega) (by omega) (by omega) (by omega) (h_nf ex5 (by omega) (by omega)) (h_nf ex6 (by omega) (by omega)) (h_nf ex7 (by omega) (by omega)) (h_nf ex8 (by omega) (by omega)) (h_nf ex9 (by omega) (by omega)) (h_nf ex10 (by omega) (by omega)) (by omega))
        · refine h_iload_n (pc' := 62) rfl rfl rfl ?_
          refine h_iconst (pc' := 63) (x := (Int32.ofInt 1)) rfl rfl rfl ?_
          refine h_iadd (pc' := 64) (c := 5) rfl rfl ci_4 ci_1 rfl (by omega) (by omega) (fun z11 hz11 => ?_)
          refine h_aload_n (pc' := 65) rfl rfl rfl ?_
          refine h_getI (pc' := 68) (v := s4 98 26) rfl rfl rfl rfl rfl rfl (fun z12 hz12 => ?_)
          have tz12 := tf_98_26 Is4
          refine h_cle (tg := 83) (pc' := 71) rfl rfl rfl hz11 hz12 (fun c13 => ?_) (fun c13 => ?_)
          · refine h_aload_n (pc' := 84) rfl rfl rfl ?_
            refine h_dup (pc' := 85) rfl rfl rfl ?_
            refine h_getI (pc' := 88) (v := s4 98 27) rfl rfl rfl rfl rfl rfl (fun z14 hz14 => ?_)
            have tz14 := tf_98_27 Is4
            refine h_iload_n (pc' := 89) rfl rfl rfl ?_
            refine h_iconst (pc' := 90) (x := (Int32.ofInt 1)) rfl rfl rfl ?_
            refine h_iadd (pc' := 91) (c := 5) rfl rfl ci_4 ci_1 rfl (by omega) (by omega) (fun z15 hz15 => ?_)
            refine h_aload_n (pc' := 92) rfl rfl rfl ?_
            refine h_getI (pc' := 95) (v := s4 98 26) rfl rfl rfl rfl rfl rfl (fun z16 hz16 => ?_)
            have tz16 := tf_98_26 Is4
            refine h_cne (tg := 102) (pc' := 98) rfl rfl rfl hz15 hz16 (fun c17 => ?_) (fun c17 => ?_)
            · refine h_iconst (pc' := 103) (x := (Int32.ofInt 0)) rfl rfl rfl ?_
              refine h_iadd (pc' := 104) rfl rfl hz14 ci_0 rfl (by have g0 := h_rgv hz14; omega) (by have g0 := h_rgv hz14; omega) (fun z18 hz18 => ?_)
              refine h_put (pc' := 107) rfl rfl rfl rfl rfl rfl hz18 rfl (h_fgt (E := fun s => s 106 0 = s0 106 0 ∧ s 106 1 = s0 106 1 ∧ s 106 2 = s0 106 2 ∧ s 106 3 = s0 106 3 ∧ s 106 4 = ((s0 106 4) + 1) ∧ s 106 5 = s0 106 5 ∧ s 106 6 = s0 106 6) _ (if_98_27 Is4 (h_rgv hz18)) (Fs4.up rfl) ⟨es4.1, es4.2.1, es4.2.2.1, es4.2.2.2.1, es4.2.2.2.2.1, es4.2.2.2.2.2.1, es4.2.2.2.2.2.2⟩ (fun s19 Is19 Fs19 (es19 : s19 106 0 = s0 106 0 ∧ s19 106 1 = s0 106 1 ∧ s19 106 2 = s0 106 2 ∧ s19 106 3 = s0 106 3 ∧ s19 106 4 = ((s0 106 4) + 1) ∧ s19 106 5 = s0 106 5 ∧ s19 106 6 = s0 106 6) => ?_))
              refine h_iinc (pc' := 110) (b := 5) (M := fun z20 => [(2, .int z20), (0, .ref 98), (1, .int x0)]) rfl rfl rfl rfl ci_4 ci_1 rfl (by omega) (by omega) (fun _ => rfl) (fun z20 hz20 => ?_)
              refine h_aload_n (pc' := 111) rfl rfl rfl ?_
              refine h_getR (pc' := 114) rfl rfl rfl rfl rfl ?_
              refine h_iload_n (pc' := 115) rfl rfl rfl ?_
              refine h_iconst (pc' := 116) (x := (Int32.ofInt (-1))) rfl rfl rfl ?_
              refine h_iast (pc' := 117) rfl rfl rfl rfl hz20 (by omega) (by omega) ci_m1 (h_fgt (E := fun s => s 106 0 = s0 106 0 ∧ s 106 1 = s0 106 1 ∧ s 106 2 = s0 106 2 ∧ s 106 3 = s0 106 3 ∧ s 106 4 = ((s0 106 4) + 1) ∧ s 106 5 = (-1) ∧ s 106 6 = s0 106 6) _ (in_106 Is19 (by omega)) (Fs19.up rfl) ⟨es19.1, es19.2.1, es19.2.2.1, es19.2.2.2.1, es19.2.2.2.2.1, rfl, es19.2.2.2.2.2.2⟩ (fun s21 Is21 Fs21 (es21 : s21 106 0 = s0 106 0 ∧ s21 106 1 = s0 106 1 ∧ s21 106 2 = s0 106 2 ∧ s21 106 3 = s0 106 3 ∧ s21 106 4 = ((s0 106 4) + 1) ∧ s21 106 5 = (-1) ∧ s21 106 6 = s0 106 6) => ?_))
              clear es19
              refine h_goto (pc' := 19) rfl rfl ?_
              have qz20 : z20 = (Int32.ofInt 5) := h_lit hz20 ci_5
              subst qz20
              exact h_wk [(0, .ref 98), (1, .int x0), (2, .int (Int32.ofInt 5))] ⟨rfl, rfl, rfl, trivial⟩ (ih.2.2.2.2.2.2.1 _ Is21 Fs21  (by omega) (by omega) (by omega) (by omega) (by omega) (by omega) (h_nf ex5 (by omega) (by omega)) (h_nf ex6 (by omega) (by omega)) (h_nf ex7 (by omega) (by omega)) (h_nf ex8 (by omega) (by omega)) (h_nf ex9 (by omega) (by omega)) (h_nf ex10 (by omega) (by omega)) (h_ni (by omega)) (h_ni (by omega)) (h_ni (by omega)) (h_ni (by omega)) (by omega))
            · refine h_iconst (pc' := 99) (x := (Int32.ofInt 1)) rfl rfl rfl ?_
              refine h_goto (pc' := 103) rfl rfl ?_
              refine h_iaddA (pc' := 104) rfl rfl (fun z22 hz22 => ?_)
              refine h_put (pc' := 107) rfl rfl rfl rfl rfl rfl rfl rfl (h_fgt (E := fun s => s 106 0 = s0 106 0 ∧ s 106 1 = s0 106 1 ∧ s 106 2 = s0 106 2 ∧ s 106 3 = s0 106 3 ∧ s 106 4 = ((s0 106 4) + 1) ∧ s 106 5 = s0 106 5 ∧ s 106 6 = s0 106 6) _ (if_98_27 Is4 (h_rgv rfl)) (Fs4.up rfl) ⟨es4.1, es4.2.1, es4.2.2.1, es4.2.2.2.1, es4.2.2.2.2.1, es4.2.2.2.2.2.1, es4.2.2.2.2.2.2⟩ (fun s23 Is23 Fs23 (es23 : s23 106 0 = s0 106 0 ∧ s23 106 1 = s0 106 1 ∧ s23 106 2 = s0 106 2 ∧ s23 106 3 = s0 106 3 ∧ s23 106 4 = ((s0 106 4) + 1) ∧ s23 106 5 = s0 106 5 ∧ s23 106 6 = s0 106 6) => ?_))
              refine h_iinc (pc' := 110) (b := 5) (M := fun z24 => [(2, .int z24), (0, .ref 98), (1, .int x0)]) rfl rfl rfl rfl ci_4 ci_1 rfl (by omega) (by omega) (fun _ => rfl) (fun z24 hz24 => ?_)
              refine h_aload_n (pc' := 111) rfl rfl rfl ?_
              refine h_getR (pc' := 114) rfl rfl rfl rfl rfl ?_
              refine h_iload_n (pc' := 115) rfl rfl rfl ?_
              refine h_iconst (pc' := 116) (x := (Int32.ofInt (-1))) rfl rfl rfl ?_
              refine h_iast (pc' := 117) rfl rfl rfl rfl hz24 (by omega) (by omega) ci_m1 (h_fgt (E := fun s => s 106 0 = s0 106 0 ∧ s 106 1 = s0 106 1 ∧ s 106 2 = s0 106 2 ∧ s 106 3 = s0 106 3 ∧ s 106 4 = ((s0 106 4) + 1) ∧ s 106 5 = (-1) ∧ s 106 6 = s0 106 6) _ (in_106 Is23 (by omega)) (Fs23.up rfl) ⟨es23.1, es23.2.1, es23.2.2.1, es23.2.2.2.1, es23.2.2.2.2.1, rfl, es23.2.2.2.2.2.2⟩ (fun s25 Is25 Fs25 (es25 : s25 106 0 = s0 106 0 ∧ s25 106 1 = s0 106 1 ∧ s25 106 2 = s0 106 2 ∧ s25 106 3 = s0 106 3 ∧ s25 106 4 = ((s0 106 4) + 1) ∧ s25 106 5 = (-1) ∧ s25 106 6 = s0 106 6) => ?_))
              clear es23
              refine h_goto (pc' := 19) rfl rfl ?_
              have qz24 : z24 = (Int32.ofInt 5) := h_lit hz24 ci_5
              subst qz24
              exact h_wk [(0, .ref 98), (1, .int x0), (2, .int (Int32.ofInt 5))] ⟨rfl, rfl, rfl, trivial⟩ (ih.2.2.2.2.2.2.1 _ Is25 Fs25  (by omega) (by omega) (by omega) (by omega) (by omega) (by omega) (h_nf ex5 (by omega) (by omega)) (h_nf ex6 (by omega) (by omega)) (h_nf ex7 (by omega) (by omega)) (h_nf ex8 (by omega) (by omega)) (h_nf ex9 (by omega) (by omega)) (h_nf ex10 (by omega) (by omega)) (h_ni (by omega)) (h_ni (by omega)) (h_ni (by omega)) (h_ni (by omega)) (by omega))
          · refine h_aload_n (pc' := 72) rfl rfl rfl ?_
            refine h_iload_n (pc' := 73) rfl rfl rfl ?_
            refine h_iconst (pc' := 74) (x := (Int32.ofInt 1)) rfl rfl rfl ?_
            refine h_iadd (pc' := 75) (c := 5) rfl rfl ci_4 ci_1 rfl (by omega) (by omega) (fun z26 hz26 => ?_)
            refine h_call (sp := false) (pc' := 78) (M := [(0, .ref 98), (1, .int z26)]) rfl rfl rfl rfl rfl rfl rfl rfl ?_
            refine v_keepsRow _ Is4 z26 _ hz26 (by omega) (fun s28 Is28 Gs28 ps28_0 ps28_1 ps28_2 ps28_3 ps28_4 ps28_5 ps28_6 => h_Kn ?_)
            have Fs28 := (Gs28.mono (B := kf_v_lines) rfl).tr Fs4
            have es28_0 : s28 106 0 = s0 106 0 := (Gs28 106 0 rfl).trans es4.1
            have es28_1 : s28 106 1 = s0 106 1 := (Gs28 106 1 rfl).trans es4.2.1
            have es28_2 : s28 106 2 = s0 106 2 := (Gs28 106 2 rfl).trans es4.2.2.1
            have es28_3 : s28 106 3 = s0 106 3 := (Gs28 106 3 rfl).trans es4.2.2.2.1
            have es28_4 : s28 106 4 = ((s0 106 4) + 1) := (Gs28 106 4 rfl).trans es4.2.2.2.2.1
            have es28_5 : s28 106 5 = s0 106 5 := (Gs28 106 5 rfl).trans es4.2.2.2.2.2.1
            have es28_6 : s28 106 6 = s0 106 6 := (Gs28 106 6 rfl).trans es4.2.2.2.2.2.2
            refine h_aload_n (pc' := 79) rfl rfl rfl ?_
            refine h_iconst (pc' := 80) (x := (Int32.ofInt 0)) rfl rfl rfl ?_
            refine h_put (pc' := 83) rfl rfl rfl rfl rfl rfl ci_0 rfl (h_fgt (E := fun s => s 106 0 = s0 106 0 ∧ s 106 1 = s0 106 1 ∧ s 106 2 = s0 106 2 ∧ s 106 3 = s0 106 3 ∧ s 106 4 = ((s0 106 4) + 1) ∧ s 106 5 = s0 106 5 ∧ s 106 6 = s0 106 6) _ (if_98_27 Is28 (h_rgv ci_0)) (Fs28.up rfl) ⟨es28_0, es28_1, es28_2, es28_3, es28_4, es28_5, es28_6⟩ (fun s29 Is29 Fs29 (es29 : s29 106 0 = s0 106 0 ∧ s29 106 1 = s0 106 1 ∧ s29 106 2 = s0 106 2 ∧ s29 106 3 = s0 106 3 ∧ s29 106 4 = ((s0 106 4) + 1) ∧ s29 106 5 = s0 106 5 ∧ s29 106 6 = s0 106 6) => ?_))
            clear es28_0 es28_1 es28_2 es28_3 es28_4 es28_5 es28_6
            refine h_aload_n (pc' := 84) rfl rfl rfl ?_
            refine h_dup (pc' := 85) rfl rfl rfl ?_
            refine h_getI (pc' := 88) (v := s29 98 27) rfl rfl rfl rfl rfl rfl (fun z30 hz30 => ?_)
            have tz30 := tf_98_27 Is29
            refine h_iload_n (pc' := 89) rfl rfl rfl ?_
            refine h_iconst (pc' := 90) (x := (Int32.ofInt 1)) rfl rfl rfl ?_
            refine h_iadd (pc' := 91) (c := 5) rfl rfl ci_4 ci_1 rfl (by omega) (by omega) (fun z31 hz31 => ?_)
            refine h_aload_n (pc' := 92) rfl rfl rfl ?_
            refine h_getI (pc' := 95) (v := s29 98 26) rfl rfl rfl rfl rfl rfl (fun z32 hz32 => ?_)
            have tz32 := tf_98_26 Is29
            refine h_cne (tg := 102) (pc' := 98) rfl rfl rfl hz31 hz32 (fun c33 => ?_) (fun c33 => ?_)
            · refine h_iconst (pc' := 103) (x := (Int32.ofInt 0)) rfl rfl rfl ?_
              refine h_iadd (pc' := 104) rfl rfl hz30 ci_0 rfl (by have g0 := h_rgv hz30; omega) (by have g0 := h_rgv hz30; omega) (fun z34 hz34 => ?_)
              refine h_put (pc' := 107) rfl rfl rfl rfl rfl rfl hz34 rfl (h_fgt (E := fun s => s 106 0 = s0 106 0 ∧ s 106 1 = s0 106 1 ∧ s 106 2 = s0 106 2 ∧ s 106 3 = s0 106 3 ∧ s 106 4 = ((s0 106 4) + 1) ∧ s 106 5 = s0 106 5 ∧ s 106 6 = s0 106 6) _ (if_98_27 Is29 (h_rgv hz34)) (Fs29.up rfl) ⟨es29.1, es29.2.1, es29.2.2.1, es29.2.2.2.1, es29.2.2.2.2.1, es29.2.2.2.2.2.1, es29.2.2.2.2.2.2⟩ (fun s35 Is35 Fs35 (es35 : s35 106 0 = s0 106 0 ∧ s35 106 1 = s0 106 1 ∧ s35 106 2 = s0 106 2 ∧ s35 106 3 = s0 106 3 ∧ s35 106 4 = ((s0 106 4) + 1) ∧ s35 106 5 = s0 106 5 ∧ s35 106 6 = s0 106 6) => ?_))
              clear es29
              refine h_iinc (pc' := 110) (b := 5) (M := fun z36 => [(2, .int z36), (0, .ref 98), (1, .int x0)]) rfl rfl rfl rfl ci_4 ci_1 rfl (by omega) (by omega) (fun _ => rfl) (fun z36 hz36 => ?_)
              refine h_aload_n (pc' := 111) rfl rfl rfl ?_
              refine h_getR (pc' := 114) rfl rfl rfl rfl rfl ?_
              refine h_iload_n (pc' := 115) rfl rfl rfl ?_
              refine h_iconst (pc' := 116) (x := (Int32.ofInt (-1))) rfl rfl rfl ?_
              refine h_iast (pc' := 117) rfl rfl rfl rfl hz36 (by omega) (by omega) ci_m1 (h_fgt (E := fun s => s 106 0 = s0 106 0 ∧ s 106 1 = s0 106 1 ∧ s 106 2 = s0 106 2 ∧ s 106 3 = s0 106 3 ∧ s 106 4 = ((s0 106 4) + 1) ∧ s 106 5 = (-1) ∧ s 106 6 = s0 106 6) _ (in_106 Is35 (by omega)) (Fs35.up rfl) ⟨es35.1, es35.2.1, es35.2.2.1, es35.2.2.2.1, es35.2.2.2.2.1, rfl, es35.2.2.2.2.2.2⟩ (fun s37 Is37 Fs37 (es37 : s37 106 0 = s0 106 0 ∧ s37 106 1 = s0 106 1 ∧ s37 106 2 = s0 106 2 ∧ s37 106 3 = s0 106 3 ∧ s37 106 4 = ((s0 106 4) + 1) ∧ s37 106 5 = (-1) ∧ s37 106 6 = s0 106 6) => ?_))
              clear es35
              refine h_goto (pc' := 19) rfl rfl ?_
              have qz36 : z36 = (Int32.ofInt 5) := h_lit hz36 ci_5
              subst qz36
              exact h_wk [(0, .ref 98), (1, .int x0), (2, .int (Int32.ofInt 5))] ⟨rfl, rfl, rfl, trivial⟩ (ih.2.2.2.2.2.2.1 _ Is37 Fs37  (by omega) (by omega) (by omega) (by omega) (by omega) (by omega) (h_nf ex5 (by omega) (by omega)) (h_nf ex6 (by omega) (by omega)) (h_nf ex7 (by omega) (by omega)) (h_nf ex8 (by omega) (by omega)) (h_nf ex9 (by omega) (by omega)) (h_nf ex10 (by omega) (by omega)) (h_ni (by omega)) (h_ni (by omega)) (h_ni (by omega)) (h_ni (by omega)) (by omega))
            · refine h_iconst (pc' := 99) (x := (Int32.ofInt 1)) rfl rfl rfl ?_
              refine h_goto (pc' := 103) rfl rfl ?_
              refine h_iaddA (pc' := 104) rfl rfl (fun z38 hz38 => ?_)
              refine h_put (pc' := 107) rfl rfl rfl rfl rfl rfl rfl rfl (h_fgt (E := fun s => s 106 0 = s0 106 0 ∧ s 106 1 = s0 106 1 ∧ s 106 2 = s0 106 2 ∧ s 106 3 = s0 106 3 ∧ s 106 4 = ((s0 106 4) + 1) ∧ s 106 5 = s0 106 5 ∧ s 106 6 = s0 106 6) _ (if_98_27 Is29 (h_rgv rfl)) (Fs29.up rfl) ⟨es29.1, es29.2.1, es29.2.2.1, es29.2.2.2.1, es29.2.2.2.2.1, es29.2.2.2.2.2.1, es29.2.2.2.2.2.2⟩ (fun s39 Is39 Fs39 (es39 : s39 106 0 = s0 106 0 ∧ s39 106 1 = s0 106 1 ∧ s39 106 2 = s0 106 2 ∧ s39 106 3 = s0 106 3 ∧ s39 106 4 = ((s0 106 4) + 1) ∧ s39 106 5 = s0 106 5 ∧ s39 106 6 = s0 106 6) => ?_))
              clear es29
              refine h_iinc (pc' := 110) (b := 5) (M := fun z40 => [(2, .int z40), (0, .ref 98), (1, .int x0)]) rfl rfl rfl rfl ci_4 ci_1 rfl (by omega) (by omega) (fun _ => rfl) (fun z40 hz40 => ?_)
              refine h_aload_n (pc' := 111) rfl rfl rfl ?_
              refine h_getR (pc' := 114) rfl rfl rfl rfl rfl ?_
              refine h_iload_n (pc' := 115) rfl rfl rfl ?_
              refine h_iconst (pc' := 116) (x := (Int32.ofInt (-1))) rfl rfl rfl ?_
              refine h_iast (pc' := 117) rfl rfl rfl rfl hz40 (by omega) (by omega) ci_m1 (h_fgt (E := fun s => s 106 0 = s0 106 0 ∧ s 106 1 = s0 106 1 ∧ s 106 2 = s0 106 2 ∧ s 106 3 = s0 106 3 ∧ s 106 4 = ((s0 106 4) + 1) ∧ s 106 5 = (-1) ∧ s 106 6 = s0 106 6) _ (in_106 Is39 (by omega)) (Fs39.up rfl) ⟨es39.1, es39.2.1, es39.2.2.1, es39.2.2.2.1, es39.2.2.2.2.1, rfl, es39.2.2.2.2.2.2⟩ (fun s41 Is41 Fs41 (es41 : s41 106 0 = s0 106 0 ∧ s41 106 1 = s0 106 1 ∧ s41 106 2 = s0 106 2 ∧ s41 106 3 = s0 106 3 ∧ s41 106 4 = ((s0 106 4) + 1) ∧ s41 106 5 = (-1) ∧ s41 106 6 = s0 106 6) => ?_))
              clear es39
              refine h_goto (pc' := 19) rfl rfl ?_
              have qz40 : z40 = (Int32.ofInt 5) := h_lit hz40 ci_5
              subst qz40
              exact h_wk [(0, .ref 98), (1, .int x0), (2, .int (Int32.ofInt 5))] ⟨rfl, rfl, rfl, trivial⟩ (ih.2.2.2.2.2.2.1 _ Is41 Fs41  (by omega) (by omega) (by omega) (by omega) (by omega) (by omega) (h_nf ex5 (by omega) (by omega)) (h_nf ex6 (by omega) (by omega)) (h_nf ex7 (by omega) (by omega)) (h_nf ex8 (by omega) (by omega)) (h_nf ex9 (by omega) (by omega)) (h_nf ex10 (by omega) (by omega)) (h_ni (by omega)) (h_ni (by omega)) (h_ni (by omega)) (h_ni (by omega)) (by omega))
      · refine h_iinc (pc' := 49) (b := 3) (M := fun z42 => [(2, .int z42), (0, .ref 98), (1, .int x0)]) rfl rfl rfl rfl ci_4 ci_m1 rfl (by omega) (by omega) (fun _ => rfl) (fun z42 hz42 => ?_)
        refine h_goto (pc' := 19) rfl rfl ?_
        have qz42 : z42 = (Int32.ofInt 3) := h_lit hz42 ci_3
        subst qz42
        exact h_wk [(0, .ref 98), (1, .int x0), (2, .int (Int32.ofInt 3))] ⟨rfl, rfl, rfl, trivial⟩ (ih.2.2.2.2.1 _ Is4 Fs4  (by omega) (by omega) (by omega) (by omega) (h_nf ex5 (by omega) (by omega)) (h_nf ex6 (by omega) (by omega)) (h_nf ex7 (by omega) (by omega)) (by omega))
    · intro s0 I0 F0_ ex0 ex1 ex2 ex3 ex4 ex5 ex6 ex7 ex8 ex9 ex10 ex11 ex12 ex13 ex14 ex15 hm
      refine h_iload_n (pc' := 20) rfl rfl rfl ?_
      refine h_zlt (tg := 120) (pc' := 23) rfl rfl rfl ci_5 (fun c1 => absurd c1 (by omega)) (fun c1 => ?_)
      refine h_aload_n (pc' := 24) rfl rfl rfl ?_
      refine h_getR (pc' := 27) rfl rfl rfl rfl rfl ?_
      refine h_iload_n (pc' := 28) rfl rfl rfl ?_
      refine h_dup2 (pc' := 29) rfl rfl rfl ?_
      refine h_iald (pc' := 30) (v := s0 106 5) rfl rfl rfl ci_5 (by omega) (by omega) rfl (fun z2 hz2 => ?_)
      have tz2 := ty_106 I0 5
      refine h_iconst (pc' := 31) (x := (Int32.ofInt 1)) rfl rfl rfl ?_
      refine h_iadd (pc' := 32) rfl rfl hz2 ci_1 rfl (by omega) (by omega) (fun z3 hz3 => ?_)
      refine h_iast (pc' := 33) rfl rfl rfl rfl ci_5 (by omega) (by omega) hz3 (h_fgt (E := fun s => s 106 0 = s0 106 0 ∧ s 106 1 = s0 106 1 ∧ s 106 2 = s0 106 2 ∧ s 106 3 = s0 106 3 ∧ s 106 4 = s0 106 4 ∧ s 106 5 = ((s0 106 5) + 1) ∧ s 106 6 = s0 106 6) _ (in_106 I0 (by omega)) (F0_.up rfl) ⟨rfl, rfl, rfl, rfl, rfl, rfl, rfl⟩ (fun s4 Is4 Fs4 (es4 : s4 106 0 = s0 106 0 ∧ s4 106 1 = s0 106 1 ∧ s4 106 2 = s0 106 2 ∧ s4 106 3 = s0 106 3 ∧ s4 106 4 = s0 106 4 ∧ s4 106 5 = ((s0 106 5) + 1) ∧ s4 106 6 = s0 106 6) => ?_))
      refine h_aload_n (pc' := 34) rfl rfl rfl ?_
      refine h_getR (pc' := 37) rfl rfl rfl rfl rfl ?_
      refine h_iload_n (pc' := 38) rfl rfl rfl ?_
      refine h_iald (pc' := 39) (v := ((s0 106 5) + 1)) rfl rfl rfl ci_5 (by omega) (by omega) es4.2.2.2.2.2.1 (fun z5 hz5 => ?_)
      refine h_aload_n (pc' := 40) rfl rfl rfl ?_
      refine h_getI (pc' := 43) (v := σ 98 1) rfl rfl rfl rfl rfl (Fs4 98 1 rfl) (fun z6 hz6 => ?_)
      have tz6 := tf_98_1 hI
      refine h_clt (tg := 52) (pc' := 46) rfl rfl rfl hz5 hz6 (fun c7 => ?_) (fun c7 => ?_)
      · refine h_aload_n (pc' := 53) rfl rfl rfl ?_
        refine h_iload_n (pc' := 54) rfl rfl rfl ?_
        refine h_iload_n (pc' := 55) rfl rfl rfl ?_
        refine h_call (sp := false) (pc' := 58) (M := [(0, .ref 98), (1, .int x0), (2, .int (Int32.ofInt 5))]) rfl rfl rfl rfl rfl rfl rfl rfl ?_
        refine v_stands5 _ Is4 x0 _ hx0 (by omega)  (by omega) (by omega) (fun r8 br8 hr8 tr8 ps9_0 ps9_1 ps9_2 ps9_3 ps9_4 => h_Kv ?_)
        refine h_zeq (tg := 19) (pc' := 61) rfl rfl rfl hr8 (fun c10 => ?_) (fun c10 => ?_)
        · exact h_wk [(0, .ref 98), (1, .int x0), (2, .int (Int32.ofInt 5))] ⟨rfl, rfl, rfl, trivial⟩ (ih.2.2.2.2.2.2.1 _ Is4 Fs4  (by omega) (by omega) (by omega) (by omega) (by omega) (by omega) (h_nf ex6 (by omega) (by omega)) (h_nf ex7 (by omega) (by omega)) (h_nf ex8 (by omega) (by omega)) (h_nf ex9 (by omega) (by omega)) (h_nf ex10 (by omega) (by omega)) (h_nf ex11 (by omega) (by omega)) (h_nf ex12 (by omega) (by omega)) (h_nf ex13 (by omega) (by omega)) (h_nf ex14 (by omega) (by omega)) (h_nf ex15 (by omega) (by omega)) (by omega))
        · refine h_iload_n (pc' := 62) rfl rfl rfl ?_
          refine h_iconst (pc' := 63) (x := (Int32.ofInt 1)) rfl rfl rfl ?_
          refine h_iadd (pc' := 64) (c := 6) rfl rfl ci_5 ci_1 rfl (by omega) (by omega) (fun z11 hz11 => ?_)
          refine h_aload_n (pc' := 65) rfl rfl rfl ?_
          refine h_getI (pc' := 68) (v := s4 98 26) rfl rfl rfl rfl rfl rfl (fun z12 hz12 => ?_)
          have tz12 := tf_98_26 Is4
          refine h_cle (tg := 83) (pc' := 71) rfl rfl rfl hz11 hz12 (fun c13 => ?_) (fun c13 => ?_)
          · refine h_aload_n (pc' := 84) rfl rfl rfl ?_
            refine h_dup (pc' := 85) rfl rfl rfl ?_
            refine h_getI (pc' := 88) (v := s4 98 27) rfl rfl rfl rfl rfl rfl (fun z14 hz14 => ?_)
            have tz14 := tf_98_27 Is4
            refine h_iload_n (pc' := 89) rfl rfl rfl ?_
            refine h_iconst (pc' := 90) (x := (Int32.ofInt 1)) rfl rfl rfl ?_
            refine h_iadd (pc' := 91) (c := 6) rfl rfl ci_5 ci_1 rfl (by omega) (by omega) (fun z15 hz15 => ?_)
            refine h_aload_n (pc' := 92) rfl rfl rfl ?_
            refine h_getI (pc' := 95) (v := s4 98 26) rfl rfl rfl rfl rfl rfl (fun z16 hz16 => ?_)
            have tz16 := tf_98_26 Is4
            refine h_cne (tg := 102) (pc' := 98) rfl rfl rfl hz15 hz16 (fun c17 => absurd c17 (by omega)) (fun c17 => ?_)
            refine h_iconst (pc' := 99) (x := (Int32.ofInt 1)) rfl rfl rfl ?_
            refine h_goto (pc' := 103) rfl rfl ?_
            refine h_iaddA (pc' := 104) rfl rfl (fun z18 hz18 => ?_)
            refine h_put (pc' := 107) rfl rfl rfl rfl rfl rfl rfl rfl (h_fgt (E := fun s => s 106 0 = s0 106 0 ∧ s 106 1 = s0 106 1 ∧ s 106 2 = s0 106 2 ∧ s 106 3 = s0 106 3 ∧ s 106 4 = s0 106 4 ∧ s 106 5 = ((s0 106 5) + 1) ∧ s 106 6 = s0 106 6) _ (if_98_27 Is4 (h_rgv rfl)) (Fs4.up rfl) ⟨es4.1, es4.2.1, es4.2.2.1, es4.2.2.2.1, es4.2.2.2.2.1, es4.2.2.2.2.2.1, es4.2.2.2.2.2.2⟩ (fun s19 Is19 Fs19 (es19 : s19 106 0 = s0 106 0 ∧ s19 106 1 = s0 106 1 ∧ s19 106 2 = s0 106 2 ∧ s19 106 3 = s0 106 3 ∧ s19 106 4 = s0 106 4 ∧ s19 106 5 = ((s0 106 5) + 1) ∧ s19 106 6 = s0 106 6) => ?_))
            refine h_iinc (pc' := 110) (b := 6) (M := fun z20 => [(2, .int z20), (0, .ref 98), (1, .int x0)]) rfl rfl rfl rfl ci_5 ci_1 rfl (by omega) (by omega) (fun _ => rfl) (fun z20 hz20 => ?_)
            refine h_aload_n (pc' := 111) rfl rfl rfl ?_
            refine h_getR (pc' := 114) rfl rfl rfl rfl rfl ?_
            refine h_iload_n (pc' := 115) rfl rfl rfl ?_
            refine h_iconst (pc' := 116) (x := (Int32.ofInt (-1))) rfl rfl rfl ?_
            refine h_iast (pc' := 117) rfl rfl rfl rfl hz20 (by omega) (by omega) ci_m1 (h_fgt (E := fun s => s 106 0 = s0 106 0 ∧ s 106 1 = s0 106 1 ∧ s 106 2 = s0 106 2 ∧ s 106 3 = s0 106 3 ∧ s 106 4 = s0 106 4 ∧ s 106 5 = ((s0 106 5) + 1) ∧ s 106 6 = (-1)) _ (in_106 Is19 (by omega)) (Fs19.up rfl) ⟨es19.1, es19.2.1, es19.2.2.1, es19.2.2.2.1, es19.2.2.2.2.1, es19.2.2.2.2.2.1, rfl⟩ (fun s21 Is21 Fs21 (es21 : s21 106 0 = s0 106 0 ∧ s21 106 1 = s0 106 1 ∧ s21 106 2 = s0 106 2 ∧ s21 106 3 = s0 106 3 ∧ s21 106 4 = s0 106 4 ∧ s21 106 5 = ((s0 106 5) + 1) ∧ s21 106 6 = (-1)) => ?_))
            clear es19
            refine h_goto (pc' := 19) rfl rfl ?_
            have qz20 : z20 = (Int32.ofInt 6) := h_lit hz20 ci_6
            subst qz20
            exact h_wk [(0, .ref 98), (1, .int x0), (2, .int (Int32.ofInt 6))] ⟨rfl, rfl, rfl, trivial⟩ (ih.2.2.2.2.2.2.2 _ Is21 Fs21  (by omega) (by omega) (by omega) (by omega) (by omega) (by omega) (by omega) (h_nf ex6 (by omega) (by omega)) (h_nf ex7 (by omega) (by omega)) (h_nf ex8 (by omega) (by omega)) (h_nf ex9 (by omega) (by omega)) (h_nf ex10 (by omega) (by omega)) (h_nf ex11 (by omega) (by omega)) (h_nf ex12 (by omega) (by omega)) (h_nf ex13 (by omega) (by omega)) (h_nf ex14 (by omega) (by omega)) (h_nf ex15 (by omega) (by omega)) (h_ni (by omega)) (h_ni (by omega)) (h_ni (by omega)) (h_ni (by omega)) (h_ni (by omega)) (by omega))
          · refine h_aload_n (pc' := 72) rfl rfl rfl ?_
            refine h_iload_n (pc' := 73) rfl rfl rfl ?_
            refine h_iconst (pc' := 74) (x := (Int32.ofInt 1)) rfl rfl rfl ?_
            refine h_iadd (pc' := 75) (c := 6) rfl rfl ci_5 ci_1 rfl (by omega) (by omega) (fun z22 hz22 => ?_)
            refine h_call (sp := false) (pc' := 78) (M := [(0, .ref 98), (1, .int z22)]) rfl rfl rfl rfl rfl rfl rfl rfl ?_
            refine v_keepsRow _ Is4 z22 _ hz22 (by omega) (fun s24 Is24 Gs24 ps24_0 ps24_1 ps24_2 ps24_3 ps24_4 ps24_5 ps24_6 => h_Kn ?_)
            have Fs24 := (Gs24.mono (B := kf_v_lines) rfl).tr Fs4
            have es24_0 : s24 106 0 = s0 106 0 := (Gs24 106 0 rfl).trans es4.1
            have es24_1 : s24 106 1 = s0 106 1 := (Gs24 106 1 rfl).trans es4.2.1
            have es24_2 : s24 106 2 = s0 106 2 := (Gs24 106 2 rfl).trans es4.2.2.1
            have es24_3 : s24 106 3 = s0 106 3 := (Gs24 106 3 rfl).trans es4.2.2.2.1
            have es24_4 : s24 106 4 = s0 106 4 := (Gs24 106 4 rfl).trans es4.2.2.2.2.1
            have es24_5 : s24 106 5 = ((s0 106 5) + 1) := (Gs24 106 5 rfl).trans es4.2.2.2.2.2.1
            have es24_6 : s24 106 6 = s0 106 6 := (Gs24 106 6 rfl).trans es4.2.2.2.2.2.2
            refine h_aload_n (pc' := 79) rfl rfl rfl ?_
            refine h_iconst (pc' := 80) (x := (Int32.ofInt 0)) rfl rfl rfl ?_
            refine h_put (pc' := 83) rfl rfl rfl rfl rfl rfl ci_0 rfl (h_fgt (E := fun s => s 106 0 = s0 106 0 ∧ s 106 1 = s0 106 1 ∧ s 106 2 = s0 106 2 ∧ s 106 3 = s0 106 3 ∧ s 106 4 = s0 106 4 ∧ s 106 5 = ((s0 106 5) + 1) ∧ s 106 6 = s0 106 6) _ (if_98_27 Is24 (h_rgv ci_0)) (Fs24.up rfl) ⟨es24_0, es24_1, es24_2, es24_3, es24_4, es24_5, es24_6⟩ (fun s25 Is25 Fs25 (es25 : s25 106 0 = s0 106 0 ∧ s25 106 1 = s0 106 1 ∧ s25 106 2 = s0 106 2 ∧ s25 106 3 = s0 106 3 ∧ s25 106 4 = s0 106 4 ∧ s25 106 5 = ((s0 106 5) + 1) ∧ s25 106 6 = s0 106 6) => ?_))
            clear es24_0 es24_1 es24_2 es24_3 es24_4 es24_5 es24_6
            refine h_aload_n (pc' := 84) rfl rfl rfl ?_
            refine h_dup (pc' := 85) rfl rfl rfl ?_
            refine h_getI (pc' := 88) (v := s25 98 27) rfl rfl rfl rfl rfl rfl (fun z26 hz26 => ?_)
            have tz26 := tf_98_27 Is25
            refine h_iload_n (pc' := 89) rfl rfl rfl ?_
            refine h_iconst (pc' := 90) (x := (Int32.ofInt 1)) rfl rfl rfl ?_
            refine h_iadd (pc' := 91) (c := 6) rfl rfl ci_5 ci_1 rfl (by omega) (by omega) (fun z27 hz27 => ?_)
            refine h_aload_n (pc' := 92) rfl rfl rfl ?_
            refine h_getI (pc' := 95) (v := s25 98 26) rfl rfl rfl rfl rfl rfl (fun z28 hz28 => ?_)
            have tz28 := tf_98_26 Is25
            refine h_cne (tg := 102) (pc' := 98) rfl rfl rfl hz27 hz28 (fun c29 => ?_) (fun c29 => ?_)
            · refine h_iconst (pc' := 103) (x := (Int32.ofInt 0)) rfl rfl rfl ?_
              refine h_iadd (pc' := 104) rfl rfl hz26 ci_0 rfl (by have g0 := h_rgv hz26; omega) (by have g0 := h_rgv hz26; omega) (fun z30 hz30 => ?_)
              refine h_put (pc' := 107) rfl rfl rfl rfl rfl rfl hz30 rfl (h_fgt (E := fun s => s 106 0 = s0 106 0 ∧ s 106 1 = s0 106 1 ∧ s 106 2 = s0 106 2 ∧ s 106 3 = s0 106 3 ∧ s 106 4 = s0 106 4 ∧ s 106 5 = ((s0 106 5) + 1) ∧ s 106 6 = s0 106 6) _ (if_98_27 Is25 (h_rgv hz30)) (Fs25.up rfl) ⟨es25.1, es25.2.1, es25.2.2.1, es25.2.2.2.1, es25.2.2.2.2.1, es25.2.2.2.2.2.1, es25.2.2.2.2.2.2⟩ (fun s31 Is31 Fs31 (es31 : s31 106 0 = s0 106 0 ∧ s31 106 1 = s0 106 1 ∧ s31 106 2 = s0 106 2 ∧ s31 106 3 = s0 106 3 ∧ s31 106 4 = s0 106 4 ∧ s31 106 5 = ((s0 106 5) + 1) ∧ s31 106 6 = s0 106 6) => ?_))
              clear es25
              refine h_iinc (pc' := 110) (b := 6) (M := fun z32 => [(2, .int z32), (0, .ref 98), (1, .int x0)]) rfl rfl rfl rfl ci_5 ci_1 rfl (by omega) (by omega) (fun _ => rfl) (fun z32 hz32 => ?_)
              refine h_aload_n (pc' := 111) rfl rfl rfl ?_
              refine h_getR (pc' := 114) rfl rfl rfl rfl rfl ?_
              refine h_iload_n (pc' := 115) rfl rfl rfl ?_
              refine h_iconst (pc' := 116) (x := (Int32.ofInt (-1))) rfl rfl rfl ?_
              refine h_iast (pc' := 117) rfl rfl rfl rfl hz32 (by omega) (by omega) ci_m1 (h_fgt (E := fun s => s 106 0 = s0 106 0 ∧ s 106 1 = s0 106 1 ∧ s 106 2 = s0 106 2 ∧ s 106 3 = s0 106 3 ∧ s 106 4 = s0 106 4 ∧ s 106 5 = ((s0 106 5) + 1) ∧ s 106 6 = (-1)) _ (in_106 Is31 (by omega)) (Fs31.up rfl) ⟨es31.1, es31.2.1, es31.2.2.1, es31.2.2.2.1, es31.2.2.2.2.1, es31.2.2.2.2.2.1, rfl⟩ (fun s33 Is33 Fs33 (es33 : s33 106 0 = s0 106 0 ∧ s33 106 1 = s0 106 1 ∧ s33 106 2 = s0 106 2 ∧ s33 106 3 = s0 106 3 ∧ s33 106 4 = s0 106 4 ∧ s33 106 5 = ((s0 106 5) + 1) ∧ s33 106 6 = (-1)) => ?_))
              clear es31
              refine h_goto (pc' := 19) rfl rfl ?_
              have qz32 : z32 = (Int32.ofInt 6) := h_lit hz32 ci_6
              subst qz32
              exact h_wk [(0, .ref 98), (1, .int x0), (2, .int (Int32.ofInt 6))] ⟨rfl, rfl, rfl, trivial⟩ (ih.2.2.2.2.2.2.2 _ Is33 Fs33  (by omega) (by omega) (by omega) (by omega) (by omega) (by omega) (by omega) (h_nf ex6 (by omega) (by omega)) (h_nf ex7 (by omega) (by omega)) (h_nf ex8 (by omega) (by omega)) (h_nf ex9 (by omega) (by omega)) (h_nf ex10 (by omega) (by omega)) (h_nf ex11 (by omega) (by omega)) (h_nf ex12 (by omega) (by omega)) (h_nf ex13 (by omega) (by omega)) (h_nf ex14 (by omega) (by omega)) (h_nf ex15 (by omega) (by omega)) (h_ni (by omega)) (h_ni (by omega)) (h_ni (by omega)) (h_ni (by omega)) (h_ni (by omega)) (by omega))
            · refine h_iconst (pc' := 99) (x := (Int32.ofInt 1)) rfl rfl rfl ?_
              refine h_goto (pc' := 103) rfl rfl ?_
              refine h_iaddA (pc' := 104) rfl rfl (fun z34 hz34 => ?_)
              refine h_put (pc' := 107) rfl rfl rfl rfl rfl rfl rfl rfl (h_fgt (E := fun s => s 106 0 = s0 106 0 ∧ s 106 1 = s0 106 1 ∧ s 106 2 = s0 106 2 ∧ s 106 3 = s0 106 3 ∧ s 106 4 = s0 106 4 ∧ s 106 5 = ((s0 106 5) + 1) ∧ s 106 6 = s0 106 6) _ (if_98_27 Is25 (h_rgv rfl)) (Fs25.up rfl) ⟨es25.1, es25.2.1, es25.2.2.1, es25.2.2.2.1, es25.2.2.2.2.1, es25.2.2.2.2.2.1, es25.2.2.2.2.2.2⟩ (fun s35 Is35 Fs35 (es35 : s35 106 0 = s0 106 0 ∧ s35 106 1 = s0 106 1 ∧ s35 106 2 = s0 106 2 ∧ s35 106 3 = s0 106 3 ∧ s35 106 4 = s0 106 4 ∧ s35 106 5 = ((s0 106 5) + 1) ∧ s35 106 6 = s0 106 6) => ?_))
              clear es25
              refine h_iinc (pc' := 110) (b := 6) (M := fun z36 => [(2, .int z36), (0, .ref 98), (1, .int x0)]) rfl rfl rfl rfl ci_5 ci_1 rfl (by omega) (by omega) (fun _ => rfl) (fun z36 hz36 => ?_)
              refine h_aload_n (pc' := 111) rfl rfl rfl ?_
              refine h_getR (pc' := 114) rfl rfl rfl rfl rfl ?_
              refine h_iload_n (pc' := 115) rfl rfl rfl ?_
              refine h_iconst (pc' := 116) (x := (Int32.ofInt (-1))) rfl rfl rfl ?_
              refine h_iast (pc' := 117) rfl rfl rfl rfl hz36 (by omega) (by omega) ci_m1 (h_fgt (E := fun s => s 106 0 = s0 106 0 ∧ s 106 1 = s0 106 1 ∧ s 106 2 = s0 106 2 ∧ s 106 3 = s0 106 3 ∧ s 106 4 = s0 106 4 ∧ s 106 5 = ((s0 106 5) + 1) ∧ s 106 6 = (-1)) _ (in_106 Is35 (by omega)) (Fs35.up rfl) ⟨es35.1, es35.2.1, es35.2.2.1, es35.2.2.2.1, es35.2.2.2.2.1, es35.2.2.2.2.2.1, rfl⟩ (fun s37 Is37 Fs37 (es37 : s37 106 0 = s0 106 0 ∧ s37 106 1 = s0 106 1 ∧ s37 106 2 = s0 106 2 ∧ s37 106 3 = s0 106 3 ∧ s37 106 4 = s0 106 4 ∧ s37 106 5 = ((s0 106 5) + 1) ∧ s37 106 6 = (-1)) => ?_))
              clear es35
              refine h_goto (pc' := 19) rfl rfl ?_
              have qz36 : z36 = (Int32.ofInt 6) := h_lit hz36 ci_6
              subst qz36
              exact h_wk [(0, .ref 98), (1, .int x0), (2, .int (Int32.ofInt 6))] ⟨rfl, rfl, rfl, trivial⟩ (ih.2.2.2.2.2.2.2 _ Is37 Fs37  (by omega) (by omega) (by omega) (by omega) (by omega) (by omega) (by omega) (h_nf ex6 (by omega) (by omega)) (h_nf ex7 (by omega) (by omega)) (h_nf ex8 (by omega) (by omega)) (h_nf ex9 (by omega) (by omega)) (h_nf ex10 (by omega) (by omega)) (h_nf ex11 (by omega) (by omega)) (h_nf ex12 (by omega) (by omega)) (h_nf ex13 (by omega) (by omega)) (h_nf ex14 (by omega) (by omega)) (h_nf ex15 (by omega) (by omega)) (h_ni (by omega)) (h_ni (by omega)) (h_ni (by omega)) (h_ni (by omega)) (h_ni (by omega)) (by omega))
      · refine h_iinc (pc' := 49) (b := 4) (M := fun z38 => [(2, .int z38), (0, .ref 98), (1, .int x0)]) rfl rfl rfl rfl ci_5 ci_m1 rfl (by omega) (by omega) (fun _ => rfl) (fun z38 hz38 => ?_)
        refine h_goto (pc' := 19) rfl rfl ?_
        have qz38 : z38 = (Int32.ofInt 4) := h_lit hz38 ci_4
        subst qz38
        exact h_wk [(0, .ref 98), (1, .int x0), (2, .int (Int32.ofInt 4))] ⟨rfl, rfl, rfl, trivial⟩ (ih.2.2.2.2.2.1 _ Is4 Fs4  (by omega) (by omega) (by omega) (by omega) (by omega) (h_nf ex6 (by omega) (by omega)) (h_nf ex7 (by omega) (by omega)) (h_nf ex8 (by omega) (by omega)) (h_nf ex9 (by omega) (by omega)) (h_nf ex10 (by omega) (by omega)) (h_nf ex11 (by omega) (by omega)) (by omega))
    · intro s0 I0 F0_ ex0 ex1 ex2 ex3 ex4 ex5 ex6 ex7 ex8 ex9 ex10 ex11 ex12 ex13 ex14 ex15 ex16 ex17 ex18 ex19 ex20 ex21 hm
      refine h_iload_n (pc' := 20) rfl rfl rfl ?_
      refine h_zlt (tg := 120) (pc' := 23) rfl rfl rfl ci_6 (fun c1 => absurd c1 (by omega)) (fun c1 => ?_)
      refine h_aload_n (pc' := 24) rfl rfl rfl ?_
      refine h_getR (pc' := 27) rfl rfl rfl rfl rfl ?_
      refine h_iload_n (pc' := 28) rfl rfl rfl ?_
      refine h_dup2 (pc' := 29) rfl rfl rfl ?_
      refine h_iald (pc' := 30) (v := s0 106 6) rfl rfl rfl ci_6 (by omega) (by omega) rfl (fun z2 hz2 => ?_)
      have tz2 := ty_106 I0 6
      refine h_iconst (pc' := 31) (x := (Int32.ofInt 1)) rfl rfl rfl ?_
      refine h_iadd (pc' := 32) rfl rfl hz2 ci_1 rfl (by omega) (by omega) (fun z3 hz3 => ?_)
      refine h_iast (pc' := 33) rfl rfl rfl rfl ci_6 (by omega) (by omega) hz3 (h_fgt (E := fun s => s 106 0 = s0 106 0 ∧ s 106 1 = s0 106 1 ∧ s 106 2 = s0 106 2 ∧ s 106 3 = s0 106 3 ∧ s 106 4 = s0 106 4 ∧ s 106 5 = s0 106 5 ∧ s 106 6 = ((s0 106 6) + 1)) _ (in_106 I0 (by omega)) (F0_.up rfl) ⟨rfl, rfl, rfl, rfl, rfl, rfl, rfl⟩ (fun s4 Is4 Fs4 (es4 : s4 106 0 = s0 106 0 ∧ s4 106 1 = s0 106 1 ∧ s4 106 2 = s0 106 2 ∧ s4 106 3 = s0 106 3 ∧ s4 106 4 = s0 106 4 ∧ s4 106 5 = s0 106 5 ∧ s4 106 6 = ((s0 106 6) + 1)) => ?_))
      refine h_aload_n (pc' := 34) rfl rfl rfl ?_
      refine h_getR (pc' := 37) rfl rfl rfl rfl rfl ?_
      refine h_iload_n (pc' := 38) rfl rfl rfl ?_
      refine h_iald (pc' := 39) (v := ((s0 106 6) + 1)) rfl rfl rfl ci_6 (by omega) (by omega) es4.2.2.2.2.2.2 (fun z5 hz5 => ?_)
      refine h_aload_n (pc' := 40) rfl rfl rfl ?_
      refine h_getI (pc' := 43) (v := σ 98 1) rfl rfl rfl rfl rfl (Fs4 98 1 rfl) (fun z6 hz6 => ?_)
      have tz6 := tf_98_1 hI
      refine h_clt (tg := 52) (pc' := 46) rfl rfl rfl hz5 hz6 (fun c7 => ?_) (fun c7 => ?_)
      · refine h_aload_n (pc' := 53) rfl rfl rfl ?_
        refine h_iload_n (pc' := 54) rfl rfl rfl ?_
        refine h_iload_n (pc' := 55) rfl rfl rfl ?_
        refine h_call (sp := false) (pc' := 58) (M := [(0, .ref 98), (1, .int x0), (2, .int (Int32.ofInt 6))]) rfl rfl rfl rfl rfl rfl rfl rfl ?_
        refine v_stands6 _ Is4 x0 _ hx0 (by omega)  (by omega) (by omega) (fun r8 br8 hr8 tr8 ps9_0 ps9_1 ps9_2 ps9_3 ps9_4 ps9_5 => h_Kv ?_)
        refine h_zeq (tg := 19) (pc' := 61) rfl rfl rfl hr8 (fun c10 => ?_) (fun c10 => ?_)
        · exact h_wk [(0, .ref 98), (1, .int x0), (2, .int (Int32.ofInt 6))] ⟨rfl, rfl, rfl, trivial⟩ (ih.2.2.2.2.2.2.2 _ Is4 Fs4  (by omega) (by omega) (by omega) (by omega) (by omega) (by omega) (by omega) (h_nf ex7 (by omega) (by omega)) (h_nf ex8 (by omega) (by omega)) (h_nf ex9 (by omega) (by omega)) (h_nf ex10 (by omega) (by omega)) (h_nf ex11 (by omega) (by omega)) (h_nf ex12 (by omega) (by omega)) (h_nf ex13 (by omega) (by omega)) (h_nf ex14 (by omega) (by omega)) (h_nf ex15 (by omega) (by omega)) (h_nf ex16 (by omega) (by omega)) (h_nf ex17 (by omega) (by omega)) (h_nf ex18 (by omega) (by omega)) (h_nf ex19 (by omega) (by omega)) (h_nf ex20 (by omega) (by omega)) (h_nf ex21 (by omega) (by omega)) (by omega))
        · exact (h_ph7 (s4 106) (by omega) (by omega) (by omega) (by omega) (by omega) (by omega) (by omega) (h_nf ex7 (by omega) (by omega)) (h_nf ex8 (by omega) (by omega)) (h_nf ex9 (by omega) (by omega)) (h_nf ex10 (by omega) (by omega)) (h_nf ex11 (by omega) (by omega)) (h_nf ex12 (by omega) (by omega)) (h_nf ex13 (by omega) (by omega)) (h_nf ex14 (by omega) (by omega)) (h_nf ex15 (by omega) (by omega)) (h_nf ex16 (by omega) (by omega)) (h_nf ex17 (by omega) (by omega)) (h_nf ex18 (by omega) (by omega)) (h_nf ex19 (by omega) (by omega)) (h_nf ex20 (by omega) (by omega)) (h_nf ex21 (by omega) (by omega)) (h_ni (by omega)) (h_ni (by omega)) (h_ni (by omega)) (h_ni (by omega)) (h_ni (by omega)) (h_ni (by omega))).elim
      · refine h_iinc (pc' := 49) (b := 5) (M := fun z11 => [(2, .int z11), (0, .ref 98), (1, .int x0)]) rfl rfl rfl rfl ci_6 ci_m1 rfl (by omega) (by omega) (fun _ => rfl) (fun z11 hz11 => ?_)
        refine h_goto (pc' := 19) rfl rfl ?_
        have qz11 : z11 = (Int32.ofInt 5) := h_lit hz11 ci_5
        subst qz11
        exact h_wk [(0, .ref 98), (1, .int x0), (2, .int (Int32.ofInt 5))] ⟨rfl, rfl, rfl, trivial⟩ (ih.2.2.2.2.2.2.1 _ Is4 Fs4  (by omega) (by omega) (by omega) (by omega) (by omega) (by omega) (h_nf ex7 (by omega) (by omega)) (h_nf ex8 (by omega) (by omega)) (h_nf ex9 (by omega) (by omega)) (h_nf ex10 (by omega) (by omega)) (h_nf ex11 (by omega) (by omega)) (h_nf ex12 (by omega) (by omega)) (h_nf ex13 (by omega) (by omega)) (h_nf ex14 (by omega) (by omega)) (h_nf ex15 (by omega) (by omega)) (h_nf ex16 (by omega) (by omega)) (by omega))
set_option maxHeartbeats 100000000 in
theorem v_lines {ns : Nat} (σ : h_S) (hI : h_I σ) (x0 : Int32) (a0 : Int) (hx0 : x0.toInt = a0) (ra0 : 0 ≤ a0 ∧ a0 ≤ 2) {Q : Option Value → h_S → Prop} (kk : ∀ (τ : h_S), h_I τ → h_F (k_in kf_v_lines) τ σ → Q none τ) : h_T g_P (g_Y ns) 198 0 [(0, .ref 98), (1, .int x0)] [] σ Q := by
  have F00 : h_F (k_in kf_v_lines) σ σ := h_F.rf
  refine h_aload_n (pc' := 1) rfl rfl rfl ?_
  refine h_iconst (pc' := 2) (x := (Int32.ofInt 0)) rfl rfl rfl ?_
  refine h_put (pc' := 5) rfl rfl rfl rfl rfl rfl ci_0 rfl (h_fgt (E := fun s => s 106 0 = σ 106 0 ∧ s 106 1 = σ 106 1 ∧ s 106 2 = σ 106 2 ∧ s 106 3 = σ 106 3 ∧ s 106 4 = σ 106 4 ∧ s 106 5 = σ 106 5 ∧ s 106 6 = σ 106 6) _ (if_98_26 hI (by omega)) (F00.up rfl) ⟨rfl, rfl, rfl, rfl, rfl, rfl, rfl⟩ (fun s1 Is1 Fs1 (es1 : s1 106 0 = σ 106 0 ∧ s1 106 1 = σ 106 1 ∧ s1 106 2 = σ 106 2 ∧ s1 106 3 = σ 106 3 ∧ s1 106 4 = σ 106 4 ∧ s1 106 5 = σ 106 5 ∧ s1 106 6 = σ 106 6) => ?_))
  refine h_aload_n (pc' := 6) rfl rfl rfl ?_
  refine h_iconst (pc' := 7) (x := (Int32.ofInt 1)) rfl rfl rfl ?_
  refine h_put (pc' := 10) rfl rfl rfl rfl rfl rfl ci_1 rfl (h_fgt (E := fun s => s 106 0 = σ 106 0 ∧ s 106 1 = σ 106 1 ∧ s 106 2 = σ 106 2 ∧ s 106 3 = σ 106 3 ∧ s 106 4 = σ 106 4 ∧ s 106 5 = σ 106 5 ∧ s 106 6 = σ 106 6) _ (if_98_27 Is1 (h_rgv ci_1)) (Fs1.up rfl) ⟨es1.1, es1.2.1, es1.2.2.1, es1.2.2.2.1, es1.2.2.2.2.1, es1.2.2.2.2.2.1, es1.2.2.2.2.2.2⟩ (fun s2 Is2 Fs2 (es2 : s2 106 0 = σ 106 0 ∧ s2 106 1 = σ 106 1 ∧ s2 106 2 = σ 106 2 ∧ s2 106 3 = σ 106 3 ∧ s2 106 4 = σ 106 4 ∧ s2 106 5 = σ 106 5 ∧ s2 106 6 = σ 106 6) => ?_))
  clear es1
  refine h_iconst (pc' := 11) (x := (Int32.ofInt 0)) rfl rfl rfl ?_
  refine h_istore_n (pc' := 12) (M := [(2, .int (Int32.ofInt 0)), (0, .ref 98), (1, .int x0)]) rfl rfl rfl rfl ?_
  refine h_aload_n (pc' := 13) rfl rfl rfl ?_
  refine h_getR (pc' := 16) rfl rfl rfl rfl rfl ?_
  refine h_iconst (pc' := 17) (x := (Int32.ofInt 0)) rfl rfl rfl ?_
  refine h_iconst (pc' := 18) (x := (Int32.ofInt (-1))) rfl rfl rfl ?_
  refine h_iast (pc' := 19) rfl rfl rfl rfl ci_0 (by omega) (by omega) ci_m1 (h_fgt (E := fun s => s 106 0 = (-1) ∧ s 106 1 = σ 106 1 ∧ s 106 2 = σ 106 2 ∧ s 106 3 = σ 106 3 ∧ s 106 4 = σ 106 4 ∧ s 106 5 = σ 106 5 ∧ s 106 6 = σ 106 6) _ (in_106 Is2 (by omega)) (Fs2.up rfl) ⟨rfl, es2.2.1, es2.2.2.1, es2.2.2.2.1, es2.2.2.2.2.1, es2.2.2.2.2.2.1, es2.2.2.2.2.2.2⟩ (fun s3 Is3 Fs3 (es3 : s3 106 0 = (-1) ∧ s3 106 1 = σ 106 1 ∧ s3 106 2 = σ 106 2 ∧ s3 106 3 = σ 106 3 ∧ s3 106 4 = σ 106 4 ∧ s3 106 5 = σ 106 5 ∧ s3 106 6 = σ 106 6) => ?_))
  clear es2
  exact h_wk [(0, .ref 98), (1, .int x0), (2, .int (Int32.ofInt 0))] ⟨rfl, rfl, rfl, trivial⟩ ((v_lines_l ns σ hI x0 a0 hx0 ra0 kk 1000000000000).2.1 _ Is3 Fs3  (by omega) (by omega))
def kf_v_isSent : List Nat := [109567]
set_option maxHeartbeats 100000000 in
theorem v_isSent_l (ns : Nat) (σ : h_S) (hI : h_I σ) (x0 : Int32) (a0 : Int) (hx0 : x0.toInt = a0) (ra0 : 0 ≤ a0 ∧ a0 ≤ 5) (x1 : Int32) (a1 : Int) (hx1 : x1.toInt = a1) (ra1 : 0 ≤ a1 ∧ a1 ≤ 2) (x2 : Int32) (a2 : Int) (hx2 : x2.toInt = a2) (ra2 : 0 ≤ a2 ∧ a2 ≤ 5) {Q : Option Value → h_S → Prop} (kk : ∀ (r : Int32) (b : Int) (hb : r.toInt = b) (τ : h_S), h_I τ → h_F (k_in kf_v_isSent) τ σ → (0 ≤ b ∧ b ≤ 1) → Q (some (.int r)) τ) : ∀ n : Nat, (∀ (s0 : h_S), h_I s0 → h_F (k_in kf_v_isSent) s0 σ → (-1 ≤ a2 - 1) → (1 ≤ a2) → 1 ≤ (n : Int) → h_T g_P (g_Y ns) 200 41 [(0, .ref 98), (1, .int x0), (2, .int x1), (3, .int x2), (4, .int (Int32.ofInt (-1)))] [] s0 Q) ∧ (∀ (s0 : h_S), h_I s0 → h_F (k_in kf_v_isSent) s0 σ → (0 ≤ a2 - 1) → (-1 ≤ s0 106 0 ∧ s0 106 0 ≤ 5) → (1 ≤ a2) → (7 - s0 106 0) * 16777216 + 1 ≤ (n : Int) → h_T g_P (g_Y ns) 200 41 [(0, .ref 98), (1, .int x0), (2, .int x1), (3, .int x2), (4, .int (Int32.ofInt 0))] [] s0 Q) ∧ (∀ (s0 : h_S), h_I s0 → h_F (k_in kf_v_isSent) s0 σ → (1 ≤ a2 - 1) → (0 ≤ s0 106 0 ∧ s0 106 0 ≤ 5) → (-1 ≤ s0 106 1 ∧ s0 106 1 ≤ 5) → (1 ≤ a2) → (7 - s0 106 0) * 16777216 + (7 - s0 106 1) * 1048576 + 1 ≤ (n : Int) → h_T g_P (g_Y ns) 200 41 [(0, .ref 98), (1, .int x0), (2, .int x1), (3, .int x2), (4, .int (Int32.ofInt 1))] [] s0 Q) ∧ (∀ (s0 : h_S), h_I s0 → h_F (k_in kf_v_isSent) s0 σ → (2 ≤ a2 - 1) → (0 ≤ s0 106 0 ∧ s0 106 0 ≤ 5) → (0 ≤ s0 106 1 ∧ s0 106 1 ≤ 5) → (-1 ≤ s0 106 2 ∧ s0 106 2 ≤ 5) → (1 ≤ a2) → (7 - s0 106 0) * 16777216 + (7 - s0 106 1) * 1048576 + (7 - s0 106 2) * 65536 + 1 ≤ (n : Int) → h_T g_P (g_Y ns) 200 41 [(0, .ref 98), (1, .int x0), (2, .int x1), (3, .int x2), (4, .int (Int32.ofInt 2))] [] s0 Q) ∧ (∀ (s0 : h_S), h_I s0 → h_F (k_in kf_v_isSent) s0 σ → (3 ≤ a2 - 1) → (0 ≤ s0 106 0 ∧ s0 106 0 ≤ 5) → (0 ≤ s0 106 1 ∧ s0 106 1 ≤ 5) → (0 ≤ s0 106 2 ∧ s0 106 2 ≤ 5) → (-1 ≤ s0 106 3 ∧ s0 106 3 ≤ 5) → (1 ≤ a2) → (7 - s0 106 0) * 16777216 + (7 - s0 106 1) * 1048576 + (7 - s0 106 2) * 65536 + (7 - s0 106 3) * 4096 + 1 ≤ (n : Int) → h_T g_P (g_Y ns) 200 41 [(0, .ref 98), (1, .int x0), (2, .int x1), (3, .int x2), (4, .int (Int32.ofInt 3))] [] s0 Q) ∧ (∀ (s0 : h_S), h_I s0 → h_F (k_in kf_v_isSent) s0 σ → (4 ≤ a2 - 1) → (0 ≤ s0 106 0 ∧ s0 106 0 ≤ 5) → (0 ≤ s0 106 1 ∧ s0 106 1 ≤ 5) → (0 ≤ s0 106 2 ∧ s0 106 2 ≤ 5) → (0 ≤ s0 106 3 ∧ s0 106 3 ≤ 5) → (-1 ≤ s0 106 4 ∧ s0 106 4 ≤ 5) → (1 ≤ a2) → (7 - s0 106 0) * 16777216 + (7 - s0 106 1) * 1048576 + (7 - s0 106 2) * 65536 + (7 - s0 106 3) * 4096 + (7 - s0 106 4) * 256 + 1 ≤ (n : Int) → h_T g_P (g_Y ns) 200 41 [(0, .ref 98), (1, .int x0), (2, .int x1), (3, .int x2), (4, .int (Int32.ofInt 4))] [] s0 Q) := by
  intro n
  induction n with
  | zero => exact ⟨by intro s0 I0 F0_ ex0 ex1 hm; exfalso; omega, by intro s0 I0 F0_ ex0 ex1 ex2 hm; exfalso; omega, by intro s0 I0 F0_ ex0 ex1 ex2 ex3 hm; exfalso; omega, by intro s0 I0 F0_ ex0 ex1 ex2 ex3 ex4 hm; exfalso; omega, by intro s0 I0 F0_ ex0 ex1 ex2 ex3 ex4 ex5 hm; exfalso; omega, by intro s0 I0 F0_ ex0 ex1 ex2 ex3 ex4 ex5 ex6 hm; exfalso; omega⟩
  | succ n ih =>
    refine ⟨?_, ?_, ?_, ?_, ?_, ?_⟩
    · intro s0 I0 F0_ ex0 ex1 hm
      refine h_iload (pc' := 43) rfl rfl rfl ?_
      refine h_zlt (tg := 146) (pc' := 46) rfl rfl rfl ci_m1 (fun c1 => ?_) (fun c1 => absurd c1 (by omega))
      refine h_iconst (pc' := 147) (x := (Int32.ofInt 0)) rfl rfl rfl ?_
      exact h_zret rfl rfl ci_0 (by omega) (kk _ _ ci_0 _ I0 F0_ (by omega))
    · intro s0 I0 F0_ ex0 ex1 ex2 hm
      refine h_iload (pc' := 43) rfl rfl rfl ?_
      refine h_zlt (tg := 146) (pc' := 46) rfl rfl rfl ci_0 (fun c1 => absurd c1 (by omega)) (fun c1 => ?_)
      refine h_aload_n (pc' := 47) rfl rfl rfl ?_
      refine h_getR (pc' := 50) rfl rfl rfl rfl rfl ?_
      refine h_iload (pc' := 52) rfl rfl rfl ?_
      refine h_dup2 (pc' := 53) rfl rfl rfl ?_
      refine h_iald (pc' := 54) (v := s0 106 0) rfl rfl rfl ci_0 (by omega) (by omega) rfl (fun z2 hz2 => ?_)
      have tz2 := ty_106 I0 0
      refine h_iconst (pc' := 55) (x := (Int32.ofInt 1)) rfl rfl rfl ?_
      refine h_iadd (pc' := 56) rfl rfl hz2 ci_1 rfl (by omega) (by omega) (fun z3 hz3 => ?_)
      refine h_iast (pc' := 57) rfl rfl rfl rfl ci_0 (by omega) (by omega) hz3 (h_fgt (E := fun s => s 106 0 = ((s0 106 0) + 1) ∧ s 106 1 = s0 106 1 ∧ s 106 2 = s0 106 2 ∧ s 106 3 = s0 106 3 ∧ s 106 4 = s0 106 4 ∧ s 106 5 = s0 106 5 ∧ s 106 6 = s0 106 6) _ (in_106 I0 (by omega)) (F0_.up rfl) ⟨rfl, rfl, rfl, rfl, rfl, rfl, rfl⟩ (fun s4 Is4 Fs4 (es4 : s4 106 0 = ((s0 106 0) + 1) ∧ s4 106 1 = s0 106 1 ∧ s4 106 2 = s0 106 2 ∧ s4 106 3 = s0 106 3 ∧ s4 106 4 = s0 106 4 ∧ s4 106 5 = s0 106 5 ∧ s4 106 6 = s0 106 6) => ?_))
      refine h_aload_n (pc' := 58) rfl rfl rfl ?_
      refine h_getR (pc' := 61) rfl rfl rfl rfl rfl ?_
      refine h_iload (pc' := 63) rfl rfl rfl ?_
      refine h_iald (pc' := 64) (v := ((s0 106 0) + 1)) rfl rfl rfl ci_0 (by omega) (by omega) es4.1 (fun z5 hz5 => ?_)
      refine h_aload_n (pc' := 65) rfl rfl rfl ?_
      refine h_getI (pc' := 68) (v := σ 98 1) rfl rfl rfl rfl rfl (Fs4 98 1 rfl) (fun z6 hz6 => ?_)
      have tz6 := tf_98_1 hI
      refine h_clt (tg := 77) (pc' := 71) rfl rfl rfl hz5 hz6 (fun c7 => ?_) (fun c7 => ?_)
      · refine h_aload_n (pc' := 78) rfl rfl rfl ?_
        refine h_getR (pc' := 81) rfl rfl rfl rfl rfl ?_
        refine h_iload (pc' := 83) rfl rfl rfl ?_
        refine h_iald (pc' := 84) (v := ((s0 106 0) + 1)) rfl rfl rfl ci_0 (by omega) (by omega) es4.1 (fun z8 hz8 => ?_)
        refine h_iload_n (pc' := 85) rfl rfl rfl ?_
        refine h_ceq (tg := 41) (pc' := 88) rfl rfl rfl hz8 hx0 (fun c9 => ?_) (fun c9 => ?_)
        · exact h_wk [(0, .ref 98), (1, .int x0), (2, .int x1), (3, .int x2), (4, .int (Int32.ofInt 0))] ⟨rfl, rfl, rfl, rfl, rfl, trivial⟩ (ih.2.1 _ Is4 Fs4  (by omega) (by omega) (by omega) (by omega))
        · refine h_aload_n (pc' := 89) rfl rfl rfl ?_
          refine h_iload_n (pc' := 90) rfl rfl rfl ?_
          refine h_iload (pc' := 92) rfl rfl rfl ?_
          refine h_call (sp := false) (pc' := 95) (M := [(0, .ref 98), (1, .int x1), (2, .int (Int32.ofInt 0))]) rfl rfl rfl rfl rfl rfl rfl rfl ?_
          refine v_stands0 _ Is4 x1 _ hx1 (by omega)  (by omega) (fun r10 br10 hr10 tr10 => h_Kv ?_)
          refine h_zeq (tg := 41) (pc' := 98) rfl rfl rfl hr10 (fun c12 => ?_) (fun c12 => ?_)
          · exact h_wk [(0, .ref 98), (1, .int x0), (2, .int x1), (3, .int x2), (4, .int (Int32.ofInt 0))] ⟨rfl, rfl, rfl, rfl, rfl, trivial⟩ (ih.2.1 _ Is4 Fs4  (by omega) (by omega) (by omega) (by omega))
          · refine h_iload (pc' := 100) rfl rfl rfl ?_
            refine h_iconst (pc' := 101) (x := (Int32.ofInt 1)) rfl rfl rfl ?_
            refine h_iadd (pc' := 102) (c := 1) rfl rfl ci_0 ci_1 rfl (by omega) (by omega) (fun z13 hz13 => ?_)
            refine h_iload_n (pc' := 103) rfl rfl rfl ?_
            refine h_cne (tg := 132) (pc' := 106) rfl rfl rfl hz13 hx2 (fun c14 => ?_) (fun c14 => ?_)
            · refine h_iinc (pc' := 135) (b := 1) (M := fun z15 => [(4, .int z15), (0, .ref 98), (1, .int x0), (2, .int x1), (3, .int x2)]) rfl rfl rfl rfl ci_0 ci_1 rfl (by omega) (by omega) (fun _ => rfl) (fun z15 hz15 => ?_)
              refine h_aload_n (pc' := 136) rfl rfl rfl ?_
              refine h_getR (pc' := 139) rfl rfl rfl rfl rfl ?_
              refine h_iload (pc' := 141) rfl rfl rfl ?_
              refine h_iconst (pc' := 142) (x := (Int32.ofInt (-1))) rfl rfl rfl ?_
              refine h_iast (pc' := 143) rfl rfl rfl rfl hz15 (by omega) (by omega) ci_m1 (h_fgt (E := fun s => s 106 0 = ((s0 106 0) + 1) ∧ s 106 1 = (-1) ∧ s 106 2 = s0 106 2 ∧ s 106 3 = s0 106 3 ∧ s 106 4 = s0 106 4 ∧ s 106 5 = s0 106 5 ∧ s 106 6 = s0 106 6) _ (in_106 Is4 (by omega)) (Fs4.up rfl) ⟨es4.1, rfl, es4.2.2.1, es4.2.2.2.1, es4.2.2.2.2.1, es4.2.2.2.2.2.1, es4.2.2.2.2.2.2⟩ (fun s16 Is16 Fs16 (es16 : s16 106 0 = ((s0 106 0) + 1) ∧ s16 106 1 = (-1) ∧ s16 106 2 = s0 106 2 ∧ s16 106 3 = s0 106 3 ∧ s16 106 4 = s0 106 4 ∧ s16 106 5 = s0 106 5 ∧ s16 106 6 = s0 106 6) => ?_))
              clear es4
              refine h_goto (pc' := 41) rfl rfl ?_
              have qz15 : z15 = (Int32.ofInt 1) := h_lit hz15 ci_1
              subst qz15
              exact h_wk [(0, .ref 98), (1, .int x0), (2, .int x1), (3, .int x2), (4, .int (Int32.ofInt 1))] ⟨rfl, rfl, rfl, rfl, rfl, trivial⟩ (ih.2.2.1 _ Is16 Fs16  (by omega) (by omega) (by omega) (by omega) (by omega))
            · refine h_aload_n (pc' := 107) rfl rfl rfl ?_
              refine h_iload_n (pc' := 108) rfl rfl rfl ?_
              refine h_aload_n (pc' := 109) rfl rfl rfl ?_
              refine h_getR (pc' := 112) rfl rfl rfl rfl rfl ?_
              refine h_iload (pc' := 114) rfl rfl rfl ?_
              refine h_iald (pc' := 115) (v := ((s0 106 0) + 1)) rfl rfl rfl ci_0 (by omega) (by omega) es4.1 (fun z17 hz17 => ?_)
              refine h_aload_n (pc' := 116) rfl rfl rfl ?_
              refine h_getR (pc' := 119) rfl rfl rfl rfl rfl ?_
              refine h_bipush (pc' := 121) (x := (Int32.ofInt 26)) rfl rfl cb_26 ?_
              refine h_iload_n (pc' := 122) rfl rfl rfl ?_
              refine h_iadd (pc' := 123) rfl rfl ci_26 hx1 rfl (by omega) (by omega) (fun z18 hz18 => ?_)
              refine h_iald (pc' := 124) (v := σ 99 (26 + a1)) rfl rfl rfl hz18 (by omega) (by omega) (Fs4 99 _ rfl) (fun z19 hz19 => ?_)
              have tz19 := ty_99_6 hI (26 + a1) (by omega)
              refine h_call (sp := false) (pc' := 127) (M := [(0, .ref 98), (1, .int x0), (2, .int z17), (3, .int z19)]) rfl rfl rfl rfl rfl rfl rfl rfl ?_
              refine v_mayGo _ Is4 x0 _ hx0 (by omega) z17 _ hz17 (by omega) z19 _ hz19 (fun r20 br20 hr20 tr20 => h_Kv ?_)
              refine h_zeq (tg := 41) (pc' := 130) rfl rfl rfl hr20 (fun c22 => ?_) (fun c22 => ?_)
              · exact h_wk [(0, .ref 98), (1, .int x0), (2, .int x1), (3, .int x2), (4, .int (Int32.ofInt 0))] ⟨rfl, rfl, rfl, rfl, rfl, trivial⟩ (ih.2.1 _ Is4 Fs4  (by omega) (by omega) (by omega) (by omega))
              · refine h_iconst (pc' := 131) (x := (Int32.ofInt 1)) rfl rfl rfl ?_
                exact h_zret rfl rfl ci_1 (by omega) (kk _ _ ci_1 _ Is4 Fs4 (by omega))
      · refine h_iinc (pc' := 74) (b := (-1)) (M := fun z23 => [(4, .int z23), (0, .ref 98), (1, .int x0), (2, .int x1), (3, .int x2)]) rfl rfl rfl rfl ci_0 ci_m1 rfl (by omega) (by omega) (fun _ => rfl) (fun z23 hz23 => ?_)
        refine h_goto (pc' := 41) rfl rfl ?_
        have qz23 : z23 = (Int32.ofInt (-1)) := h_lit hz23 ci_m1
        subst qz23
        exact h_wk [(0, .ref 98), (1, .int x0), (2, .int x1), (3, .int x2), (4, .int (Int32.ofInt (-1)))] ⟨rfl, rfl, rfl, rfl, rfl, trivial⟩ (ih.1 _ Is4 Fs4  (by omega) (by omega) (by omega))
    · intro s0 I0 F0_ ex0 ex1 ex2 ex3 hm
      refine h_iload (pc' := 43) rfl rfl rfl ?_
      refine h_zlt (tg := 146) (pc' := 46) rfl rfl rfl ci_1 (fun c1 => absurd c1 (by omega)) (fun c1 => ?_)
      refine h_aload_n (pc' := 47) rfl rfl rfl ?_
      refine h_getR (pc' := 50) rfl rfl rfl rfl rfl ?_
      refine h_iload (pc' := 52) rfl rfl rfl ?_
      refine h_dup2 (pc' := 53) rfl rfl rfl ?_
      refine h_iald (pc' := 54) (v := s0 106 1) rfl rfl rfl ci_1 (by omega) (by omega) rfl (fun z2 hz2 => ?_)
      have tz2 := ty_106 I0 1
      refine h_iconst (pc' := 55) (x := (Int32.ofInt 1)) rfl rfl rfl ?_
      refine h_iadd (pc' := 56) rfl rfl hz2 ci_1 rfl (by omega) (by omega) (fun z3 hz3 => ?_)
      refine h_iast (pc' := 57) rfl rfl rfl rfl ci_1 (by omega) (by omega) hz3 (h_fgt (E := fun s => s 106 0 = s0 106 0 ∧ s 106 1 = ((s0 106 1) + 1) ∧ s 106 2 = s0 106 2 ∧ s 106 3 = s0 106 3 ∧ s 106 4 = s0 106 4 ∧ s 106 5 = s0 106 5 ∧ s 106 6 = s0 106 6) _ (in_106 I0 (by omega)) (F0_.up rfl) ⟨rfl, rfl, rfl, rfl, rfl, rfl, rfl⟩ (fun s4 Is4 Fs4 (es4 : s4 106 0 = s0 106 0 ∧ s4 106 1 = ((s0 106 1) + 1) ∧ s4 106 2 = s0 106 2 ∧ s4 106 3 = s0 106 3 ∧ s4 106 4 = s0 106 4 ∧ s4 106 5 = s0 106 5 ∧ s4 106 6 = s0 106 6) => ?_))
      refine h_aload_n (pc' := 58) rfl rfl rfl ?_
      refine h_getR (pc' := 61) rfl rfl rfl rfl rfl ?_
      refine h_iload (pc' := 63) rfl rfl rfl ?_
      refine h_iald (pc' := 64) (v := ((s0 106 1) + 1)) rfl rfl rfl ci_1 (by omega) (by omega) es4.2.1 (fun z5 hz5 => ?_)
      refine h_aload_n (pc' := 65) rfl rfl rfl ?_
      refine h_getI (pc' := 68) (v := σ 98 1) rfl rfl rfl rfl rfl (Fs4 98 1 rfl) (fun z6 hz6 => ?_)
      have tz6 := tf_98_1 hI
      refine h_clt (tg := 77) (pc' := 71) rfl rfl rfl hz5 hz6 (fun c7 => ?_) (fun c7 => ?_)
      · refine h_aload_n (pc' := 78) rfl rfl rfl ?_
        refine h_getR (pc' := 81) rfl rfl rfl rfl rfl ?_
        refine h_iload (pc' := 83) rfl rfl rfl ?_
        refine h_iald (pc' := 84) (v := ((s0 106 1) + 1)) rfl rfl rfl ci_1 (by omega) (by omega) es4.2.1 (fun z8 hz8 => ?_)
        refine h_iload_n (pc' := 85) rfl rfl rfl ?_
        refine h_ceq (tg := 41) (pc' := 88) rfl rfl rfl hz8 hx0 (fun c9 => ?_) (fun c9 => ?_)
        · exact h_wk [(0, .ref 98), (1, .int x0), (2, .int x1), (3, .int x2), (4, .int (Int32.ofInt 1))] ⟨rfl, rfl, rfl, rfl, rfl, trivial⟩ (ih.2.2.1 _ Is4 Fs4  (by omega) (by omega) (by omega) (by omega) (by omega))
        · refine h_aload_n (pc' := 89) rfl rfl rfl ?_
          refine h_iload_n (pc' := 90) rfl rfl rfl ?_
          refine h_iload (pc' := 92) rfl rfl rfl ?_
          refine h_call (sp := false) (pc' := 95) (M := [(0, .ref 98), (1, .int x1), (2, .int (Int32.ofInt 1))]) rfl rfl rfl rfl rfl rfl rfl rfl ?_
          refine v_stands1 _ Is4 x1 _ hx1 (by omega)  (by omega) (by omega) (fun r10 br10 hr10 tr10 ps11_0 => h_Kv ?_)
          refine h_zeq (tg := 41) (pc' := 98) rfl rfl rfl hr10 (fun c12 => ?_) (fun c12 => ?_)
          · exact h_wk [(0, .ref 98), (1, .int x0), (2, .int x1), (3, .int x2), (4, .int (Int32.ofInt 1))] ⟨rfl, rfl, rfl, rfl, rfl, trivial⟩ (ih.2.2.1 _ Is4 Fs4  (by omega) (by omega) (by omega) (by omega) (by omega))
          · refine h_iload (pc' := 100) rfl rfl rfl ?_
            refine h_iconst (pc' := 101) (x := (Int32.ofInt 1)) rfl rfl rfl ?_
            refine h_iadd (pc' := 102) (c := 2) rfl rfl ci_1 ci_1 rfl (by omega) (by omega) (fun z13 hz13 => ?_)
            refine h_iload_n (pc' := 103) rfl rfl rfl ?_
            refine h_cne (tg := 132) (pc' := 106) rfl rfl rfl hz13 hx2 (fun c14 => ?_) (fun c14 => ?_)
            · refine h_iinc (pc' := 135) (b := 2) (M := fun z15 => [(4, .int z15), (0, .ref 98), (1, .int x0), (2, .int x1), (3, .int x2)]) rfl rfl rfl rfl ci_1 ci_1 rfl (by omega) (by omega) (fun _ => rfl) (fun z15 hz15 => ?_)
              refine h_aload_n (pc' := 136) rfl rfl rfl ?_
              refine h_getR (pc' := 139) rfl rfl rfl rfl rfl ?_
              refine h_iload (pc' := 141) rfl rfl rfl ?_
              refine h_iconst (pc' := 142) (x := (Int32.ofInt (-1))) rfl rfl rfl ?_
              refine h_iast (pc' := 143) rfl rfl rfl rfl hz15 (by omega) (by omega) ci_m1 (h_fgt (E := fun s => s 106 0 = s0 106 0 ∧ s 106 1 = ((s0 106 1) + 1) ∧ s 106 2 = (-1) ∧ s 106 3 = s0 106 3 ∧ s 106 4 = s0 106 4 ∧ s 106 5 = s0 106 5 ∧ s 106 6 = s0 106 6) _ (in_106 Is4 (by omega)) (Fs4.up rfl) ⟨es4.1, es4.2.1, rfl, es4.2.2.2.1, es4.2.2.2.2.1, es4.2.2.2.2.2.1, es4.2.2.2.2.2.2⟩ (fun s16 Is16 Fs16 (es16 : s16 106 0 = s0 106 0 ∧ s16 106 1 = ((s0 106 1) + 1) ∧ s16 106 2 = (-1) ∧ s16 106 3 = s0 106 3 ∧ s16 106 4 = s0 106 4 ∧ s16 106 5 = s0 106 5 ∧ s16 106 6 = s0 106 6) => ?_))
              refine h_goto (pc' := 41) rfl rfl ?_
              have qz15 : z15 = (Int32.ofInt 2) := h_lit hz15 ci_2
              subst qz15
              exact h_wk [(0, .ref 98), (1, .int x0), (2, .int x1), (3, .int x2), (4, .int (Int32.ofInt 2))] ⟨rfl, rfl, rfl, rfl, rfl, trivial⟩ (ih.2.2.2.1 _ Is16 Fs16  (by omega) (by omega) (by omega) (by omega) (by omega) (by omega))
            · refine h_aload_n (pc' := 107) rfl rfl rfl ?_
              refine h_iload_n (pc' := 108) rfl rfl rfl ?_
              refine h_aload_n (pc' := 109) rfl rfl rfl ?_
              refine h_getR (pc' := 112) rfl rfl rfl rfl rfl ?_
              refine h_iload (pc' := 114) rfl rfl rfl ?_
              refine h_iald (pc' := 115) (v := ((s0 106 1) + 1)) rfl rfl rfl ci_1 (by omega) (by omega) es4.2.1 (fun z17 hz17 => ?_)
              refine h_aload_n (pc' := 116) rfl rfl rfl ?_
              refine h_getR (pc' := 119) rfl rfl rfl rfl rfl ?_
              refine h_bipush (pc' := 121) (x := (Int32.ofInt 26)) rfl rfl cb_26 ?_
              refine h_iload_n (pc' := 122) rfl rfl rfl ?_
              refine h_iadd (pc' := 123) rfl rfl ci_26 hx1 rfl (by omega) (by omega) (fun z18 hz18 => ?_)
              refine h_iald (pc' := 124) (v := σ 99 (26 + a1)) rfl rfl rfl hz18 (by omega) (by omega) (Fs4 99 _ rfl) (fun z19 hz19 => ?_)
              have tz19 := ty_99_6 hI (26 + a1) (by omega)
              refine h_call (sp := false) (pc' := 127) (M := [(0, .ref 98), (1, .int x0), (2, .int z17), (3, .int z19)]) rfl rfl rfl rfl rfl rfl rfl rfl ?_
              refine v_mayGo _ Is4 x0 _ hx0 (by omega) z17 _ hz17 (by omega) z19 _ hz19 (fun r20 br20 hr20 tr20 => h_Kv ?_)
              refine h_zeq (tg := 41) (pc' := 130) rfl rfl rfl hr20 (fun c22 => ?_) (fun c22 => ?_)
              · exact h_wk [(0, .ref 98), (1, .int x0), (2, .int x1), (3, .int x2), (4, .int (Int32.ofInt 1))] ⟨rfl, rfl, rfl, rfl, rfl, trivial⟩ (ih.2.2.1 _ Is4 Fs4  (by omega) (by omega) (by omega) (by omega) (by omega))
              · refine h_iconst (pc' := 131) (x := (Int32.ofInt 1)) rfl rfl rfl ?_
                exact h_zret rfl rfl ci_1 (by omega) (kk _ _ ci_1 _ Is4 Fs4 (by omega))
      · refine h_iinc (pc' := 74) (b := 0) (M := fun z23 => [(4, .int z23), (0, .ref 98), (1, .int x0), (2, .int x1), (3, .int x2)]) rfl rfl rfl rfl ci_1 ci_m1 rfl (by omega) (by omega) (fun _ => rfl) (fun z23 hz23 => ?_)
        refine h_goto (pc' := 41) rfl rfl ?_
        have qz23 : z23 = (Int32.ofInt 0) := h_lit hz23 ci_0
        subst qz23
        exact h_wk [(0, .ref 98), (1, .int x0), (2, .int x1), (3, .int x2), (4, .int (Int32.ofInt 0))] ⟨rfl, rfl, rfl, rfl, rfl, trivial⟩ (ih.2.1 _ Is4 Fs4  (by omega) (by omega) (by omega) (by omega))
    · intro s0 I0 F0_ ex0 ex1 ex2 ex3 ex4 hm
      refine h_iload (pc' := 43) rfl rfl rfl ?_
      refine h_zlt (tg := 146) (pc' := 46) rfl rfl rfl ci_2 (fun c1 => absurd c1 (by omega)) (fun c1 => ?_)
      refine h_aload_n (pc' := 47) rfl rfl rfl ?_
      refine h_getR (pc' := 50) rfl rfl rfl rfl rfl ?_
      refine h_iload (pc' := 52) rfl rfl rfl ?_
      refine h_dup2 (pc' := 53) rfl rfl rfl ?_
      refine h_iald (pc' := 54) (v := s0 106 2) rfl rfl rfl ci_2 (by omega) (by omega) rfl (fun z2 hz2 => ?_)
      have tz2 := ty_106 I0 2
      refine h_iconst (pc' := 55) (x := (Int32.ofInt 1)) rfl rfl rfl ?_
      refine h_iadd (pc' := 56) rfl rfl hz2 ci_1 rfl (by omega) (by omega) (fun z3 hz3 => ?_)
      refine h_iast (pc' := 57) rfl rfl rfl rfl ci_2 (by omega) (by omega) hz3 (h_fgt (E := fun s => s 106 0 = s0 106 0 ∧ s 106 1 = s0 106 1 ∧ s 106 2 = ((s0 106 2) + 1) ∧ s 106 3 = s0 106 3 ∧ s 106 4 = s0 106 4 ∧ s 106 5 = s0 106 5 ∧ s 106 6 = s0 106 6) _ (in_106 I0 (by omega)) (F0_.up rfl) ⟨rfl, rfl, rfl, rfl, rfl, rfl, rfl⟩ (fun s4 Is4 Fs4 (es4 : s4 106 0 = s0 106 0 ∧ s4 106 1 = s0 106 1 ∧ s4 106 2 = ((s0 106 2) + 1) ∧ s4 106 3 = s0 106 3 ∧ s4 106 4 = s0 106 4 ∧ s4 106 5 = s0 106 5 ∧ s4 106 6 = s0 106 6) => ?_))
      refine h_aload_n (pc' := 58) rfl rfl rfl ?_
      refine h_getR (pc' := 61) rfl rfl rfl rfl rfl ?_
      refine h_iload (pc' := 63) rfl rfl rfl ?_
      refine h_iald (pc' := 64) (v := ((s0 106 2) + 1)) rfl rfl rfl ci_2 (by omega) (by omega) es4.2.2.1 (fun z5 hz5 => ?_)
      refine h_aload_n (pc' := 65) rfl rfl rfl ?_
      refine h_getI (pc' := 68) (v := σ 98 1) rfl rfl rfl rfl rfl (Fs4 98 1 rfl) (fun z6 hz6 => ?_)
      have tz6 := tf_98_1 hI
      refine h_clt (tg := 77) (pc' := 71) rfl rfl rfl hz5 hz6 (fun c7 => ?_) (fun c7 => ?_)
      · refine h_aload_n (pc' := 78) rfl rfl rfl ?_
        refine h_getR (pc' := 81) rfl rfl rfl rfl rfl ?_
        refine h_iload (pc' := 83) rfl rfl rfl ?_
        refine h_iald (pc' := 84) (v := ((s0 106 2) + 1)) rfl rfl rfl ci_2 (by omega) (by omega) es4.2.2.1 (fun z8 hz8 => ?_)
        refine h_iload_n (pc' := 85) rfl rfl rfl ?_
        refine h_ceq (tg := 41) (pc' := 88) rfl rfl rfl hz8 hx0 (fun c9 => ?_) (fun c9 => ?_)
        · exact h_wk [(0, .ref 98), (1, .int x0), (2, .int x1), (3, .int x2), (4, .int (Int32.ofInt 2))] ⟨rfl, rfl, rfl, rfl, rfl, trivial⟩ (ih.2.2.2.1 _ Is4 Fs4  (by omega) (by omega) (by omega) (by omega) (by omega) (by omega))
        · refine h_aload_n (pc' := 89) rfl rfl rfl ?_
          refine h_iload_n (pc' := 90) rfl rfl rfl ?_
          refine h_iload (pc' := 92) rfl rfl rfl ?_
          refine h_call (sp := false) (pc' := 95) (M := [(0, .ref 98), (1, .int x1), (2, .int (Int32.ofInt 2))]) rfl rfl rfl rfl rfl rfl rfl rfl ?_
          refine v_stands2 _ Is4 x1 _ hx1 (by omega)  (by omega) (by omega) (fun r10 br10 hr10 tr10 ps11_0 ps11_1 => h_Kv ?_)
          refine h_zeq (tg := 41) (pc' := 98) rfl rfl rfl hr10 (fun c12 => ?_) (fun c12 => ?_)
          · exact h_wk [(0, .ref 98), (1, .int x0), (2, .int x1), (3, .int x2), (4, .int (Int32.ofInt 2))] ⟨rfl, rfl, rfl, rfl, rfl, trivial⟩ (ih.2.2.2.1 _ Is4 Fs4  (by omega) (by omega) (by omega) (by omega) (by omega) (by omega))
          · refine h_iload (pc' := 100) rfl rfl rfl ?_
            refine h_iconst (pc' := 101) (x := (Int32.ofInt 1)) rfl rfl rfl ?_
            refine h_iadd (pc' := 102) (c := 3) rfl rfl ci_2 ci_1 rfl (by omega) (by omega) (fun z13 hz13 => ?_)
            refine h_iload_n (pc' := 103) rfl rfl rfl ?_
            refine h_cne (tg := 132) (pc' := 106) rfl rfl rfl hz13 hx2 (fun c14 => ?_) (fun c14 => ?_)
            · refine h_iinc (pc' := 135) (b := 3) (M := fun z15 => [(4, .int z15), (0, .ref 98), (1, .int x0), (2, .int x1), (3, .int x2)]) rfl rfl rfl rfl ci_2 ci_1 rfl (by omega) (by omega) (fun _ => rfl) (fun z15 hz15 => ?_)
              refine h_aload_n (pc' := 136) rfl rfl rfl ?_
              refine h_getR (pc' := 139) rfl rfl rfl rfl rfl ?_
              refine h_iload (pc' := 141) rfl rfl rfl ?_
              refine h_iconst (pc' := 142) (x := (Int32.ofInt (-1))) rfl rfl rfl ?_
              refine h_iast (pc' := 143) rfl rfl rfl rfl hz15 (by omega) (by omega) ci_m1 (h_fgt (E := fun s => s 106 0 = s0 106 0 ∧ s 106 1 = s0 106 1 ∧ s 106 2 = ((s0 106 2) + 1) ∧ s 106 3 = (-1) ∧ s 106 4 = s0 106 4 ∧ s 106 5 = s0 106 5 ∧ s 106 6 = s0 106 6) _ (in_106 Is4 (by omega)) (Fs4.up rfl) ⟨es4.1, es4.2.1, es4.2.2.1, rfl, es4.2.2.2.2.1, es4.2.2.2.2.2.1, es4.2.2.2.2.2.2⟩ (fun s16 Is16 Fs16 (es16 : s16 106 0 = s0 106 0 ∧ s16 106 1 = s0 106 1 ∧ s16 106 2 = ((s0 106 2) + 1) ∧ s16 106 3 = (-1) ∧ s16 106 4 = s0 106 4 ∧ s16 106 5 = s0 106 5 ∧ s16 106 6 = s0 106 6) => ?_))
              refine h_goto (pc' := 41) rfl rfl ?_
              have qz15 : z15 = (Int32.ofInt 3) := h_lit hz15 ci_3
              subst qz15
              exact h_wk [(0, .ref 98), (1, .int x0), (2, .int x1), (3, .int x2), (4, .int (Int32.ofInt 3))] ⟨rfl, rfl, rfl, rfl, rfl, trivial⟩ (ih.2.2.2.2.1 _ Is16 Fs16  (by omega) (by omega) (by omega) (by omega) (by omega) (by omega) (by omega))
            · refine h_aload_n (pc' := 107) rfl rfl rfl ?_
              refine h_iload_n (pc' := 108) rfl rfl rfl ?_
              refine h_aload_n (pc' := 109) rfl rfl rfl ?_
              refine h_getR (pc' := 112) rfl rfl rfl rfl rfl ?_
              refine h_iload (pc' := 114) rfl rfl rfl ?_
              refine h_iald (pc' := 115) (v := ((s0 106 2) + 1)) rfl rfl rfl ci_2 (by omega) (by omega) es4.2.2.1 (fun z17 hz17 => ?_)
              refine h_aload_n (pc' := 116) rfl rfl rfl ?_
              refine h_getR (pc' := 119) rfl rfl rfl rfl rfl ?_
              refine h_bipush (pc' := 121) (x := (Int32.ofInt 26)) rfl rfl cb_26 ?_
              refine h_iload_n (pc' := 122) rfl rfl rfl ?_
              refine h_iadd (pc' := 123) rfl rfl ci_26 hx1 rfl (by omega) (by omega) (fun z18 hz18 => ?_)
              refine h_iald (pc' := 124) (v := σ 99 (26 + a1)) rfl rfl rfl hz18 (by omega) (by omega) (Fs4 99 _ rfl) (fun z19 hz19 => ?_)
              have tz19 := ty_99_6 hI (26 + a1) (by omega)
              refine h_call (sp := false) (pc' := 127) (M := [(0, .ref 98), (1, .int x0), (2, .int z17), (3, .int z19)]) rfl rfl rfl rfl rfl rfl rfl rfl ?_
              refine v_mayGo _ Is4 x0 _ hx0 (by omega) z17 _ hz17 (by omega) z19 _ hz19 (fun r20 br20 hr20 tr20 => h_Kv ?_)
              refine h_zeq (tg := 41) (pc' := 130) rfl rfl rfl hr20 (fun c22 => ?_) (fun c22 => ?_)
              · exact h_wk [(0, .ref 98), (1, .int x0), (2, .int x1), (3, .int x2), (4, .int (Int32.ofInt 2))] ⟨rfl, rfl, rfl, rfl, rfl, trivial⟩ (ih.2.2.2.1 _ Is4 Fs4  (by omega) (by omega) (by omega) (by omega) (by omega) (by omega))
              · refine h_iconst (pc' := 131) (x := (Int32.ofInt 1)) rfl rfl rfl ?_
                exact h_zret rfl rfl ci_1 (by omega) (kk _ _ ci_1 _ Is4 Fs4 (by omega))
      · refine h_iinc (pc' := 74) (b := 1) (M := fun z23 => [(4, .int z23), (0, .ref 98), (1, .int x0), (2, .int x1), (3, .int x2)]) rfl rfl rfl rfl ci_2 ci_m1 rfl (by omega) (by omega) (fun _ => rfl) (fun z23 hz23 => ?_)
        refine h_goto (pc' := 41) rfl rfl ?_
        have qz23 : z23 = (Int32.ofInt 1) := h_lit hz23 ci_1
        subst qz23
        exact h_wk [(0, .ref 98), (1, .int x0), (2, .int x1), (3, .int x2), (4, .int (Int32.ofInt 1))] ⟨rfl, rfl, rfl, rfl, rfl, trivial⟩ (ih.2.2.1 _ Is4 Fs4  (by omega) (by omega) (by omega) (by omega) (by omega))
    · intro s0 I0 F0_ ex0 ex1 ex2 ex3 ex4 ex5 hm
      refine h_iload (pc' := 43) rfl rfl rfl ?_
      refine h_zlt (tg := 146) (pc' := 46) rfl rfl rfl ci_3 (fun c1 => absurd c1 (by omega)) (fun c1 => ?_)
      refine h_aload_n (pc' := 47) rfl rfl rfl ?_
      refine h_getR (pc' := 50) rfl rfl rfl rfl rfl ?_
      refine h_iload (pc' := 52) rfl rfl rfl ?_
      refine h_dup2 (pc' := 53) rfl rfl rfl ?_
      refine h_iald (pc' := 54) (v := s0 106 3) rfl rfl rfl ci_3 (by omega) (by omega) rfl (fun z2 hz2 => ?_)
      have tz2 := ty_106 I0 3
      refine h_iconst (pc' := 55) (x := (Int32.ofInt 1)) rfl rfl rfl ?_
      refine h_iadd (pc' := 56) rfl rfl hz2 ci_1 rfl (by omega) (by omega) (fun z3 hz3 => ?_)
      refine h_iast (pc' := 57) rfl rfl rfl rfl ci_3 (by omega) (by omega) hz3 (h_fgt (E := fun s => s 106 0 = s0 106 0 ∧ s 106 1 = s0 106 1 ∧ s 106 2 = s0 106 2 ∧ s 106 3 = ((s0 106 3) + 1) ∧ s 106 4 = s0 106 4 ∧ s 106 5 = s0 106 5 ∧ s 106 6 = s0 106 6) _ (in_106 I0 (by omega)) (F0_.up rfl) ⟨rfl, rfl, rfl, rfl, rfl, rfl, rfl⟩ (fun s4 Is4 Fs4 (es4 : s4 106 0 = s0 106 0 ∧ s4 106 1 = s0 106 1 ∧ s4 106 2 = s0 106 2 ∧ s4 106 3 = ((s0 106 3) + 1) ∧ s4 106 4 = s0 106 4 ∧ s4 106 5 = s0 106 5 ∧ s4 106 6 = s0 106 6) => ?_))
      refine h_aload_n (pc' := 58) rfl rfl rfl ?_
      refine h_getR (pc' := 61) rfl rfl rfl rfl rfl ?_
      refine h_iload (pc' := 63) rfl rfl rfl ?_
      refine h_iald (pc' := 64) (v := ((s0 106 3) + 1)) rfl rfl rfl ci_3 (by omega) (by omega) es4.2.2.2.1 (fun z5 hz5 => ?_)
      refine h_aload_n (pc' := 65) rfl rfl rfl ?_
      refine h_getI (pc' := 68) (v := σ 98 1) rfl rfl rfl rfl rfl (Fs4 98 1 rfl) (fun z6 hz6 => ?_)
      have tz6 := tf_98_1 hI
      refine h_clt (tg := 77) (pc' := 71) rfl rfl rfl hz5 hz6 (fun c7 => ?_) (fun c7 => ?_)
      · refine h_aload_n (pc' := 78) rfl rfl rfl ?_
        refine h_getR (pc' := 81) rfl rfl rfl rfl rfl ?_
        refine h_iload (pc' := 83) rfl rfl rfl ?_
        refine h_iald (pc' := 84) (v := ((s0 106 3) + 1)) rfl rfl rfl ci_3 (by omega) (by omega) es4.2.2.2.1 (fun z8 hz8 => ?_)
        refine h_iload_n (pc' := 85) rfl rfl rfl ?_
        refine h_ceq (tg := 41) (pc' := 88) rfl rfl rfl hz8 hx0 (fun c9 => ?_) (fun c9 => ?_)
        · exact h_wk [(0, .ref 98), (1, .int x0), (2, .int x1), (3, .int x2), (4, .int (Int32.ofInt 3))] ⟨rfl, rfl, rfl, rfl, rfl, trivial⟩ (ih.2.2.2.2.1 _ Is4 Fs4  (by omega) (by omega) (by omega) (by omega) (by omega) (by omega) (by omega))
        · refine h_aload_n (pc' := 89) rfl rfl rfl ?_
          refine h_iload_n (pc' := 90) rfl rfl rfl ?_
          refine h_iload (pc' := 92) rfl rfl rfl ?_
          refine h_call (sp := false) (pc' := 95) (M := [(0, .ref 98), (1, .int x1), (2, .int (Int32.ofInt 3))]) rfl rfl rfl rfl rfl rfl rfl rfl ?_
          refine v_stands3 _ Is4 x1 _ hx1 (by omega)  (by omega) (by omega) (fun r10 br10 hr10 tr10 ps11_0 ps11_1 ps11_2 => h_Kv ?_)
          refine h_zeq (tg := 41) (pc' := 98) rfl rfl rfl hr10 (fun c12 => ?_) (fun c12 => ?_)
          · exact h_wk [(0, .ref 98), (1, .int x0), (2, .int x1), (3, .int x2), (4, .int (Int32.ofInt 3))] ⟨rfl, rfl, rfl, rfl, rfl, trivial⟩ (ih.2.2.2.2.1 _ Is4 Fs4  (by omega) (by omega) (by omega) (by omega) (by omega) (by omega) (by omega))
          · refine h_iload (pc' := 100) rfl rfl rfl ?_
            refine h_iconst (pc' := 101) (x := (Int32.ofInt 1)) rfl rfl rfl ?_
            refine h_iadd (pc' := 102) (c := 4) rfl rfl ci_3 ci_1 rfl (by omega) (by omega) (fun z13 hz13 => ?_)
            refine h_iload_n (pc' := 103) rfl rfl rfl ?_
            refine h_cne (tg := 132) (pc' := 106) rfl rfl rfl hz13 hx2 (fun c14 => ?_) (fun c14 => ?_)
            · refine h_iinc (pc' := 135) (b := 4) (M := fun z15 => [(4, .int z15), (0, .ref 98), (1, .int x0), (2, .int x1), (3, .int x2)]) rfl rfl rfl rfl ci_3 ci_1 rfl (by omega) (by omega) (fun _ => rfl) (fun z15 hz15 => ?_)
              refine h_aload_n (pc' := 136) rfl rfl rfl ?_
              refine h_getR (pc' := 139) rfl rfl rfl rfl rfl ?_
              refine h_iload (pc' := 141) rfl rfl rfl ?_
              refine h_iconst (pc' := 142) (x := (Int32.ofInt (-1))) rfl rfl rfl ?_
              refine h_iast (pc' := 143) rfl rfl rfl rfl hz15 (by omega) (by omega) ci_m1 (h_fgt (E := fun s => s 106 0 = s0 106 0 ∧ s 106 1 = s0 106 1 ∧ s 106 2 = s0 106 2 ∧ s 106 3 = ((s0 106 3) + 1) ∧ s 106 4 = (-1) ∧ s 106 5 = s0 106 5 ∧ s 106 6 = s0 106 6) _ (in_106 Is4 (by omega)) (Fs4.up rfl) ⟨es4.1, es4.2.1, es4.2.2.1, es4.2.2.2.1, rfl, es4.2.2.2.2.2.1, es4.2.2.2.2.2.2⟩ (fun s16 Is16 Fs16 (es16 : s16 106 0 = s0 106 0 ∧ s16 106 1 = s0 106 1 ∧ s16 106 2 = s0 106 2 ∧ s16 106 3 = ((s0 106 3) + 1) ∧ s16 106 4 = (-1) ∧ s16 106 5 = s0 106 5 ∧ s16 106 6 = s0 106 6) => ?_))
              refine h_goto (pc' := 41) rfl rfl ?_
              have qz15 : z15 = (Int32.ofInt 4) := h_lit hz15 ci_4
              subst qz15
              exact h_wk [(0, .ref 98), (1, .int x0), (2, .int x1), (3, .int x2), (4, .int (Int32.ofInt 4))] ⟨rfl, rfl, rfl, rfl, rfl, trivial⟩ (ih.2.2.2.2.2 _ Is16 Fs16  (by omega) (by omega) (by omega) (by omega) (by omega) (by omega) (by omega) (by omega))
            · refine h_aload_n (pc' := 107) rfl rfl rfl ?_
              refine h_iload_n (pc' := 108) rfl rfl rfl ?_
              refine h_aload_n (pc' := 109) rfl rfl rfl ?_
              refine h_getR (pc' := 112) rfl rfl rfl rfl rfl ?_
              refine h_iload (pc' := 114) rfl rfl rfl ?_
              refine h_iald (pc' := 115) (v := ((s0 106 3) + 1)) rfl rfl rfl ci_3 (by omega) (by omega) es4.2.2.2.1 (fun z17 hz17 => ?_)
              refine h_aload_n (pc' := 116) rfl rfl rfl ?_
              refine h_getR (pc' := 119) rfl rfl rfl rfl rfl ?_
              refine h_bipush (pc' := 121) (x := (Int32.ofInt 26)) rfl rfl cb_26 ?_
              refine h_iload_n (pc' := 122) rfl rfl rfl ?_
              refine h_iadd (pc' := 123) rfl rfl ci_26 hx1 rfl (by omega) (by omega) (fun z18 hz18 => ?_)
              refine h_iald (pc' := 124) (v := σ 99 (26 + a1)) rfl rfl rfl hz18 (by omega) (by omega) (Fs4 99 _ rfl) (fun z19 hz19 => ?_)
              have tz19 := ty_99_6 hI (26 + a1) (by omega)
              refine h_call (sp := false) (pc' := 127) (M := [(0, .ref 98), (1, .int x0), (2, .int z17), (3, .int z19)]) rfl rfl rfl rfl rfl rfl rfl rfl ?_
              refine v_mayGo _ Is4 x0 _ hx0 (by omega) z17 _ hz17 (by omega) z19 _ hz19 (fun r20 br20 hr20 tr20 => h_Kv ?_)
              refine h_zeq (tg := 41) (pc' := 130) rfl rfl rfl hr20 (fun c22 => ?_) (fun c22 => ?_)
              · exact h_wk [(0, .ref 98), (1, .int x0), (2, .int x1), (3, .int x2), (4, .int (Int32.ofInt 3))] ⟨rfl, rfl, rfl, rfl, rfl, trivial⟩ (ih.2.2.2.2.1 _ Is4 Fs4  (by omega) (by omega) (by omega) (by omega) (by omega) (by omega) (by omega))
              · refine h_iconst (pc' := 131) (x := (Int32.ofInt 1)) rfl rfl rfl ?_
                exact h_zret rfl rfl ci_1 (by omega) (kk _ _ ci_1 _ Is4 Fs4 (by omega))
      · refine h_iinc (pc' := 74) (b := 2) (M := fun z23 => [(4, .int z23), (0, .ref 98), (1, .int x0), (2, .int x1), (3, .int x2)]) rfl rfl rfl rfl ci_3 ci_m1 rfl (by omega) (by omega) (fun _ => rfl) (fun z23 hz23 => ?_)
        refine h_goto (pc' := 41) rfl rfl ?_
        have qz23 : z23 = (Int32.ofInt 2) := h_lit hz23 ci_2
        subst qz23
        exact h_wk [(0, .ref 98), (1, .int x0), (2, .int x1), (3, .int x2), (4, .int (Int32.ofInt 2))] ⟨rfl, rfl, rfl, rfl, rfl, trivial⟩ (ih.2.2.2.1 _ Is4 Fs4  (by omega) (by omega) (by omega) (by omega) (by omega) (by omega))
    · intro s0 I0 F0_ ex0 ex1 ex2 ex3 ex4 ex5 ex6 hm
      refine h_iload (pc' := 43) rfl rfl rfl ?_
      refine h_zlt (tg := 146) (pc' := 46) rfl rfl rfl ci_4 (fun c1 => absurd c1 (by omega)) (fun c1 => ?_)
      refine h_aload_n (pc' := 47) rfl rfl rfl ?_
      refine h_getR (pc' := 50) rfl rfl rfl rfl rfl ?_
      refine h_iload (pc' := 52) rfl rfl rfl ?_
      refine h_dup2 (pc' := 53) rfl rfl rfl ?_
      refine h_iald (pc' := 54) (v := s0 106 4) rfl rfl rfl ci_4 (by omega) (by omega) rfl (fun z2 hz2 => ?_)
      have tz2 := ty_106 I0 4
      refine h_iconst (pc' := 55) (x := (Int32.ofInt 1)) rfl rfl rfl ?_
      refine h_iadd (pc' := 56) rfl rfl hz2 ci_1 rfl (by omega) (by omega) (fun z3 hz3 => ?_)
      refine h_iast (pc' := 57) rfl rfl rfl rfl ci_4 (by omega) (by omega) hz3 (h_fgt (E := fun s => s 106 0 = s0 106 0 ∧ s 106 1 = s0 106 1 ∧ s 106 2 = s0 106 2 ∧ s 106 3 = s0 106 3 ∧ s 106 4 = ((s0 106 4) + 1) ∧ s 106 5 = s0 106 5 ∧ s 106 6 = s0 106 6) _ (in_106 I0 (by omega)) (F0_.up rfl) ⟨rfl, rfl, rfl, rfl, rfl, rfl, rfl⟩ (fun s4 Is4 Fs4 (es4 : s4 106 0 = s0 106 0 ∧ s4 106 1 = s0 106 1 ∧ s4 106 2 = s0 106 2 ∧ s4 106 3 = s0 106 3 ∧ s4 106 4 = ((s0 106 4) + 1) ∧ s4 106 5 = s0 106 5 ∧ s4 106 6 = s0 106 6) => ?_))
      refine h_aload_n (pc' := 58) rfl rfl rfl ?_
      refine h_getR (pc' := 61) rfl rfl rfl rfl rfl ?_
      refine h_iload (pc' := 63) rfl rfl rfl ?_
      refine h_iald (pc' := 64) (v := ((s0 106 4) + 1)) rfl rfl rfl ci_4 (by omega) (by omega) es4.2.2.2.2.1 (fun z5 hz5 => ?_)
      refine h_aload_n (pc' := 65) rfl rfl rfl ?_
      refine h_getI (pc' := 68) (v := σ 98 1) rfl rfl rfl rfl rfl (Fs4 98 1 rfl) (fun z6 hz6 => ?_)
      have tz6 := tf_98_1 hI
      refine h_clt (tg := 77) (pc' := 71) rfl rfl rfl hz5 hz6 (fun c7 => ?_) (fun c7 => ?_)
      · refine h_aload_n (pc' := 78) rfl rfl rfl ?_
        refine h_getR (pc' := 81) rfl rfl rfl rfl rfl ?_
        refine h_iload (pc' := 83) rfl rfl rfl ?_
        refine h_iald (pc' := 84) (v := ((s0 106 4) + 1)) rfl rfl rfl ci_4 (by omega) (by omega) es4.2.2.2.2.1 (fun z8 hz8 => ?_)
        refine h_iload_n (pc' := 85) rfl rfl rfl ?_
        refine h_ceq (tg := 41) (pc' := 88) rfl rfl rfl hz8 hx0 (fun c9 => ?_) (fun c9 => ?_)
        · exact h_wk [(0, .ref 98), (1, .int x0), (2, .int x1), (3, .int x2), (4, .int (Int32.ofInt 4))] ⟨rfl, rfl, rfl, rfl, rfl, trivial⟩ (ih.2.2.2.2.2 _ Is4 Fs4  (by omega) (by omega) (by omega) (by omega) (by omega) (by omega) (by omega) (by omega))
        · refine h_aload_n (pc' := 89) rfl rfl rfl ?_
          refine h_iload_n (pc' := 90) rfl rfl rfl ?_
          refine h_iload (pc' := 92) rfl rfl rfl ?_
          refine h_call (sp := false) (pc' := 95) (M := [(0, .ref 98), (1, .int x1), (2, .int (Int32.ofInt 4))]) rfl rfl rfl rfl rfl rfl rfl rfl ?_
          refine v_stands4 _ Is4 x1 _ hx1 (by omega)  (by omega) (by omega) (fun r10 br10 hr10 tr10 ps11_0 ps11_1 ps11_2 ps11_3 => h_Kv ?_)
          refine h_zeq (tg := 41) (pc' := 98) rfl rfl rfl hr10 (fun c12 => ?_) (fun c12 => ?_)
          · exact h_wk [(0, .ref 98), (1, .int x0), (2, .int x1), (3, .int x2), (4, .int (Int32.ofInt 4))] ⟨rfl, rfl, rfl, rfl, rfl, trivial⟩ (ih.2.2.2.2.2 _ Is4 Fs4  (by omega) (by omega) (by omega) (by omega) (by omega) (by omega) (by omega) (by omega))
          · refine h_iload (pc' := 100) rfl rfl rfl ?_
            refine h_iconst (pc' := 101) (x := (Int32.ofInt 1)) rfl rfl rfl ?_
            refine h_iadd (pc' := 102) (c := 5) rfl rfl ci_4 ci_1 rfl (by omega) (by omega) (fun z13 hz13 => ?_)
            refine h_iload_n (pc' := 103) rfl rfl rfl ?_
            refine h_cne (tg := 132) (pc' := 106) rfl rfl rfl hz13 hx2 (fun c14 => absurd c14 (by omega)) (fun c14 => ?_)
            refine h_aload_n (pc' := 107) rfl rfl rfl ?_
            refine h_iload_n (pc' := 108) rfl rfl rfl ?_
            refine h_aload_n (pc' := 109) rfl rfl rfl ?_
            refine h_getR (pc' := 112) rfl rfl rfl rfl rfl ?_
            refine h_iload (pc' := 114) rfl rfl rfl ?_
            refine h_iald (pc' := 115) (v := ((s0 106 4) + 1)) rfl rfl rfl ci_4 (by omega) (by omega) es4.2.2.2.2.1 (fun z15 hz15 => ?_)
            refine h_aload_n (pc' := 116) rfl rfl rfl ?_
            refine h_getR (pc' := 119) rfl rfl rfl rfl rfl ?_
            refine h_bipush (pc' := 121) (x := (Int32.ofInt 26)) rfl rfl cb_26 ?_
            refine h_iload_n (pc' := 122) rfl rfl rfl ?_
            refine h_iadd (pc' := 123) rfl rfl ci_26 hx1 rfl (by omega) (by omega) (fun z16 hz16 => ?_)
            refine h_iald (pc' := 124) (v := σ 99 (26 + a1)) rfl rfl rfl hz16 (by omega) (by omega) (Fs4 99 _ rfl) (fun z17 hz17 => ?_)
            have tz17 := ty_99_6 hI (26 + a1) (by omega)
            refine h_call (sp := false) (pc' := 127) (M := [(0, .ref 98), (1, .int x0), (2, .int z15), (3, .int z17)]) rfl rfl rfl rfl rfl rfl rfl rfl ?_
            refine v_mayGo _ Is4 x0 _ hx0 (by omega) z15 _ hz15 (by omega) z17 _ hz17 (fun r18 br18 hr18 tr18 => h_Kv ?_)
            refine h_zeq (tg := 41) (pc' := 130) rfl rfl rfl hr18 (fun c20 => ?_) (fun c20 => ?_)
            · exact h_wk [(0, .ref 98), (1, .int x0), (2, .int x1), (3, .int x2), (4, .int (Int32.ofInt 4))] ⟨rfl, rfl, rfl, rfl, rfl, trivial⟩ (ih.2.2.2.2.2 _ Is4 Fs4  (by omega) (by omega) (by omega) (by omega) (by omega) (by omega) (by omega) (by omega))
            · refine h_iconst (pc' := 131) (x := (Int32.ofInt 1)) rfl rfl rfl ?_
              exact h_zret rfl rfl ci_1 (by omega) (kk _ _ ci_1 _ Is4 Fs4 (by omega))
      · refine h_iinc (pc' := 74) (b := 3) (M := fun z21 => [(4, .int z21), (0, .ref 98), (1, .int x0), (2, .int x1), (3, .int x2)]) rfl rfl rfl rfl ci_4 ci_m1 rfl (by omega) (by omega) (fun _ => rfl) (fun z21 hz21 => ?_)
        refine h_goto (pc' := 41) rfl rfl ?_
        have qz21 : z21 = (Int32.ofInt 3) := h_lit hz21 ci_3
        subst qz21
        exact h_wk [(0, .ref 98), (1, .int x0), (2, .int x1), (3, .int x2), (4, .int (Int32.ofInt 3))] ⟨rfl, rfl, rfl, rfl, rfl, trivial⟩ (ih.2.2.2.2.1 _ Is4 Fs4  (by omega) (by omega) (by omega) (by omega) (by omega) (by omega) (by omega))
set_option maxHeartbeats 100000000 in
theorem v_isSent {ns : Nat} (σ : h_S) (hI : h_I σ) (x0 : Int32) (a0 : Int) (hx0 : x0.toInt = a0) (ra0 : 0 ≤ a0 ∧ a0 ≤ 5) (x1 : Int32) (a1 : Int) (hx1 : x1.toInt = a1) (ra1 : 0 ≤ a1 ∧ a1 ≤ 2) (x2 : Int32) (a2 : Int) (hx2 : x2.toInt = a2) (ra2 : 0 ≤ a2 ∧ a2 ≤ 5) {Q : Option Value → h_S → Prop} (kk : ∀ (r : Int32) (b : Int) (hb : r.toInt = b) (τ : h_S), h_I τ → h_F (k_in kf_v_isSent) τ σ → (0 ≤ b ∧ b ≤ 1) → Q (some (.int r)) τ) : h_T g_P (g_Y ns) 200 0 [(0, .ref 98), (1, .int x0), (2, .int x1), (3, .int x2)] [] σ Q := by
  have F00 : h_F (k_in kf_v_isSent) σ σ := h_F.rf
  refine h_iload_n (pc' := 1) rfl rfl rfl ?_
  refine h_zne (tg := 31) (pc' := 4) rfl rfl rfl hx2 (fun c1 => ?_) (fun c1 => ?_)
  · refine h_iconst (pc' := 32) (x := (Int32.ofInt 0)) rfl rfl rfl ?_
    refine h_istore (pc' := 34) (M := [(4, .int (Int32.ofInt 0)), (0, .ref 98), (1, .int x0), (2, .int x1), (3, .int x2)]) rfl rfl rfl rfl ?_
    refine h_aload_n (pc' := 35) rfl rfl rfl ?_
    refine h_getR (pc' := 38) rfl rfl rfl rfl rfl ?_
    refine h_iconst (pc' := 39) (x := (Int32.ofInt 0)) rfl rfl rfl ?_
    refine h_iconst (pc' := 40) (x := (Int32.ofInt (-1))) rfl rfl rfl ?_
    refine h_iast (pc' := 41) rfl rfl rfl rfl ci_0 (by omega) (by omega) ci_m1 (h_fgt (E := fun s => s 106 0 = (-1) ∧ s 106 1 = σ 106 1 ∧ s 106 2 = σ 106 2 ∧ s 106 3 = σ 106 3 ∧ s 106 4 = σ 106 4 ∧ s 106 5 = σ 106 5 ∧ s 106 6 = σ 106 6) _ (in_106 hI (by omega)) (F00.up rfl) ⟨rfl, rfl, rfl, rfl, rfl, rfl, rfl⟩ (fun s2 Is2 Fs2 (es2 : s2 106 0 = (-1) ∧ s2 106 1 = σ 106 1 ∧ s2 106 2 = σ 106 2 ∧ s2 106 3 = σ 106 3 ∧ s2 106 4 = σ 106 4 ∧ s2 106 5 = σ 106 5 ∧ s2 106 6 = σ 106 6) => ?_))
    exact h_wk [(0, .ref 98), (1, .int x0), (2, .int x1), (3, .int x2), (4, .int (Int32.ofInt 0))] ⟨rfl, rfl, rfl, rfl, rfl, trivial⟩ ((v_isSent_l ns σ hI x0 a0 hx0 ra0 x1 a1 hx1 ra1 x2 a2 hx2 ra2 kk 1000000000000).2.1 _ Is2 Fs2  (by omega) (by omega) (by omega) (by omega))
  · refine h_aload_n (pc' := 5) rfl rfl rfl ?_
    refine h_iload_n (pc' := 6) rfl rfl rfl ?_
    refine h_aload_n (pc' := 7) rfl rfl rfl ?_
    refine h_getR (pc' := 10) rfl rfl rfl rfl rfl ?_
    refine h_bipush (pc' := 12) (x := (Int32.ofInt 29)) rfl rfl cb_29 ?_
    refine h_iload_n (pc' := 13) rfl rfl rfl ?_
    refine h_iadd (pc' := 14) rfl rfl ci_29 hx1 rfl (by omega) (by omega) (fun z3 hz3 => ?_)
    refine h_iald (pc' := 15) (v := σ 99 (29 + a1)) rfl rfl rfl hz3 (by omega) (by omega) rfl (fun z4 hz4 => ?_)
    have tz4 := ty_99_7 hI (29 + a1) (by omega)
    refine h_calls (pc' := 18) (M := [(0, .int z4)]) rfl rfl rfl rfl rfl rfl ?_
    refine h_iload_n (pc' := 1) rfl rfl rfl ?_
    refine h_zne (tg := 9) (pc' := 4) rfl rfl rfl hz4 (fun c5 => ?_) (fun c5 => ?_)
    · refine h_iload_n (pc' := 10) rfl rfl rfl ?_
      refine h_iconst (pc' := 11) (x := (Int32.ofInt 1)) rfl rfl rfl ?_
      refine h_isub (pc' := 12) rfl rfl hz4 ci_1 rfl (by omega) (by omega) (fun z6 hz6 => ?_)
      refine h_iret rfl rfl (h_Kv ?_)
      refine h_aload_n (pc' := 19) rfl rfl rfl ?_
      refine h_getR (pc' := 22) rfl rfl rfl rfl rfl ?_
      refine h_bipush (pc' := 24) (x := (Int32.ofInt 26)) rfl rfl cb_26 ?_
      refine h_iload_n (pc' := 25) rfl rfl rfl ?_
      refine h_iadd (pc' := 26) rfl rfl ci_26 hx1 rfl (by omega) (by omega) (fun z7 hz7 => ?_)
      refine h_iald (pc' := 27) (v := σ 99 (26 + a1)) rfl rfl rfl hz7 (by omega) (by omega) rfl (fun z8 hz8 => ?_)
      have tz8 := ty_99_6 hI (26 + a1) (by omega)
      refine h_call (sp := false) (pc' := 30) (M := [(0, .ref 98), (1, .int x0), (2, .int z6), (3, .int z8)]) rfl rfl rfl rfl rfl rfl rfl rfl ?_
      refine v_mayGo _ hI x0 _ hx0 (by omega) z6 _ hz6 (by omega) z8 _ hz8 (fun r9 br9 hr9 tr9 => h_Kv ?_)
      exact h_zret rfl rfl hr9 (by omega) (kk _ _ hr9 _ hI F00 (by omega))
    · refine h_bipush (pc' := 6) (x := (Int32.ofInt (-4))) rfl rfl cb_m4 ?_
      refine h_goto (pc' := 12) rfl rfl ?_
      refine h_iret rfl rfl (h_Kv ?_)
      refine h_aload_n (pc' := 19) rfl rfl rfl ?_
      refine h_getR (pc' := 22) rfl rfl rfl rfl rfl ?_
      refine h_bipush (pc' := 24) (x := (Int32.ofInt 26)) rfl rfl cb_26 ?_
      refine h_iload_n (pc' := 25) rfl rfl rfl ?_
      refine h_iadd (pc' := 26) rfl rfl ci_26 hx1 rfl (by omega) (by omega) (fun z11 hz11 => ?_)
      refine h_iald (pc' := 27) (v := σ 99 (26 + a1)) rfl rfl rfl hz11 (by omega) (by omega) rfl (fun z12 hz12 => ?_)
      have tz12 := ty_99_6 hI (26 + a1) (by omega)
      refine h_call (sp := false) (pc' := 30) (M := [(0, .ref 98), (1, .int x0), (2, .int (Int32.ofInt (-4))), (3, .int z12)]) rfl rfl rfl rfl rfl rfl rfl rfl ?_
      refine v_mayGo _ hI x0 _ hx0 (by omega) (Int32.ofInt (-4)) _ ci_m4 (by omega) z12 _ hz12 (fun r13 br13 hr13 tr13 => h_Kv ?_)
      exact h_zret rfl rfl hr13 (by omega) (kk _ _ hr13 _ hI F00 (by omega))
def kf_w_199_98 : List Nat := [100378, 100379, 108543, 109567, 110591]
theorem w_199_98 {ns : Nat} (σ : h_S) (hI : h_I σ) (x0 : Int32) (a0 : Int) (hx0 : x0.toInt = a0) (x1 : Int32) (a1 : Int) (hx1 : x1.toInt = a1) {Q : Option Value → h_S → Prop} (kk : ∀ (r : Int32) (b : Int) (hb : r.toInt = b) (τ : h_S), h_I τ → h_F (k_in kf_w_199_98) τ σ → Q (some (.int r)) τ) : h_T g_P (g_Y ns) 199 0 [(0, .ref 98), (1, .int x0), (2, .int x1)] [] σ Q := by
  have F00 : h_F (k_in kf_w_199_98) σ σ := h_F.rf
  refine h_aload_n (pc' := 1) rfl rfl rfl ?_
  refine h_iload_n (pc' := 2) rfl rfl rfl ?_
  refine h_call (sp := false) (pc' := 5) (M := [(0, .ref 98), (1, .int x0)]) rfl rfl rfl rfl rfl rfl rfl rfl ?_
  refine h_iload_n (pc' := 1) rfl rfl rfl ?_
  refine h_i2l (pc' := 2) rfl rfl hx0 (fun z1 hz1 => ?_)
  refine h_lconst (pc' := 3) (x := (Int64.ofInt 0)) rfl rfl rfl ?_
  refine h_aload_n (pc' := 4) rfl rfl rfl ?_
  refine h_getI (pc' := 7) (v := σ 98 2) rfl rfl rfl rfl rfl rfl (fun z2 hz2 => ?_)
  have tz2 := tf_98_2 hI
  refine h_iconst (pc' := 8) (x := (Int32.ofInt 1)) rfl rfl rfl ?_
  refine h_isub (pc' := 9) rfl rfl hz2 ci_1 rfl (by omega) (by omega) (fun z3 hz3 => ?_)
  refine h_i2l (pc' := 10) rfl rfl hz3 (fun z4 hz4 => ?_)
  refine h_calls (pc' := 13) (M := [(0, .long z1), (2, .long (Int64.ofInt 0)), (4, .long z4)]) rfl rfl rfl rfl rfl rfl ?_
  refine h_lload_n (pc' := 1) rfl rfl rfl ?_
  refine h_lload_n (pc' := 2) rfl rfl rfl ?_
  refine h_lcmp (pc' := 3) rfl rfl hz1 cl_0 (fun z5 hz5 => ?_)
  refine h_zlt (tg := 17) (pc' := 6) rfl rfl rfl rfl (fun c6 => ?_) (fun c6 => ?_)
  · replace c6 := (h_lcr hz5).1 c6
    clear hz5
    refine h_iconst (pc' := 18) (x := (Int32.ofInt 0)) rfl rfl rfl ?_
    refine h_zret rfl rfl ci_0 (by omega) (h_Kv ?_)
    refine h_zret rfl rfl ci_0 (by omega) (h_Kv ?_)
    refine h_zeq (tg := 32) (pc' := 8) rfl rfl rfl ci_0 (fun c7 => ?_) (fun c7 => absurd c7 (by omega))
    refine h_iconst (pc' := 33) (x := (Int32.ofInt (-1))) rfl rfl rfl ?_
    exact h_iret rfl rfl (kk _ _ ci_m1 _ hI F00)
  · replace c6 := (h_lcr hz5).2.1 c6
    clear hz5
    refine h_lload_n (pc' := 7) rfl rfl rfl ?_
    refine h_lload (pc' := 9) rfl rfl rfl ?_
    refine h_lcmp (pc' := 10) rfl rfl hz1 hz4 (fun z8 hz8 => ?_)
    refine h_zgt (tg := 17) (pc' := 13) rfl rfl rfl rfl (fun c9 => ?_) (fun c9 => ?_)
    · replace c9 := (h_lcr hz8).2.2.2.1 c9
      clear hz8
      refine h_iconst (pc' := 18) (x := (Int32.ofInt 0)) rfl rfl rfl ?_
      refine h_zret rfl rfl ci_0 (by omega) (h_Kv ?_)
      refine h_zret rfl rfl ci_0 (by omega) (h_Kv ?_)
      refine h_zeq (tg := 32) (pc' := 8) rfl rfl rfl ci_0 (fun c10 => ?_) (fun c10 => absurd c10 (by omega))
      refine h_iconst (pc' := 33) (x := (Int32.ofInt (-1))) rfl rfl rfl ?_
      exact h_iret rfl rfl (kk _ _ ci_m1 _ hI F00)
    · replace c9 := (h_lcr hz8).2.2.1 c9
      clear hz8
      refine h_iconst (pc' := 14) (x := (Int32.ofInt 1)) rfl rfl rfl ?_
      refine h_goto (pc' := 18) rfl rfl ?_
      refine h_zret rfl rfl ci_1 (by omega) (h_Kv ?_)
      refine h_zret rfl rfl ci_1 (by omega) (h_Kv ?_)
      refine h_zeq (tg := 32) (pc' := 8) rfl rfl rfl ci_1 (fun c11 => absurd c11 (by omega)) (fun c11 => ?_)
      refine h_iload_n (pc' := 9) rfl rfl rfl ?_
      refine h_i2l (pc' := 10) rfl rfl hx1 (fun z12 hz12 => ?_)
      refine h_lconst (pc' := 11) (x := (Int64.ofInt 0)) rfl rfl rfl ?_
      refine h_lconst (pc' := 12) (x := (Int64.ofInt 1)) rfl rfl rfl ?_
      refine h_calls (pc' := 15) (M := [(0, .long z12), (2, .long (Int64.ofInt 0)), (4, .long (Int64.ofInt 1))]) rfl rfl rfl rfl rfl rfl ?_
      refine h_lload_n (pc' := 1) rfl rfl rfl ?_
      refine h_lload_n (pc' := 2) rfl rfl rfl ?_
      refine h_lcmp (pc' := 3) rfl rfl hz12 cl_0 (fun z13 hz13 => ?_)
      refine h_zlt (tg := 17) (pc' := 6) rfl rfl rfl rfl (fun c14 => ?_) (fun c14 => ?_)
      · replace c14 := (h_lcr hz13).1 c14
        clear hz13
        refine h_iconst (pc' := 18) (x := (Int32.ofInt 0)) rfl rfl rfl ?_
        refine h_zret rfl rfl ci_0 (by omega) (h_Kv ?_)
        refine h_zne (tg := 34) (pc' := 18) rfl rfl rfl ci_0 (fun c15 => absurd c15 (by omega)) (fun c15 => ?_)
        refine h_iload_n (pc' := 19) rfl rfl rfl ?_
        refine h_i2l (pc' := 20) rfl rfl hx1 (fun z16 hz16 => ?_)
        refine h_ldc2 (pc' := 23) (x := (Int64.ofInt 10)) rfl rfl rfl ?_
        refine h_ldc2 (pc' := 26) (x := (Int64.ofInt 15)) rfl rfl rfl ?_
        refine h_calls (pc' := 29) (M := [(0, .long z16), (2, .long (Int64.ofInt 10)), (4, .long (Int64.ofInt 15))]) rfl rfl rfl rfl rfl rfl ?_
        refine h_lload_n (pc' := 1) rfl rfl rfl ?_
        refine h_lload_n (pc' := 2) rfl rfl rfl ?_
        refine h_lcmp (pc' := 3) rfl rfl hz16 cl_10 (fun z17 hz17 => ?_)
        refine h_zlt (tg := 17) (pc' := 6) rfl rfl rfl rfl (fun c18 => ?_) (fun c18 => absurd c18 (by omega))
        replace c18 := (h_lcr hz17).1 c18
        clear hz17
        refine h_iconst (pc' := 18) (x := (Int32.ofInt 0)) rfl rfl rfl ?_
        refine h_zret rfl rfl ci_0 (by omega) (h_Kv ?_)
        refine h_zne (tg := 34) (pc' := 32) rfl rfl rfl ci_0 (fun c19 => absurd c19 (by omega)) (fun c19 => ?_)
        refine h_iconst (pc' := 33) (x := (Int32.ofInt (-1))) rfl rfl rfl ?_
        exact h_iret rfl rfl (kk _ _ ci_m1 _ hI F00)
      · replace c14 := (h_lcr hz13).2.1 c14
        clear hz13
        refine h_lload_n (pc' := 7) rfl rfl rfl ?_
        refine h_lload (pc' := 9) rfl rfl rfl ?_
        refine h_lcmp (pc' := 10) rfl rfl hz12 cl_1 (fun z20 hz20 => ?_)
        refine h_zgt (tg := 17) (pc' := 13) rfl rfl rfl rfl (fun c21 => ?_) (fun c21 => ?_)
        · replace c21 := (h_lcr hz20).2.2.2.1 c21
          clear hz20
          refine h_iconst (pc' := 18) (x := (Int32.ofInt 0)) rfl rfl rfl ?_
          refine h_zret rfl rfl ci_0 (by omega) (h_Kv ?_)
          refine h_zne (tg := 34) (pc' := 18) rfl rfl rfl ci_0 (fun c22 => absurd c22 (by omega)) (fun c22 => ?_)
          refine h_iload_n (pc' := 19) rfl rfl rfl ?_
          refine h_i2l (pc' := 20) rfl rfl hx1 (fun z23 hz23 => ?_)
          refine h_ldc2 (pc' := 23) (x := (Int64.ofInt 10)) rfl rfl rfl ?_
          refine h_ldc2 (pc' := 26) (x := (Int64.ofInt 15)) rfl rfl rfl ?_
          refine h_calls (pc' := 29) (M := [(0, .long z23), (2, .long (Int64.ofInt 10)), (4, .long (Int64.ofInt 15))]) rfl rfl rfl rfl rfl rfl ?_
          refine h_lload_n (pc' := 1) rfl rfl rfl ?_
          refine h_lload_n (pc' := 2) rfl rfl rfl ?_
          refine h_lcmp (pc' := 3) rfl rfl hz23 cl_10 (fun z24 hz24 => ?_)
          refine h_zlt (tg := 17) (pc' := 6) rfl rfl rfl rfl (fun c25 => ?_) (fun c25 => ?_)
          · replace c25 := (h_lcr hz24).1 c25
            clear hz24
            refine h_iconst (pc' := 18) (x := (Int32.ofInt 0)) rfl rfl rfl ?_
            refine h_zret rfl rfl ci_0 (by omega) (h_Kv ?_)
            refine h_zne (tg := 34) (pc' := 32) rfl rfl rfl ci_0 (fun c26 => absurd c26 (by omega)) (fun c26 => ?_)
            refine h_iconst (pc' := 33) (x := (Int32.ofInt (-1))) rfl rfl rfl ?_
            exact h_iret rfl rfl (kk _ _ ci_m1 _ hI F00)
          · replace c25 := (h_lcr hz24).2.1 c25
            clear hz24
            refine h_lload_n (pc' := 7) rfl rfl rfl ?_
            refine h_lload (pc' := 9) rfl rfl rfl ?_
            refine h_lcmp (pc' := 10) rfl rfl hz23 cl_15 (fun z27 hz27 => ?_)
            refine h_zgt (tg := 17) (pc' := 13) rfl rfl rfl rfl (fun c28 => ?_) (fun c28 => ?_)
            · replace c28 := (h_lcr hz27).2.2.2.1 c28
              clear hz27
              refine h_iconst (pc' := 18) (x := (Int32.ofInt 0)) rfl rfl rfl ?_
              refine h_zret rfl rfl ci_0 (by omega) (h_Kv ?_)
              refine h_zne (tg := 34) (pc' := 32) rfl rfl rfl ci_0 (fun c29 => absurd c29 (by omega)) (fun c29 => ?_)
              refine h_iconst (pc' := 33) (x := (Int32.ofInt (-1))) rfl rfl rfl ?_
              exact h_iret rfl rfl (kk _ _ ci_m1 _ hI F00)
            · replace c28 := (h_lcr hz27).2.2.1 c28
              clear hz27
              refine h_iconst (pc' := 14) (x := (Int32.ofInt 1)) rfl rfl rfl ?_
              refine h_goto (pc' := 18) rfl rfl ?_
              refine h_zret rfl rfl ci_1 (by omega) (h_Kv ?_)
              refine h_zne (tg := 34) (pc' := 32) rfl rfl rfl ci_1 (fun c30 => ?_) (fun c30 => absurd c30 (by omega))
              refine h_aload_n (pc' := 35) rfl rfl rfl ?_
              refine h_iconst (pc' := 36) (x := (Int32.ofInt 0)) rfl rfl rfl ?_
              refine h_call (sp := false) (pc' := 39) (M := [(0, .ref 98), (1, .int (Int32.ofInt 0))]) rfl rfl rfl rfl rfl rfl rfl rfl ?_
              refine w_162_98 _ hI (Int32.ofInt 0) _ ci_0 (by omega) (fun s32 Is32 Gs32 => h_Kn ?_)
              have Fs32 := (Gs32.mono (B := kf_w_199_98) rfl).tr F00
              refine h_aload_n (pc' := 40) rfl rfl rfl ?_
              refine h_iload_n (pc' := 41) rfl rfl rfl ?_
              refine h_call (sp := false) (pc' := 44) (M := [(0, .ref 98), (1, .int x0)]) rfl rfl rfl rfl rfl rfl rfl rfl ?_
              refine v_lines _ Is32 x0 _ hx0 (by omega) (fun s34 Is34 Gs34 => h_Kn ?_)
              have Fs34 := (Gs34.mono (B := kf_w_199_98) rfl).tr Fs32
              refine h_iload_n (pc' := 45) rfl rfl rfl ?_
              refine h_zne (tg := 55) (pc' := 48) rfl rfl rfl hx1 (fun c35 => ?_) (fun c35 => absurd c35 (by omega))
              refine h_iload_n (pc' := 56) rfl rfl rfl ?_
              refine h_iconst (pc' := 57) (x := (Int32.ofInt 1)) rfl rfl rfl ?_
              refine h_cne (tg := 67) (pc' := 60) rfl rfl rfl hx1 ci_1 (fun c36 => ?_) (fun c36 => absurd c36 (by omega))
              refine h_iload_n (pc' := 68) rfl rfl rfl ?_
              refine h_bipush (pc' := 70) (x := (Int32.ofInt 10)) rfl rfl cb_10 ?_
              refine h_isub (pc' := 71) rfl rfl hx1 ci_10 rfl (by have g0 := h_rgv hx1; omega) (by have g0 := h_rgv hx1; omega) (fun z37 hz37 => ?_)
              refine h_aload_n (pc' := 72) rfl rfl rfl ?_
              refine h_getI (pc' := 75) (v := s34 98 26) rfl rfl rfl rfl rfl rfl (fun z38 hz38 => ?_)
              have tz38 := tf_98_26 Is34
              refine h_cge (tg := 90) (pc' := 78) rfl rfl rfl hz37 hz38 (fun c39 => ?_) (fun c39 => ?_)
              · refine h_bipush (pc' := 92) (x := (Int32.ofInt (-4))) rfl rfl cb_m4 ?_
                exact h_iret rfl rfl (kk _ _ ci_m4 _ Is34 Fs34)
              · refine h_aload_n (pc' := 79) rfl rfl rfl ?_
                refine h_getR (pc' := 82) rfl rfl rfl rfl rfl ?_
                refine h_iload_n (pc' := 83) rfl rfl rfl ?_
                refine h_bipush (pc' := 85) (x := (Int32.ofInt 10)) rfl rfl cb_10 ?_
                refine h_isub (pc' := 86) rfl rfl hx1 ci_10 rfl (by have g0 := h_rgv hx1; omega) (by have g0 := h_rgv hx1; omega) (fun z40 hz40 => ?_)
                refine h_iald (pc' := 87) (v := s34 107 (a1 - 10)) rfl rfl rfl hz40 (by omega) (by omega) rfl (fun z41 hz41 => ?_)
                have tz41 := ty_107 Is34 (a1 - 10)
                refine h_goto (pc' := 92) rfl rfl ?_
                exact h_iret rfl rfl (kk _ _ hz41 _ Is34 Fs34)
        · replace c21 := (h_lcr hz20).2.2.1 c21
          clear hz20
          refine h_iconst (pc' := 14) (x := (Int32.ofInt 1)) rfl rfl rfl ?_
          refine h_goto (pc' := 18) rfl rfl ?_
          refine h_zret rfl rfl ci_1 (by omega) (h_Kv ?_)
          refine h_zne (tg := 34) (pc' := 18) rfl rfl rfl ci_1 (fun c42 => ?_) (fun c42 => absurd c42 (by omega))
          refine h_aload_n (pc' := 35) rfl rfl rfl ?_
          refine h_iconst (pc' := 36) (x := (Int32.ofInt 0)) rfl rfl rfl ?_
          refine h_call (sp := false) (pc' := 39) (M := [(0, .ref 98), (1, .int (Int32.ofInt 0))]) rfl rfl rfl rfl rfl rfl rfl rfl ?_
          refine w_162_98 _ hI (Int32.ofInt 0) _ ci_0 (by omega) (fun s44 Is44 Gs44 => h_Kn ?_)
          have Fs44 := (Gs44.mono (B := kf_w_199_98) rfl).tr F00
          refine h_aload_n (pc' := 40) rfl rfl rfl ?_
          refine h_iload_n (pc' := 41) rfl rfl rfl ?_
          refine h_call (sp := false) (pc' := 44) (M := [(0, .ref 98), (1, .int x0)]) rfl rfl rfl rfl rfl rfl rfl rfl ?_
          refine v_lines _ Is44 x0 _ hx0 (by omega) (fun s46 Is46 Gs46 => h_Kn ?_)
          have Fs46 := (Gs46.mono (B := kf_w_199_98) rfl).tr Fs44
          refine h_iload_n (pc' := 45) rfl rfl rfl ?_
          refine h_zne (tg := 55) (pc' := 48) rfl rfl rfl hx1 (fun c47 => ?_) (fun c47 => ?_)
          · refine h_iload_n (pc' := 56) rfl rfl rfl ?_
            refine h_iconst (pc' := 57) (x := (Int32.ofInt 1)) rfl rfl rfl ?_
            refine h_cne (tg := 67) (pc' := 60) rfl rfl rfl hx1 ci_1 (fun c48 => absurd c48 (by omega)) (fun c48 => ?_)
            refine h_aload_n (pc' := 61) rfl rfl rfl ?_
            refine h_getI (pc' := 64) (v := s46 98 27) rfl rfl rfl rfl rfl rfl (fun z49 hz49 => ?_)
            have tz49 := tf_98_27 Is46
            refine h_goto (pc' := 92) rfl rfl ?_
            exact h_iret rfl rfl (kk _ _ hz49 _ Is46 Fs46)
          · refine h_aload_n (pc' := 49) rfl rfl rfl ?_
            refine h_getI (pc' := 52) (v := s46 98 26) rfl rfl rfl rfl rfl rfl (fun z50 hz50 => ?_)
            have tz50 := tf_98_26 Is46
            refine h_goto (pc' := 92) rfl rfl ?_
            exact h_iret rfl rfl (kk _ _ hz50 _ Is46 Fs46)
def kf_w_201_98 : List Nat := [108543, 109567]
theorem w_201_98_l (ns : Nat) (σ : h_S) (hI : h_I σ) (x0 : Int32) (a0 : Int) (hx0 : x0.toInt = a0) (x1 : Int32) (a1 : Int) (hx1 : x1.toInt = a1) (x2 : Int32) (a2 : Int) (hx2 : x2.toInt = a2) {Q : Option Value → h_S → Prop} (kk : ∀ (r : Int32) (b : Int) (hb : r.toInt = b) (τ : h_S), h_I τ → h_F (k_in kf_w_201_98) τ σ → ((-4) ≤ b ∧ b ≤ 6) → Q (some (.int r)) τ) : ∀ n : Nat, (∀ (s0 : h_S), h_I s0 → h_F (k_in kf_w_201_98) s0 σ → ∀ (y4 : Int32) (b4 : Int), y4.toInt = b4 → (0 ≤ b4 ∧ b4 ≤ 6) → (0 ≤ a0 ∧ a0 ≤ 5) → (0 ≤ a1 ∧ a1 ≤ 2) → (a2 = 0 ∨ (10 ≤ a2 ∧ a2 ≤ 15)) → (6 + 1 - b4) * 1000000 + 1000000000 ≤ (n : Int) → h_T g_P (g_Y ns) 201 44 [(0, .ref 98), (1, .int x0), (2, .int x1), (3, .int x2), (4, .int y4)] [] s0 Q) := by
  intro n
  induction n with
  | zero => exact by intro s0 I0 F0_ y4 b4 hy4 ry4 ex0 ex1 ex2 hm; exfalso; omega
  | succ n ih =>
    intro s0 I0 F0_ y4 b4 hy4 ry4 ex0 ex1 ex2 hm
    refine h_iload (pc' := 46) rfl rfl rfl ?_
    refine h_aload_n (pc' := 47) rfl rfl rfl ?_
    refine h_getI (pc' := 50) (v := σ 98 1) rfl rfl rfl rfl rfl (F0_ 98 1 rfl) (fun z1 hz1 => ?_)
    have tz1 := tf_98_1 hI
    refine h_cge (tg := 103) (pc' := 53) rfl rfl rfl hy4 hz1 (fun c2 => ?_) (fun c2 => ?_)
    · refine h_bipush (pc' := 105) (x := (Int32.ofInt (-4))) rfl rfl cb_m4 ?_
      exact h_iret rfl rfl (kk _ _ ci_m4 _ I0 F0_ (by omega))
    · refine h_aload_n (pc' := 54) rfl rfl rfl ?_
      refine h_iload_n (pc' := 55) rfl rfl rfl ?_
      refine h_iload_n (pc' := 56) rfl rfl rfl ?_
      refine h_iload (pc' := 58) rfl rfl rfl ?_
      refine h_call (sp := false) (pc' := 61) (M := [(0, .ref 98), (1, .int x0), (2, .int x1), (3, .int y4)]) rfl rfl rfl rfl rfl rfl rfl rfl ?_
      refine v_isSent _ I0 x0 _ hx0 (by omega) x1 _ hx1 (by omega) y4 _ hy4 (by omega) (fun r3 br3 hr3 s4 Is4 Gs4 tr3 => h_Kv ?_)
      have Fs4 := (Gs4.mono (B := kf_w_201_98) rfl).tr F0_
      refine h_zeq (tg := 97) (pc' := 64) rfl rfl rfl hr3 (fun c5 => ?_) (fun c5 => ?_)
      · refine h_iinc (pc' := 100) (M := fun z6 => [(4, .int z6), (0, .ref 98), (1, .int x0), (2, .int x1), (3, .int x2)]) rfl rfl rfl rfl hy4 ci_1 rfl (by omega) (by omega) (fun _ => rfl) (fun z6 hz6 => ?_)
        refine h_goto (pc' := 44) rfl rfl ?_
        exact h_wk [(0, .ref 98), (1, .int x0), (2, .int x1), (3, .int x2), (4, .int z6)] ⟨rfl, rfl, rfl, rfl, rfl, trivial⟩ (ih _ Is4 Fs4 z6 _ hz6 (by omega) (by omega) (by omega) (by omega) (by omega))
      · refine h_iload_n (pc' := 65) rfl rfl rfl ?_
        refine h_zne (tg := 73) (pc' := 68) rfl rfl rfl hx2 (fun c7 => ?_) (fun c7 => ?_)
        · refine h_iload_n (pc' := 74) rfl rfl rfl ?_
          refine h_bipush (pc' := 76) (x := (Int32.ofInt 10)) rfl rfl cb_10 ?_
          refine h_isub (pc' := 77) rfl rfl hx2 ci_10 rfl (by have g0 := h_rgv hx2; omega) (by have g0 := h_rgv hx2; omega) (fun z8 hz8 => ?_)
          refine h_iload (pc' := 79) rfl rfl rfl ?_
          refine h_cge (tg := 94) (pc' := 82) rfl rfl rfl hz8 hy4 (fun c9 => ?_) (fun c9 => ?_)
          · refine h_bipush (pc' := 96) (x := (Int32.ofInt (-4))) rfl rfl cb_m4 ?_
            exact h_iret rfl rfl (kk _ _ ci_m4 _ Is4 Fs4 (by omega))
          · refine h_aload_n (pc' := 83) rfl rfl rfl ?_
            refine h_getR (pc' := 86) rfl rfl rfl rfl rfl ?_
            refine h_iload_n (pc' := 87) rfl rfl rfl ?_
            refine h_bipush (pc' := 89) (x := (Int32.ofInt 10)) rfl rfl cb_10 ?_
            refine h_isub (pc' := 90) rfl rfl hx2 ci_10 rfl (by have g0 := h_rgv hx2; omega) (by have g0 := h_rgv hx2; omega) (fun z10 hz10 => ?_)
            refine h_iald (pc' := 91) (v := s4 106 (a2 - 10)) rfl rfl rfl hz10 (by omega) (by omega) rfl (fun z11 hz11 => ?_)
            have tz11 := ty_106 Is4 (a2 - 10)
            refine h_goto (pc' := 96) rfl rfl ?_
            exact h_iret rfl rfl (kk _ _ hz11 _ Is4 Fs4 (by omega))
        · refine h_iload (pc' := 70) rfl rfl rfl ?_
          refine h_goto (pc' := 96) rfl rfl ?_
          exact h_iret rfl rfl (kk _ _ hy4 _ Is4 Fs4 (by omega))
theorem w_201_98 {ns : Nat} (σ : h_S) (hI : h_I σ) (x0 : Int32) (a0 : Int) (hx0 : x0.toInt = a0) (x1 : Int32) (a1 : Int) (hx1 : x1.toInt = a1) (x2 : Int32) (a2 : Int) (hx2 : x2.toInt = a2) {Q : Option Value → h_S → Prop} (kk : ∀ (r : Int32) (b : Int) (hb : r.toInt = b) (τ : h_S), h_I τ → h_F (k_in kf_w_201_98) τ σ → ((-4) ≤ b ∧ b ≤ 6) → Q (some (.int r)) τ) : h_T g_P (g_Y ns) 201 0 [(0, .ref 98), (1, .int x0), (2, .int x1), (3, .int x2)] [] σ Q := by
  have F00 : h_F (k_in kf_w_201_98) σ σ := h_F.rf
  refine h_aload_n (pc' := 1) rfl rfl rfl ?_
  refine h_iload_n (pc' := 2) rfl rfl rfl ?_
  refine h_call (sp := false) (pc' := 5) (M := [(0, .ref 98), (1, .int x0)]) rfl rfl rfl rfl rfl rfl rfl rfl ?_
  refine h_iload_n (pc' := 1) rfl rfl rfl ?_
  refine h_i2l (pc' := 2) rfl rfl hx0 (fun z1 hz1 => ?_)
  refine h_lconst (pc' := 3) (x := (Int64.ofInt 0)) rfl rfl rfl ?_
  refine h_aload_n (pc' := 4) rfl rfl rfl ?_
  refine h_getI (pc' := 7) (v := σ 98 1) rfl rfl rfl rfl rfl rfl (fun z2 hz2 => ?_)
  have tz2 := tf_98_1 hI
  refine h_iconst (pc' := 8) (x := (Int32.ofInt 1)) rfl rfl rfl ?_
  refine h_isub (pc' := 9) rfl rfl hz2 ci_1 rfl (by omega) (by omega) (fun z3 hz3 => ?_)
  refine h_i2l (pc' := 10) rfl rfl hz3 (fun z4 hz4 => ?_)
  refine h_calls (pc' := 13) (M := [(0, .long z1), (2, .long (Int64.ofInt 0)), (4, .long z4)]) rfl rfl rfl rfl rfl rfl ?_
  refine h_lload_n (pc' := 1) rfl rfl rfl ?_
  refine h_lload_n (pc' := 2) rfl rfl rfl ?_
  refine h_lcmp (pc' := 3) rfl rfl hz1 cl_0 (fun z5 hz5 => ?_)
  refine h_zlt (tg := 17) (pc' := 6) rfl rfl rfl rfl (fun c6 => ?_) (fun c6 => ?_)
  · replace c6 := (h_lcr hz5).1 c6
    clear hz5
    refine h_iconst (pc' := 18) (x := (Int32.ofInt 0)) rfl rfl rfl ?_
    refine h_zret rfl rfl ci_0 (by omega) (h_Kv ?_)
    refine h_zret rfl rfl ci_0 (by omega) (h_Kv ?_)
    refine h_zeq (tg := 34) (pc' := 8) rfl rfl rfl ci_0 (fun c7 => ?_) (fun c7 => absurd c7 (by omega))
    refine h_iconst (pc' := 35) (x := (Int32.ofInt (-1))) rfl rfl rfl ?_
    exact h_iret rfl rfl (kk _ _ ci_m1 _ hI F00 (by omega))
  · replace c6 := (h_lcr hz5).2.1 c6
    clear hz5
    refine h_lload_n (pc' := 7) rfl rfl rfl ?_
    refine h_lload (pc' := 9) rfl rfl rfl ?_
    refine h_lcmp (pc' := 10) rfl rfl hz1 hz4 (fun z8 hz8 => ?_)
    refine h_zgt (tg := 17) (pc' := 13) rfl rfl rfl rfl (fun c9 => ?_) (fun c9 => ?_)
    · replace c9 := (h_lcr hz8).2.2.2.1 c9
      clear hz8
      refine h_iconst (pc' := 18) (x := (Int32.ofInt 0)) rfl rfl rfl ?_
      refine h_zret rfl rfl ci_0 (by omega) (h_Kv ?_)
      refine h_zret rfl rfl ci_0 (by omega) (h_Kv ?_)
      refine h_zeq (tg := 34) (pc' := 8) rfl rfl rfl ci_0 (fun c10 => ?_) (fun c10 => absurd c10 (by omega))
      refine h_iconst (pc' := 35) (x := (Int32.ofInt (-1))) rfl rfl rfl ?_
      exact h_iret rfl rfl (kk _ _ ci_m1 _ hI F00 (by omega))
    · replace c9 := (h_lcr hz8).2.2.1 c9
      clear hz8
      refine h_iconst (pc' := 14) (x := (Int32.ofInt 1)) rfl rfl rfl ?_
      refine h_goto (pc' := 18) rfl rfl ?_
      refine h_zret rfl rfl ci_1 (by omega) (h_Kv ?_)
      refine h_zret rfl rfl ci_1 (by omega) (h_Kv ?_)
      refine h_zeq (tg := 34) (pc' := 8) rfl rfl rfl ci_1 (fun c11 => absurd c11 (by omega)) (fun c11 => ?_)
      refine h_aload_n (pc' := 9) rfl rfl rfl ?_
      refine h_iload_n (pc' := 10) rfl rfl rfl ?_
      refine h_call (sp := false) (pc' := 13) (M := [(0, .ref 98), (1, .int x1)]) rfl rfl rfl rfl rfl rfl rfl rfl ?_
      refine h_iload_n (pc' := 1) rfl rfl rfl ?_
      refine h_i2l (pc' := 2) rfl rfl hx1 (fun z12 hz12 => ?_)
      refine h_lconst (pc' := 3) (x := (Int64.ofInt 0)) rfl rfl rfl ?_
      refine h_aload_n (pc' := 4) rfl rfl rfl ?_
      refine h_getI (pc' := 7) (v := σ 98 2) rfl rfl rfl rfl rfl rfl (fun z13 hz13 => ?_)
      have tz13 := tf_98_2 hI
      refine h_iconst (pc' := 8) (x := (Int32.ofInt 1)) rfl rfl rfl ?_
      refine h_isub (pc' := 9) rfl rfl hz13 ci_1 rfl (by omega) (by omega) (fun z14 hz14 => ?_)
      refine h_i2l (pc' := 10) rfl rfl hz14 (fun z15 hz15 => ?_)
      refine h_calls (pc' := 13) (M := [(0, .long z12), (2, .long (Int64.ofInt 0)), (4, .long z15)]) rfl rfl rfl rfl rfl rfl ?_
      refine h_lload_n (pc' := 1) rfl rfl rfl ?_
      refine h_lload_n (pc' := 2) rfl rfl rfl ?_
      refine h_lcmp (pc' := 3) rfl rfl hz12 cl_0 (fun z16 hz16 => ?_)
      refine h_zlt (tg := 17) (pc' := 6) rfl rfl rfl rfl (fun c17 => ?_) (fun c17 => ?_)
      · replace c17 := (h_lcr hz16).1 c17
        clear hz16
        refine h_iconst (pc' := 18) (x := (Int32.ofInt 0)) rfl rfl rfl ?_
        refine h_zret rfl rfl ci_0 (by omega) (h_Kv ?_)
        refine h_zret rfl rfl ci_0 (by omega) (h_Kv ?_)
        refine h_zeq (tg := 34) (pc' := 16) rfl rfl rfl ci_0 (fun c18 => ?_) (fun c18 => absurd c18 (by omega))
        refine h_iconst (pc' := 35) (x := (Int32.ofInt (-1))) rfl rfl rfl ?_
        exact h_iret rfl rfl (kk _ _ ci_m1 _ hI F00 (by omega))
      · replace c17 := (h_lcr hz16).2.1 c17
        clear hz16
        refine h_lload_n (pc' := 7) rfl rfl rfl ?_
        refine h_lload (pc' := 9) rfl rfl rfl ?_
        refine h_lcmp (pc' := 10) rfl rfl hz12 hz15 (fun z19 hz19 => ?_)
        refine h_zgt (tg := 17) (pc' := 13) rfl rfl rfl rfl (fun c20 => ?_) (fun c20 => ?_)
        · replace c20 := (h_lcr hz19).2.2.2.1 c20
          clear hz19
          refine h_iconst (pc' := 18) (x := (Int32.ofInt 0)) rfl rfl rfl ?_
          refine h_zret rfl rfl ci_0 (by omega) (h_Kv ?_)
          refine h_zret rfl rfl ci_0 (by omega) (h_Kv ?_)
          refine h_zeq (tg := 34) (pc' := 16) rfl rfl rfl ci_0 (fun c21 => ?_) (fun c21 => absurd c21 (by omega))
          refine h_iconst (pc' := 35) (x := (Int32.ofInt (-1))) rfl rfl rfl ?_
          exact h_iret rfl rfl (kk _ _ ci_m1 _ hI F00 (by omega))
        · replace c20 := (h_lcr hz19).2.2.1 c20
          clear hz19
          refine h_iconst (pc' := 14) (x := (Int32.ofInt 1)) rfl rfl rfl ?_
          refine h_goto (pc' := 18) rfl rfl ?_
          refine h_zret rfl rfl ci_1 (by omega) (h_Kv ?_)
          refine h_zret rfl rfl ci_1 (by omega) (h_Kv ?_)
          refine h_zeq (tg := 34) (pc' := 16) rfl rfl rfl ci_1 (fun c22 => absurd c22 (by omega)) (fun c22 => ?_)
          refine h_iload_n (pc' := 17) rfl rfl rfl ?_
          refine h_zeq (tg := 36) (pc' := 20) rfl rfl rfl hx2 (fun c23 => ?_) (fun c23 => ?_)
          · refine h_aload_n (pc' := 37) rfl rfl rfl ?_
            refine h_iconst (pc' := 38) (x := (Int32.ofInt 0)) rfl rfl rfl ?_
            refine h_call (sp := false) (pc' := 41) (M := [(0, .ref 98), (1, .int (Int32.ofInt 0))]) rfl rfl rfl rfl rfl rfl rfl rfl ?_
            refine w_162_98 _ hI (Int32.ofInt 0) _ ci_0 (by omega) (fun s25 Is25 Gs25 => h_Kn ?_)
            have Fs25 := (Gs25.mono (B := kf_w_201_98) rfl).tr F00
            refine h_iconst (pc' := 42) (x := (Int32.ofInt 0)) rfl rfl rfl ?_
            refine h_istore (pc' := 44) (M := [(4, .int (Int32.ofInt 0)), (0, .ref 98), (1, .int x0), (2, .int x1), (3, .int x2)]) rfl rfl rfl rfl ?_
            exact h_wk [(0, .ref 98), (1, .int x0), (2, .int x1), (3, .int x2), (4, .int (Int32.ofInt 0))] ⟨rfl, rfl, rfl, rfl, rfl, trivial⟩ ((w_201_98_l ns σ hI x0 a0 hx0 x1 a1 hx1 x2 a2 hx2 kk 1000000000000) _ Is25 Fs25 (Int32.ofInt 0) _ ci_0 (by omega) (by omega) (by omega) (by omega) (by omega))
          · refine h_iload_n (pc' := 21) rfl rfl rfl ?_
            refine h_i2l (pc' := 22) rfl rfl hx2 (fun z26 hz26 => ?_)
            refine h_ldc2 (pc' := 25) (x := (Int64.ofInt 10)) rfl rfl rfl ?_
            refine h_ldc2 (pc' := 28) (x := (Int64.ofInt 15)) rfl rfl rfl ?_
            refine h_calls (pc' := 31) (M := [(0, .long z26), (2, .long (Int64.ofInt 10)), (4, .long (Int64.ofInt 15))]) rfl rfl rfl rfl rfl rfl ?_
            refine h_lload_n (pc' := 1) rfl rfl rfl ?_
            refine h_lload_n (pc' := 2) rfl rfl rfl ?_
            refine h_lcmp (pc' := 3) rfl rfl hz26 cl_10 (fun z27 hz27 => ?_)
            refine h_zlt (tg := 17) (pc' := 6) rfl rfl rfl rfl (fun c28 => ?_) (fun c28 => ?_)
            · replace c28 := (h_lcr hz27).1 c28
              clear hz27
              refine h_iconst (pc' := 18) (x := (Int32.ofInt 0)) rfl rfl rfl ?_
              refine h_zret rfl rfl ci_0 (by omega) (h_Kv ?_)
              refine h_zne (tg := 36) (pc' := 34) rfl rfl rfl ci_0 (fun c29 => absurd c29 (by omega)) (fun c29 => ?_)
              refine h_iconst (pc' := 35) (x := (Int32.ofInt (-1))) rfl rfl rfl ?_
              exact h_iret rfl rfl (kk _ _ ci_m1 _ hI F00 (by omega))
            · replace c28 := (h_lcr hz27).2.1 c28
              clear hz27
              refine h_lload_n (pc' := 7) rfl rfl rfl ?_
              refine h_lload (pc' := 9) rfl rfl rfl ?_
              refine h_lcmp (pc' := 10) rfl rfl hz26 cl_15 (fun z30 hz30 => ?_)
              refine h_zgt (tg := 17) (pc' := 13) rfl rfl rfl rfl (fun c31 => ?_) (fun c31 => ?_)
              · replace c31 := (h_lcr hz30).2.2.2.1 c31
                clear hz30
                refine h_iconst (pc' := 18) (x := (Int32.ofInt 0)) rfl rfl rfl ?_
                refine h_zret rfl rfl ci_0 (by omega) (h_Kv ?_)
                refine h_zne (tg := 36) (pc' := 34) rfl rfl rfl ci_0 (fun c32 => absurd c32 (by omega)) (fun c32 => ?_)
                refine h_iconst (pc' := 35) (x := (Int32.ofInt (-1))) rfl rfl rfl ?_
                exact h_iret rfl rfl (kk _ _ ci_m1 _ hI F00 (by omega))
              · replace c31 := (h_lcr hz30).2.2.1 c31
                clear hz30
                refine h_iconst (pc' := 14) (x := (Int32.ofInt 1)) rfl rfl rfl ?_
                refine h_goto (pc' := 18) rfl rfl ?_
                refine h_zret rfl rfl ci_1 (by omega) (h_Kv ?_)
                refine h_zne (tg := 36) (pc' := 34) rfl rfl rfl ci_1 (fun c33 => ?_) (fun c33 => absurd c33 (by omega))
                refine h_aload_n (pc' := 37) rfl rfl rfl ?_
                refine h_iconst (pc' := 38) (x := (Int32.ofInt 0)) rfl rfl rfl ?_
                refine h_call (sp := false) (pc' := 41) (M := [(0, .ref 98), (1, .int (Int32.ofInt 0))]) rfl rfl rfl rfl rfl rfl rfl rfl ?_
                refine w_162_98 _ hI (Int32.ofInt 0) _ ci_0 (by omega) (fun s35 Is35 Gs35 => h_Kn ?_)
                have Fs35 := (Gs35.mono (B := kf_w_201_98) rfl).tr F00
                refine h_iconst (pc' := 42) (x := (Int32.ofInt 0)) rfl rfl rfl ?_
                refine h_istore (pc' := 44) (M := [(4, .int (Int32.ofInt 0)), (0, .ref 98), (1, .int x0), (2, .int x1), (3, .int x2)]) rfl rfl rfl rfl ?_
                exact h_wk [(0, .ref 98), (1, .int x0), (2, .int x1), (3, .int x2), (4, .int (Int32.ofInt 0))] ⟨rfl, rfl, rfl, rfl, rfl, trivial⟩ ((w_201_98_l ns σ hI x0 a0 hx0 x1 a1 hx1 x2 a2 hx2 kk 1000000000000) _ Is35 Fs35 (Int32.ofInt 0) _ ci_0 (by omega) (by omega) (by omega) (by omega) (by omega))
def kf_w_205 : List Nat := []
theorem w_205_l (ns : Nat) (σ : h_S) (hI : h_I σ) (x0 : Int64) (x1 : Int64) (x2 : Int32) (a2 : Int) (hx2 : x2.toInt = a2) (pr0 : ¬ x1.toInt = 0) {Q : Option Value → h_S → Prop} (kk : ∀ (r : Int64) (τ : h_S), h_I τ → h_F (k_in kf_w_205) τ σ → Q (some (.long r)) τ) : ∀ n : Nat, (∀ (s0 : h_S), h_I s0 → h_F (k_in kf_w_205) s0 σ → ∀ (y0 : Int64), ∀ (y2 : Int64), ∀ (y5 : Int64), ∀ (y7 : Int64), (¬ y7.toInt = 0 ∨ ¬ y5.toInt = 0) → -y7.toInt + 1 ≤ (n : Int) ∧ y7.toInt + 1 ≤ (n : Int) → h_T g_P (g_Y ns) 205 6 [(0, .long y0), (2, .long y2), (4, .int x2), (5, .long y5), (7, .long y7)] [] s0 Q) := by
  intro n
  induction n with
  | zero => exact by intro s0 I0 F0_ y0 y2 y5 y7 ex0 hm; have gg0 := h_lrng x1; exfalso; omega
  | succ n ih =>
    intro s0 I0 F0_ y0 y2 y5 y7 ex0 hm; have gg0 := h_lrng x1
    refine h_lload (pc' := 8) rfl rfl rfl ?_
    refine h_lconst (pc' := 9) (x := (Int64.ofInt 0)) rfl rfl rfl ?_
    refine h_lcmp (pc' := 10) rfl rfl rfl cl_0 (fun z1 hz1 => ?_)
    refine h_zeq (tg := 31) (pc' := 13) rfl rfl rfl rfl (fun c2 => ?_) (fun c2 => ?_)
    · replace c2 := (h_lcr hz1).2.2.2.2.1 c2
      clear hz1
      refine h_iload (pc' := 33) rfl rfl rfl ?_
      refine h_zne (tg := 40) (pc' := 36) rfl rfl rfl hx2 (fun c3 => ?_) (fun c3 => ?_)
      · refine h_lload_n (pc' := 41) rfl rfl rfl ?_
        refine h_lload (pc' := 43) rfl rfl rfl ?_
        refine h_ldivA (pc' := 44) rfl rfl (h_lne0 rfl (by omega)) (fun z4 hz4 => ?_)
        exact h_lret rfl rfl (kk _ _ I0 F0_)
      · refine h_lload_n (pc' := 37) rfl rfl rfl ?_
        refine h_goto (pc' := 41) rfl rfl ?_
        refine h_lload (pc' := 43) rfl rfl rfl ?_
        refine h_ldivA (pc' := 44) rfl rfl (h_lne0 rfl (by omega)) (fun z5 hz5 => ?_)
        exact h_lret rfl rfl (kk _ _ I0 F0_)
    · replace c2 := (h_lcr hz1).2.2.2.2.2 c2
      clear hz1
      refine h_lload (pc' := 15) rfl rfl rfl ?_
      refine h_lload (pc' := 17) rfl rfl rfl ?_
      refine h_lremA (pc' := 18) rfl rfl (h_lne0 rfl (by omega)) (fun z6 hz6 => ?_)
      have dz6 := h_lremC (h_lne0 rfl (by omega)) hz6
      refine h_lstore (pc' := 20) (M := [(9, .long z6), (0, .long y0), (2, .long y2), (4, .int x2), (5, .long y5), (7, .long y7)]) rfl rfl rfl rfl ?_
      refine h_lload (pc' := 22) rfl rfl rfl ?_
      refine h_lstore (pc' := 24) (M := [(5, .long y7), (9, .long z6), (0, .long y0), (2, .long y2), (4, .int x2), (7, .long y7)]) rfl rfl rfl rfl ?_
      refine h_lload (pc' := 26) rfl rfl rfl ?_
      refine h_lstore (pc' := 28) (M := [(7, .long z6), (5, .long y7), (9, .long z6), (0, .long y0), (2, .long y2), (4, .int x2)]) rfl rfl rfl rfl ?_
      refine h_goto (pc' := 6) rfl rfl ?_
      exact h_wk [(0, .long y0), (2, .long y2), (4, .int x2), (5, .long y7), (7, .long z6)] ⟨rfl, rfl, rfl, rfl, rfl, trivial⟩ (ih _ I0 F0_ y0 y2 y7 z6 (by omega) (by omega))
theorem w_205 {ns : Nat} (σ : h_S) (hI : h_I σ) (x0 : Int64) (x1 : Int64) (x2 : Int32) (a2 : Int) (hx2 : x2.toInt = a2) (pr0 : ¬ x1.toInt = 0) {Q : Option Value → h_S → Prop} (kk : ∀ (r : Int64) (τ : h_S), h_I τ → h_F (k_in kf_w_205) τ σ → Q (some (.long r)) τ) : h_T g_P (g_Y ns) 205 0 [(0, .long x0), (2, .long x1), (4, .int x2)] [] σ Q := by
  have F00 : h_F (k_in kf_w_205) σ σ := h_F.rf
  have gg0 := h_lrng x1
  refine h_lload_n (pc' := 1) rfl rfl rfl ?_
  refine h_lstore (pc' := 3) (M := [(5, .long x0), (0, .long x0), (2, .long x1), (4, .int x2)]) rfl rfl rfl rfl ?_
  refine h_lload_n (pc' := 4) rfl rfl rfl ?_
  refine h_lstore (pc' := 6) (M := [(7, .long x1), (5, .long x0), (0, .long x0), (2, .long x1), (4, .int x2)]) rfl rfl rfl rfl ?_
  exact h_wk [(0, .long x0), (2, .long x1), (4, .int x2), (5, .long x0), (7, .long x1)] ⟨rfl, rfl, rfl, rfl, rfl, trivial⟩ ((w_205_l ns σ hI x0 x1 x2 a2 hx2 pr0 kk 100000000000000000000) _ hI F00 x0 x1 x0 x1 (by omega) (by omega))
def kf_w_206_98 : List Nat := [100374, 100375, 101891, 108543]
theorem w_206_98_l (ns : Nat) (σ : h_S) (hI : h_I σ) (x0 : Int32) (a0 : Int) (hx0 : x0.toInt = a0) (x1 : Int32) (a1 : Int) (hx1 : x1.toInt = a1) (x2 : Int32) (a2 : Int) (hx2 : x2.toInt = a2) {Q : Option Value → h_S → Prop} (kk : ∀ (r : Int64) (τ : h_S), h_I τ → h_F (k_in kf_w_206_98) τ σ → Q (some (.long r)) τ) : ∀ n : Nat, (∀ (s0 : h_S), h_I s0 → h_F (k_in kf_w_206_98) s0 σ → ∀ (y4 : Int64), ∀ (y6 : Int64), ∀ (y8 : Int32) (b8 : Int), y8.toInt = b8 → (0 ≤ b8 ∧ b8 ≤ 6) → (((b8 = 0 ∧ y6.toInt = 1) ∨ (b8 = 1 ∧ y6.toInt = 10) ∨ (b8 = 2 ∧ y6.toInt = 100) ∨ (b8 = 3 ∧ y6.toInt = 1000) ∨ (b8 = 4 ∧ y6.toInt = 10000) ∨ (b8 = 5 ∧ y6.toInt = 100000) ∨ (b8 = 6 ∧ y6.toInt = 1000000))) → (6 + 1 - b8) * 1000000 + 2000000000 ≤ (n : Int) → h_T g_P (g_Y ns) 206 9 [(0, .ref 98), (1, .int x0), (2, .int x1), (3, .int x2), (4, .long y4), (6, .long y6), (8, .int y8)] [] s0 Q) ∧ (∀ (s0 : h_S), h_I s0 → h_F (k_in kf_w_206_98) s0 σ → ∀ (y4 : Int64), ∀ (y6 : Int64), ∀ (y8 : Int32) (b8 : Int), y8.toInt = b8 → (0 ≤ b8 ∧ b8 ≤ 64) → (1 ≤ y6.toInt) → (64 + 1 - b8) * 1000000 + 1000000000 ≤ (n : Int) → h_T g_P (g_Y ns) 206 35 [(0, .ref 98), (1, .int x0), (2, .int x1), (3, .int x2), (4, .long y4), (6, .long y6), (8, .int y8)] [] s0 Q) ∧ (∀ (s0 : h_S), h_I s0 → h_F (k_in kf_w_206_98) s0 σ → ∀ (y4 : Int64), ∀ (y6 : Int64), ∀ (y8 : Int32) (b8 : Int), y8.toInt = b8 → (0 ≤ b8 ∧ b8 ≤ 63) → ∀ (y9 : Int64), ∀ (y11 : Int32) (b11 : Int), y11.toInt = b11 → (0 ≤ b11 ∧ b11 ≤ 6) → (1 ≤ y6.toInt) → ((64 + 1 - b8) - 1) * 1000000 + 1000000000 + (6 + 1 - b11) * 1000 + 100000 ≤ (n : Int) → h_T g_P (g_Y ns) 206 52 [(0, .ref 98), (1, .int x0), (2, .int x1), (3, .int x2), (4, .long y4), (6, .long y6), (8, .int y8), (9, .long y9), (11, .int y11)] [] s0 Q) := by
  intro n
  induction n with
  | zero => exact ⟨by intro s0 I0 F0_ y4 y6 y8 b8 hy8 ry8 ex0 hm; exfalso; omega, by intro s0 I0 F0_ y4 y6 y8 b8 hy8 ry8 ex0 hm; exfalso; omega, by intro s0 I0 F0_ y4 y6 y8 b8 hy8 ry8 y9 y11 b11 hy11 ry11 ex0 hm; exfalso; omega⟩
  | succ n ih =>
    refine ⟨?_, ?_, ?_⟩
    · intro s0 I0 F0_ y4 y6 y8 b8 hy8 ry8 ex0 hm
      refine h_iload (pc' := 11) rfl rfl rfl ?_
      refine h_aload_n (pc' := 12) rfl rfl rfl ?_
      refine h_getI (pc' := 15) (v := σ 98 1) rfl rfl rfl rfl rfl (F0_ 98 1 rfl) (fun z1 hz1 => ?_)
      have tz1 := tf_98_1 hI
      refine h_cge (tg := 32) (pc' := 18) rfl rfl rfl hy8 hz1 (fun c2 => ?_) (fun c2 => ?_)
      · refine h_iconst (pc' := 33) (x := (Int32.ofInt 0)) rfl rfl rfl ?_
        refine h_istore (pc' := 35) (M := [(8, .int (Int32.ofInt 0)), (0, .ref 98), (1, .int x0), (2, .int x1), (3, .int x2), (4, .long y4), (6, .long y6)]) rfl rfl rfl rfl ?_
        exact h_wk [(0, .ref 98), (1, .int x0), (2, .int x1), (3, .int x2), (4, .long y4), (6, .long y6), (8, .int (Int32.ofInt 0))] ⟨rfl, rfl, rfl, rfl, rfl, rfl, rfl, trivial⟩ (ih.2.1 _ I0 F0_ y4 y6 (Int32.ofInt 0) _ ci_0 (by omega) (by omega) (by omega))
      · refine h_lload (pc' := 20) rfl rfl rfl ?_
        refine h_ldc2 (pc' := 23) (x := (Int64.ofInt 10)) rfl rfl rfl ?_
        refine h_lmul (pc' := 24) rfl rfl rfl cl_10 rfl (by omega) (by omega) (fun z3 hz3 => ?_)
        refine h_lstore (pc' := 26) (M := [(6, .long z3), (0, .ref 98), (1, .int x0), (2, .int x1), (3, .int x2), (4, .long y4), (8, .int y8)]) rfl rfl rfl rfl ?_
        refine h_iinc (pc' := 29) (M := fun z4 => [(8, .int z4), (6, .long z3), (0, .ref 98), (1, .int x0), (2, .int x1), (3, .int x2), (4, .long y4)]) rfl rfl rfl rfl hy8 ci_1 rfl (by omega) (by omega) (fun _ => rfl) (fun z4 hz4 => ?_)
        refine h_goto (pc' := 9) rfl rfl ?_
        exact h_wk [(0, .ref 98), (1, .int x0), (2, .int x1), (3, .int x2), (4, .long y4), (6, .long z3), (8, .int z4)] ⟨rfl, rfl, rfl, rfl, rfl, rfl, rfl, trivial⟩ (ih.1 _ I0 F0_ y4 z3 z4 _ hz4 (by omega) (by omega) (by omega))
    · intro s0 I0 F0_ y4 y6 y8 b8 hy8 ry8 ex0 hm
      refine h_iload (pc' := 37) rfl rfl rfl ?_
      refine h_iconst (pc' := 38) (x := (Int32.ofInt 1)) rfl rfl rfl ?_
      refine h_aload_n (pc' := 39) rfl rfl rfl ?_
      refine h_getI (pc' := 42) (v := σ 98 1) rfl rfl rfl rfl rfl (F0_ 98 1 rfl) (fun z1 hz1 => ?_)
      have tz1 := tf_98_1 hI
      refine h_shl1 (pc' := 43) rfl rfl ci_1 hz1 (by omega) (by omega) (fun z2 hz2 vz2 => ?_)
      refine h_cge (tg := 139) (pc' := 46) rfl rfl rfl hy8 rfl (fun c3 => ?_) (fun c3 => ?_)
      · refine h_lload (pc' := 141) rfl rfl rfl ?_
        refine h_lload (pc' := 143) rfl rfl rfl ?_
        refine h_iload_n (pc' := 144) rfl rfl rfl ?_
        refine h_calls (pc' := 147) (M := [(0, .long y4), (2, .long y6), (4, .int x2)]) rfl rfl rfl rfl rfl rfl ?_
        refine w_205 _ I0 y4 y6 x2 _ hx2 (by omega) (fun r4 s5 Is5 Gs5 => h_Kv ?_)
        have Fs5 := (Gs5.mono (B := kf_w_206_98) rfl).tr F0_
        exact h_lret rfl rfl (kk _ _ Is5 Fs5)
      · refine h_lconst (pc' := 47) (x := (Int64.ofInt 1)) rfl rfl rfl ?_
        refine h_lstore (pc' := 49) (M := [(9, .long (Int64.ofInt 1)), (0, .ref 98), (1, .int x0), (2, .int x1), (3, .int x2), (4, .long y4), (6, .long y6), (8, .int y8)]) rfl rfl rfl rfl ?_
        refine h_iconst (pc' := 50) (x := (Int32.ofInt 0)) rfl rfl rfl ?_
        refine h_istore (pc' := 52) (M := [(11, .int (Int32.ofInt 0)), (9, .long (Int64.ofInt 1)), (0, .ref 98), (1, .int x0), (2, .int x1), (3, .int x2), (4, .long y4), (6, .long y6), (8, .int y8)]) rfl rfl rfl rfl ?_
        have gl9 := cl_1
        exact h_wk [(0, .ref 98), (1, .int x0), (2, .int x1), (3, .int x2), (4, .long y4), (6, .long y6), (8, .int y8), (9, .long (Int64.ofInt 1)), (11, .int (Int32.ofInt 0))] ⟨rfl, rfl, rfl, rfl, rfl, rfl, rfl, rfl, rfl, trivial⟩ (ih.2.2 _ I0 F0_ y4 y6 y8 _ hy8 (by omega) (Int64.ofInt 1) (Int32.ofInt 0) _ ci_0 (by omega) (by omega) (by omega))
    · intro s0 I0 F0_ y4 y6 y8 b8 hy8 ry8 y9 y11 b11 hy11 ry11 ex0 hm
      refine h_iload (pc' := 54) rfl rfl rfl ?_
      refine h_aload_n (pc' := 55) rfl rfl rfl ?_
      refine h_getI (pc' := 58) (v := σ 98 1) rfl rfl rfl rfl rfl (F0_ 98 1 rfl) (fun z1 hz1 => ?_)
      have tz1 := tf_98_1 hI
      refine h_cge (tg := 93) (pc' := 61) rfl rfl rfl hy11 hz1 (fun c2 => ?_) (fun c2 => ?_)
      · refine h_aload_n (pc' := 94) rfl rfl rfl ?_
        refine h_iconst (pc' := 95) (x := (Int32.ofInt 0)) rfl rfl rfl ?_
        refine h_iload (pc' := 97) rfl rfl rfl ?_
        refine h_call (sp := false) (pc' := 100) (M := [(0, .ref 98), (1, .int (Int32.ofInt 0)), (2, .int y8)]) rfl rfl rfl rfl rfl rfl rfl rfl ?_
        refine w_191_98 _ I0 (Int32.ofInt 0) _ ci_0 (by omega) y8 _ hy8 (fun s4 Is4 Gs4 => h_Kn ?_)
        have Fs4 := (Gs4.mono (B := kf_w_206_98) rfl).tr F0_
        refine h_lload (pc' := 102) rfl rfl rfl ?_
        refine h_lload (pc' := 104) rfl rfl rfl ?_
        refine h_iload_n (pc' := 105) rfl rfl rfl ?_
        refine h_bipush (pc' := 107) (x := (Int32.ofInt (-4))) rfl rfl cb_m4 ?_
        refine h_cne (tg := 120) (pc' := 110) rfl rfl rfl hx1 ci_m4 (fun c5 => ?_) (fun c5 => ?_)
        · refine h_aload_n (pc' := 121) rfl rfl rfl ?_
          refine h_getI (pc' := 124) (v := s4 98 22) rfl rfl rfl rfl rfl rfl (fun z6 hz6 => ?_)
          have tz6 := tf_98_22 Is4
          refine h_iload_n (pc' := 125) rfl rfl rfl ?_
          refine h_ishr (pc' := 126) rfl rfl (fun z7 hz7 => ?_)
          refine h_iconst (pc' := 127) (x := (Int32.ofInt 1)) rfl rfl rfl ?_
          refine h_iand (pc' := 128) rfl rfl (fun z8 hz8 uz8 vz8 => ?_)
          clear uz8
          rw [ci_1] at vz8
          have yz8 := vz8 (by omega)
          refine h_i2l (pc' := 129) rfl rfl rfl (fun z9 hz9 => ?_)
          refine h_lmulA (pc' := 130) rfl rfl (fun z10 hz10 => ?_)
          refine h_laddA (pc' := 131) rfl rfl (fun z11 hz11 => ?_)
          refine h_lstore (pc' := 133) (M := [(4, .long z11), (0, .ref 98), (1, .int x0), (2, .int x1), (3, .int x2), (6, .long y6), (8, .int y8), (9, .long y9), (11, .int y11)]) rfl rfl rfl rfl ?_
          refine h_iinc (pc' := 136) (M := fun z12 => [(8, .int z12), (4, .long z11), (0, .ref 98), (1, .int x0), (2, .int x1), (3, .int x2), (6, .long y6), (9, .long y9), (11, .int y11)]) rfl rfl rfl rfl hy8 ci_1 rfl (by omega) (by omega) (fun _ => rfl) (fun z12 hz12 => ?_)
          refine h_goto (pc' := 35) rfl rfl ?_
          exact h_wk [(0, .ref 98), (1, .int x0), (2, .int x1), (3, .int x2), (4, .long z11), (6, .long y6), (8, .int z12)] ⟨rfl, rfl, rfl, rfl, rfl, rfl, rfl, trivial⟩ (ih.2.1 _ Is4 Fs4 z11 y6 z12 _ hz12 (by omega) (by omega) (by omega))
        · refine h_aload_n (pc' := 111) rfl rfl rfl ?_
          refine h_getI (pc' := 114) (v := s4 98 23) rfl rfl rfl rfl rfl rfl (fun z13 hz13 => ?_)
          have tz13 := tf_98_23 Is4
          refine h_calls (pc' := 117) (M := [(0, .int z13)]) rfl rfl rfl rfl rfl rfl ?_
          refine w_192 _ Is4 z13 _ hz13 (fun r14 br14 hr14 s15 Is15 Gs15 => h_Kv ?_)
          have Fs15 := (Gs15.mono (B := kf_w_206_98) rfl).tr Fs4
          refine h_goto (pc' := 128) rfl rfl ?_
          refine h_i2l (pc' := 129) rfl rfl hr14 (fun z16 hz16 => ?_)
          refine h_lmulA (pc' := 130) rfl rfl (fun z17 hz17 => ?_)
          refine h_laddA (pc' := 131) rfl rfl (fun z18 hz18 => ?_)
          refine h_lstore (pc' := 133) (M := [(4, .long z18), (0, .ref 98), (1, .int x0), (2, .int x1), (3, .int x2), (6, .long y6), (8, .int y8), (9, .long y9), (11, .int y11)]) rfl rfl rfl rfl ?_
          refine h_iinc (pc' := 136) (M := fun z19 => [(8, .int z19), (4, .long z18), (0, .ref 98), (1, .int x0), (2, .int x1), (3, .int x2), (6, .long y6), (9, .long y9), (11, .int y11)]) rfl rfl rfl rfl hy8 ci_1 rfl (by omega) (by omega) (fun _ => rfl) (fun z19 hz19 => ?_)
          refine h_goto (pc' := 35) rfl rfl ?_
          exact h_wk [(0, .ref 98), (1, .int x0), (2, .int x1), (3, .int x2), (4, .long z18), (6, .long y6), (8, .int z19)] ⟨rfl, rfl, rfl, rfl, rfl, rfl, rfl, trivial⟩ (ih.2.1 _ Is15 Fs15 z18 y6 z19 _ hz19 (by omega) (by omega) (by omega))
      · refine h_lload (pc' := 63) rfl rfl rfl ?_
        refine h_iload (pc' := 65) rfl rfl rfl ?_
        refine h_iload (pc' := 67) rfl rfl rfl ?_
        refine h_ishr (pc' := 68) rfl rfl (fun z20 hz20 => ?_)
        refine h_iconst (pc' := 69) (x := (Int32.ofInt 1)) rfl rfl rfl ?_
        refine h_iand (pc' := 70) rfl rfl (fun z21 hz21 uz21 vz21 => ?_)
        clear uz21
        rw [ci_1] at vz21
        have yz21 := vz21 (by omega)
        refine h_iconst (pc' := 71) (x := (Int32.ofInt 1)) rfl rfl rfl ?_
        refine h_cne (tg := 79) (pc' := 74) rfl rfl rfl rfl ci_1 (fun c22 => ?_) (fun c22 => ?_)
        · refine h_bipush (pc' := 81) (x := (Int32.ofInt 10)) rfl rfl cb_10 ?_
          refine h_iload_n (pc' := 82) rfl rfl rfl ?_
          refine h_isubA (pc' := 83) rfl rfl (fun z23 hz23 => ?_)
          refine h_i2l (pc' := 84) rfl rfl rfl (fun z24 hz24 => ?_)
          refine h_lmulA (pc' := 85) rfl rfl (fun z25 hz25 => ?_)
          refine h_lstore (pc' := 87) (M := [(9, .long z25), (0, .ref 98), (1, .int x0), (2, .int x1), (3, .int x2), (4, .long y4), (6, .long y6), (8, .int y8), (11, .int y11)]) rfl rfl rfl rfl ?_
          refine h_iinc (pc' := 90) (M := fun z26 => [(11, .int z26), (9, .long z25), (0, .ref 98), (1, .int x0), (2, .int x1), (3, .int x2), (4, .long y4), (6, .long y6), (8, .int y8)]) rfl rfl rfl rfl hy11 ci_1 rfl (by omega) (by omega) (fun _ => rfl) (fun z26 hz26 => ?_)
          refine h_goto (pc' := 52) rfl rfl ?_
          exact h_wk [(0, .ref 98), (1, .int x0), (2, .int x1), (3, .int x2), (4, .long y4), (6, .long y6), (8, .int y8), (9, .long z25), (11, .int z26)] ⟨rfl, rfl, rfl, rfl, rfl, rfl, rfl, rfl, rfl, trivial⟩ (ih.2.2 _ I0 F0_ y4 y6 y8 _ hy8 (by omega) z25 z26 _ hz26 (by omega) (by omega) (by omega))
        · refine h_iload_n (pc' := 75) rfl rfl rfl ?_
          refine h_i2l (pc' := 76) rfl rfl hx0 (fun z27 hz27 => ?_)
          refine h_goto (pc' := 84) rfl rfl ?_
          refine h_lmulA (pc' := 85) rfl rfl (fun z28 hz28 => ?_)
          refine h_lstore (pc' := 87) (M := [(9, .long z28), (0, .ref 98), (1, .int x0), (2, .int x1), (3, .int x2), (4, .long y4), (6, .long y6), (8, .int y8), (11, .int y11)]) rfl rfl rfl rfl ?_
          refine h_iinc (pc' := 90) (M := fun z29 => [(11, .int z29), (9, .long z28), (0, .ref 98), (1, .int x0), (2, .int x1), (3, .int x2), (4, .long y4), (6, .long y6), (8, .int y8)]) rfl rfl rfl rfl hy11 ci_1 rfl (by omega) (by omega) (fun _ => rfl) (fun z29 hz29 => ?_)
          refine h_goto (pc' := 52) rfl rfl ?_
          exact h_wk [(0, .ref 98), (1, .int x0), (2, .int x1), (3, .int x2), (4, .long y4), (6, .long y6), (8, .int y8), (9, .long z28), (11, .int z29)] ⟨rfl, rfl, rfl, rfl, rfl, rfl, rfl, rfl, rfl, trivial⟩ (ih.2.2 _ I0 F0_ y4 y6 y8 _ hy8 (by omega) z28 z29 _ hz29 (by omega) (by omega) (by omega))
theorem w_206_98 {ns : Nat} (σ : h_S) (hI : h_I σ) (x0 : Int32) (a0 : Int) (hx0 : x0.toInt = a0) (x1 : Int32) (a1 : Int) (hx1 : x1.toInt = a1) (x2 : Int32) (a2 : Int) (hx2 : x2.toInt = a2) {Q : Option Value → h_S → Prop} (kk : ∀ (r : Int64) (τ : h_S), h_I τ → h_F (k_in kf_w_206_98) τ σ → Q (some (.long r)) τ) : h_T g_P (g_Y ns) 206 0 [(0, .ref 98), (1, .int x0), (2, .int x1), (3, .int x2)] [] σ Q := by
  have F00 : h_F (k_in kf_w_206_98) σ σ := h_F.rf
  refine h_lconst (pc' := 1) (x := (Int64.ofInt 0)) rfl rfl rfl ?_
  refine h_lstore (pc' := 3) (M := [(4, .long (Int64.ofInt 0)), (0, .ref 98), (1, .int x0), (2, .int x1), (3, .int x2)]) rfl rfl rfl rfl ?_
  refine h_lconst (pc' := 4) (x := (Int64.ofInt 1)) rfl rfl rfl ?_
  refine h_lstore (pc' := 6) (M := [(6, .long (Int64.ofInt 1)), (4, .long (Int64.ofInt 0)), (0, .ref 98), (1, .int x0), (2, .int x1), (3, .int x2)]) rfl rfl rfl rfl ?_
  refine h_iconst (pc' := 7) (x := (Int32.ofInt 0)) rfl rfl rfl ?_
  refine h_istore (pc' := 9) (M := [(8, .int (Int32.ofInt 0)), (6, .long (Int64.ofInt 1)), (4, .long (Int64.ofInt 0)), (0, .ref 98), (1, .int x0), (2, .int x1), (3, .int x2)]) rfl rfl rfl rfl ?_
  have gl4 := cl_0
  have gl6 := cl_1
  exact h_wk [(0, .ref 98), (1, .int x0), (2, .int x1), (3, .int x2), (4, .long (Int64.ofInt 0)), (6, .long (Int64.ofInt 1)), (8, .int (Int32.ofInt 0))] ⟨rfl, rfl, rfl, rfl, rfl, rfl, rfl, trivial⟩ ((w_206_98_l ns σ hI x0 a0 hx0 x1 a1 hx1 x2 a2 hx2 kk 1000000000000).1 _ hI F00 (Int64.ofInt 0) (Int64.ofInt 1) (Int32.ofInt 0) _ ci_0 (by omega) (by omega) (by omega))
def kf_w_207_98 : List Nat := [100374, 100375, 101891, 108543]
theorem w_207_98 {ns : Nat} (σ : h_S) (hI : h_I σ) (x0 : Int32) (a0 : Int) (hx0 : x0.toInt = a0) (x1 : Int32) (a1 : Int) (hx1 : x1.toInt = a1) {Q : Option Value → h_S → Prop} (kk : ∀ (r : Int64) (τ : h_S), h_I τ → h_F (k_in kf_w_207_98) τ σ → Q (some (.long r)) τ) : h_T g_P (g_Y ns) 207 0 [(0, .ref 98), (1, .int x0), (2, .int x1)] [] σ Q := by
  have F00 : h_F (k_in kf_w_207_98) σ σ := h_F.rf
  refine h_iload_n (pc' := 1) rfl rfl rfl ?_
  refine h_i2l (pc' := 2) rfl rfl hx0 (fun z1 hz1 => ?_)
  refine h_lconst (pc' := 3) (x := (Int64.ofInt 0)) rfl rfl rfl ?_
  refine h_ldc2 (pc' := 6) (x := (Int64.ofInt 10)) rfl rfl rfl ?_
  refine h_calls (pc' := 9) (M := [(0, .long z1), (2, .long (Int64.ofInt 0)), (4, .long (Int64.ofInt 10))]) rfl rfl rfl rfl rfl rfl ?_
  refine h_lload_n (pc' := 1) rfl rfl rfl ?_
  refine h_lload_n (pc' := 2) rfl rfl rfl ?_
  refine h_lcmp (pc' := 3) rfl rfl hz1 cl_0 (fun z2 hz2 => ?_)
  refine h_zlt (tg := 17) (pc' := 6) rfl rfl rfl rfl (fun c3 => ?_) (fun c3 => ?_)
  · replace c3 := (h_lcr hz2).1 c3
    clear hz2
    refine h_iconst (pc' := 18) (x := (Int32.ofInt 0)) rfl rfl rfl ?_
    refine h_zret rfl rfl ci_0 (by omega) (h_Kv ?_)
    refine h_zeq (tg := 33) (pc' := 12) rfl rfl rfl ci_0 (fun c4 => ?_) (fun c4 => absurd c4 (by omega))
    refine h_ldc2 (pc' := 36) (x := (Int64.ofInt (-1))) rfl rfl rfl ?_
    exact h_lret rfl rfl (kk _ _ hI F00)
  · replace c3 := (h_lcr hz2).2.1 c3
    clear hz2
    refine h_lload_n (pc' := 7) rfl rfl rfl ?_
    refine h_lload (pc' := 9) rfl rfl rfl ?_
    refine h_lcmp (pc' := 10) rfl rfl hz1 cl_10 (fun z5 hz5 => ?_)
    refine h_zgt (tg := 17) (pc' := 13) rfl rfl rfl rfl (fun c6 => ?_) (fun c6 => ?_)
    · replace c6 := (h_lcr hz5).2.2.2.1 c6
      clear hz5
      refine h_iconst (pc' := 18) (x := (Int32.ofInt 0)) rfl rfl rfl ?_
      refine h_zret rfl rfl ci_0 (by omega) (h_Kv ?_)
      refine h_zeq (tg := 33) (pc' := 12) rfl rfl rfl ci_0 (fun c7 => ?_) (fun c7 => absurd c7 (by omega))
      refine h_ldc2 (pc' := 36) (x := (Int64.ofInt (-1))) rfl rfl rfl ?_
      exact h_lret rfl rfl (kk _ _ hI F00)
    · replace c6 := (h_lcr hz5).2.2.1 c6
      clear hz5
      refine h_iconst (pc' := 14) (x := (Int32.ofInt 1)) rfl rfl rfl ?_
      refine h_goto (pc' := 18) rfl rfl ?_
      refine h_zret rfl rfl ci_1 (by omega) (h_Kv ?_)
      refine h_zeq (tg := 33) (pc' := 12) rfl rfl rfl ci_1 (fun c8 => absurd c8 (by omega)) (fun c8 => ?_)
      refine h_iload_n (pc' := 13) rfl rfl rfl ?_
      refine h_i2l (pc' := 14) rfl rfl hx1 (fun z9 hz9 => ?_)
      refine h_lconst (pc' := 15) (x := (Int64.ofInt 0)) rfl rfl rfl ?_
      refine h_lconst (pc' := 16) (x := (Int64.ofInt 1)) rfl rfl rfl ?_
      refine h_calls (pc' := 19) (M := [(0, .long z9), (2, .long (Int64.ofInt 0)), (4, .long (Int64.ofInt 1))]) rfl rfl rfl rfl rfl rfl ?_
      refine h_lload_n (pc' := 1) rfl rfl rfl ?_
      refine h_lload_n (pc' := 2) rfl rfl rfl ?_
      refine h_lcmp (pc' := 3) rfl rfl hz9 cl_0 (fun z10 hz10 => ?_)
      refine h_zlt (tg := 17) (pc' := 6) rfl rfl rfl rfl (fun c11 => ?_) (fun c11 => ?_)
      · replace c11 := (h_lcr hz10).1 c11
        clear hz10
        refine h_iconst (pc' := 18) (x := (Int32.ofInt 0)) rfl rfl rfl ?_
        refine h_zret rfl rfl ci_0 (by omega) (h_Kv ?_)
        refine h_zeq (tg := 33) (pc' := 22) rfl rfl rfl ci_0 (fun c12 => ?_) (fun c12 => absurd c12 (by omega))
        refine h_ldc2 (pc' := 36) (x := (Int64.ofInt (-1))) rfl rfl rfl ?_
        exact h_lret rfl rfl (kk _ _ hI F00)
      · replace c11 := (h_lcr hz10).2.1 c11
        clear hz10
        refine h_lload_n (pc' := 7) rfl rfl rfl ?_
        refine h_lload (pc' := 9) rfl rfl rfl ?_
        refine h_lcmp (pc' := 10) rfl rfl hz9 cl_1 (fun z13 hz13 => ?_)
        refine h_zgt (tg := 17) (pc' := 13) rfl rfl rfl rfl (fun c14 => ?_) (fun c14 => ?_)
        · replace c14 := (h_lcr hz13).2.2.2.1 c14
          clear hz13
          refine h_iconst (pc' := 18) (x := (Int32.ofInt 0)) rfl rfl rfl ?_
          refine h_zret rfl rfl ci_0 (by omega) (h_Kv ?_)
          refine h_zeq (tg := 33) (pc' := 22) rfl rfl rfl ci_0 (fun c15 => ?_) (fun c15 => absurd c15 (by omega))
          refine h_ldc2 (pc' := 36) (x := (Int64.ofInt (-1))) rfl rfl rfl ?_
          exact h_lret rfl rfl (kk _ _ hI F00)
        · replace c14 := (h_lcr hz13).2.2.1 c14
          clear hz13
          refine h_iconst (pc' := 14) (x := (Int32.ofInt 1)) rfl rfl rfl ?_
          refine h_goto (pc' := 18) rfl rfl ?_
          refine h_zret rfl rfl ci_1 (by omega) (h_Kv ?_)
          refine h_zeq (tg := 33) (pc' := 22) rfl rfl rfl ci_1 (fun c16 => absurd c16 (by omega)) (fun c16 => ?_)
          refine h_aload_n (pc' := 23) rfl rfl rfl ?_
          refine h_iload_n (pc' := 24) rfl rfl rfl ?_
          refine h_bipush (pc' := 26) (x := (Int32.ofInt (-4))) rfl rfl cb_m4 ?_
          refine h_iload_n (pc' := 27) rfl rfl rfl ?_
          refine h_call (sp := false) (pc' := 30) (M := [(0, .ref 98), (1, .int x0), (2, .int (Int32.ofInt (-4))), (3, .int x1)]) rfl rfl rfl rfl rfl rfl rfl rfl ?_
          refine w_206_98 _ hI x0 _ hx0 (Int32.ofInt (-4)) _ ci_m4 x1 _ hx1 (fun r17 s18 Is18 Gs18 => h_Kv ?_)
          have Fs18 := (Gs18.mono (B := kf_w_207_98) rfl).tr F00
          refine h_goto (pc' := 36) rfl rfl ?_
          exact h_lret rfl rfl (kk _ _ Is18 Fs18)
def kf_w_208_98 : List Nat := [100374, 100375, 101891, 108543]
theorem w_208_98 {ns : Nat} (σ : h_S) (hI : h_I σ) (x0 : Int32) (a0 : Int) (hx0 : x0.toInt = a0) (x1 : Int32) (a1 : Int) (hx1 : x1.toInt = a1) (x2 : Int32) (a2 : Int) (hx2 : x2.toInt = a2) {Q : Option Value → h_S → Prop} (kk : ∀ (r : Int64) (τ : h_S), h_I τ → h_F (k_in kf_w_208_98) τ σ → Q (some (.long r)) τ) : h_T g_P (g_Y ns) 208 0 [(0, .ref 98), (1, .int x0), (2, .int x1), (3, .int x2)] [] σ Q := by
  have F00 : h_F (k_in kf_w_208_98) σ σ := h_F.rf
  refine h_iload_n (pc' := 1) rfl rfl rfl ?_
  refine h_i2l (pc' := 2) rfl rfl hx0 (fun z1 hz1 => ?_)
  refine h_lconst (pc' := 3) (x := (Int64.ofInt 0)) rfl rfl rfl ?_
  refine h_ldc2 (pc' := 6) (x := (Int64.ofInt 10)) rfl rfl rfl ?_
  refine h_calls (pc' := 9) (M := [(0, .long z1), (2, .long (Int64.ofInt 0)), (4, .long (Int64.ofInt 10))]) rfl rfl rfl rfl rfl rfl ?_
  refine h_lload_n (pc' := 1) rfl rfl rfl ?_
  refine h_lload_n (pc' := 2) rfl rfl rfl ?_
  refine h_lcmp (pc' := 3) rfl rfl hz1 cl_0 (fun z2 hz2 => ?_)
  refine h_zlt (tg := 17) (pc' := 6) rfl rfl rfl rfl (fun c3 => ?_) (fun c3 => ?_)
  · replace c3 := (h_lcr hz2).1 c3
    clear hz2
    refine h_iconst (pc' := 18) (x := (Int32.ofInt 0)) rfl rfl rfl ?_
    refine h_zret rfl rfl ci_0 (by omega) (h_Kv ?_)
    refine h_zeq (tg := 40) (pc' := 12) rfl rfl rfl ci_0 (fun c4 => ?_) (fun c4 => absurd c4 (by omega))
    refine h_ldc2 (pc' := 43) (x := (Int64.ofInt (-1))) rfl rfl rfl ?_
    exact h_lret rfl rfl (kk _ _ hI F00)
  · replace c3 := (h_lcr hz2).2.1 c3
    clear hz2
    refine h_lload_n (pc' := 7) rfl rfl rfl ?_
    refine h_lload (pc' := 9) rfl rfl rfl ?_
    refine h_lcmp (pc' := 10) rfl rfl hz1 cl_10 (fun z5 hz5 => ?_)
    refine h_zgt (tg := 17) (pc' := 13) rfl rfl rfl rfl (fun c6 => ?_) (fun c6 => ?_)
    · replace c6 := (h_lcr hz5).2.2.2.1 c6
      clear hz5
      refine h_iconst (pc' := 18) (x := (Int32.ofInt 0)) rfl rfl rfl ?_
      refine h_zret rfl rfl ci_0 (by omega) (h_Kv ?_)
      refine h_zeq (tg := 40) (pc' := 12) rfl rfl rfl ci_0 (fun c7 => ?_) (fun c7 => absurd c7 (by omega))
      refine h_ldc2 (pc' := 43) (x := (Int64.ofInt (-1))) rfl rfl rfl ?_
      exact h_lret rfl rfl (kk _ _ hI F00)
    · replace c6 := (h_lcr hz5).2.2.1 c6
      clear hz5
      refine h_iconst (pc' := 14) (x := (Int32.ofInt 1)) rfl rfl rfl ?_
      refine h_goto (pc' := 18) rfl rfl ?_
      refine h_zret rfl rfl ci_1 (by omega) (h_Kv ?_)
      refine h_zeq (tg := 40) (pc' := 12) rfl rfl rfl ci_1 (fun c8 => absurd c8 (by omega)) (fun c8 => ?_)
      refine h_aload_n (pc' := 13) rfl rfl rfl ?_
      refine h_iload_n (pc' := 14) rfl rfl rfl ?_
      refine h_call (sp := false) (pc' := 17) (M := [(0, .ref 98), (1, .int x1)]) rfl rfl rfl rfl rfl rfl rfl rfl ?_
      refine h_iload_n (pc' := 1) rfl rfl rfl ?_
      refine h_i2l (pc' := 2) rfl rfl hx1 (fun z9 hz9 => ?_)
      refine h_lconst (pc' := 3) (x := (Int64.ofInt 0)) rfl rfl rfl ?_
      refine h_aload_n (pc' := 4) rfl rfl rfl ?_
      refine h_getI (pc' := 7) (v := σ 98 1) rfl rfl rfl rfl rfl rfl (fun z10 hz10 => ?_)
      have tz10 := tf_98_1 hI
      refine h_iconst (pc' := 8) (x := (Int32.ofInt 1)) rfl rfl rfl ?_
      refine h_isub (pc' := 9) rfl rfl hz10 ci_1 rfl (by omega) (by omega) (fun z11 hz11 => ?_)
      refine h_i2l (pc' := 10) rfl rfl hz11 (fun z12 hz12 => ?_)
      refine h_calls (pc' := 13) (M := [(0, .long z9), (2, .long (Int64.ofInt 0)), (4, .long z12)]) rfl rfl rfl rfl rfl rfl ?_
      refine h_lload_n (pc' := 1) rfl rfl rfl ?_
      refine h_lload_n (pc' := 2) rfl rfl rfl ?_
      refine h_lcmp (pc' := 3) rfl rfl hz9 cl_0 (fun z13 hz13 => ?_)
      refine h_zlt (tg := 17) (pc' := 6) rfl rfl rfl rfl (fun c14 => ?_) (fun c14 => ?_)
      · replace c14 := (h_lcr hz13).1 c14
        clear hz13
        refine h_iconst (pc' := 18) (x := (Int32.ofInt 0)) rfl rfl rfl ?_
        refine h_zret rfl rfl ci_0 (by omega) (h_Kv ?_)
        refine h_zret rfl rfl ci_0 (by omega) (h_Kv ?_)
        refine h_zeq (tg := 40) (pc' := 20) rfl rfl rfl ci_0 (fun c15 => ?_) (fun c15 => absurd c15 (by omega))
        refine h_ldc2 (pc' := 43) (x := (Int64.ofInt (-1))) rfl rfl rfl ?_
        exact h_lret rfl rfl (kk _ _ hI F00)
      · replace c14 := (h_lcr hz13).2.1 c14
        clear hz13
        refine h_lload_n (pc' := 7) rfl rfl rfl ?_
        refine h_lload (pc' := 9) rfl rfl rfl ?_
        refine h_lcmp (pc' := 10) rfl rfl hz9 hz12 (fun z16 hz16 => ?_)
        refine h_zgt (tg := 17) (pc' := 13) rfl rfl rfl rfl (fun c17 => ?_) (fun c17 => ?_)
        · replace c17 := (h_lcr hz16).2.2.2.1 c17
          clear hz16
          refine h_iconst (pc' := 18) (x := (Int32.ofInt 0)) rfl rfl rfl ?_
          refine h_zret rfl rfl ci_0 (by omega) (h_Kv ?_)
          refine h_zret rfl rfl ci_0 (by omega) (h_Kv ?_)
          refine h_zeq (tg := 40) (pc' := 20) rfl rfl rfl ci_0 (fun c18 => ?_) (fun c18 => absurd c18 (by omega))
          refine h_ldc2 (pc' := 43) (x := (Int64.ofInt (-1))) rfl rfl rfl ?_
          exact h_lret rfl rfl (kk _ _ hI F00)
        · replace c17 := (h_lcr hz16).2.2.1 c17
          clear hz16
          refine h_iconst (pc' := 14) (x := (Int32.ofInt 1)) rfl rfl rfl ?_
          refine h_goto (pc' := 18) rfl rfl ?_
          refine h_zret rfl rfl ci_1 (by omega) (h_Kv ?_)
          refine h_zret rfl rfl ci_1 (by omega) (h_Kv ?_)
          refine h_zeq (tg := 40) (pc' := 20) rfl rfl rfl ci_1 (fun c19 => absurd c19 (by omega)) (fun c19 => ?_)
          refine h_iload_n (pc' := 21) rfl rfl rfl ?_
          refine h_i2l (pc' := 22) rfl rfl hx2 (fun z20 hz20 => ?_)
          refine h_lconst (pc' := 23) (x := (Int64.ofInt 0)) rfl rfl rfl ?_
          refine h_lconst (pc' := 24) (x := (Int64.ofInt 1)) rfl rfl rfl ?_
          refine h_calls (pc' := 27) (M := [(0, .long z20), (2, .long (Int64.ofInt 0)), (4, .long (Int64.ofInt 1))]) rfl rfl rfl rfl rfl rfl ?_
          refine h_lload_n (pc' := 1) rfl rfl rfl ?_
          refine h_lload_n (pc' := 2) rfl rfl rfl ?_
          refine h_lcmp (pc' := 3) rfl rfl hz20 cl_0 (fun z21 hz21 => ?_)
          refine h_zlt (tg := 17) (pc' := 6) rfl rfl rfl rfl (fun c22 => ?_) (fun c22 => ?_)
          · replace c22 := (h_lcr hz21).1 c22
            clear hz21
            refine h_iconst (pc' := 18) (x := (Int32.ofInt 0)) rfl rfl rfl ?_
            refine h_zret rfl rfl ci_0 (by omega) (h_Kv ?_)
            refine h_zeq (tg := 40) (pc' := 30) rfl rfl rfl ci_0 (fun c23 => ?_) (fun c23 => absurd c23 (by omega))
            refine h_ldc2 (pc' := 43) (x := (Int64.ofInt (-1))) rfl rfl rfl ?_
            exact h_lret rfl rfl (kk _ _ hI F00)
          · replace c22 := (h_lcr hz21).2.1 c22
            clear hz21
            refine h_lload_n (pc' := 7) rfl rfl rfl ?_
            refine h_lload (pc' := 9) rfl rfl rfl ?_
            refine h_lcmp (pc' := 10) rfl rfl hz20 cl_1 (fun z24 hz24 => ?_)
            refine h_zgt (tg := 17) (pc' := 13) rfl rfl rfl rfl (fun c25 => ?_) (fun c25 => ?_)
            · replace c25 := (h_lcr hz24).2.2.2.1 c25
              clear hz24
              refine h_iconst (pc' := 18) (x := (Int32.ofInt 0)) rfl rfl rfl ?_
              refine h_zret rfl rfl ci_0 (by omega) (h_Kv ?_)
              refine h_zeq (tg := 40) (pc' := 30) rfl rfl rfl ci_0 (fun c26 => ?_) (fun c26 => absurd c26 (by omega))
              refine h_ldc2 (pc' := 43) (x := (Int64.ofInt (-1))) rfl rfl rfl ?_
              exact h_lret rfl rfl (kk _ _ hI F00)
            · replace c25 := (h_lcr hz24).2.2.1 c25
              clear hz24
              refine h_iconst (pc' := 14) (x := (Int32.ofInt 1)) rfl rfl rfl ?_
              refine h_goto (pc' := 18) rfl rfl ?_
              refine h_zret rfl rfl ci_1 (by omega) (h_Kv ?_)
              refine h_zeq (tg := 40) (pc' := 30) rfl rfl rfl ci_1 (fun c27 => absurd c27 (by omega)) (fun c27 => ?_)
              refine h_aload_n (pc' := 31) rfl rfl rfl ?_
              refine h_iload_n (pc' := 32) rfl rfl rfl ?_
              refine h_iload_n (pc' := 33) rfl rfl rfl ?_
              refine h_iload_n (pc' := 34) rfl rfl rfl ?_
              refine h_call (sp := false) (pc' := 37) (M := [(0, .ref 98), (1, .int x0), (2, .int x1), (3, .int x2)]) rfl rfl rfl rfl rfl rfl rfl rfl ?_
              refine w_206_98 _ hI x0 _ hx0 x1 _ hx1 x2 _ hx2 (fun r28 s29 Is29 Gs29 => h_Kv ?_)
              have Fs29 := (Gs29.mono (B := kf_w_208_98) rfl).tr F00
              refine h_goto (pc' := 43) rfl rfl ?_
              exact h_lret rfl rfl (kk _ _ Is29 Fs29)
