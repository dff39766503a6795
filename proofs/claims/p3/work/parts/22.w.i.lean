theorem v_nameHere_l (ns : Nat) (σ : h_S) (hI : h_I σ) {Q : Option Value → h_S → Prop} (kk : ∀ (r : Int32) (b : Int) (hb : r.toInt = b), ((-4) ≤ b ∧ b ≤ 7) → (b = -4 ∨ 0 ≤ b) → Q (some (.int r)) σ) : ∀ n : Nat, (∀ (y1 : Int32) (b1 : Int), y1.toInt = b1 → (0 ≤ b1 ∧ b1 ≤ 8) → (8 + 1 - b1) * 1000000 + 1000000000 ≤ (n : Int) → h_T g_P (g_Y ns) 147 2 [(0, .ref 98), (1, .int y1)] [] σ Q) ∧ (∀ (y1 : Int32) (b1 : Int), y1.toInt = b1 → (0 ≤ b1 ∧ b1 ≤ 7) → ∀ (y2 : Int32) (b2 : Int), y2.toInt = b2 → (0 ≤ b2 ∧ b2 ≤ 1) → ∀ (y3 : Int32) (b3 : Int), y3.toInt = b3 → (0 ≤ b3 ∧ b3 ≤ 160) → (b2 = 0 ∨ σ 98 15 - σ 98 16 = σ 103 (b1 + 1) - σ 103 b1) → (σ 103 (b1 + 1) ≤ 44) → ((8 + 1 - b1) - 1) * 1000000 + 1000000000 + (160 + 1 - b3) * 1000 + 100000 ≤ (n : Int) → h_T g_P (g_Y ns) 147 51 [(0, .ref 98), (1, .int y1), (2, .int y2), (3, .int y3)] [] σ Q) := by
  intro n
  induction n with
  | zero => exact ⟨by intro  y1 b1 hy1 ry1 hm; exfalso; omega, by intro  y1 b1 hy1 ry1 y2 b2 hy2 ry2 y3 b3 hy3 ry3 ex0 ex1 hm; exfalso; omega⟩
  | succ n ih =>
    refine ⟨?_, ?_⟩
    · intro  y1 b1 hy1 ry1 hm
      refine h_iload_n (pc' := 3) rfl rfl rfl ?_
      refine h_bipush (pc' := 5) (x := (Int32.ofInt 8)) rfl rfl cb_8 ?_
      refine h_cge (tg := 118) (pc' := 8) rfl rfl rfl hy1 ci_8 (fun c1 => ?_) (fun c1 => ?_)
      · refine h_bipush (pc' := 120) (x := (Int32.ofInt (-4))) rfl rfl cb_m4 ?_
        exact h_iret rfl rfl (kk _ _ ci_m4 (by omega) (by omega))
      · refine h_aload_n (pc' := 9) rfl rfl rfl ?_
        refine h_getI (pc' := 12) (v := σ 98 17) rfl rfl rfl rfl rfl rfl (fun z2 hz2 => ?_)
        have tz2 := tf_98_17 hI
        refine h_iconst (pc' := 13) (x := (Int32.ofInt 1)) rfl rfl rfl ?_
        refine h_cne (tg := 118) (pc' := 16) rfl rfl rfl hz2 ci_1 (fun c3 => ?_) (fun c3 => ?_)
        · refine h_bipush (pc' := 120) (x := (Int32.ofInt (-4))) rfl rfl cb_m4 ?_
          exact h_iret rfl rfl (kk _ _ ci_m4 (by omega) (by omega))
        · refine h_aload_n (pc' := 17) rfl rfl rfl ?_
          refine h_getI (pc' := 20) (v := σ 98 15) rfl rfl rfl rfl rfl rfl (fun z4 hz4 => ?_)
          have tz4 := tf_98_15 hI
          refine h_aload_n (pc' := 21) rfl rfl rfl ?_
          refine h_getI (pc' := 24) (v := σ 98 16) rfl rfl rfl rfl rfl rfl (fun z5 hz5 => ?_)
          have tz5 := tf_98_16 hI
          refine h_isub (pc' := 25) rfl rfl hz4 hz5 rfl (by omega) (by omega) (fun z6 hz6 => ?_)
          refine h_aload_n (pc' := 26) rfl rfl rfl ?_
          refine h_getR (pc' := 29) rfl rfl rfl rfl rfl ?_
          refine h_iload_n (pc' := 30) rfl rfl rfl ?_
          refine h_iconst (pc' := 31) (x := (Int32.ofInt 1)) rfl rfl rfl ?_
          refine h_iadd (pc' := 32) rfl rfl hy1 ci_1 rfl (by omega) (by omega) (fun z7 hz7 => ?_)
          refine h_iald (pc' := 33) (v := σ 103 (b1 + 1)) rfl rfl rfl hz7 (by omega) (by omega) rfl (fun z8 hz8 => ?_)
          have tz8 := ty_103 hI (b1 + 1)
          refine h_aload_n (pc' := 34) rfl rfl rfl ?_
          refine h_getR (pc' := 37) rfl rfl rfl rfl rfl ?_
          refine h_iload_n (pc' := 38) rfl rfl rfl ?_
          refine h_iald (pc' := 39) (v := σ 103 b1) rfl rfl rfl hy1 (by omega) (by omega) rfl (fun z9 hz9 => ?_)
          have tz9 := ty_103 hI b1
          refine h_isub (pc' := 40) rfl rfl hz8 hz9 rfl (by omega) (by omega) (fun z10 hz10 => ?_)
          refine h_cne (tg := 47) (pc' := 43) rfl rfl rfl hz6 hz10 (fun c11 => ?_) (fun c11 => ?_)
          · refine h_iconst (pc' := 48) (x := (Int32.ofInt 0)) rfl rfl rfl ?_
            refine h_istore_n (pc' := 49) (M := [(2, .int (Int32.ofInt 0)), (0, .ref 98), (1, .int y1)]) rfl rfl rfl rfl ?_
            refine h_iconst (pc' := 50) (x := (Int32.ofInt 0)) rfl rfl rfl ?_
            refine h_istore_n (pc' := 51) (M := [(3, .int (Int32.ofInt 0)), (2, .int (Int32.ofInt 0)), (0, .ref 98), (1, .int y1)]) rfl rfl rfl rfl ?_
            exact h_wk [(0, .ref 98), (1, .int y1), (2, .int (Int32.ofInt 0)), (3, .int (Int32.ofInt 0))] ⟨rfl, rfl, rfl, rfl, trivial⟩ (ih.2 y1 _ hy1 (by omega) (Int32.ofInt 0) _ ci_0 (by omega) (Int32.ofInt 0) _ ci_0 (by omega) (by omega) (by omega) (by omega))
          · refine h_iconst (pc' := 44) (x := (Int32.ofInt 1)) rfl rfl rfl ?_
            refine h_goto (pc' := 48) rfl rfl ?_
            refine h_istore_n (pc' := 49) (M := [(2, .int (Int32.ofInt 1)), (0, .ref 98), (1, .int y1)]) rfl rfl rfl rfl ?_
            refine h_iconst (pc' := 50) (x := (Int32.ofInt 0)) rfl rfl rfl ?_
            refine h_istore_n (pc' := 51) (M := [(3, .int (Int32.ofInt 0)), (2, .int (Int32.ofInt 1)), (0, .ref 98), (1, .int y1)]) rfl rfl rfl rfl ?_
            exact h_wk [(0, .ref 98), (1, .int y1), (2, .int (Int32.ofInt 1)), (3, .int (Int32.ofInt 0))] ⟨rfl, rfl, rfl, rfl, trivial⟩ (ih.2 y1 _ hy1 (by omega) (Int32.ofInt 1) _ ci_1 (by omega) (Int32.ofInt 0) _ ci_0 (by omega) (by omega) (by omega) (by omega))
    · intro  y1 b1 hy1 ry1 y2 b2 hy2 ry2 y3 b3 hy3 ry3 ex0 ex1 hm
      refine h_iload_n (pc' := 52) rfl rfl rfl ?_
      refine h_zeq (tg := 106) (pc' := 55) rfl rfl rfl hy2 (fun c1 => ?_) (fun c1 => ?_)
      · refine h_iload_n (pc' := 107) rfl rfl rfl ?_
        refine h_zeq (tg := 112) (pc' := 110) rfl rfl rfl hy2 (fun c2 => ?_) (fun c2 => absurd c2 (by omega))
        refine h_iinc (pc' := 115) (M := fun z3 => [(1, .int z3), (0, .ref 98), (2, .int y2), (3, .int y3)]) rfl rfl rfl rfl hy1 ci_1 rfl (by omega) (by omega) (fun _ => rfl) (fun z3 hz3 => ?_)
        refine h_goto (pc' := 2) rfl rfl ?_
        exact h_wk [(0, .ref 98), (1, .int z3)] ⟨rfl, rfl, trivial⟩ (ih.1 z3 _ hz3 (by omega) (by omega))
      · refine h_iload_n (pc' := 56) rfl rfl rfl ?_
        refine h_aload_n (pc' := 57) rfl rfl rfl ?_
        refine h_getI (pc' := 60) (v := σ 98 15) rfl rfl rfl rfl rfl rfl (fun z4 hz4 => ?_)
        have tz4 := tf_98_15 hI
        refine h_aload_n (pc' := 61) rfl rfl rfl ?_
        refine h_getI (pc' := 64) (v := σ 98 16) rfl rfl rfl rfl rfl rfl (fun z5 hz5 => ?_)
        have tz5 := tf_98_16 hI
        refine h_isub (pc' := 65) rfl rfl hz4 hz5 rfl (by omega) (by omega) (fun z6 hz6 => ?_)
        refine h_cge (tg := 106) (pc' := 68) rfl rfl rfl hy3 hz6 (fun c7 => ?_) (fun c7 => ?_)
        · refine h_iload_n (pc' := 107) rfl rfl rfl ?_
          refine h_zeq (tg := 112) (pc' := 110) rfl rfl rfl hy2 (fun c8 => absurd c8 (by omega)) (fun c8 => ?_)
          refine h_iload_n (pc' := 111) rfl rfl rfl ?_
          exact h_iret rfl rfl (kk _ _ hy1 (by omega) (by omega))
        · refine h_aload_n (pc' := 69) rfl rfl rfl ?_
          refine h_aload_n (pc' := 70) rfl rfl rfl ?_
          refine h_getI (pc' := 73) (v := σ 98 16) rfl rfl rfl rfl rfl rfl (fun z9 hz9 => ?_)
          have tz9 := tf_98_16 hI
          refine h_iload_n (pc' := 74) rfl rfl rfl ?_
          refine h_iadd (pc' := 75) rfl rfl hz9 hy3 rfl (by omega) (by omega) (fun z10 hz10 => ?_)
          refine h_call (sp := false) (pc' := 78) (M := [(0, .ref 98), (1, .int z10)]) rfl rfl rfl rfl rfl rfl rfl rfl ?_
          refine h_iload_n (pc' := 1) rfl rfl rfl ?_
          refine h_aload_n (pc' := 2) rfl rfl rfl ?_
          refine h_getI (pc' := 5) (v := σ 98 11) rfl rfl rfl rfl rfl rfl (fun z11 hz11 => ?_)
          have tz11 := tf_98_11 hI
          refine h_cge (tg := 17) (pc' := 8) rfl rfl rfl hz10 hz11 (fun c12 => ?_) (fun c12 => ?_)
          · refine h_bipush (pc' := 19) (x := (Int32.ofInt (-4))) rfl rfl cb_m4 ?_
            refine h_iret rfl rfl (h_Kv ?_)
            refine h_aload_n (pc' := 79) rfl rfl rfl ?_
            refine h_getR (pc' := 82) rfl rfl rfl rfl rfl ?_
            refine h_aload_n (pc' := 83) rfl rfl rfl ?_
            refine h_getR (pc' := 86) rfl rfl rfl rfl rfl ?_
            refine h_iload_n (pc' := 87) rfl rfl rfl ?_
            refine h_iald (pc' := 88) (v := σ 103 b1) rfl rfl rfl hy1 (by omega) (by omega) rfl (fun z13 hz13 => ?_)
            have tz13 := ty_103 hI b1
            refine h_iload_n (pc' := 89) rfl rfl rfl ?_
            refine h_iadd (pc' := 90) rfl rfl hz13 hy3 rfl (by omega) (by omega) (fun z14 hz14 => ?_)
            refine h_iald (pc' := 91) (v := σ 104 ((σ 103 b1) + b3)) rfl rfl rfl hz14 (by omega) (by omega) rfl (fun z15 hz15 => ?_)
            have tz15 := ty_104 hI ((σ 103 b1) + b3)
            refine h_cne (tg := 98) (pc' := 94) rfl rfl rfl ci_m4 hz15 (fun c16 => ?_) (fun c16 => ?_)
            · refine h_iconst (pc' := 99) (x := (Int32.ofInt 0)) rfl rfl rfl ?_
              refine h_istore_n (pc' := 100) (M := [(2, .int (Int32.ofInt 0)), (0, .ref 98), (1, .int y1), (3, .int y3)]) rfl rfl rfl rfl ?_
              refine h_iinc (pc' := 103) (M := fun z17 => [(3, .int z17), (2, .int (Int32.ofInt 0)), (0, .ref 98), (1, .int y1)]) rfl rfl rfl rfl hy3 ci_1 rfl (by omega) (by omega) (fun _ => rfl) (fun z17 hz17 => ?_)
              refine h_goto (pc' := 51) rfl rfl ?_
              exact h_wk [(0, .ref 98), (1, .int y1), (2, .int (Int32.ofInt 0)), (3, .int z17)] ⟨rfl, rfl, rfl, rfl, trivial⟩ (ih.2 y1 _ hy1 (by omega) (Int32.ofInt 0) _ ci_0 (by omega) z17 _ hz17 (by omega) (by omega) (by omega) (by omega))
            · refine h_iconst (pc' := 95) (x := (Int32.ofInt 1)) rfl rfl rfl ?_
              refine h_goto (pc' := 99) rfl rfl ?_
              refine h_istore_n (pc' := 100) (M := [(2, .int (Int32.ofInt 1)), (0, .ref 98), (1, .int y1), (3, .int y3)]) rfl rfl rfl rfl ?_
              refine h_iinc (pc' := 103) (M := fun z18 => [(3, .int z18), (2, .int (Int32.ofInt 1)), (0, .ref 98), (1, .int y1)]) rfl rfl rfl rfl hy3 ci_1 rfl (by omega) (by omega) (fun _ => rfl) (fun z18 hz18 => ?_)
              refine h_goto (pc' := 51) rfl rfl ?_
              exact h_wk [(0, .ref 98), (1, .int y1), (2, .int (Int32.ofInt 1)), (3, .int z18)] ⟨rfl, rfl, rfl, rfl, trivial⟩ (ih.2 y1 _ hy1 (by omega) (Int32.ofInt 1) _ ci_1 (by omega) z18 _ hz18 (by omega) (by omega) (by omega) (by omega))
          · refine h_aload_n (pc' := 9) rfl rfl rfl ?_
            refine h_getR (pc' := 12) rfl rfl rfl rfl rfl ?_
            refine h_iload_n (pc' := 13) rfl rfl rfl ?_
            refine h_iald (pc' := 14) (v := σ 102 ((σ 98 16) + b3)) rfl rfl rfl hz10 (by omega) (by omega) rfl (fun z19 hz19 => ?_)
            have tz19 := ty_102 hI ((σ 98 16) + b3)
            refine h_goto (pc' := 19) rfl rfl ?_
            refine h_iret rfl rfl (h_Kv ?_)
            refine h_aload_n (pc' := 79) rfl rfl rfl ?_
            refine h_getR (pc' := 82) rfl rfl rfl rfl rfl ?_
            refine h_aload_n (pc' := 83) rfl rfl rfl ?_
            refine h_getR (pc' := 86) rfl rfl rfl rfl rfl ?_
            refine h_iload_n (pc' := 87) rfl rfl rfl ?_
            refine h_iald (pc' := 88) (v := σ 103 b1) rfl rfl rfl hy1 (by omega) (by omega) rfl (fun z20 hz20 => ?_)
            have tz20 := ty_103 hI b1
            refine h_iload_n (pc' := 89) rfl rfl rfl ?_
            refine h_iadd (pc' := 90) rfl rfl hz20 hy3 rfl (by omega) (by omega) (fun z21 hz21 => ?_)
            refine h_iald (pc' := 91) (v := σ 104 ((σ 103 b1) + b3)) rfl rfl rfl hz21 (by omega) (by omega) rfl (fun z22 hz22 => ?_)
            have tz22 := ty_104 hI ((σ 103 b1) + b3)
            refine h_cne (tg := 98) (pc' := 94) rfl rfl rfl hz19 hz22 (fun c23 => ?_) (fun c23 => ?_)
            · refine h_iconst (pc' := 99) (x := (Int32.ofInt 0)) rfl rfl rfl ?_
              refine h_istore_n (pc' := 100) (M := [(2, .int (Int32.ofInt 0)), (0, .ref 98), (1, .int y1), (3, .int y3)]) rfl rfl rfl rfl ?_
              refine h_iinc (pc' := 103) (M := fun z24 => [(3, .int z24), (2, .int (Int32.ofInt 0)), (0, .ref 98), (1, .int y1)]) rfl rfl rfl rfl hy3 ci_1 rfl (by omega) (by omega) (fun _ => rfl) (fun z24 hz24 => ?_)
              refine h_goto (pc' := 51) rfl rfl ?_
              exact h_wk [(0, .ref 98), (1, .int y1), (2, .int (Int32.ofInt 0)), (3, .int z24)] ⟨rfl, rfl, rfl, rfl, trivial⟩ (ih.2 y1 _ hy1 (by omega) (Int32.ofInt 0) _ ci_0 (by omega) z24 _ hz24 (by omega) (by omega) (by omega) (by omega))
            · refine h_iconst (pc' := 95) (x := (Int32.ofInt 1)) rfl rfl rfl ?_
              refine h_goto (pc' := 99) rfl rfl ?_
              refine h_istore_n (pc' := 100) (M := [(2, .int (Int32.ofInt 1)), (0, .ref 98), (1, .int y1), (3, .int y3)]) rfl rfl rfl rfl ?_
              refine h_iinc (pc' := 103) (M := fun z25 => [(3, .int z25), (2, .int (Int32.ofInt 1)), (0, .ref 98), (1, .int y1)]) rfl rfl rfl rfl hy3 ci_1 rfl (by omega) (by omega) (fun _ => rfl) (fun z25 hz25 => ?_)
              refine h_goto (pc' := 51) rfl rfl ?_
              exact h_wk [(0, .ref 98), (1, .int y1), (2, .int (Int32.ofInt 1)), (3, .int z25)] ⟨rfl, rfl, rfl, rfl, trivial⟩ (ih.2 y1 _ hy1 (by omega) (Int32.ofInt 1) _ ci_1 (by omega) z25 _ hz25 (by omega) (by omega) (by omega) (by omega))
theorem v_nameHere {ns : Nat} (σ : h_S) (hI : h_I σ) {Q : Option Value → h_S → Prop} (kk : ∀ (r : Int32) (b : Int) (hb : r.toInt = b), ((-4) ≤ b ∧ b ≤ 7) → (b = -4 ∨ 0 ≤ b) → Q (some (.int r)) σ) : h_T g_P (g_Y ns) 147 0 [(0, .ref 98)] [] σ Q := by
  have F00 : h_F k_sc σ σ := h_F.rf
  refine h_iconst (pc' := 1) (x := (Int32.ofInt 0)) rfl rfl rfl ?_
  refine h_istore_n (pc' := 2) (M := [(1, .int (Int32.ofInt 0)), (0, .ref 98)]) rfl rfl rfl rfl ?_
  exact h_wk [(0, .ref 98), (1, .int (Int32.ofInt 0))] ⟨rfl, rfl, trivial⟩ ((v_nameHere_l ns σ hI  kk 1000000000000).1 (Int32.ofInt 0) _ ci_0 (by omega) (by omega))
theorem v_step_l (ns : Nat) (σ : h_S) (hI : h_I σ) {Q : Option Value → h_S → Prop} (kk : ∀ (τ : h_S), h_I τ → h_F k_lx τ σ → (σ 98 15 ≤ τ 98 15) → (¬ σ 98 13 = 0 → τ 98 13 = σ 98 13) → (σ 98 13 = 0 → (τ 98 17 = 0 ∨ σ 98 15 < τ 98 15)) → Q none τ) : ∀ n : Nat, (∀ (s0 : h_S), h_I s0 → h_F k_lx s0 σ → (σ 98 15 ≤ s0 98 15) → (s0 98 13 = 0) → (σ 98 13 = 0) → (161 - s0 98 15) + 1000 ≤ (n : Int) → h_T g_P (g_Y ns) 148 8 [(0, .ref 98)] [] s0 Q) ∧ (∀ (s0 : h_S), h_I s0 → h_F k_lx s0 σ → ∀ (y1 : Int32) (b1 : Int), y1.toInt = b1 → (97 ≤ b1 ∧ b1 ≤ 122) → (σ 98 15 ≤ s0 98 16) → (s0 98 16 < s0 98 15) → (s0 98 13 = 0) → (σ 98 13 = 0) → (161 - s0 98 15) ≤ (n : Int) → h_T g_P (g_Y ns) 148 84 [(0, .ref 98), (1, .int y1)] [] s0 Q) ∧ (∀ (s0 : h_S), h_I s0 → h_F k_lx s0 σ → ∀ (y1 : Int32) (b1 : Int), y1.toInt = b1 → (48 ≤ b1 ∧ b1 ≤ 57) → (σ 98 15 ≤ s0 98 16) → (s0 98 16 < s0 98 15) → (s0 98 13 = 0) → (σ 98 13 = 0) → (s0 98 15 - s0 98 16 = 1 → s0 98 18 ≤ 9) → (161 - s0 98 15) ≤ (n : Int) → h_T g_P (g_Y ns) 148 140 [(0, .ref 98), (1, .int y1)] [] s0 Q) := by
  intro n
  induction n with
  | zero => exact ⟨by intro s0 I0 F0_ ex0 ex1 ex2 hm; have gh0 := tf_98_15 I0; exfalso; omega, by intro s0 I0 F0_ y1 b1 hy1 ry1 ex0 ex1 ex2 ex3 hm; have gh0 := tf_98_15 I0; exfalso; omega, by intro s0 I0 F0_ y1 b1 hy1 ry1 ex0 ex1 ex2 ex3 ex4 hm; have gh0 := tf_98_15 I0; exfalso; omega⟩
  | succ n ih =>
    refine ⟨?_, ?_, ?_⟩
    · intro s0 I0 F0_ ex0 ex1 ex2 hm; have gh0 := tf_98_15 I0
      refine h_aload_n (pc' := 9) rfl rfl rfl ?_
      refine h_aload_n (pc' := 10) rfl rfl rfl ?_
      refine h_getI (pc' := 13) (v := s0 98 15) rfl rfl rfl rfl rfl rfl (fun z1 hz1 => ?_)
      have tz1 := tf_98_15 I0
      refine h_call (sp := false) (pc' := 16) (M := [(0, .ref 98), (1, .int z1)]) rfl rfl rfl rfl rfl rfl rfl rfl ?_
      refine h_iload_n (pc' := 1) rfl rfl rfl ?_
      refine h_aload_n (pc' := 2) rfl rfl rfl ?_
      refine h_getI (pc' := 5) (v := σ 98 11) rfl rfl rfl rfl rfl (F0_ 98 11 rfl) (fun z2 hz2 => ?_)
      have tz2 := tf_98_11 hI
      refine h_cge (tg := 17) (pc' := 8) rfl rfl rfl hz1 hz2 (fun c3 => ?_) (fun c3 => ?_)
      · refine h_bipush (pc' := 19) (x := (Int32.ofInt (-4))) rfl rfl cb_m4 ?_
        refine h_iret rfl rfl (h_Kv ?_)
        refine h_bipush (pc' := 18) (x := (Int32.ofInt 32)) rfl rfl cb_32 ?_
        refine h_cne (tg := 34) (pc' := 21) rfl rfl rfl ci_m4 ci_32 (fun c4 => ?_) (fun c4 => absurd c4 (by omega))
        refine h_aload_n (pc' := 35) rfl rfl rfl ?_
        refine h_aload_n (pc' := 36) rfl rfl rfl ?_
        refine h_getI (pc' := 39) (v := s0 98 15) rfl rfl rfl rfl rfl rfl (fun z5 hz5 => ?_)
        have tz5 := tf_98_15 I0
        refine h_put (pc' := 42) rfl rfl rfl rfl rfl rfl hz5 rfl (h_fgt (E := fun s => s 98 15 = s0 98 15 ∧ s 98 16 = (s0 98 15) ∧ s 98 17 = s0 98 17 ∧ s 98 18 = s0 98 18 ∧ s 98 13 = s0 98 13) _ (if_98_16 I0 (by omega)) (F0_.up rfl) ⟨rfl, rfl, rfl, rfl, rfl⟩ (fun s6 Is6 Fs6 ⟨es6_0, es6_1, es6_2, es6_3, es6_4⟩ => ?_))
        refine h_aload_n (pc' := 43) rfl rfl rfl ?_
        refine h_aload_n (pc' := 44) rfl rfl rfl ?_
        refine h_getI (pc' := 47) (v := s0 98 15) rfl rfl rfl rfl rfl es6_0 (fun z7 hz7 => ?_)
        have tz7 := tf_98_15 I0
        refine h_call (sp := false) (pc' := 50) (M := [(0, .ref 98), (1, .int z7)]) rfl rfl rfl rfl rfl rfl rfl rfl ?_
        refine h_iload_n (pc' := 1) rfl rfl rfl ?_
        refine h_aload_n (pc' := 2) rfl rfl rfl ?_
        refine h_getI (pc' := 5) (v := σ 98 11) rfl rfl rfl rfl rfl (Fs6 98 11 rfl) (fun z8 hz8 => ?_)
        have tz8 := tf_98_11 hI
        refine h_cge (tg := 17) (pc' := 8) rfl rfl rfl hz7 hz8 (fun c9 => ?_) (fun c9 => ?_)
        · refine h_bipush (pc' := 19) (x := (Int32.ofInt (-4))) rfl rfl cb_m4 ?_
          refine h_iret rfl rfl (h_Kv ?_)
          refine h_istore_n (pc' := 51) (M := [(1, .int (Int32.ofInt (-4))), (0, .ref 98)]) rfl rfl rfl rfl ?_
          refine h_aload_n (pc' := 52) rfl rfl rfl ?_
          refine h_iconst (pc' := 53) (x := (Int32.ofInt 0)) rfl rfl rfl ?_
          refine h_put (pc' := 56) rfl rfl rfl rfl rfl rfl ci_0 rfl (h_fgt (E := fun s => s 98 15 = s0 98 15 ∧ s 98 16 = (s0 98 15) ∧ s 98 17 = s0 98 17 ∧ s 98 18 = 0 ∧ s 98 13 = s0 98 13) _ (if_98_18 Is6 (by omega)) (Fs6.up rfl) ⟨es6_0, es6_1, es6_2, rfl, es6_4⟩ (fun s10 Is10 Fs10 ⟨es10_0, es10_1, es10_2, es10_3, es10_4⟩ => ?_))
          clear es6_0 es6_1 es6_2 es6_3 es6_4
          refine h_iload_n (pc' := 57) rfl rfl rfl ?_
          refine h_bipush (pc' := 59) (x := (Int32.ofInt (-4))) rfl rfl cb_m4 ?_
          refine h_cne (tg := 70) (pc' := 62) rfl rfl rfl ci_m4 ci_m4 (fun c11 => absurd c11 (by omega)) (fun c11 => ?_)
          refine h_aload_n (pc' := 63) rfl rfl rfl ?_
          refine h_iconst (pc' := 64) (x := (Int32.ofInt 0)) rfl rfl rfl ?_
          refine h_put (pc' := 67) rfl rfl rfl rfl rfl rfl ci_0 rfl (h_fgt (E := fun s => s 98 15 = s0 98 15 ∧ s 98 16 = (s0 98 15) ∧ s 98 17 = 0 ∧ s 98 18 = 0 ∧ s 98 13 = s0 98 13) _ (if_98_17 Is10 (by omega)) (Fs10.up rfl) ⟨es10_0, es10_1, rfl, es10_3, es10_4⟩ (fun s12 Is12 Fs12 ⟨es12_0, es12_1, es12_2, es12_3, es12_4⟩ => ?_))
          clear es10_0 es10_1 es10_2 es10_3 es10_4
          refine h_goto (pc' := 269) rfl rfl ?_
          exact h_vret rfl rfl (kk _ Is12 Fs12 (by omega) (by omega) (by omega))
        · refine h_aload_n (pc' := 9) rfl rfl rfl ?_
          refine h_getR (pc' := 12) rfl rfl rfl rfl rfl ?_
          refine h_iload_n (pc' := 13) rfl rfl rfl ?_
          refine h_iald (pc' := 14) (v := σ 102 (s0 98 15)) rfl rfl rfl hz7 (by omega) (by omega) (Fs6 102 _ rfl) (fun z13 hz13 => ?_)
          have tz13 := ty_102 hI (s0 98 15)
          refine h_goto (pc' := 19) rfl rfl ?_
          refine h_iret rfl rfl (h_Kv ?_)
          refine h_istore_n (pc' := 51) (M := [(1, .int z13), (0, .ref 98)]) rfl rfl rfl rfl ?_
          refine h_aload_n (pc' := 52) rfl rfl rfl ?_
          refine h_iconst (pc' := 53) (x := (Int32.ofInt 0)) rfl rfl rfl ?_
          refine h_put (pc' := 56) rfl rfl rfl rfl rfl rfl ci_0 rfl (h_fgt (E := fun s => s 98 15 = s0 98 15 ∧ s 98 16 = (s0 98 15) ∧ s 98 17 = s0 98 17 ∧ s 98 18 = 0 ∧ s 98 13 = s0 98 13) _ (if_98_18 Is6 (by omega)) (Fs6.up rfl) ⟨es6_0, es6_1, es6_2, rfl, es6_4⟩ (fun s14 Is14 Fs14 ⟨es14_0, es14_1, es14_2, es14_3, es14_4⟩ => ?_))
          clear es6_0 es6_1 es6_2 es6_3 es6_4
          refine h_iload_n (pc' := 57) rfl rfl rfl ?_
          refine h_bipush (pc' := 59) (x := (Int32.ofInt (-4))) rfl rfl cb_m4 ?_
          refine h_cne (tg := 70) (pc' := 62) rfl rfl rfl hz13 ci_m4 (fun c15 => ?_) (fun c15 => absurd c15 (by omega))
          refine h_iload_n (pc' := 71) rfl rfl rfl ?_
          refine h_i2l (pc' := 72) rfl rfl hz13 (fun z16 hz16 => ?_)
          refine h_ldc2 (pc' := 75) (x := (Int64.ofInt 97)) rfl rfl rfl ?_
          refine h_ldc2 (pc' := 78) (x := (Int64.ofInt 122)) rfl rfl rfl ?_
          refine h_calls (pc' := 81) (M := [(0, .long z16), (2, .long (Int64.ofInt 97)), (4, .long (Int64.ofInt 122))]) rfl rfl rfl rfl rfl rfl ?_
          refine h_lload_n (pc' := 1) rfl rfl rfl ?_
          refine h_lload_n (pc' := 2) rfl rfl rfl ?_
          refine h_lcmp (pc' := 3) rfl rfl hz16 cl_97 (fun z17 hz17 => ?_)
          refine h_zlt (tg := 17) (pc' := 6) rfl rfl rfl rfl (fun c18 => ?_) (fun c18 => ?_)
          · refine h_iconst (pc' := 18) (x := (Int32.ofInt 0)) rfl rfl rfl ?_
            refine h_zret rfl rfl ci_0 (by omega) (h_Kv ?_)
            refine h_zeq (tg := 126) (pc' := 84) rfl rfl rfl ci_0 (fun c19 => ?_) (fun c19 => absurd c19 (by omega))
            refine h_iload_n (pc' := 127) rfl rfl rfl ?_
            refine h_i2l (pc' := 128) rfl rfl hz13 (fun z20 hz20 => ?_)
            refine h_ldc2 (pc' := 131) (x := (Int64.ofInt 48)) rfl rfl rfl ?_
            refine h_ldc2 (pc' := 134) (x := (Int64.ofInt 57)) rfl rfl rfl ?_
            refine h_calls (pc' := 137) (M := [(0, .long z20), (2, .long (Int64.ofInt 48)), (4, .long (Int64.ofInt 57))]) rfl rfl rfl rfl rfl rfl ?_
            refine h_lload_n (pc' := 1) rfl rfl rfl ?_
            refine h_lload_n (pc' := 2) rfl rfl rfl ?_
            refine h_lcmp (pc' := 3) rfl rfl hz20 cl_48 (fun z21 hz21 => ?_)
            refine h_zlt (tg := 17) (pc' := 6) rfl rfl rfl rfl (fun c22 => ?_) (fun c22 => ?_)
            · refine h_iconst (pc' := 18) (x := (Int32.ofInt 0)) rfl rfl rfl ?_
              refine h_zret rfl rfl ci_0 (by omega) (h_Kv ?_)
              refine h_zeq (tg := 243) (pc' := 140) rfl rfl rfl ci_0 (fun c23 => ?_) (fun c23 => absurd c23 (by omega))
              refine h_aload_n (pc' := 244) rfl rfl rfl ?_
              refine h_iconst (pc' := 245) (x := (Int32.ofInt 3)) rfl rfl rfl ?_
              refine h_put (pc' := 248) rfl rfl rfl rfl rfl rfl ci_3 rfl (h_fgt (E := fun s => s 98 15 = s0 98 15 ∧ s 98 16 = (s0 98 15) ∧ s 98 17 = 3 ∧ s 98 18 = 0 ∧ s 98 13 = s0 98 13) _ (if_98_17 Is14 (by omega)) (Fs14.up rfl) ⟨es14_0, es14_1, rfl, es14_3, es14_4⟩ (fun s24 Is24 Fs24 ⟨es24_0, es24_1, es24_2, es24_3, es24_4⟩ => ?_))
              clear es14_0 es14_1 es14_2 es14_3 es14_4
              refine h_aload_n (pc' := 249) rfl rfl rfl ?_
              refine h_dup (pc' := 250) rfl rfl rfl ?_
              refine h_getI (pc' := 253) (v := s0 98 15) rfl rfl rfl rfl rfl es24_0 (fun z25 hz25 => ?_)
              have tz25 := tf_98_15 I0
              refine h_iconst (pc' := 254) (x := (Int32.ofInt 1)) rfl rfl rfl ?_
              refine h_iadd (pc' := 255) rfl rfl hz25 ci_1 rfl (by omega) (by omega) (fun z26 hz26 => ?_)
              refine h_put (pc' := 258) rfl rfl rfl rfl rfl rfl hz26 rfl (h_fgt (E := fun s => s 98 15 = ((s0 98 15) + 1) ∧ s 98 16 = (s0 98 15) ∧ s 98 17 = 3 ∧ s 98 18 = 0 ∧ s 98 13 = s0 98 13) _ (if_98_15 Is24 (by omega)) (Fs24.up rfl) ⟨rfl, es24_1, es24_2, es24_3, es24_4⟩ (fun s27 Is27 Fs27 ⟨es27_0, es27_1, es27_2, es27_3, es27_4⟩ => ?_))
              clear es24_0 es24_1 es24_2 es24_3 es24_4
              refine h_iload_n (pc' := 259) rfl rfl rfl ?_
              refine h_bipush (pc' := 261) (x := (Int32.ofInt 59)) rfl rfl cb_59 ?_
              refine h_ceq (tg := 269) (pc' := 264) rfl rfl rfl hz13 ci_59 (fun c28 => absurd c28 (by omega)) (fun c28 => ?_)
              refine h_aload_n (pc' := 265) rfl rfl rfl ?_
              refine h_iconst (pc' := 266) (x := (Int32.ofInt 1)) rfl rfl rfl ?_
              refine h_call (sp := false) (pc' := 269) (M := [(0, .ref 98), (1, .int (Int32.ofInt 1))]) rfl rfl rfl rfl rfl rfl rfl rfl ?_
              refine h_aload_n (pc' := 1) rfl rfl rfl ?_
              refine h_getI (pc' := 4) (v := s0 98 13) rfl rfl rfl rfl rfl es27_4 (fun z29 hz29 => ?_)
              have tz29 := tf_98_13 I0
              refine h_zne (tg := 20) (pc' := 7) rfl rfl rfl hz29 (fun c30 => ?_) (fun c30 => ?_)
              · refine h_vret rfl rfl (h_Kn ?_)
                exact h_vret rfl rfl (kk _ Is27 Fs27 (by omega) (by omega) (by omega))
              · refine h_aload_n (pc' := 8) rfl rfl rfl ?_
                refine h_iload_n (pc' := 9) rfl rfl rfl ?_
                refine h_put (pc' := 12) rfl rfl rfl rfl rfl rfl ci_1 rfl (h_fgt (E := fun s => s 98 15 = ((s0 98 15) + 1) ∧ s 98 16 = (s0 98 15) ∧ s 98 17 = 3 ∧ s 98 18 = 0 ∧ s 98 13 = 1) _ (if_98_13 Is27 (by omega)) (Fs27.up rfl) ⟨es27_0, es27_1, es27_2, es27_3, rfl⟩ (fun s31 Is31 Fs31 ⟨es31_0, es31_1, es31_2, es31_3, es31_4⟩ => ?_))
                clear es27_0 es27_1 es27_2 es27_3 es27_4
                refine h_aload_n (pc' := 13) rfl rfl rfl ?_
                refine h_aload_n (pc' := 14) rfl rfl rfl ?_
                refine h_getI (pc' := 17) (v := (s0 98 15)) rfl rfl rfl rfl rfl es31_1 (fun z32 hz32 => ?_)
                refine h_put (pc' := 20) rfl rfl rfl rfl rfl rfl hz32 rfl (h_fgt (E := fun s => s 98 15 = ((s0 98 15) + 1) ∧ s 98 16 = (s0 98 15) ∧ s 98 17 = 3 ∧ s 98 18 = 0 ∧ s 98 13 = 1) _ (if_98_14 Is31 (h_rgv hz32)) (Fs31.up rfl) ⟨es31_0, es31_1, es31_2, es31_3, es31_4⟩ (fun s33 Is33 Fs33 ⟨es33_0, es33_1, es33_2, es33_3, es33_4⟩ => ?_))
                clear es31_0 es31_1 es31_2 es31_3 es31_4
                refine h_vret rfl rfl (h_Kn ?_)
                exact h_vret rfl rfl (kk _ Is33 Fs33 (by omega) (by omega) (by omega))
            · refine h_lload_n (pc' := 7) rfl rfl rfl ?_
              refine h_lload (pc' := 9) rfl rfl rfl ?_
              refine h_lcmp (pc' := 10) rfl rfl hz20 cl_57 (fun z34 hz34 => ?_)
              refine h_zgt (tg := 17) (pc' := 13) rfl rfl rfl rfl (fun c35 => ?_) (fun c35 => ?_)
              · refine h_iconst (pc' := 18) (x := (Int32.ofInt 0)) rfl rfl rfl ?_
                refine h_zret rfl rfl ci_0 (by omega) (h_Kv ?_)
                refine h_zeq (tg := 243) (pc' := 140) rfl rfl rfl ci_0 (fun c36 => ?_) (fun c36 => absurd c36 (by omega))
                refine h_aload_n (pc' := 244) rfl rfl rfl ?_
                refine h_iconst (pc' := 245) (x := (Int32.ofInt 3)) rfl rfl rfl ?_
                refine h_put (pc' := 248) rfl rfl rfl rfl rfl rfl ci_3 rfl (h_fgt (E := fun s => s 98 15 = s0 98 15 ∧ s 98 16 = (s0 98 15) ∧ s 98 17 = 3 ∧ s 98 18 = 0 ∧ s 98 13 = s0 98 13) _ (if_98_17 Is14 (by omega)) (Fs14.up rfl) ⟨es14_0, es14_1, rfl, es14_3, es14_4⟩ (fun s37 Is37 Fs37 ⟨es37_0, es37_1, es37_2, es37_3, es37_4⟩ => ?_))
                clear es14_0 es14_1 es14_2 es14_3 es14_4
                refine h_aload_n (pc' := 249) rfl rfl rfl ?_
                refine h_dup (pc' := 250) rfl rfl rfl ?_
                refine h_getI (pc' := 253) (v := s0 98 15) rfl rfl rfl rfl rfl es37_0 (fun z38 hz38 => ?_)
                have tz38 := tf_98_15 I0
                refine h_iconst (pc' := 254) (x := (Int32.ofInt 1)) rfl rfl rfl ?_
                refine h_iadd (pc' := 255) rfl rfl hz38 ci_1 rfl (by omega) (by omega) (fun z39 hz39 => ?_)
                refine h_put (pc' := 258) rfl rfl rfl rfl rfl rfl hz39 rfl (h_fgt (E := fun s => s 98 15 = ((s0 98 15) + 1) ∧ s 98 16 = (s0 98 15) ∧ s 98 17 = 3 ∧ s 98 18 = 0 ∧ s 98 13 = s0 98 13) _ (if_98_15 Is37 (by omega)) (Fs37.up rfl) ⟨rfl, es37_1, es37_2, es37_3, es37_4⟩ (fun s40 Is40 Fs40 ⟨es40_0, es40_1, es40_2, es40_3, es40_4⟩ => ?_))
                clear es37_0 es37_1 es37_2 es37_3 es37_4
                refine h_iload_n (pc' := 259) rfl rfl rfl ?_
                refine h_bipush (pc' := 261) (x := (Int32.ofInt 59)) rfl rfl cb_59 ?_
                refine h_ceq (tg := 269) (pc' := 264) rfl rfl rfl hz13 ci_59 (fun c41 => ?_) (fun c41 => ?_)
                · exact h_vret rfl rfl (kk _ Is40 Fs40 (by omega) (by omega) (by omega))
                · refine h_aload_n (pc' := 265) rfl rfl rfl ?_
                  refine h_iconst (pc' := 266) (x := (Int32.ofInt 1)) rfl rfl rfl ?_
                  refine h_call (sp := false) (pc' := 269) (M := [(0, .ref 98), (1, .int (Int32.ofInt 1))]) rfl rfl rfl rfl rfl rfl rfl rfl ?_
                  refine h_aload_n (pc' := 1) rfl rfl rfl ?_
                  refine h_getI (pc' := 4) (v := s0 98 13) rfl rfl rfl rfl rfl es40_4 (fun z42 hz42 => ?_)
                  have tz42 := tf_98_13 I0
                  refine h_zne (tg := 20) (pc' := 7) rfl rfl rfl hz42 (fun c43 => ?_) (fun c43 => ?_)
                  · refine h_vret rfl rfl (h_Kn ?_)
                    exact h_vret rfl rfl (kk _ Is40 Fs40 (by omega) (by omega) (by omega))
                  · refine h_aload_n (pc' := 8) rfl rfl rfl ?_
                    refine h_iload_n (pc' := 9) rfl rfl rfl ?_
                    refine h_put (pc' := 12) rfl rfl rfl rfl rfl rfl ci_1 rfl (h_fgt (E := fun s => s 98 15 = ((s0 98 15) + 1) ∧ s 98 16 = (s0 98 15) ∧ s 98 17 = 3 ∧ s 98 18 = 0 ∧ s 98 13 = 1) _ (if_98_13 Is40 (by omega)) (Fs40.up rfl) ⟨es40_0, es40_1, es40_2, es40_3, rfl⟩ (fun s44 Is44 Fs44 ⟨es44_0, es44_1, es44_2, es44_3, es44_4⟩ => ?_))
                    clear es40_0 es40_1 es40_2 es40_3 es40_4
                    refine h_aload_n (pc' := 13) rfl rfl rfl ?_
                    refine h_aload_n (pc' := 14) rfl rfl rfl ?_
                    refine h_getI (pc' := 17) (v := (s0 98 15)) rfl rfl rfl rfl rfl es44_1 (fun z45 hz45 => ?_)
                    refine h_put (pc' := 20) rfl rfl rfl rfl rfl rfl hz45 rfl (h_fgt (E := fun s => s 98 15 = ((s0 98 15) + 1) ∧ s 98 16 = (s0 98 15) ∧ s 98 17 = 3 ∧ s 98 18 = 0 ∧ s 98 13 = 1) _ (if_98_14 Is44 (h_rgv hz45)) (Fs44.up rfl) ⟨es44_0, es44_1, es44_2, es44_3, es44_4⟩ (fun s46 Is46 Fs46 ⟨es46_0, es46_1, es46_2, es46_3, es46_4⟩ => ?_))
                    clear es44_0 es44_1 es44_2 es44_3 es44_4
                    refine h_vret rfl rfl (h_Kn ?_)
                    exact h_vret rfl rfl (kk _ Is46 Fs46 (by omega) (by omega) (by omega))
              · refine h_iconst (pc' := 14) (x := (Int32.ofInt 1)) rfl rfl rfl ?_
                refine h_goto (pc' := 18) rfl rfl ?_
                refine h_zret rfl rfl ci_1 (by omega) (h_Kv ?_)
                refine h_zeq (tg := 243) (pc' := 140) rfl rfl rfl ci_1 (fun c47 => absurd c47 (by omega)) (fun c47 => ?_)
                refine h_aload_n (pc' := 141) rfl rfl rfl ?_
                refine h_aload_n (pc' := 142) rfl rfl rfl ?_
                refine h_getI (pc' := 145) (v := s0 98 15) rfl rfl rfl rfl rfl es14_0 (fun z48 hz48 => ?_)
                have tz48 := tf_98_15 I0
                refine h_call (sp := false) (pc' := 148) (M := [(0, .ref 98), (1, .int z48)]) rfl rfl rfl rfl rfl rfl rfl rfl ?_
                refine h_iload_n (pc' := 1) rfl rfl rfl ?_
                refine h_aload_n (pc' := 2) rfl rfl rfl ?_
                refine h_getI (pc' := 5) (v := σ 98 11) rfl rfl rfl rfl rfl (Fs14 98 11 rfl) (fun z49 hz49 => ?_)
                have tz49 := tf_98_11 hI
                refine h_cge (tg := 17) (pc' := 8) rfl rfl rfl hz48 hz49 (fun c50 => ?_) (fun c50 => ?_)
                · refine h_bipush (pc' := 19) (x := (Int32.ofInt (-4))) rfl rfl cb_m4 ?_
                  refine h_iret rfl rfl (h_Kv ?_)
                  refine h_i2l (pc' := 149) rfl rfl ci_m4 (fun z51 hz51 => ?_)
                  refine h_ldc2 (pc' := 152) (x := (Int64.ofInt 48)) rfl rfl rfl ?_
                  refine h_ldc2 (pc' := 155) (x := (Int64.ofInt 57)) rfl rfl rfl ?_
                  refine h_calls (pc' := 158) (M := [(0, .long z51), (2, .long (Int64.ofInt 48)), (4, .long (Int64.ofInt 57))]) rfl rfl rfl rfl rfl rfl ?_
                  refine h_lload_n (pc' := 1) rfl rfl rfl ?_
                  refine h_lload_n (pc' := 2) rfl rfl rfl ?_
                  refine h_lcmp (pc' := 3) rfl rfl hz51 cl_48 (fun z52 hz52 => ?_)
                  refine h_zlt (tg := 17) (pc' := 6) rfl rfl rfl rfl (fun c53 => ?_) (fun c53 => absurd c53 (by omega))
                  refine h_iconst (pc' := 18) (x := (Int32.ofInt 0)) rfl rfl rfl ?_
                  refine h_zret rfl rfl ci_0 (by omega) (h_Kv ?_)
                  refine h_zeq (tg := 217) (pc' := 161) rfl rfl rfl ci_0 (fun c54 => ?_) (fun c54 => absurd c54 (by omega))
                  refine h_aload_n (pc' := 218) rfl rfl rfl ?_
                  refine h_iconst (pc' := 219) (x := (Int32.ofInt 2)) rfl rfl rfl ?_
                  refine h_put (pc' := 222) rfl rfl rfl rfl rfl rfl ci_2 rfl (h_fgt (E := fun s => s 98 15 = s0 98 15 ∧ s 98 16 = (s0 98 15) ∧ s 98 17 = 2 ∧ s 98 18 = 0 ∧ s 98 13 = s0 98 13) _ (if_98_17 Is14 (by omega)) (Fs14.up rfl) ⟨es14_0, es14_1, rfl, es14_3, es14_4⟩ (fun s55 Is55 Fs55 ⟨es55_0, es55_1, es55_2, es55_3, es55_4⟩ => ?_))
                  clear es14_0 es14_1 es14_2 es14_3 es14_4
                  refine h_aload_n (pc' := 223) rfl rfl rfl ?_
                  refine h_getI (pc' := 226) (v := s0 98 15) rfl rfl rfl rfl rfl es55_0 (fun z56 hz56 => ?_)
                  have tz56 := tf_98_15 I0
                  refine h_aload_n (pc' := 227) rfl rfl rfl ?_
                  refine h_getI (pc' := 230) (v := (s0 98 15)) rfl rfl rfl rfl rfl es55_1 (fun z57 hz57 => ?_)
                  refine h_isub (pc' := 231) rfl rfl hz56 hz57 rfl (by omega) (by omega) (fun z58 hz58 => ?_)
                  refine h_iconst (pc' := 232) (x := (Int32.ofInt 2)) rfl rfl rfl ?_
                  refine h_cle (tg := 269) (pc' := 235) rfl rfl rfl hz58 ci_2 (fun c59 => ?_) (fun c59 => ?_)
                  · exact h_vret rfl rfl (kk _ Is55 Fs55 (by omega) (by omega) (by omega))
                  · refine h_aload_n (pc' := 236) rfl rfl rfl ?_
                    refine h_iconst (pc' := 237) (x := (Int32.ofInt 1)) rfl rfl rfl ?_
                    refine h_call (sp := false) (pc' := 240) (M := [(0, .ref 98), (1, .int (Int32.ofInt 1))]) rfl rfl rfl rfl rfl rfl rfl rfl ?_
                    refine h_aload_n (pc' := 1) rfl rfl rfl ?_
                    refine h_getI (pc' := 4) (v := s0 98 13) rfl rfl rfl rfl rfl es55_4 (fun z60 hz60 => ?_)
                    have tz60 := tf_98_13 I0
                    refine h_zne (tg := 20) (pc' := 7) rfl rfl rfl hz60 (fun c61 => ?_) (fun c61 => ?_)
                    · refine h_vret rfl rfl (h_Kn ?_)
                      refine h_goto (pc' := 269) rfl rfl ?_
                      exact h_vret rfl rfl (kk _ Is55 Fs55 (by omega) (by omega) (by omega))
                    · refine h_aload_n (pc' := 8) rfl rfl rfl ?_
                      refine h_iload_n (pc' := 9) rfl rfl rfl ?_
                      refine h_put (pc' := 12) rfl rfl rfl rfl rfl rfl ci_1 rfl (h_fgt (E := fun s => s 98 15 = s0 98 15 ∧ s 98 16 = (s0 98 15) ∧ s 98 17 = 2 ∧ s 98 18 = 0 ∧ s 98 13 = 1) _ (if_98_13 Is55 (by omega)) (Fs55.up rfl) ⟨es55_0, es55_1, es55_2, es55_3, rfl⟩ (fun s62 Is62 Fs62 ⟨es62_0, es62_1, es62_2, es62_3, es62_4⟩ => ?_))
                      clear es55_0 es55_1 es55_2 es55_3 es55_4
                      refine h_aload_n (pc' := 13) rfl rfl rfl ?_
                      refine h_aload_n (pc' := 14) rfl rfl rfl ?_
                      refine h_getI (pc' := 17) (v := (s0 98 15)) rfl rfl rfl rfl rfl es62_1 (fun z63 hz63 => ?_)
                      refine h_put (pc' := 20) rfl rfl rfl rfl rfl rfl hz63 rfl (h_fgt (E := fun s => s 98 15 = s0 98 15 ∧ s 98 16 = (s0 98 15) ∧ s 98 17 = 2 ∧ s 98 18 = 0 ∧ s 98 13 = 1) _ (if_98_14 Is62 (h_rgv hz63)) (Fs62.up rfl) ⟨es62_0, es62_1, es62_2, es62_3, es62_4⟩ (fun s64 Is64 Fs64 ⟨es64_0, es64_1, es64_2, es64_3, es64_4⟩ => ?_))
                      clear es62_0 es62_1 es62_2 es62_3 es62_4
                      refine h_vret rfl rfl (h_Kn ?_)
                      refine h_goto (pc' := 269) rfl rfl ?_
                      exact h_vret rfl rfl (kk _ Is64 Fs64 (by omega) (by omega) (by omega))
                · refine h_aload_n (pc' := 9) rfl rfl rfl ?_
                  refine h_getR (pc' := 12) rfl rfl rfl rfl rfl ?_
                  refine h_iload_n (pc' := 13) rfl rfl rfl ?_
                  refine h_iald (pc' := 14) (v := σ 102 (s0 98 15)) rfl rfl rfl hz48 (by omega) (by omega) (Fs14 102 _ rfl) (fun z65 hz65 => ?_)
                  have tz65 := ty_102 hI (s0 98 15)
                  refine h_goto (pc' := 19) rfl rfl ?_
                  refine h_iret rfl rfl (h_Kv ?_)
                  refine h_i2l (pc' := 149) rfl rfl hz65 (fun z66 hz66 => ?_)
                  refine h_ldc2 (pc' := 152) (x := (Int64.ofInt 48)) rfl rfl rfl ?_
                  refine h_ldc2 (pc' := 155) (x := (Int64.ofInt 57)) rfl rfl rfl ?_
                  refine h_calls (pc' := 158) (M := [(0, .long z66), (2, .long (Int64.ofInt 48)), (4, .long (Int64.ofInt 57))]) rfl rfl rfl rfl rfl rfl ?_
                  refine h_lload_n (pc' := 1) rfl rfl rfl ?_
                  refine h_lload_n (pc' := 2) rfl rfl rfl ?_
                  refine h_lcmp (pc' := 3) rfl rfl hz66 cl_48 (fun z67 hz67 => ?_)
                  refine h_zlt (tg := 17) (pc' := 6) rfl rfl rfl rfl (fun c68 => absurd c68 (by omega)) (fun c68 => ?_)
                  refine h_lload_n (pc' := 7) rfl rfl rfl ?_
                  refine h_lload (pc' := 9) rfl rfl rfl ?_
                  refine h_lcmp (pc' := 10) rfl rfl hz66 cl_57 (fun z69 hz69 => ?_)
                  refine h_zgt (tg := 17) (pc' := 13) rfl rfl rfl rfl (fun c70 => absurd c70 (by omega)) (fun c70 => ?_)
                  refine h_iconst (pc' := 14) (x := (Int32.ofInt 1)) rfl rfl rfl ?_
                  refine h_goto (pc' := 18) rfl rfl ?_
                  refine h_zret rfl rfl ci_1 (by omega) (h_Kv ?_)
                  refine h_zeq (tg := 217) (pc' := 161) rfl rfl rfl ci_1 (fun c71 => absurd c71 (by omega)) (fun c71 => ?_)
                  refine h_aload_n (pc' := 162) rfl rfl rfl ?_
                  refine h_aload_n (pc' := 163) rfl rfl rfl ?_
                  refine h_getI (pc' := 166) (v := s0 98 15) rfl rfl rfl rfl rfl es14_0 (fun z72 hz72 => ?_)
                  have tz72 := tf_98_15 I0
                  refine h_aload_n (pc' := 167) rfl rfl rfl ?_
                  refine h_getI (pc' := 170) (v := (s0 98 15)) rfl rfl rfl rfl rfl es14_1 (fun z73 hz73 => ?_)
                  refine h_isub (pc' := 171) rfl rfl hz72 hz73 rfl (by omega) (by omega) (fun z74 hz74 => ?_)
                  refine h_iconst (pc' := 172) (x := (Int32.ofInt 2)) rfl rfl rfl ?_
                  refine h_cge (tg := 197) (pc' := 175) rfl rfl rfl hz74 ci_2 (fun c75 => ?_) (fun c75 => ?_)
                  · refine h_aload_n (pc' := 198) rfl rfl rfl ?_
                    refine h_getI (pc' := 201) (v := 0) rfl rfl rfl rfl rfl es14_3 (fun z76 hz76 => ?_)
                    refine h_put (pc' := 204) rfl rfl rfl rfl rfl rfl hz76 rfl (h_fgt (E := fun s => s 98 15 = s0 98 15 ∧ s 98 16 = (s0 98 15) ∧ s 98 17 = s0 98 17 ∧ s 98 18 = 0 ∧ s 98 13 = s0 98 13) _ (if_98_18 Is14 (by omega)) (Fs14.up rfl) ⟨es14_0, es14_1, es14_2, rfl, es14_4⟩ (fun s77 Is77 Fs77 ⟨es77_0, es77_1, es77_2, es77_3, es77_4⟩ => ?_))
                    clear es14_0 es14_1 es14_2 es14_3 es14_4
                    refine h_aload_n (pc' := 205) rfl rfl rfl ?_
                    refine h_dup (pc' := 206) rfl rfl rfl ?_
                    refine h_getI (pc' := 209) (v := s0 98 15) rfl rfl rfl rfl rfl es77_0 (fun z78 hz78 => ?_)
                    have tz78 := tf_98_15 I0
                    refine h_iconst (pc' := 210) (x := (Int32.ofInt 1)) rfl rfl rfl ?_
                    refine h_iadd (pc' := 211) rfl rfl hz78 ci_1 rfl (by omega) (by omega) (fun z79 hz79 => ?_)
                    refine h_put (pc' := 214) rfl rfl rfl rfl rfl rfl hz79 rfl (h_fgt (E := fun s => s 98 15 = ((s0 98 15) + 1) ∧ s 98 16 = (s0 98 15) ∧ s 98 17 = s0 98 17 ∧ s 98 18 = 0 ∧ s 98 13 = s0 98 13) _ (if_98_15 Is77 (by omega)) (Fs77.up rfl) ⟨rfl, es77_1, es77_2, es77_3, es77_4⟩ (fun s80 Is80 Fs80 ⟨es80_0, es80_1, es80_2, es80_3, es80_4⟩ => ?_))
                    clear es77_0 es77_1 es77_2 es77_3 es77_4
                    refine h_goto (pc' := 140) rfl rfl ?_
                    exact h_wk [(0, .ref 98), (1, .int z13)] ⟨rfl, rfl, trivial⟩ (ih.2.2 _ Is80 Fs80 z13 _ hz13 (by omega) (by omega) (by omega) (by omega) (by omega) (by omega) (by omega))
                  · refine h_bipush (pc' := 177) (x := (Int32.ofInt 10)) rfl rfl cb_10 ?_
                    refine h_aload_n (pc' := 178) rfl rfl rfl ?_
                    refine h_getI (pc' := 181) (v := 0) rfl rfl rfl rfl rfl es14_3 (fun z81 hz81 => ?_)
                    refine h_imul (pc' := 182) rfl rfl ci_10 hz81 rfl (by omega) (by omega) (fun z82 hz82 => ?_)
                    refine h_aload_n (pc' := 183) rfl rfl rfl ?_
                    refine h_aload_n (pc' := 184) rfl rfl rfl ?_
                    refine h_getI (pc' := 187) (v := s0 98 15) rfl rfl rfl rfl rfl es14_0 (fun z83 hz83 => ?_)
                    have tz83 := tf_98_15 I0
                    refine h_call (sp := false) (pc' := 190) (M := [(0, .ref 98), (1, .int z83)]) rfl rfl rfl rfl rfl rfl rfl rfl ?_
                    refine h_iload_n (pc' := 1) rfl rfl rfl ?_
                    refine h_aload_n (pc' := 2) rfl rfl rfl ?_
                    refine h_getI (pc' := 5) (v := σ 98 11) rfl rfl rfl rfl rfl (Fs14 98 11 rfl) (fun z84 hz84 => ?_)
                    have tz84 := tf_98_11 hI
                    refine h_cge (tg := 17) (pc' := 8) rfl rfl rfl hz83 hz84 (fun c85 => ?_) (fun c85 => ?_)
                    · refine h_bipush (pc' := 19) (x := (Int32.ofInt (-4))) rfl rfl cb_m4 ?_
                      refine h_iret rfl rfl (h_Kv ?_)
                      refine h_iadd (pc' := 191) rfl rfl hz82 ci_m4 rfl (by omega) (by omega) (fun z86 hz86 => ?_)
                      refine h_bipush (pc' := 193) (x := (Int32.ofInt 48)) rfl rfl cb_48 ?_
                      refine h_isub (pc' := 194) rfl rfl hz86 ci_48 rfl (by omega) (by omega) (fun z87 hz87 => ?_)
                      refine h_goto (pc' := 201) rfl rfl ?_
                      refine h_put (pc' := 204) rfl rfl rfl rfl rfl rfl hz87 rfl (h_fgt (E := fun s => s 98 15 = s0 98 15 ∧ s 98 16 = (s0 98 15) ∧ s 98 17 = s0 98 17 ∧ s 98 18 = (((10 * 0) + (-4)) - 48) ∧ s 98 13 = s0 98 13) _ (if_98_18 Is14 (by omega)) (Fs14.up rfl) ⟨es14_0, es14_1, es14_2, rfl, es14_4⟩ (fun s88 Is88 Fs88 ⟨es88_0, es88_1, es88_2, es88_3, es88_4⟩ => ?_))
                      clear es14_0 es14_1 es14_2 es14_3 es14_4
                      refine h_aload_n (pc' := 205) rfl rfl rfl ?_
                      refine h_dup (pc' := 206) rfl rfl rfl ?_
                      refine h_getI (pc' := 209) (v := s0 98 15) rfl rfl rfl rfl rfl es88_0 (fun z89 hz89 => ?_)
                      have tz89 := tf_98_15 I0
                      refine h_iconst (pc' := 210) (x := (Int32.ofInt 1)) rfl rfl rfl ?_
                      refine h_iadd (pc' := 211) rfl rfl hz89 ci_1 rfl (by omega) (by omega) (fun z90 hz90 => ?_)
                      refine h_put (pc' := 214) rfl rfl rfl rfl rfl rfl hz90 rfl (h_fgt (E := fun s => s 98 15 = ((s0 98 15) + 1) ∧ s 98 16 = (s0 98 15) ∧ s 98 17 = s0 98 17 ∧ s 98 18 = (((10 * 0) + (-4)) - 48) ∧ s 98 13 = s0 98 13) _ (if_98_15 Is88 (by omega)) (Fs88.up rfl) ⟨rfl, es88_1, es88_2, es88_3, es88_4⟩ (fun s91 Is91 Fs91 ⟨es91_0, es91_1, es91_2, es91_3, es91_4⟩ => ?_))
                      clear es88_0 es88_1 es88_2 es88_3 es88_4
                      refine h_goto (pc' := 140) rfl rfl ?_
                      exact h_wk [(0, .ref 98), (1, .int z13)] ⟨rfl, rfl, trivial⟩ (ih.2.2 _ Is91 Fs91 z13 _ hz13 (by omega) (by omega) (by omega) (by omega) (by omega) (by omega) (by omega))
                    · refine h_aload_n (pc' := 9) rfl rfl rfl ?_
                      refine h_getR (pc' := 12) rfl rfl rfl rfl rfl ?_
                      refine h_iload_n (pc' := 13) rfl rfl rfl ?_
                      refine h_iald (pc' := 14) (v := σ 102 (s0 98 15)) rfl rfl rfl hz83 (by omega) (by omega) (Fs14 102 _ rfl) (fun z92 hz92 => ?_)
                      have tz92 := ty_102 hI (s0 98 15)
                      refine h_goto (pc' := 19) rfl rfl ?_
                      refine h_iret rfl rfl (h_Kv ?_)
                      refine h_iadd (pc' := 191) rfl rfl hz82 hz92 rfl (by omega) (by omega) (fun z93 hz93 => ?_)
                      refine h_bipush (pc' := 193) (x := (Int32.ofInt 48)) rfl rfl cb_48 ?_
                      refine h_isub (pc' := 194) rfl rfl hz93 ci_48 rfl (by omega) (by omega) (fun z94 hz94 => ?_)
                      refine h_goto (pc' := 201) rfl rfl ?_
                      refine h_put (pc' := 204) rfl rfl rfl rfl rfl rfl hz94 rfl (h_fgt (E := fun s => s 98 15 = s0 98 15 ∧ s 98 16 = (s0 98 15) ∧ s 98 17 = s0 98 17 ∧ s 98 18 = (((10 * 0) + (σ 102 (s0 98 15))) - 48) ∧ s 98 13 = s0 98 13) _ (if_98_18 Is14 (by omega)) (Fs14.up rfl) ⟨es14_0, es14_1, es14_2, rfl, es14_4⟩ (fun s95 Is95 Fs95 ⟨es95_0, es95_1, es95_2, es95_3, es95_4⟩ => ?_))
                      clear es14_0 es14_1 es14_2 es14_3 es14_4
                      refine h_aload_n (pc' := 205) rfl rfl rfl ?_
                      refine h_dup (pc' := 206) rfl rfl rfl ?_
                      refine h_getI (pc' := 209) (v := s0 98 15) rfl rfl rfl rfl rfl es95_0 (fun z96 hz96 => ?_)
                      have tz96 := tf_98_15 I0
                      refine h_iconst (pc' := 210) (x := (Int32.ofInt 1)) rfl rfl rfl ?_
                      refine h_iadd (pc' := 211) rfl rfl hz96 ci_1 rfl (by omega) (by omega) (fun z97 hz97 => ?_)
                      refine h_put (pc' := 214) rfl rfl rfl rfl rfl rfl hz97 rfl (h_fgt (E := fun s => s 98 15 = ((s0 98 15) + 1) ∧ s 98 16 = (s0 98 15) ∧ s 98 17 = s0 98 17 ∧ s 98 18 = (((10 * 0) + (σ 102 (s0 98 15))) - 48) ∧ s 98 13 = s0 98 13) _ (if_98_15 Is95 (by omega)) (Fs95.up rfl) ⟨rfl, es95_1, es95_2, es95_3, es95_4⟩ (fun s98 Is98 Fs98 ⟨es98_0, es98_1, es98_2, es98_3, es98_4⟩ => ?_))
                      clear es95_0 es95_1 es95_2 es95_3 es95_4
                      refine h_goto (pc' := 140) rfl rfl ?_
                      exact h_wk [(0, .ref 98), (1, .int z13)] ⟨rfl, rfl, trivial⟩ (ih.2.2 _ Is98 Fs98 z13 _ hz13 (by omega) (by omega) (by omega) (by omega) (by omega) (by omega) (by omega))
          · refine h_lload_n (pc' := 7) rfl rfl rfl ?_
            refine h_lload (pc' := 9) rfl rfl rfl ?_
            refine h_lcmp (pc' := 10) rfl rfl hz16 cl_122 (fun z99 hz99 => ?_)
            refine h_zgt (tg := 17) (pc' := 13) rfl rfl rfl rfl (fun c100 => ?_) (fun c100 => ?_)
            · refine h_iconst (pc' := 18) (x := (Int32.ofInt 0)) rfl rfl rfl ?_
              refine h_zret rfl rfl ci_0 (by omega) (h_Kv ?_)
              refine h_zeq (tg := 126) (pc' := 84) rfl rfl rfl ci_0 (fun c101 => ?_) (fun c101 => absurd c101 (by omega))
              refine h_iload_n (pc' := 127) rfl rfl rfl ?_
              refine h_i2l (pc' := 128) rfl rfl hz13 (fun z102 hz102 => ?_)
              refine h_ldc2 (pc' := 131) (x := (Int64.ofInt 48)) rfl rfl rfl ?_
              refine h_ldc2 (pc' := 134) (x := (Int64.ofInt 57)) rfl rfl rfl ?_
              refine h_calls (pc' := 137) (M := [(0, .long z102), (2, .long (Int64.ofInt 48)), (4, .long (Int64.ofInt 57))]) rfl rfl rfl rfl rfl rfl ?_
              refine h_lload_n (pc' := 1) rfl rfl rfl ?_
              refine h_lload_n (pc' := 2) rfl rfl rfl ?_
              refine h_lcmp (pc' := 3) rfl rfl hz102 cl_48 (fun z103 hz103 => ?_)
              refine h_zlt (tg := 17) (pc' := 6) rfl rfl rfl rfl (fun c104 => absurd c104 (by omega)) (fun c104 => ?_)
              refine h_lload_n (pc' := 7) rfl rfl rfl ?_
              refine h_lload (pc' := 9) rfl rfl rfl ?_
              refine h_lcmp (pc' := 10) rfl rfl hz102 cl_57 (fun z105 hz105 => ?_)
              refine h_zgt (tg := 17) (pc' := 13) rfl rfl rfl rfl (fun c106 => ?_) (fun c106 => absurd c106 (by omega))
              refine h_iconst (pc' := 18) (x := (Int32.ofInt 0)) rfl rfl rfl ?_
              refine h_zret rfl rfl ci_0 (by omega) (h_Kv ?_)
              refine h_zeq (tg := 243) (pc' := 140) rfl rfl rfl ci_0 (fun c107 => ?_) (fun c107 => absurd c107 (by omega))
              refine h_aload_n (pc' := 244) rfl rfl rfl ?_
              refine h_iconst (pc' := 245) (x := (Int32.ofInt 3)) rfl rfl rfl ?_
              refine h_put (pc' := 248) rfl rfl rfl rfl rfl rfl ci_3 rfl (h_fgt (E := fun s => s 98 15 = s0 98 15 ∧ s 98 16 = (s0 98 15) ∧ s 98 17 = 3 ∧ s 98 18 = 0 ∧ s 98 13 = s0 98 13) _ (if_98_17 Is14 (by omega)) (Fs14.up rfl) ⟨es14_0, es14_1, rfl, es14_3, es14_4⟩ (fun s108 Is108 Fs108 ⟨es108_0, es108_1, es108_2, es108_3, es108_4⟩ => ?_))
              clear es14_0 es14_1 es14_2 es14_3 es14_4
              refine h_aload_n (pc' := 249) rfl rfl rfl ?_
              refine h_dup (pc' := 250) rfl rfl rfl ?_
              refine h_getI (pc' := 253) (v := s0 98 15) rfl rfl rfl rfl rfl es108_0 (fun z109 hz109 => ?_)
              have tz109 := tf_98_15 I0
              refine h_iconst (pc' := 254) (x := (Int32.ofInt 1)) rfl rfl rfl ?_
              refine h_iadd (pc' := 255) rfl rfl hz109 ci_1 rfl (by omega) (by omega) (fun z110 hz110 => ?_)
              refine h_put (pc' := 258) rfl rfl rfl rfl rfl rfl hz110 rfl (h_fgt (E := fun s => s 98 15 = ((s0 98 15) + 1) ∧ s 98 16 = (s0 98 15) ∧ s 98 17 = 3 ∧ s 98 18 = 0 ∧ s 98 13 = s0 98 13) _ (if_98_15 Is108 (by omega)) (Fs108.up rfl) ⟨rfl, es108_1, es108_2, es108_3, es108_4⟩ (fun s111 Is111 Fs111 ⟨es111_0, es111_1, es111_2, es111_3, es111_4⟩ => ?_))
              clear es108_0 es108_1 es108_2 es108_3 es108_4
              refine h_iload_n (pc' := 259) rfl rfl rfl ?_
              refine h_bipush (pc' := 261) (x := (Int32.ofInt 59)) rfl rfl cb_59 ?_
              refine h_ceq (tg := 269) (pc' := 264) rfl rfl rfl hz13 ci_59 (fun c112 => absurd c112 (by omega)) (fun c112 => ?_)
              refine h_aload_n (pc' := 265) rfl rfl rfl ?_
              refine h_iconst (pc' := 266) (x := (Int32.ofInt 1)) rfl rfl rfl ?_
              refine h_call (sp := false) (pc' := 269) (M := [(0, .ref 98), (1, .int (Int32.ofInt 1))]) rfl rfl rfl rfl rfl rfl rfl rfl ?_
              refine h_aload_n (pc' := 1) rfl rfl rfl ?_
              refine h_getI (pc' := 4) (v := s0 98 13) rfl rfl rfl rfl rfl es111_4 (fun z113 hz113 => ?_)
              have tz113 := tf_98_13 I0
              refine h_zne (tg := 20) (pc' := 7) rfl rfl rfl hz113 (fun c114 => ?_) (fun c114 => ?_)
              · refine h_vret rfl rfl (h_Kn ?_)
                exact h_vret rfl rfl (kk _ Is111 Fs111 (by omega) (by omega) (by omega))
              · refine h_aload_n (pc' := 8) rfl rfl rfl ?_
                refine h_iload_n (pc' := 9) rfl rfl rfl ?_
                refine h_put (pc' := 12) rfl rfl rfl rfl rfl rfl ci_1 rfl (h_fgt (E := fun s => s 98 15 = ((s0 98 15) + 1) ∧ s 98 16 = (s0 98 15) ∧ s 98 17 = 3 ∧ s 98 18 = 0 ∧ s 98 13 = 1) _ (if_98_13 Is111 (by omega)) (Fs111.up rfl) ⟨es111_0, es111_1, es111_2, es111_3, rfl⟩ (fun s115 Is115 Fs115 ⟨es115_0, es115_1, es115_2, es115_3, es115_4⟩ => ?_))
                clear es111_0 es111_1 es111_2 es111_3 es111_4
                refine h_aload_n (pc' := 13) rfl rfl rfl ?_
                refine h_aload_n (pc' := 14) rfl rfl rfl ?_
                refine h_getI (pc' := 17) (v := (s0 98 15)) rfl rfl rfl rfl rfl es115_1 (fun z116 hz116 => ?_)
                refine h_put (pc' := 20) rfl rfl rfl rfl rfl rfl hz116 rfl (h_fgt (E := fun s => s 98 15 = ((s0 98 15) + 1) ∧ s 98 16 = (s0 98 15) ∧ s 98 17 = 3 ∧ s 98 18 = 0 ∧ s 98 13 = 1) _ (if_98_14 Is115 (h_rgv hz116)) (Fs115.up rfl) ⟨es115_0, es115_1, es115_2, es115_3, es115_4⟩ (fun s117 Is117 Fs117 ⟨es117_0, es117_1, es117_2, es117_3, es117_4⟩ => ?_))
                clear es115_0 es115_1 es115_2 es115_3 es115_4
                refine h_vret rfl rfl (h_Kn ?_)
                exact h_vret rfl rfl (kk _ Is117 Fs117 (by omega) (by omega) (by omega))
            · refine h_iconst (pc' := 14) (x := (Int32.ofInt 1)) rfl rfl rfl ?_
              refine h_goto (pc' := 18) rfl rfl ?_
              refine h_zret rfl rfl ci_1 (by omega) (h_Kv ?_)
              refine h_zeq (tg := 126) (pc' := 84) rfl rfl rfl ci_1 (fun c118 => absurd c118 (by omega)) (fun c118 => ?_)
              refine h_aload_n (pc' := 85) rfl rfl rfl ?_
              refine h_aload_n (pc' := 86) rfl rfl rfl ?_
              refine h_getI (pc' := 89) (v := s0 98 15) rfl rfl rfl rfl rfl es14_0 (fun z119 hz119 => ?_)
              have tz119 := tf_98_15 I0
              refine h_call (sp := false) (pc' := 92) (M := [(0, .ref 98), (1, .int z119)]) rfl rfl rfl rfl rfl rfl rfl rfl ?_
              refine h_iload_n (pc' := 1) rfl rfl rfl ?_
              refine h_aload_n (pc' := 2) rfl rfl rfl ?_
              refine h_getI (pc' := 5) (v := σ 98 11) rfl rfl rfl rfl rfl (Fs14 98 11 rfl) (fun z120 hz120 => ?_)
              have tz120 := tf_98_11 hI
              refine h_cge (tg := 17) (pc' := 8) rfl rfl rfl hz119 hz120 (fun c121 => ?_) (fun c121 => ?_)
              · refine h_bipush (pc' := 19) (x := (Int32.ofInt (-4))) rfl rfl cb_m4 ?_
                refine h_iret rfl rfl (h_Kv ?_)
                refine h_i2l (pc' := 93) rfl rfl ci_m4 (fun z122 hz122 => ?_)
                refine h_ldc2 (pc' := 96) (x := (Int64.ofInt 97)) rfl rfl rfl ?_
                refine h_ldc2 (pc' := 99) (x := (Int64.ofInt 122)) rfl rfl rfl ?_
                refine h_calls (pc' := 102) (M := [(0, .long z122), (2, .long (Int64.ofInt 97)), (4, .long (Int64.ofInt 122))]) rfl rfl rfl rfl rfl rfl ?_
                refine h_lload_n (pc' := 1) rfl rfl rfl ?_
                refine h_lload_n (pc' := 2) rfl rfl rfl ?_
                refine h_lcmp (pc' := 3) rfl rfl hz122 cl_97 (fun z123 hz123 => ?_)
                refine h_zlt (tg := 17) (pc' := 6) rfl rfl rfl rfl (fun c124 => ?_) (fun c124 => absurd c124 (by omega))
                refine h_iconst (pc' := 18) (x := (Int32.ofInt 0)) rfl rfl rfl ?_
                refine h_zret rfl rfl ci_0 (by omega) (h_Kv ?_)
                refine h_zeq (tg := 118) (pc' := 105) rfl rfl rfl ci_0 (fun c125 => ?_) (fun c125 => absurd c125 (by omega))
                refine h_aload_n (pc' := 119) rfl rfl rfl ?_
                refine h_iconst (pc' := 120) (x := (Int32.ofInt 1)) rfl rfl rfl ?_
                refine h_put (pc' := 123) rfl rfl rfl rfl rfl rfl ci_1 rfl (h_fgt (E := fun s => s 98 15 = s0 98 15 ∧ s 98 16 = (s0 98 15) ∧ s 98 17 = 1 ∧ s 98 18 = 0 ∧ s 98 13 = s0 98 13) _ (if_98_17 Is14 (by omega)) (Fs14.up rfl) ⟨es14_0, es14_1, rfl, es14_3, es14_4⟩ (fun s126 Is126 Fs126 ⟨es126_0, es126_1, es126_2, es126_3, es126_4⟩ => ?_))
                clear es14_0 es14_1 es14_2 es14_3 es14_4
                refine h_goto (pc' := 269) rfl rfl ?_
                exact h_vret rfl rfl (kk _ Is126 Fs126 (by omega) (by omega) (by omega))
              · refine h_aload_n (pc' := 9) rfl rfl rfl ?_
                refine h_getR (pc' := 12) rfl rfl rfl rfl rfl ?_
                refine h_iload_n (pc' := 13) rfl rfl rfl ?_
                refine h_iald (pc' := 14) (v := σ 102 (s0 98 15)) rfl rfl rfl hz119 (by omega) (by omega) (Fs14 102 _ rfl) (fun z127 hz127 => ?_)
                have tz127 := ty_102 hI (s0 98 15)
                refine h_goto (pc' := 19) rfl rfl ?_
                refine h_iret rfl rfl (h_Kv ?_)
                refine h_i2l (pc' := 93) rfl rfl hz127 (fun z128 hz128 => ?_)
                refine h_ldc2 (pc' := 96) (x := (Int64.ofInt 97)) rfl rfl rfl ?_
                refine h_ldc2 (pc' := 99) (x := (Int64.ofInt 122)) rfl rfl rfl ?_
                refine h_calls (pc' := 102) (M := [(0, .long z128), (2, .long (Int64.ofInt 97)), (4, .long (Int64.ofInt 122))]) rfl rfl rfl rfl rfl rfl ?_
                refine h_lload_n (pc' := 1) rfl rfl rfl ?_
                refine h_lload_n (pc' := 2) rfl rfl rfl ?_
                refine h_lcmp (pc' := 3) rfl rfl hz128 cl_97 (fun z129 hz129 => ?_)
                refine h_zlt (tg := 17) (pc' := 6) rfl rfl rfl rfl (fun c130 => absurd c130 (by omega)) (fun c130 => ?_)
                refine h_lload_n (pc' := 7) rfl rfl rfl ?_
                refine h_lload (pc' := 9) rfl rfl rfl ?_
                refine h_lcmp (pc' := 10) rfl rfl hz128 cl_122 (fun z131 hz131 => ?_)
                refine h_zgt (tg := 17) (pc' := 13) rfl rfl rfl rfl (fun c132 => absurd c132 (by omega)) (fun c132 => ?_)
                refine h_iconst (pc' := 14) (x := (Int32.ofInt 1)) rfl rfl rfl ?_
                refine h_goto (pc' := 18) rfl rfl ?_
                refine h_zret rfl rfl ci_1 (by omega) (h_Kv ?_)
                refine h_zeq (tg := 118) (pc' := 105) rfl rfl rfl ci_1 (fun c133 => absurd c133 (by omega)) (fun c133 => ?_)
                refine h_aload_n (pc' := 106) rfl rfl rfl ?_
                refine h_dup (pc' := 107) rfl rfl rfl ?_
                refine h_getI (pc' := 110) (v := s0 98 15) rfl rfl rfl rfl rfl es14_0 (fun z134 hz134 => ?_)
                have tz134 := tf_98_15 I0
                refine h_iconst (pc' := 111) (x := (Int32.ofInt 1)) rfl rfl rfl ?_
                refine h_iadd (pc' := 112) rfl rfl hz134 ci_1 rfl (by omega) (by omega) (fun z135 hz135 => ?_)
                refine h_put (pc' := 115) rfl rfl rfl rfl rfl rfl hz135 rfl (h_fgt (E := fun s => s 98 15 = ((s0 98 15) + 1) ∧ s 98 16 = (s0 98 15) ∧ s 98 17 = s0 98 17 ∧ s 98 18 = 0 ∧ s 98 13 = s0 98 13) _ (if_98_15 Is14 (by omega)) (Fs14.up rfl) ⟨rfl, es14_1, es14_2, es14_3, es14_4⟩ (fun s136 Is136 Fs136 ⟨es136_0, es136_1, es136_2, es136_3, es136_4⟩ => ?_))
                clear es14_0 es14_1 es14_2 es14_3 es14_4
                refine h_goto (pc' := 84) rfl rfl ?_
                exact h_wk [(0, .ref 98), (1, .int z13)] ⟨rfl, rfl, trivial⟩ (ih.2.1 _ Is136 Fs136 z13 _ hz13 (by omega) (by omega) (by omega) (by omega) (by omega) (by omega))
      · refine h_aload_n (pc' := 9) rfl rfl rfl ?_
        refine h_getR (pc' := 12) rfl rfl rfl rfl rfl ?_
        refine h_iload_n (pc' := 13) rfl rfl rfl ?_
        refine h_iald (pc' := 14) (v := σ 102 (s0 98 15)) rfl rfl rfl hz1 (by omega) (by omega) (F0_ 102 _ rfl) (fun z137 hz137 => ?_)
        have tz137 := ty_102 hI (s0 98 15)
        refine h_goto (pc' := 19) rfl rfl ?_
        refine h_iret rfl rfl (h_Kv ?_)
        refine h_bipush (pc' := 18) (x := (Int32.ofInt 32)) rfl rfl cb_32 ?_
        refine h_cne (tg := 34) (pc' := 21) rfl rfl rfl hz137 ci_32 (fun c138 => ?_) (fun c138 => ?_)
        · refine h_aload_n (pc' := 35) rfl rfl rfl ?_
          refine h_aload_n (pc' := 36) rfl rfl rfl ?_
          refine h_getI (pc' := 39) (v := s0 98 15) rfl rfl rfl rfl rfl rfl (fun z139 hz139 => ?_)
          have tz139 := tf_98_15 I0
          refine h_put (pc' := 42) rfl rfl rfl rfl rfl rfl hz139 rfl (h_fgt (E := fun s => s 98 15 = s0 98 15 ∧ s 98 16 = (s0 98 15) ∧ s 98 17 = s0 98 17 ∧ s 98 18 = s0 98 18 ∧ s 98 13 = s0 98 13) _ (if_98_16 I0 (by omega)) (F0_.up rfl) ⟨rfl, rfl, rfl, rfl, rfl⟩ (fun s140 Is140 Fs140 ⟨es140_0, es140_1, es140_2, es140_3, es140_4⟩ => ?_))
          refine h_aload_n (pc' := 43) rfl rfl rfl ?_
          refine h_aload_n (pc' := 44) rfl rfl rfl ?_
          refine h_getI (pc' := 47) (v := s0 98 15) rfl rfl rfl rfl rfl es140_0 (fun z141 hz141 => ?_)
          have tz141 := tf_98_15 I0
          refine h_call (sp := false) (pc' := 50) (M := [(0, .ref 98), (1, .int z141)]) rfl rfl rfl rfl rfl rfl rfl rfl ?_
          refine h_iload_n (pc' := 1) rfl rfl rfl ?_
          refine h_aload_n (pc' := 2) rfl rfl rfl ?_
          refine h_getI (pc' := 5) (v := σ 98 11) rfl rfl rfl rfl rfl (Fs140 98 11 rfl) (fun z142 hz142 => ?_)
          have tz142 := tf_98_11 hI
          refine h_cge (tg := 17) (pc' := 8) rfl rfl rfl hz141 hz142 (fun c143 => ?_) (fun c143 => ?_)
          · refine h_bipush (pc' := 19) (x := (Int32.ofInt (-4))) rfl rfl cb_m4 ?_
            refine h_iret rfl rfl (h_Kv ?_)
            refine h_istore_n (pc' := 51) (M := [(1, .int (Int32.ofInt (-4))), (0, .ref 98)]) rfl rfl rfl rfl ?_
            refine h_aload_n (pc' := 52) rfl rfl rfl ?_
            refine h_iconst (pc' := 53) (x := (Int32.ofInt 0)) rfl rfl rfl ?_
            refine h_put (pc' := 56) rfl rfl rfl rfl rfl rfl ci_0 rfl (h_fgt (E := fun s => s 98 15 = s0 98 15 ∧ s 98 16 = (s0 98 15) ∧ s 98 17 = s0 98 17 ∧ s 98 18 = 0 ∧ s 98 13 = s0 98 13) _ (if_98_18 Is140 (by omega)) (Fs140.up rfl) ⟨es140_0, es140_1, es140_2, rfl, es140_4⟩ (fun s144 Is144 Fs144 ⟨es144_0, es144_1, es144_2, es144_3, es144_4⟩ => ?_))
            clear es140_0 es140_1 es140_2 es140_3 es140_4
            refine h_iload_n (pc' := 57) rfl rfl rfl ?_
            refine h_bipush (pc' := 59) (x := (Int32.ofInt (-4))) rfl rfl cb_m4 ?_
            refine h_cne (tg := 70) (pc' := 62) rfl rfl rfl ci_m4 ci_m4 (fun c145 => absurd c145 (by omega)) (fun c145 => ?_)
            refine h_aload_n (pc' := 63) rfl rfl rfl ?_
            refine h_iconst (pc' := 64) (x := (Int32.ofInt 0)) rfl rfl rfl ?_
            refine h_put (pc' := 67) rfl rfl rfl rfl rfl rfl ci_0 rfl (h_fgt (E := fun s => s 98 15 = s0 98 15 ∧ s 98 16 = (s0 98 15) ∧ s 98 17 = 0 ∧ s 98 18 = 0 ∧ s 98 13 = s0 98 13) _ (if_98_17 Is144 (by omega)) (Fs144.up rfl) ⟨es144_0, es144_1, rfl, es144_3, es144_4⟩ (fun s146 Is146 Fs146 ⟨es146_0, es146_1, es146_2, es146_3, es146_4⟩ => ?_))
            clear es144_0 es144_1 es144_2 es144_3 es144_4
            refine h_goto (pc' := 269) rfl rfl ?_
            exact h_vret rfl rfl (kk _ Is146 Fs146 (by omega) (by omega) (by omega))
          · refine h_aload_n (pc' := 9) rfl rfl rfl ?_
            refine h_getR (pc' := 12) rfl rfl rfl rfl rfl ?_
            refine h_iload_n (pc' := 13) rfl rfl rfl ?_
            refine h_iald (pc' := 14) (v := σ 102 (s0 98 15)) rfl rfl rfl hz141 (by omega) (by omega) (Fs140 102 _ rfl) (fun z147 hz147 => ?_)
            have tz147 := ty_102 hI (s0 98 15)
            refine h_goto (pc' := 19) rfl rfl ?_
            refine h_iret rfl rfl (h_Kv ?_)
            refine h_istore_n (pc' := 51) (M := [(1, .int z147), (0, .ref 98)]) rfl rfl rfl rfl ?_
            refine h_aload_n (pc' := 52) rfl rfl rfl ?_
            refine h_iconst (pc' := 53) (x := (Int32.ofInt 0)) rfl rfl rfl ?_
            refine h_put (pc' := 56) rfl rfl rfl rfl rfl rfl ci_0 rfl (h_fgt (E := fun s => s 98 15 = s0 98 15 ∧ s 98 16 = (s0 98 15) ∧ s 98 17 = s0 98 17 ∧ s 98 18 = 0 ∧ s 98 13 = s0 98 13) _ (if_98_18 Is140 (by omega)) (Fs140.up rfl) ⟨es140_0, es140_1, es140_2, rfl, es140_4⟩ (fun s148 Is148 Fs148 ⟨es148_0, es148_1, es148_2, es148_3, es148_4⟩ => ?_))
            clear es140_0 es140_1 es140_2 es140_3 es140_4
            refine h_iload_n (pc' := 57) rfl rfl rfl ?_
            refine h_bipush (pc' := 59) (x := (Int32.ofInt (-4))) rfl rfl cb_m4 ?_
            refine h_cne (tg := 70) (pc' := 62) rfl rfl rfl hz147 ci_m4 (fun c149 => ?_) (fun c149 => absurd c149 (by omega))
            refine h_iload_n (pc' := 71) rfl rfl rfl ?_
            refine h_i2l (pc' := 72) rfl rfl hz147 (fun z150 hz150 => ?_)
            refine h_ldc2 (pc' := 75) (x := (Int64.ofInt 97)) rfl rfl rfl ?_
            refine h_ldc2 (pc' := 78) (x := (Int64.ofInt 122)) rfl rfl rfl ?_
            refine h_calls (pc' := 81) (M := [(0, .long z150), (2, .long (Int64.ofInt 97)), (4, .long (Int64.ofInt 122))]) rfl rfl rfl rfl rfl rfl ?_
            refine h_lload_n (pc' := 1) rfl rfl rfl ?_
            refine h_lload_n (pc' := 2) rfl rfl rfl ?_
            refine h_lcmp (pc' := 3) rfl rfl hz150 cl_97 (fun z151 hz151 => ?_)
            refine h_zlt (tg := 17) (pc' := 6) rfl rfl rfl rfl (fun c152 => ?_) (fun c152 => ?_)
            · refine h_iconst (pc' := 18) (x := (Int32.ofInt 0)) rfl rfl rfl ?_
              refine h_zret rfl rfl ci_0 (by omega) (h_Kv ?_)
              refine h_zeq (tg := 126) (pc' := 84) rfl rfl rfl ci_0 (fun c153 => ?_) (fun c153 => absurd c153 (by omega))
              refine h_iload_n (pc' := 127) rfl rfl rfl ?_
              refine h_i2l (pc' := 128) rfl rfl hz147 (fun z154 hz154 => ?_)
              refine h_ldc2 (pc' := 131) (x := (Int64.ofInt 48)) rfl rfl rfl ?_
              refine h_ldc2 (pc' := 134) (x := (Int64.ofInt 57)) rfl rfl rfl ?_
              refine h_calls (pc' := 137) (M := [(0, .long z154), (2, .long (Int64.ofInt 48)), (4, .long (Int64.ofInt 57))]) rfl rfl rfl rfl rfl rfl ?_
              refine h_lload_n (pc' := 1) rfl rfl rfl ?_
              refine h_lload_n (pc' := 2) rfl rfl rfl ?_
              refine h_lcmp (pc' := 3) rfl rfl hz154 cl_48 (fun z155 hz155 => ?_)
              refine h_zlt (tg := 17) (pc' := 6) rfl rfl rfl rfl (fun c156 => ?_) (fun c156 => ?_)
              · refine h_iconst (pc' := 18) (x := (Int32.ofInt 0)) rfl rfl rfl ?_
                refine h_zret rfl rfl ci_0 (by omega) (h_Kv ?_)
                refine h_zeq (tg := 243) (pc' := 140) rfl rfl rfl ci_0 (fun c157 => ?_) (fun c157 => absurd c157 (by omega))
                refine h_aload_n (pc' := 244) rfl rfl rfl ?_
                refine h_iconst (pc' := 245) (x := (Int32.ofInt 3)) rfl rfl rfl ?_
                refine h_put (pc' := 248) rfl rfl rfl rfl rfl rfl ci_3 rfl (h_fgt (E := fun s => s 98 15 = s0 98 15 ∧ s 98 16 = (s0 98 15) ∧ s 98 17 = 3 ∧ s 98 18 = 0 ∧ s 98 13 = s0 98 13) _ (if_98_17 Is148 (by omega)) (Fs148.up rfl) ⟨es148_0, es148_1, rfl, es148_3, es148_4⟩ (fun s158 Is158 Fs158 ⟨es158_0, es158_1, es158_2, es158_3, es158_4⟩ => ?_))
                clear es148_0 es148_1 es148_2 es148_3 es148_4
                refine h_aload_n (pc' := 249) rfl rfl rfl ?_
                refine h_dup (pc' := 250) rfl rfl rfl ?_
                refine h_getI (pc' := 253) (v := s0 98 15) rfl rfl rfl rfl rfl es158_0 (fun z159 hz159 => ?_)
                have tz159 := tf_98_15 I0
                refine h_iconst (pc' := 254) (x := (Int32.ofInt 1)) rfl rfl rfl ?_
                refine h_iadd (pc' := 255) rfl rfl hz159 ci_1 rfl (by omega) (by omega) (fun z160 hz160 => ?_)
                refine h_put (pc' := 258) rfl rfl rfl rfl rfl rfl hz160 rfl (h_fgt (E := fun s => s 98 15 = ((s0 98 15) + 1) ∧ s 98 16 = (s0 98 15) ∧ s 98 17 = 3 ∧ s 98 18 = 0 ∧ s 98 13 = s0 98 13) _ (if_98_15 Is158 (by omega)) (Fs158.up rfl) ⟨rfl, es158_1, es158_2, es158_3, es158_4⟩ (fun s161 Is161 Fs161 ⟨es161_0, es161_1, es161_2, es161_3, es161_4⟩ => ?_))
                clear es158_0 es158_1 es158_2 es158_3 es158_4
                refine h_iload_n (pc' := 259) rfl rfl rfl ?_
                refine h_bipush (pc' := 261) (x := (Int32.ofInt 59)) rfl rfl cb_59 ?_
                refine h_ceq (tg := 269) (pc' := 264) rfl rfl rfl hz147 ci_59 (fun c162 => absurd c162 (by omega)) (fun c162 => ?_)
                refine h_aload_n (pc' := 265) rfl rfl rfl ?_
                refine h_iconst (pc' := 266) (x := (Int32.ofInt 1)) rfl rfl rfl ?_
                refine h_call (sp := false) (pc' := 269) (M := [(0, .ref 98), (1, .int (Int32.ofInt 1))]) rfl rfl rfl rfl rfl rfl rfl rfl ?_
                refine h_aload_n (pc' := 1) rfl rfl rfl ?_
                refine h_getI (pc' := 4) (v := s0 98 13) rfl rfl rfl rfl rfl es161_4 (fun z163 hz163 => ?_)
                have tz163 := tf_98_13 I0
                refine h_zne (tg := 20) (pc' := 7) rfl rfl rfl hz163 (fun c164 => ?_) (fun c164 => ?_)
                · refine h_vret rfl rfl (h_Kn ?_)
                  exact h_vret rfl rfl (kk _ Is161 Fs161 (by omega) (by omega) (by omega))
                · refine h_aload_n (pc' := 8) rfl rfl rfl ?_
                  refine h_iload_n (pc' := 9) rfl rfl rfl ?_
                  refine h_put (pc' := 12) rfl rfl rfl rfl rfl rfl ci_1 rfl (h_fgt (E := fun s => s 98 15 = ((s0 98 15) + 1) ∧ s 98 16 = (s0 98 15) ∧ s 98 17 = 3 ∧ s 98 18 = 0 ∧ s 98 13 = 1) _ (if_98_13 Is161 (by omega)) (Fs161.up rfl) ⟨es161_0, es161_1, es161_2, es161_3, rfl⟩ (fun s165 Is165 Fs165 ⟨es165_0, es165_1, es165_2, es165_3, es165_4⟩ => ?_))
                  clear es161_0 es161_1 es161_2 es161_3 es161_4
                  refine h_aload_n (pc' := 13) rfl rfl rfl ?_
                  refine h_aload_n (pc' := 14) rfl rfl rfl ?_
                  refine h_getI (pc' := 17) (v := (s0 98 15)) rfl rfl rfl rfl rfl es165_1 (fun z166 hz166 => ?_)
                  refine h_put (pc' := 20) rfl rfl rfl rfl rfl rfl hz166 rfl (h_fgt (E := fun s => s 98 15 = ((s0 98 15) + 1) ∧ s 98 16 = (s0 98 15) ∧ s 98 17 = 3 ∧ s 98 18 = 0 ∧ s 98 13 = 1) _ (if_98_14 Is165 (h_rgv hz166)) (Fs165.up rfl) ⟨es165_0, es165_1, es165_2, es165_3, es165_4⟩ (fun s167 Is167 Fs167 ⟨es167_0, es167_1, es167_2, es167_3, es167_4⟩ => ?_))
                  clear es165_0 es165_1 es165_2 es165_3 es165_4
                  refine h_vret rfl rfl (h_Kn ?_)
                  exact h_vret rfl rfl (kk _ Is167 Fs167 (by omega) (by omega) (by omega))
              · refine h_lload_n (pc' := 7) rfl rfl rfl ?_
                refine h_lload (pc' := 9) rfl rfl rfl ?_
                refine h_lcmp (pc' := 10) rfl rfl hz154 cl_57 (fun z168 hz168 => ?_)
                refine h_zgt (tg := 17) (pc' := 13) rfl rfl rfl rfl (fun c169 => ?_) (fun c169 => ?_)
                · refine h_iconst (pc' := 18) (x := (Int32.ofInt 0)) rfl rfl rfl ?_
                  refine h_zret rfl rfl ci_0 (by omega) (h_Kv ?_)
                  refine h_zeq (tg := 243) (pc' := 140) rfl rfl rfl ci_0 (fun c170 => ?_) (fun c170 => absurd c170 (by omega))
                  refine h_aload_n (pc' := 244) rfl rfl rfl ?_
                  refine h_iconst (pc' := 245) (x := (Int32.ofInt 3)) rfl rfl rfl ?_
                  refine h_put (pc' := 248) rfl rfl rfl rfl rfl rfl ci_3 rfl (h_fgt (E := fun s => s 98 15 = s0 98 15 ∧ s 98 16 = (s0 98 15) ∧ s 98 17 = 3 ∧ s 98 18 = 0 ∧ s 98 13 = s0 98 13) _ (if_98_17 Is148 (by omega)) (Fs148.up rfl) ⟨es148_0, es148_1, rfl, es148_3, es148_4⟩ (fun s171 Is171 Fs171 ⟨es171_0, es171_1, es171_2, es171_3, es171_4⟩ => ?_))
                  clear es148_0 es148_1 es148_2 es148_3 es148_4
                  refine h_aload_n (pc' := 249) rfl rfl rfl ?_
                  refine h_dup (pc' := 250) rfl rfl rfl ?_
                  refine h_getI (pc' := 253) (v := s0 98 15) rfl rfl rfl rfl rfl es171_0 (fun z172 hz172 => ?_)
                  have tz172 := tf_98_15 I0
                  refine h_iconst (pc' := 254) (x := (Int32.ofInt 1)) rfl rfl rfl ?_
                  refine h_iadd (pc' := 255) rfl rfl hz172 ci_1 rfl (by omega) (by omega) (fun z173 hz173 => ?_)
                  refine h_put (pc' := 258) rfl rfl rfl rfl rfl rfl hz173 rfl (h_fgt (E := fun s => s 98 15 = ((s0 98 15) + 1) ∧ s 98 16 = (s0 98 15) ∧ s 98 17 = 3 ∧ s 98 18 = 0 ∧ s 98 13 = s0 98 13) _ (if_98_15 Is171 (by omega)) (Fs171.up rfl) ⟨rfl, es171_1, es171_2, es171_3, es171_4⟩ (fun s174 Is174 Fs174 ⟨es174_0, es174_1, es174_2, es174_3, es174_4⟩ => ?_))
                  clear es171_0 es171_1 es171_2 es171_3 es171_4
                  refine h_iload_n (pc' := 259) rfl rfl rfl ?_
                  refine h_bipush (pc' := 261) (x := (Int32.ofInt 59)) rfl rfl cb_59 ?_
                  refine h_ceq (tg := 269) (pc' := 264) rfl rfl rfl hz147 ci_59 (fun c175 => ?_) (fun c175 => ?_)
                  · exact h_vret rfl rfl (kk _ Is174 Fs174 (by omega) (by omega) (by omega))
                  · refine h_aload_n (pc' := 265) rfl rfl rfl ?_
                    refine h_iconst (pc' := 266) (x := (Int32.ofInt 1)) rfl rfl rfl ?_
                    refine h_call (sp := false) (pc' := 269) (M := [(0, .ref 98), (1, .int (Int32.ofInt 1))]) rfl rfl rfl rfl rfl rfl rfl rfl ?_
                    refine h_aload_n (pc' := 1) rfl rfl rfl ?_
                    refine h_getI (pc' := 4) (v := s0 98 13) rfl rfl rfl rfl rfl es174_4 (fun z176 hz176 => ?_)
                    have tz176 := tf_98_13 I0
                    refine h_zne (tg := 20) (pc' := 7) rfl rfl rfl hz176 (fun c177 => ?_) (fun c177 => ?_)
                    · refine h_vret rfl rfl (h_Kn ?_)
                      exact h_vret rfl rfl (kk _ Is174 Fs174 (by omega) (by omega) (by omega))
                    · refine h_aload_n (pc' := 8) rfl rfl rfl ?_
                      refine h_iload_n (pc' := 9) rfl rfl rfl ?_
                      refine h_put (pc' := 12) rfl rfl rfl rfl rfl rfl ci_1 rfl (h_fgt (E := fun s => s 98 15 = ((s0 98 15) + 1) ∧ s 98 16 = (s0 98 15) ∧ s 98 17 = 3 ∧ s 98 18 = 0 ∧ s 98 13 = 1) _ (if_98_13 Is174 (by omega)) (Fs174.up rfl) ⟨es174_0, es174_1, es174_2, es174_3, rfl⟩ (fun s178 Is178 Fs178 ⟨es178_0, es178_1, es178_2, es178_3, es178_4⟩ => ?_))
                      clear es174_0 es174_1 es174_2 es174_3 es174_4
                      refine h_aload_n (pc' := 13) rfl rfl rfl ?_
                      refine h_aload_n (pc' := 14) rfl rfl rfl ?_
                      refine h_getI (pc' := 17) (v := (s0 98 15)) rfl rfl rfl rfl rfl es178_1 (fun z179 hz179 => ?_)
                      refine h_put (pc' := 20) rfl rfl rfl rfl rfl rfl hz179 rfl (h_fgt (E := fun s => s 98 15 = ((s0 98 15) + 1) ∧ s 98 16 = (s0 98 15) ∧ s 98 17 = 3 ∧ s 98 18 = 0 ∧ s 98 13 = 1) _ (if_98_14 Is178 (h_rgv hz179)) (Fs178.up rfl) ⟨es178_0, es178_1, es178_2, es178_3, es178_4⟩ (fun s180 Is180 Fs180 ⟨es180_0, es180_1, es180_2, es180_3, es180_4⟩ => ?_))
                      clear es178_0 es178_1 es178_2 es178_3 es178_4
                      refine h_vret rfl rfl (h_Kn ?_)
                      exact h_vret rfl rfl (kk _ Is180 Fs180 (by omega) (by omega) (by omega))
                · refine h_iconst (pc' := 14) (x := (Int32.ofInt 1)) rfl rfl rfl ?_
                  refine h_goto (pc' := 18) rfl rfl ?_
                  refine h_zret rfl rfl ci_1 (by omega) (h_Kv ?_)
                  refine h_zeq (tg := 243) (pc' := 140) rfl rfl rfl ci_1 (fun c181 => absurd c181 (by omega)) (fun c181 => ?_)
                  refine h_aload_n (pc' := 141) rfl rfl rfl ?_
                  refine h_aload_n (pc' := 142) rfl rfl rfl ?_
                  refine h_getI (pc' := 145) (v := s0 98 15) rfl rfl rfl rfl rfl es148_0 (fun z182 hz182 => ?_)
                  have tz182 := tf_98_15 I0
                  refine h_call (sp := false) (pc' := 148) (M := [(0, .ref 98), (1, .int z182)]) rfl rfl rfl rfl rfl rfl rfl rfl ?_
                  refine h_iload_n (pc' := 1) rfl rfl rfl ?_
                  refine h_aload_n (pc' := 2) rfl rfl rfl ?_
                  refine h_getI (pc' := 5) (v := σ 98 11) rfl rfl rfl rfl rfl (Fs148 98 11 rfl) (fun z183 hz183 => ?_)
                  have tz183 := tf_98_11 hI
                  refine h_cge (tg := 17) (pc' := 8) rfl rfl rfl hz182 hz183 (fun c184 => ?_) (fun c184 => ?_)
                  · refine h_bipush (pc' := 19) (x := (Int32.ofInt (-4))) rfl rfl cb_m4 ?_
                    refine h_iret rfl rfl (h_Kv ?_)
                    refine h_i2l (pc' := 149) rfl rfl ci_m4 (fun z185 hz185 => ?_)
                    refine h_ldc2 (pc' := 152) (x := (Int64.ofInt 48)) rfl rfl rfl ?_
                    refine h_ldc2 (pc' := 155) (x := (Int64.ofInt 57)) rfl rfl rfl ?_
                    refine h_calls (pc' := 158) (M := [(0, .long z185), (2, .long (Int64.ofInt 48)), (4, .long (Int64.ofInt 57))]) rfl rfl rfl rfl rfl rfl ?_
                    refine h_lload_n (pc' := 1) rfl rfl rfl ?_
                    refine h_lload_n (pc' := 2) rfl rfl rfl ?_
                    refine h_lcmp (pc' := 3) rfl rfl hz185 cl_48 (fun z186 hz186 => ?_)
                    refine h_zlt (tg := 17) (pc' := 6) rfl rfl rfl rfl (fun c187 => ?_) (fun c187 => absurd c187 (by omega))
                    refine h_iconst (pc' := 18) (x := (Int32.ofInt 0)) rfl rfl rfl ?_
                    refine h_zret rfl rfl ci_0 (by omega) (h_Kv ?_)
                    refine h_zeq (tg := 217) (pc' := 161) rfl rfl rfl ci_0 (fun c188 => ?_) (fun c188 => absurd c188 (by omega))
                    refine h_aload_n (pc' := 218) rfl rfl rfl ?_
                    refine h_iconst (pc' := 219) (x := (Int32.ofInt 2)) rfl rfl rfl ?_
                    refine h_put (pc' := 222) rfl rfl rfl rfl rfl rfl ci_2 rfl (h_fgt (E := fun s => s 98 15 = s0 98 15 ∧ s 98 16 = (s0 98 15) ∧ s 98 17 = 2 ∧ s 98 18 = 0 ∧ s 98 13 = s0 98 13) _ (if_98_17 Is148 (by omega)) (Fs148.up rfl) ⟨es148_0, es148_1, rfl, es148_3, es148_4⟩ (fun s189 Is189 Fs189 ⟨es189_0, es189_1, es189_2, es189_3, es189_4⟩ => ?_))
                    clear es148_0 es148_1 es148_2 es148_3 es148_4
                    refine h_aload_n (pc' := 223) rfl rfl rfl ?_
                    refine h_getI (pc' := 226) (v := s0 98 15) rfl rfl rfl rfl rfl es189_0 (fun z190 hz190 => ?_)
                    have tz190 := tf_98_15 I0
                    refine h_aload_n (pc' := 227) rfl rfl rfl ?_
                    refine h_getI (pc' := 230) (v := (s0 98 15)) rfl rfl rfl rfl rfl es189_1 (fun z191 hz191 => ?_)
                    refine h_isub (pc' := 231) rfl rfl hz190 hz191 rfl (by omega) (by omega) (fun z192 hz192 => ?_)
                    refine h_iconst (pc' := 232) (x := (Int32.ofInt 2)) rfl rfl rfl ?_
                    refine h_cle (tg := 269) (pc' := 235) rfl rfl rfl hz192 ci_2 (fun c193 => ?_) (fun c193 => ?_)
                    · exact h_vret rfl rfl (kk _ Is189 Fs189 (by omega) (by omega) (by omega))
                    · refine h_aload_n (pc' := 236) rfl rfl rfl ?_
                      refine h_iconst (pc' := 237) (x := (Int32.ofInt 1)) rfl rfl rfl ?_
                      refine h_call (sp := false) (pc' := 240) (M := [(0, .ref 98), (1, .int (Int32.ofInt 1))]) rfl rfl rfl rfl rfl rfl rfl rfl ?_
                      refine h_aload_n (pc' := 1) rfl rfl rfl ?_
                      refine h_getI (pc' := 4) (v := s0 98 13) rfl rfl rfl rfl rfl es189_4 (fun z194 hz194 => ?_)
                      have tz194 := tf_98_13 I0
                      refine h_zne (tg := 20) (pc' := 7) rfl rfl rfl hz194 (fun c195 => ?_) (fun c195 => ?_)
                      · refine h_vret rfl rfl (h_Kn ?_)
                        refine h_goto (pc' := 269) rfl rfl ?_
                        exact h_vret rfl rfl (kk _ Is189 Fs189 (by omega) (by omega) (by omega))
                      · refine h_aload_n (pc' := 8) rfl rfl rfl ?_
                        refine h_iload_n (pc' := 9) rfl rfl rfl ?_
                        refine h_put (pc' := 12) rfl rfl rfl rfl rfl rfl ci_1 rfl (h_fgt (E := fun s => s 98 15 = s0 98 15 ∧ s 98 16 = (s0 98 15) ∧ s 98 17 = 2 ∧ s 98 18 = 0 ∧ s 98 13 = 1) _ (if_98_13 Is189 (by omega)) (Fs189.up rfl) ⟨es189_0, es189_1, es189_2, es189_3, rfl⟩ (fun s196 Is196 Fs196 ⟨es196_0, es196_1, es196_2, es196_3, es196_4⟩ => ?_))
                        clear es189_0 es189_1 es189_2 es189_3 es189_4
                        refine h_aload_n (pc' := 13) rfl rfl rfl ?_
                        refine h_aload_n (pc' := 14) rfl rfl rfl ?_
                        refine h_getI (pc' := 17) (v := (s0 98 15)) rfl rfl rfl rfl rfl es196_1 (fun z197 hz197 => ?_)
                        refine h_put (pc' := 20) rfl rfl rfl rfl rfl rfl hz197 rfl (h_fgt (E := fun s => s 98 15 = s0 98 15 ∧ s 98 16 = (s0 98 15) ∧ s 98 17 = 2 ∧ s 98 18 = 0 ∧ s 98 13 = 1) _ (if_98_14 Is196 (h_rgv hz197)) (Fs196.up rfl) ⟨es196_0, es196_1, es196_2, es196_3, es196_4⟩ (fun s198 Is198 Fs198 ⟨es198_0, es198_1, es198_2, es198_3, es198_4⟩ => ?_))
                        clear es196_0 es196_1 es196_2 es196_3 es196_4
                        refine h_vret rfl rfl (h_Kn ?_)
                        refine h_goto (pc' := 269) rfl rfl ?_
                        exact h_vret rfl rfl (kk _ Is198 Fs198 (by omega) (by omega) (by omega))
                  · refine h_aload_n (pc' := 9) rfl rfl rfl ?_
                    refine h_getR (pc' := 12) rfl rfl rfl rfl rfl ?_
                    refine h_iload_n (pc' := 13) rfl rfl rfl ?_
                    refine h_iald (pc' := 14) (v := σ 102 (s0 98 15)) rfl rfl rfl hz182 (by omega) (by omega) (Fs148 102 _ rfl) (fun z199 hz199 => ?_)
                    have tz199 := ty_102 hI (s0 98 15)
                    refine h_goto (pc' := 19) rfl rfl ?_
                    refine h_iret rfl rfl (h_Kv ?_)
                    refine h_i2l (pc' := 149) rfl rfl hz199 (fun z200 hz200 => ?_)
                    refine h_ldc2 (pc' := 152) (x := (Int64.ofInt 48)) rfl rfl rfl ?_
                    refine h_ldc2 (pc' := 155) (x := (Int64.ofInt 57)) rfl rfl rfl ?_
                    refine h_calls (pc' := 158) (M := [(0, .long z200), (2, .long (Int64.ofInt 48)), (4, .long (Int64.ofInt 57))]) rfl rfl rfl rfl rfl rfl ?_
                    refine h_lload_n (pc' := 1) rfl rfl rfl ?_
                    refine h_lload_n (pc' := 2) rfl rfl rfl ?_
                    refine h_lcmp (pc' := 3) rfl rfl hz200 cl_48 (fun z201 hz201 => ?_)
                    refine h_zlt (tg := 17) (pc' := 6) rfl rfl rfl rfl (fun c202 => absurd c202 (by omega)) (fun c202 => ?_)
                    refine h_lload_n (pc' := 7) rfl rfl rfl ?_
                    refine h_lload (pc' := 9) rfl rfl rfl ?_
                    refine h_lcmp (pc' := 10) rfl rfl hz200 cl_57 (fun z203 hz203 => ?_)
                    refine h_zgt (tg := 17) (pc' := 13) rfl rfl rfl rfl (fun c204 => absurd c204 (by omega)) (fun c204 => ?_)
                    refine h_iconst (pc' := 14) (x := (Int32.ofInt 1)) rfl rfl rfl ?_
                    refine h_goto (pc' := 18) rfl rfl ?_
                    refine h_zret rfl rfl ci_1 (by omega) (h_Kv ?_)
                    refine h_zeq (tg := 217) (pc' := 161) rfl rfl rfl ci_1 (fun c205 => absurd c205 (by omega)) (fun c205 => ?_)
                    refine h_aload_n (pc' := 162) rfl rfl rfl ?_
                    refine h_aload_n (pc' := 163) rfl rfl rfl ?_
                    refine h_getI (pc' := 166) (v := s0 98 15) rfl rfl rfl rfl rfl es148_0 (fun z206 hz206 => ?_)
                    have tz206 := tf_98_15 I0
                    refine h_aload_n (pc' := 167) rfl rfl rfl ?_
                    refine h_getI (pc' := 170) (v := (s0 98 15)) rfl rfl rfl rfl rfl es148_1 (fun z207 hz207 => ?_)
                    refine h_isub (pc' := 171) rfl rfl hz206 hz207 rfl (by omega) (by omega) (fun z208 hz208 => ?_)
                    refine h_iconst (pc' := 172) (x := (Int32.ofInt 2)) rfl rfl rfl ?_
                    refine h_cge (tg := 197) (pc' := 175) rfl rfl rfl hz208 ci_2 (fun c209 => ?_) (fun c209 => ?_)
                    · refine h_aload_n (pc' := 198) rfl rfl rfl ?_
                      refine h_getI (pc' := 201) (v := 0) rfl rfl rfl rfl rfl es148_3 (fun z210 hz210 => ?_)
                      refine h_put (pc' := 204) rfl rfl rfl rfl rfl rfl hz210 rfl (h_fgt (E := fun s => s 98 15 = s0 98 15 ∧ s 98 16 = (s0 98 15) ∧ s 98 17 = s0 98 17 ∧ s 98 18 = 0 ∧ s 98 13 = s0 98 13) _ (if_98_18 Is148 (by omega)) (Fs148.up rfl) ⟨es148_0, es148_1, es148_2, rfl, es148_4⟩ (fun s211 Is211 Fs211 ⟨es211_0, es211_1, es211_2, es211_3, es211_4⟩ => ?_))
                      clear es148_0 es148_1 es148_2 es148_3 es148_4
                      refine h_aload_n (pc' := 205) rfl rfl rfl ?_
                      refine h_dup (pc' := 206) rfl rfl rfl ?_
                      refine h_getI (pc' := 209) (v := s0 98 15) rfl rfl rfl rfl rfl es211_0 (fun z212 hz212 => ?_)
                      have tz212 := tf_98_15 I0
                      refine h_iconst (pc' := 210) (x := (Int32.ofInt 1)) rfl rfl rfl ?_
                      refine h_iadd (pc' := 211) rfl rfl hz212 ci_1 rfl (by omega) (by omega) (fun z213 hz213 => ?_)
                      refine h_put (pc' := 214) rfl rfl rfl rfl rfl rfl hz213 rfl (h_fgt (E := fun s => s 98 15 = ((s0 98 15) + 1) ∧ s 98 16 = (s0 98 15) ∧ s 98 17 = s0 98 17 ∧ s 98 18 = 0 ∧ s 98 13 = s0 98 13) _ (if_98_15 Is211 (by omega)) (Fs211.up rfl) ⟨rfl, es211_1, es211_2, es211_3, es211_4⟩ (fun s214 Is214 Fs214 ⟨es214_0, es214_1, es214_2, es214_3, es214_4⟩ => ?_))
                      clear es211_0 es211_1 es211_2 es211_3 es211_4
                      refine h_goto (pc' := 140) rfl rfl ?_
                      exact h_wk [(0, .ref 98), (1, .int z147)] ⟨rfl, rfl, trivial⟩ (ih.2.2 _ Is214 Fs214 z147 _ hz147 (by omega) (by omega) (by omega) (by omega) (by omega) (by omega) (by omega))
                    · refine h_bipush (pc' := 177) (x := (Int32.ofInt 10)) rfl rfl cb_10 ?_
                      refine h_aload_n (pc' := 178) rfl rfl rfl ?_
                      refine h_getI (pc' := 181) (v := 0) rfl rfl rfl rfl rfl es148_3 (fun z215 hz215 => ?_)
                      refine h_imul (pc' := 182) rfl rfl ci_10 hz215 rfl (by omega) (by omega) (fun z216 hz216 => ?_)
                      refine h_aload_n (pc' := 183) rfl rfl rfl ?_
                      refine h_aload_n (pc' := 184) rfl rfl rfl ?_
                      refine h_getI (pc' := 187) (v := s0 98 15) rfl rfl rfl rfl rfl es148_0 (fun z217 hz217 => ?_)
                      have tz217 := tf_98_15 I0
                      refine h_call (sp := false) (pc' := 190) (M := [(0, .ref 98), (1, .int z217)]) rfl rfl rfl rfl rfl rfl rfl rfl ?_
                      refine h_iload_n (pc' := 1) rfl rfl rfl ?_
                      refine h_aload_n (pc' := 2) rfl rfl rfl ?_
                      refine h_getI (pc' := 5) (v := σ 98 11) rfl rfl rfl rfl rfl (Fs148 98 11 rfl) (fun z218 hz218 => ?_)
                      have tz218 := tf_98_11 hI
                      refine h_cge (tg := 17) (pc' := 8) rfl rfl rfl hz217 hz218 (fun c219 => ?_) (fun c219 => ?_)
                      · refine h_bipush (pc' := 19) (x := (Int32.ofInt (-4))) rfl rfl cb_m4 ?_
                        refine h_iret rfl rfl (h_Kv ?_)
                        refine h_iadd (pc' := 191) rfl rfl hz216 ci_m4 rfl (by omega) (by omega) (fun z220 hz220 => ?_)
                        refine h_bipush (pc' := 193) (x := (Int32.ofInt 48)) rfl rfl cb_48 ?_
                        refine h_isub (pc' := 194) rfl rfl hz220 ci_48 rfl (by omega) (by omega) (fun z221 hz221 => ?_)
                        refine h_goto (pc' := 201) rfl rfl ?_
                        refine h_put (pc' := 204) rfl rfl rfl rfl rfl rfl hz221 rfl (h_fgt (E := fun s => s 98 15 = s0 98 15 ∧ s 98 16 = (s0 98 15) ∧ s 98 17 = s0 98 17 ∧ s 98 18 = (((10 * 0) + (-4)) - 48) ∧ s 98 13 = s0 98 13) _ (if_98_18 Is148 (by omega)) (Fs148.up rfl) ⟨es148_0, es148_1, es148_2, rfl, es148_4⟩ (fun s222 Is222 Fs222 ⟨es222_0, es222_1, es222_2, es222_3, es222_4⟩ => ?_))
                        clear es148_0 es148_1 es148_2 es148_3 es148_4
                        refine h_aload_n (pc' := 205) rfl rfl rfl ?_
                        refine h_dup (pc' := 206) rfl rfl rfl ?_
                        refine h_getI (pc' := 209) (v := s0 98 15) rfl rfl rfl rfl rfl es222_0 (fun z223 hz223 => ?_)
                        have tz223 := tf_98_15 I0
                        refine h_iconst (pc' := 210) (x := (Int32.ofInt 1)) rfl rfl rfl ?_
                        refine h_iadd (pc' := 211) rfl rfl hz223 ci_1 rfl (by omega) (by omega) (fun z224 hz224 => ?_)
                        refine h_put (pc' := 214) rfl rfl rfl rfl rfl rfl hz224 rfl (h_fgt (E := fun s => s 98 15 = ((s0 98 15) + 1) ∧ s 98 16 = (s0 98 15) ∧ s 98 17 = s0 98 17 ∧ s 98 18 = (((10 * 0) + (-4)) - 48) ∧ s 98 13 = s0 98 13) _ (if_98_15 Is222 (by omega)) (Fs222.up rfl) ⟨rfl, es222_1, es222_2, es222_3, es222_4⟩ (fun s225 Is225 Fs225 ⟨es225_0, es225_1, es225_2, es225_3, es225_4⟩ => ?_))
                        clear es222_0 es222_1 es222_2 es222_3 es222_4
                        refine h_goto (pc' := 140) rfl rfl ?_
                        exact h_wk [(0, .ref 98), (1, .int z147)] ⟨rfl, rfl, trivial⟩ (ih.2.2 _ Is225 Fs225 z147 _ hz147 (by omega) (by omega) (by omega) (by omega) (by omega) (by omega) (by omega))
                      · refine h_aload_n (pc' := 9) rfl rfl rfl ?_
                        refine h_getR (pc' := 12) rfl rfl rfl rfl rfl ?_
                        refine h_iload_n (pc' := 13) rfl rfl rfl ?_
                        refine h_iald (pc' := 14) (v := σ 102 (s0 98 15)) rfl rfl rfl hz217 (by omega) (by omega) (Fs148 102 _ rfl) (fun z226 hz226 => ?_)
                        have tz226 := ty_102 hI (s0 98 15)
                        refine h_goto (pc' := 19) rfl rfl ?_
                        refine h_iret rfl rfl (h_Kv ?_)
                        refine h_iadd (pc' := 191) rfl rfl hz216 hz226 rfl (by omega) (by omega) (fun z227 hz227 => ?_)
                        refine h_bipush (pc' := 193) (x := (Int32.ofInt 48)) rfl rfl cb_48 ?_
                        refine h_isub (pc' := 194) rfl rfl hz227 ci_48 rfl (by omega) (by omega) (fun z228 hz228 => ?_)
                        refine h_goto (pc' := 201) rfl rfl ?_
                        refine h_put (pc' := 204) rfl rfl rfl rfl rfl rfl hz228 rfl (h_fgt (E := fun s => s 98 15 = s0 98 15 ∧ s 98 16 = (s0 98 15) ∧ s 98 17 = s0 98 17 ∧ s 98 18 = (((10 * 0) + (σ 102 (s0 98 15))) - 48) ∧ s 98 13 = s0 98 13) _ (if_98_18 Is148 (by omega)) (Fs148.up rfl) ⟨es148_0, es148_1, es148_2, rfl, es148_4⟩ (fun s229 Is229 Fs229 ⟨es229_0, es229_1, es229_2, es229_3, es229_4⟩ => ?_))
                        clear es148_0 es148_1 es148_2 es148_3 es148_4
                        refine h_aload_n (pc' := 205) rfl rfl rfl ?_
                        refine h_dup (pc' := 206) rfl rfl rfl ?_
                        refine h_getI (pc' := 209) (v := s0 98 15) rfl rfl rfl rfl rfl es229_0 (fun z230 hz230 => ?_)
                        have tz230 := tf_98_15 I0
                        refine h_iconst (pc' := 210) (x := (Int32.ofInt 1)) rfl rfl rfl ?_
                        refine h_iadd (pc' := 211) rfl rfl hz230 ci_1 rfl (by omega) (by omega) (fun z231 hz231 => ?_)
                        refine h_put (pc' := 214) rfl rfl rfl rfl rfl rfl hz231 rfl (h_fgt (E := fun s => s 98 15 = ((s0 98 15) + 1) ∧ s 98 16 = (s0 98 15) ∧ s 98 17 = s0 98 17 ∧ s 98 18 = (((10 * 0) + (σ 102 (s0 98 15))) - 48) ∧ s 98 13 = s0 98 13) _ (if_98_15 Is229 (by omega)) (Fs229.up rfl) ⟨rfl, es229_1, es229_2, es229_3, es229_4⟩ (fun s232 Is232 Fs232 ⟨es232_0, es232_1, es232_2, es232_3, es232_4⟩ => ?_))
                        clear es229_0 es229_1 es229_2 es229_3 es229_4
                        refine h_goto (pc' := 140) rfl rfl ?_
                        exact h_wk [(0, .ref 98), (1, .int z147)] ⟨rfl, rfl, trivial⟩ (ih.2.2 _ Is232 Fs232 z147 _ hz147 (by omega) (by omega) (by omega) (by omega) (by omega) (by omega) (by omega))
            · refine h_lload_n (pc' := 7) rfl rfl rfl ?_
              refine h_lload (pc' := 9) rfl rfl rfl ?_
              refine h_lcmp (pc' := 10) rfl rfl hz150 cl_122 (fun z233 hz233 => ?_)
              refine h_zgt (tg := 17) (pc' := 13) rfl rfl rfl rfl (fun c234 => ?_) (fun c234 => ?_)
              · refine h_iconst (pc' := 18) (x := (Int32.ofInt 0)) rfl rfl rfl ?_
                refine h_zret rfl rfl ci_0 (by omega) (h_Kv ?_)
                refine h_zeq (tg := 126) (pc' := 84) rfl rfl rfl ci_0 (fun c235 => ?_) (fun c235 => absurd c235 (by omega))
                refine h_iload_n (pc' := 127) rfl rfl rfl ?_
                refine h_i2l (pc' := 128) rfl rfl hz147 (fun z236 hz236 => ?_)
                refine h_ldc2 (pc' := 131) (x := (Int64.ofInt 48)) rfl rfl rfl ?_
                refine h_ldc2 (pc' := 134) (x := (Int64.ofInt 57)) rfl rfl rfl ?_
                refine h_calls (pc' := 137) (M := [(0, .long z236), (2, .long (Int64.ofInt 48)), (4, .long (Int64.ofInt 57))]) rfl rfl rfl rfl rfl rfl ?_
                refine h_lload_n (pc' := 1) rfl rfl rfl ?_
                refine h_lload_n (pc' := 2) rfl rfl rfl ?_
                refine h_lcmp (pc' := 3) rfl rfl hz236 cl_48 (fun z237 hz237 => ?_)
                refine h_zlt (tg := 17) (pc' := 6) rfl rfl rfl rfl (fun c238 => absurd c238 (by omega)) (fun c238 => ?_)
                refine h_lload_n (pc' := 7) rfl rfl rfl ?_
                refine h_lload (pc' := 9) rfl rfl rfl ?_
                refine h_lcmp (pc' := 10) rfl rfl hz236 cl_57 (fun z239 hz239 => ?_)
                refine h_zgt (tg := 17) (pc' := 13) rfl rfl rfl rfl (fun c240 => ?_) (fun c240 => absurd c240 (by omega))
                refine h_iconst (pc' := 18) (x := (Int32.ofInt 0)) rfl rfl rfl ?_
                refine h_zret rfl rfl ci_0 (by omega) (h_Kv ?_)
                refine h_zeq (tg := 243) (pc' := 140) rfl rfl rfl ci_0 (fun c241 => ?_) (fun c241 => absurd c241 (by omega))
                refine h_aload_n (pc' := 244) rfl rfl rfl ?_
                refine h_iconst (pc' := 245) (x := (Int32.ofInt 3)) rfl rfl rfl ?_
                refine h_put (pc' := 248) rfl rfl rfl rfl rfl rfl ci_3 rfl (h_fgt (E := fun s => s 98 15 = s0 98 15 ∧ s 98 16 = (s0 98 15) ∧ s 98 17 = 3 ∧ s 98 18 = 0 ∧ s 98 13 = s0 98 13) _ (if_98_17 Is148 (by omega)) (Fs148.up rfl) ⟨es148_0, es148_1, rfl, es148_3, es148_4⟩ (fun s242 Is242 Fs242 ⟨es242_0, es242_1, es242_2, es242_3, es242_4⟩ => ?_))
                clear es148_0 es148_1 es148_2 es148_3 es148_4
                refine h_aload_n (pc' := 249) rfl rfl rfl ?_
                refine h_dup (pc' := 250) rfl rfl rfl ?_
                refine h_getI (pc' := 253) (v := s0 98 15) rfl rfl rfl rfl rfl es242_0 (fun z243 hz243 => ?_)
                have tz243 := tf_98_15 I0
                refine h_iconst (pc' := 254) (x := (Int32.ofInt 1)) rfl rfl rfl ?_
                refine h_iadd (pc' := 255) rfl rfl hz243 ci_1 rfl (by omega) (by omega) (fun z244 hz244 => ?_)
                refine h_put (pc' := 258) rfl rfl rfl rfl rfl rfl hz244 rfl (h_fgt (E := fun s => s 98 15 = ((s0 98 15) + 1) ∧ s 98 16 = (s0 98 15) ∧ s 98 17 = 3 ∧ s 98 18 = 0 ∧ s 98 13 = s0 98 13) _ (if_98_15 Is242 (by omega)) (Fs242.up rfl) ⟨rfl, es242_1, es242_2, es242_3, es242_4⟩ (fun s245 Is245 Fs245 ⟨es245_0, es245_1, es245_2, es245_3, es245_4⟩ => ?_))
                clear es242_0 es242_1 es242_2 es242_3 es242_4
                refine h_iload_n (pc' := 259) rfl rfl rfl ?_
                refine h_bipush (pc' := 261) (x := (Int32.ofInt 59)) rfl rfl cb_59 ?_
                refine h_ceq (tg := 269) (pc' := 264) rfl rfl rfl hz147 ci_59 (fun c246 => absurd c246 (by omega)) (fun c246 => ?_)
                refine h_aload_n (pc' := 265) rfl rfl rfl ?_
                refine h_iconst (pc' := 266) (x := (Int32.ofInt 1)) rfl rfl rfl ?_
                refine h_call (sp := false) (pc' := 269) (M := [(0, .ref 98), (1, .int (Int32.ofInt 1))]) rfl rfl rfl rfl rfl rfl rfl rfl ?_
                refine h_aload_n (pc' := 1) rfl rfl rfl ?_
                refine h_getI (pc' := 4) (v := s0 98 13) rfl rfl rfl rfl rfl es245_4 (fun z247 hz247 => ?_)
                have tz247 := tf_98_13 I0
                refine h_zne (tg := 20) (pc' := 7) rfl rfl rfl hz247 (fun c248 => ?_) (fun c248 => ?_)
                · refine h_vret rfl rfl (h_Kn ?_)
                  exact h_vret rfl rfl (kk _ Is245 Fs245 (by omega) (by omega) (by omega))
                · refine h_aload_n (pc' := 8) rfl rfl rfl ?_
                  refine h_iload_n (pc' := 9) rfl rfl rfl ?_
                  refine h_put (pc' := 12) rfl rfl rfl rfl rfl rfl ci_1 rfl (h_fgt (E := fun s => s 98 15 = ((s0 98 15) + 1) ∧ s 98 16 = (s0 98 15) ∧ s 98 17 = 3 ∧ s 98 18 = 0 ∧ s 98 13 = 1) _ (if_98_13 Is245 (by omega)) (Fs245.up rfl) ⟨es245_0, es245_1, es245_2, es245_3, rfl⟩ (fun s249 Is249 Fs249 ⟨es249_0, es249_1, es249_2, es249_3, es249_4⟩ => ?_))
                  clear es245_0 es245_1 es245_2 es245_3 es245_4
                  refine h_aload_n (pc' := 13) rfl rfl rfl ?_
                  refine h_aload_n (pc' := 14) rfl rfl rfl ?_
                  refine h_getI (pc' := 17) (v := (s0 98 15)) rfl rfl rfl rfl rfl es249_1 (fun z250 hz250 => ?_)
                  refine h_put (pc' := 20) rfl rfl rfl rfl rfl rfl hz250 rfl (h_fgt (E := fun s => s 98 15 = ((s0 98 15) + 1) ∧ s 98 16 = (s0 98 15) ∧ s 98 17 = 3 ∧ s 98 18 = 0 ∧ s 98 13 = 1) _ (if_98_14 Is249 (h_rgv hz250)) (Fs249.up rfl) ⟨es249_0, es249_1, es249_2, es249_3, es249_4⟩ (fun s251 Is251 Fs251 ⟨es251_0, es251_1, es251_2, es251_3, es251_4⟩ => ?_))
                  clear es249_0 es249_1 es249_2 es249_3 es249_4
                  refine h_vret rfl rfl (h_Kn ?_)
                  exact h_vret rfl rfl (kk _ Is251 Fs251 (by omega) (by omega) (by omega))
              · refine h_iconst (pc' := 14) (x := (Int32.ofInt 1)) rfl rfl rfl ?_
                refine h_goto (pc' := 18) rfl rfl ?_
                refine h_zret rfl rfl ci_1 (by omega) (h_Kv ?_)
                refine h_zeq (tg := 126) (pc' := 84) rfl rfl rfl ci_1 (fun c252 => absurd c252 (by omega)) (fun c252 => ?_)
                refine h_aload_n (pc' := 85) rfl rfl rfl ?_
                refine h_aload_n (pc' := 86) rfl rfl rfl ?_
                refine h_getI (pc' := 89) (v := s0 98 15) rfl rfl rfl rfl rfl es148_0 (fun z253 hz253 => ?_)
                have tz253 := tf_98_15 I0
                refine h_call (sp := false) (pc' := 92) (M := [(0, .ref 98), (1, .int z253)]) rfl rfl rfl rfl rfl rfl rfl rfl ?_
                refine h_iload_n (pc' := 1) rfl rfl rfl ?_
                refine h_aload_n (pc' := 2) rfl rfl rfl ?_
                refine h_getI (pc' := 5) (v := σ 98 11) rfl rfl rfl rfl rfl (Fs148 98 11 rfl) (fun z254 hz254 => ?_)
                have tz254 := tf_98_11 hI
                refine h_cge (tg := 17) (pc' := 8) rfl rfl rfl hz253 hz254 (fun c255 => ?_) (fun c255 => ?_)
                · refine h_bipush (pc' := 19) (x := (Int32.ofInt (-4))) rfl rfl cb_m4 ?_
                  refine h_iret rfl rfl (h_Kv ?_)
                  refine h_i2l (pc' := 93) rfl rfl ci_m4 (fun z256 hz256 => ?_)
                  refine h_ldc2 (pc' := 96) (x := (Int64.ofInt 97)) rfl rfl rfl ?_
                  refine h_ldc2 (pc' := 99) (x := (Int64.ofInt 122)) rfl rfl rfl ?_
                  refine h_calls (pc' := 102) (M := [(0, .long z256), (2, .long (Int64.ofInt 97)), (4, .long (Int64.ofInt 122))]) rfl rfl rfl rfl rfl rfl ?_
                  refine h_lload_n (pc' := 1) rfl rfl rfl ?_
                  refine h_lload_n (pc' := 2) rfl rfl rfl ?_
                  refine h_lcmp (pc' := 3) rfl rfl hz256 cl_97 (fun z257 hz257 => ?_)
                  refine h_zlt (tg := 17) (pc' := 6) rfl rfl rfl rfl (fun c258 => ?_) (fun c258 => absurd c258 (by omega))
                  refine h_iconst (pc' := 18) (x := (Int32.ofInt 0)) rfl rfl rfl ?_
                  refine h_zret rfl rfl ci_0 (by omega) (h_Kv ?_)
                  refine h_zeq (tg := 118) (pc' := 105) rfl rfl rfl ci_0 (fun c259 => ?_) (fun c259 => absurd c259 (by omega))
                  refine h_aload_n (pc' := 119) rfl rfl rfl ?_
                  refine h_iconst (pc' := 120) (x := (Int32.ofInt 1)) rfl rfl rfl ?_
                  refine h_put (pc' := 123) rfl rfl rfl rfl rfl rfl ci_1 rfl (h_fgt (E := fun s => s 98 15 = s0 98 15 ∧ s 98 16 = (s0 98 15) ∧ s 98 17 = 1 ∧ s 98 18 = 0 ∧ s 98 13 = s0 98 13) _ (if_98_17 Is148 (by omega)) (Fs148.up rfl) ⟨es148_0, es148_1, rfl, es148_3, es148_4⟩ (fun s260 Is260 Fs260 ⟨es260_0, es260_1, es260_2, es260_3, es260_4⟩ => ?_))
                  clear es148_0 es148_1 es148_2 es148_3 es148_4
                  refine h_goto (pc' := 269) rfl rfl ?_
                  exact h_vret rfl rfl (kk _ Is260 Fs260 (by omega) (by omega) (by omega))
                · refine h_aload_n (pc' := 9) rfl rfl rfl ?_
                  refine h_getR (pc' := 12) rfl rfl rfl rfl rfl ?_
                  refine h_iload_n (pc' := 13) rfl rfl rfl ?_
                  refine h_iald (pc' := 14) (v := σ 102 (s0 98 15)) rfl rfl rfl hz253 (by omega) (by omega) (Fs148 102 _ rfl) (fun z261 hz261 => ?_)
                  have tz261 := ty_102 hI (s0 98 15)
                  refine h_goto (pc' := 19) rfl rfl ?_
                  refine h_iret rfl rfl (h_Kv ?_)
                  refine h_i2l (pc' := 93) rfl rfl hz261 (fun z262 hz262 => ?_)
                  refine h_ldc2 (pc' := 96) (x := (Int64.ofInt 97)) rfl rfl rfl ?_
                  refine h_ldc2 (pc' := 99) (x := (Int64.ofInt 122)) rfl rfl rfl ?_
                  refine h_calls (pc' := 102) (M := [(0, .long z262), (2, .long (Int64.ofInt 97)), (4, .long (Int64.ofInt 122))]) rfl rfl rfl rfl rfl rfl ?_
                  refine h_lload_n (pc' := 1) rfl rfl rfl ?_
                  refine h_lload_n (pc' := 2) rfl rfl rfl ?_
                  refine h_lcmp (pc' := 3) rfl rfl hz262 cl_97 (fun z263 hz263 => ?_)
                  refine h_zlt (tg := 17) (pc' := 6) rfl rfl rfl rfl (fun c264 => absurd c264 (by omega)) (fun c264 => ?_)
                  refine h_lload_n (pc' := 7) rfl rfl rfl ?_
                  refine h_lload (pc' := 9) rfl rfl rfl ?_
                  refine h_lcmp (pc' := 10) rfl rfl hz262 cl_122 (fun z265 hz265 => ?_)
                  refine h_zgt (tg := 17) (pc' := 13) rfl rfl rfl rfl (fun c266 => absurd c266 (by omega)) (fun c266 => ?_)
                  refine h_iconst (pc' := 14) (x := (Int32.ofInt 1)) rfl rfl rfl ?_
                  refine h_goto (pc' := 18) rfl rfl ?_
                  refine h_zret rfl rfl ci_1 (by omega) (h_Kv ?_)
                  refine h_zeq (tg := 118) (pc' := 105) rfl rfl rfl ci_1 (fun c267 => absurd c267 (by omega)) (fun c267 => ?_)
                  refine h_aload_n (pc' := 106) rfl rfl rfl ?_
                  refine h_dup (pc' := 107) rfl rfl rfl ?_
                  refine h_getI (pc' := 110) (v := s0 98 15) rfl rfl rfl rfl rfl es148_0 (fun z268 hz268 => ?_)
                  have tz268 := tf_98_15 I0
                  refine h_iconst (pc' := 111) (x := (Int32.ofInt 1)) rfl rfl rfl ?_
                  refine h_iadd (pc' := 112) rfl rfl hz268 ci_1 rfl (by omega) (by omega) (fun z269 hz269 => ?_)
                  refine h_put (pc' := 115) rfl rfl rfl rfl rfl rfl hz269 rfl (h_fgt (E := fun s => s 98 15 = ((s0 98 15) + 1) ∧ s 98 16 = (s0 98 15) ∧ s 98 17 = s0 98 17 ∧ s 98 18 = 0 ∧ s 98 13 = s0 98 13) _ (if_98_15 Is148 (by omega)) (Fs148.up rfl) ⟨rfl, es148_1, es148_2, es148_3, es148_4⟩ (fun s270 Is270 Fs270 ⟨es270_0, es270_1, es270_2, es270_3, es270_4⟩ => ?_))
                  clear es148_0 es148_1 es148_2 es148_3 es148_4
                  refine h_goto (pc' := 84) rfl rfl ?_
                  exact h_wk [(0, .ref 98), (1, .int z147)] ⟨rfl, rfl, trivial⟩ (ih.2.1 _ Is270 Fs270 z147 _ hz147 (by omega) (by omega) (by omega) (by omega) (by omega) (by omega))
        · refine h_aload_n (pc' := 22) rfl rfl rfl ?_
          refine h_dup (pc' := 23) rfl rfl rfl ?_
          refine h_getI (pc' := 26) (v := s0 98 15) rfl rfl rfl rfl rfl rfl (fun z271 hz271 => ?_)
          have tz271 := tf_98_15 I0
          refine h_iconst (pc' := 27) (x := (Int32.ofInt 1)) rfl rfl rfl ?_
          refine h_iadd (pc' := 28) rfl rfl hz271 ci_1 rfl (by omega) (by omega) (fun z272 hz272 => ?_)
          refine h_put (pc' := 31) rfl rfl rfl rfl rfl rfl hz272 rfl (h_fgt (E := fun s => s 98 15 = ((s0 98 15) + 1) ∧ s 98 16 = s0 98 16 ∧ s 98 17 = s0 98 17 ∧ s 98 18 = s0 98 18 ∧ s 98 13 = s0 98 13) _ (if_98_15 I0 (by omega)) (F0_.up rfl) ⟨rfl, rfl, rfl, rfl, rfl⟩ (fun s273 Is273 Fs273 ⟨es273_0, es273_1, es273_2, es273_3, es273_4⟩ => ?_))
          refine h_goto (pc' := 8) rfl rfl ?_
          exact h_wk [(0, .ref 98)] ⟨rfl, trivial⟩ (ih.1 _ Is273 Fs273  (by omega) (by omega) (by omega) (by omega))
    · intro s0 I0 F0_ y1 b1 hy1 ry1 ex0 ex1 ex2 ex3 hm; have gh0 := tf_98_15 I0
      refine h_aload_n (pc' := 85) rfl rfl rfl ?_
      refine h_aload_n (pc' := 86) rfl rfl rfl ?_
      refine h_getI (pc' := 89) (v := s0 98 15) rfl rfl rfl rfl rfl rfl (fun z1 hz1 => ?_)
      have tz1 := tf_98_15 I0
      refine h_call (sp := false) (pc' := 92) (M := [(0, .ref 98), (1, .int z1)]) rfl rfl rfl rfl rfl rfl rfl rfl ?_
      refine h_iload_n (pc' := 1) rfl rfl rfl ?_
      refine h_aload_n (pc' := 2) rfl rfl rfl ?_
      refine h_getI (pc' := 5) (v := σ 98 11) rfl rfl rfl rfl rfl (F0_ 98 11 rfl) (fun z2 hz2 => ?_)
      have tz2 := tf_98_11 hI
      refine h_cge (tg := 17) (pc' := 8) rfl rfl rfl hz1 hz2 (fun c3 => ?_) (fun c3 => ?_)
      · refine h_bipush (pc' := 19) (x := (Int32.ofInt (-4))) rfl rfl cb_m4 ?_
        refine h_iret rfl rfl (h_Kv ?_)
        refine h_i2l (pc' := 93) rfl rfl ci_m4 (fun z4 hz4 => ?_)
        refine h_ldc2 (pc' := 96) (x := (Int64.ofInt 97)) rfl rfl rfl ?_
        refine h_ldc2 (pc' := 99) (x := (Int64.ofInt 122)) rfl rfl rfl ?_
        refine h_calls (pc' := 102) (M := [(0, .long z4), (2, .long (Int64.ofInt 97)), (4, .long (Int64.ofInt 122))]) rfl rfl rfl rfl rfl rfl ?_
        refine h_lload_n (pc' := 1) rfl rfl rfl ?_
        refine h_lload_n (pc' := 2) rfl rfl rfl ?_
        refine h_lcmp (pc' := 3) rfl rfl hz4 cl_97 (fun z5 hz5 => ?_)
        refine h_zlt (tg := 17) (pc' := 6) rfl rfl rfl rfl (fun c6 => ?_) (fun c6 => absurd c6 (by omega))
        refine h_iconst (pc' := 18) (x := (Int32.ofInt 0)) rfl rfl rfl ?_
        refine h_zret rfl rfl ci_0 (by omega) (h_Kv ?_)
        refine h_zeq (tg := 118) (pc' := 105) rfl rfl rfl ci_0 (fun c7 => ?_) (fun c7 => absurd c7 (by omega))
        refine h_aload_n (pc' := 119) rfl rfl rfl ?_
        refine h_iconst (pc' := 120) (x := (Int32.ofInt 1)) rfl rfl rfl ?_
        refine h_put (pc' := 123) rfl rfl rfl rfl rfl rfl ci_1 rfl (h_fgt (E := fun s => s 98 15 = s0 98 15 ∧ s 98 16 = s0 98 16 ∧ s 98 17 = 1 ∧ s 98 18 = s0 98 18 ∧ s 98 13 = s0 98 13) _ (if_98_17 I0 (by omega)) (F0_.up rfl) ⟨rfl, rfl, rfl, rfl, rfl⟩ (fun s8 Is8 Fs8 ⟨es8_0, es8_1, es8_2, es8_3, es8_4⟩ => ?_))
        refine h_goto (pc' := 269) rfl rfl ?_
        exact h_vret rfl rfl (kk _ Is8 Fs8 (by omega) (by omega) (by omega))
      · refine h_aload_n (pc' := 9) rfl rfl rfl ?_
        refine h_getR (pc' := 12) rfl rfl rfl rfl rfl ?_
        refine h_iload_n (pc' := 13) rfl rfl rfl ?_
        refine h_iald (pc' := 14) (v := σ 102 (s0 98 15)) rfl rfl rfl hz1 (by omega) (by omega) (F0_ 102 _ rfl) (fun z9 hz9 => ?_)
        have tz9 := ty_102 hI (s0 98 15)
        refine h_goto (pc' := 19) rfl rfl ?_
        refine h_iret rfl rfl (h_Kv ?_)
        refine h_i2l (pc' := 93) rfl rfl hz9 (fun z10 hz10 => ?_)
        refine h_ldc2 (pc' := 96) (x := (Int64.ofInt 97)) rfl rfl rfl ?_
        refine h_ldc2 (pc' := 99) (x := (Int64.ofInt 122)) rfl rfl rfl ?_
        refine h_calls (pc' := 102) (M := [(0, .long z10), (2, .long (Int64.ofInt 97)), (4, .long (Int64.ofInt 122))]) rfl rfl rfl rfl rfl rfl ?_
        refine h_lload_n (pc' := 1) rfl rfl rfl ?_
        refine h_lload_n (pc' := 2) rfl rfl rfl ?_
        refine h_lcmp (pc' := 3) rfl rfl hz10 cl_97 (fun z11 hz11 => ?_)
        refine h_zlt (tg := 17) (pc' := 6) rfl rfl rfl rfl (fun c12 => ?_) (fun c12 => ?_)
        · refine h_iconst (pc' := 18) (x := (Int32.ofInt 0)) rfl rfl rfl ?_
          refine h_zret rfl rfl ci_0 (by omega) (h_Kv ?_)
          refine h_zeq (tg := 118) (pc' := 105) rfl rfl rfl ci_0 (fun c13 => ?_) (fun c13 => absurd c13 (by omega))
          refine h_aload_n (pc' := 119) rfl rfl rfl ?_
          refine h_iconst (pc' := 120) (x := (Int32.ofInt 1)) rfl rfl rfl ?_
          refine h_put (pc' := 123) rfl rfl rfl rfl rfl rfl ci_1 rfl (h_fgt (E := fun s => s 98 15 = s0 98 15 ∧ s 98 16 = s0 98 16 ∧ s 98 17 = 1 ∧ s 98 18 = s0 98 18 ∧ s 98 13 = s0 98 13) _ (if_98_17 I0 (by omega)) (F0_.up rfl) ⟨rfl, rfl, rfl, rfl, rfl⟩ (fun s14 Is14 Fs14 ⟨es14_0, es14_1, es14_2, es14_3, es14_4⟩ => ?_))
          refine h_goto (pc' := 269) rfl rfl ?_
          exact h_vret rfl rfl (kk _ Is14 Fs14 (by omega) (by omega) (by omega))
        · refine h_lload_n (pc' := 7) rfl rfl rfl ?_
          refine h_lload (pc' := 9) rfl rfl rfl ?_
          refine h_lcmp (pc' := 10) rfl rfl hz10 cl_122 (fun z15 hz15 => ?_)
          refine h_zgt (tg := 17) (pc' := 13) rfl rfl rfl rfl (fun c16 => ?_) (fun c16 => ?_)
          · refine h_iconst (pc' := 18) (x := (Int32.ofInt 0)) rfl rfl rfl ?_
            refine h_zret rfl rfl ci_0 (by omega) (h_Kv ?_)
            refine h_zeq (tg := 118) (pc' := 105) rfl rfl rfl ci_0 (fun c17 => ?_) (fun c17 => absurd c17 (by omega))
            refine h_aload_n (pc' := 119) rfl rfl rfl ?_
            refine h_iconst (pc' := 120) (x := (Int32.ofInt 1)) rfl rfl rfl ?_
            refine h_put (pc' := 123) rfl rfl rfl rfl rfl rfl ci_1 rfl (h_fgt (E := fun s => s 98 15 = s0 98 15 ∧ s 98 16 = s0 98 16 ∧ s 98 17 = 1 ∧ s 98 18 = s0 98 18 ∧ s 98 13 = s0 98 13) _ (if_98_17 I0 (by omega)) (F0_.up rfl) ⟨rfl, rfl, rfl, rfl, rfl⟩ (fun s18 Is18 Fs18 ⟨es18_0, es18_1, es18_2, es18_3, es18_4⟩ => ?_))
            refine h_goto (pc' := 269) rfl rfl ?_
            exact h_vret rfl rfl (kk _ Is18 Fs18 (by omega) (by omega) (by omega))
          · refine h_iconst (pc' := 14) (x := (Int32.ofInt 1)) rfl rfl rfl ?_
            refine h_goto (pc' := 18) rfl rfl ?_
            refine h_zret rfl rfl ci_1 (by omega) (h_Kv ?_)
            refine h_zeq (tg := 118) (pc' := 105) rfl rfl rfl ci_1 (fun c19 => absurd c19 (by omega)) (fun c19 => ?_)
            refine h_aload_n (pc' := 106) rfl rfl rfl ?_
            refine h_dup (pc' := 107) rfl rfl rfl ?_
            refine h_getI (pc' := 110) (v := s0 98 15) rfl rfl rfl rfl rfl rfl (fun z20 hz20 => ?_)
            have tz20 := tf_98_15 I0
            refine h_iconst (pc' := 111) (x := (Int32.ofInt 1)) rfl rfl rfl ?_
            refine h_iadd (pc' := 112) rfl rfl hz20 ci_1 rfl (by omega) (by omega) (fun z21 hz21 => ?_)
            refine h_put (pc' := 115) rfl rfl rfl rfl rfl rfl hz21 rfl (h_fgt (E := fun s => s 98 15 = ((s0 98 15) + 1) ∧ s 98 16 = s0 98 16 ∧ s 98 17 = s0 98 17 ∧ s 98 18 = s0 98 18 ∧ s 98 13 = s0 98 13) _ (if_98_15 I0 (by omega)) (F0_.up rfl) ⟨rfl, rfl, rfl, rfl, rfl⟩ (fun s22 Is22 Fs22 ⟨es22_0, es22_1, es22_2, es22_3, es22_4⟩ => ?_))
            refine h_goto (pc' := 84) rfl rfl ?_
            exact h_wk [(0, .ref 98), (1, .int y1)] ⟨rfl, rfl, trivial⟩ (ih.2.1 _ Is22 Fs22 y1 _ hy1 (by omega) (by omega) (by omega) (by omega) (by omega) (by omega))
    · intro s0 I0 F0_ y1 b1 hy1 ry1 ex0 ex1 ex2 ex3 ex4 hm; have gh0 := tf_98_15 I0
      refine h_aload_n (pc' := 141) rfl rfl rfl ?_
      refine h_aload_n (pc' := 142) rfl rfl rfl ?_
      refine h_getI (pc' := 145) (v := s0 98 15) rfl rfl rfl rfl rfl rfl (fun z1 hz1 => ?_)
      have tz1 := tf_98_15 I0
      refine h_call (sp := false) (pc' := 148) (M := [(0, .ref 98), (1, .int z1)]) rfl rfl rfl rfl rfl rfl rfl rfl ?_
      refine h_iload_n (pc' := 1) rfl rfl rfl ?_
      refine h_aload_n (pc' := 2) rfl rfl rfl ?_
      refine h_getI (pc' := 5) (v := σ 98 11) rfl rfl rfl rfl rfl (F0_ 98 11 rfl) (fun z2 hz2 => ?_)
      have tz2 := tf_98_11 hI
      refine h_cge (tg := 17) (pc' := 8) rfl rfl rfl hz1 hz2 (fun c3 => ?_) (fun c3 => ?_)
      · refine h_bipush (pc' := 19) (x := (Int32.ofInt (-4))) rfl rfl cb_m4 ?_
        refine h_iret rfl rfl (h_Kv ?_)
        refine h_i2l (pc' := 149) rfl rfl ci_m4 (fun z4 hz4 => ?_)
        refine h_ldc2 (pc' := 152) (x := (Int64.ofInt 48)) rfl rfl rfl ?_
        refine h_ldc2 (pc' := 155) (x := (Int64.ofInt 57)) rfl rfl rfl ?_
        refine h_calls (pc' := 158) (M := [(0, .long z4), (2, .long (Int64.ofInt 48)), (4, .long (Int64.ofInt 57))]) rfl rfl rfl rfl rfl rfl ?_
        refine h_lload_n (pc' := 1) rfl rfl rfl ?_
        refine h_lload_n (pc' := 2) rfl rfl rfl ?_
        refine h_lcmp (pc' := 3) rfl rfl hz4 cl_48 (fun z5 hz5 => ?_)
        refine h_zlt (tg := 17) (pc' := 6) rfl rfl rfl rfl (fun c6 => ?_) (fun c6 => absurd c6 (by omega))
        refine h_iconst (pc' := 18) (x := (Int32.ofInt 0)) rfl rfl rfl ?_
        refine h_zret rfl rfl ci_0 (by omega) (h_Kv ?_)
        refine h_zeq (tg := 217) (pc' := 161) rfl rfl rfl ci_0 (fun c7 => ?_) (fun c7 => absurd c7 (by omega))
        refine h_aload_n (pc' := 218) rfl rfl rfl ?_
        refine h_iconst (pc' := 219) (x := (Int32.ofInt 2)) rfl rfl rfl ?_
        refine h_put (pc' := 222) rfl rfl rfl rfl rfl rfl ci_2 rfl (h_fgt (E := fun s => s 98 15 = s0 98 15 ∧ s 98 16 = s0 98 16 ∧ s 98 17 = 2 ∧ s 98 18 = s0 98 18 ∧ s 98 13 = s0 98 13) _ (if_98_17 I0 (by omega)) (F0_.up rfl) ⟨rfl, rfl, rfl, rfl, rfl⟩ (fun s8 Is8 Fs8 ⟨es8_0, es8_1, es8_2, es8_3, es8_4⟩ => ?_))
        refine h_aload_n (pc' := 223) rfl rfl rfl ?_
        refine h_getI (pc' := 226) (v := s0 98 15) rfl rfl rfl rfl rfl es8_0 (fun z9 hz9 => ?_)
        have tz9 := tf_98_15 I0
        refine h_aload_n (pc' := 227) rfl rfl rfl ?_
        refine h_getI (pc' := 230) (v := s0 98 16) rfl rfl rfl rfl rfl es8_1 (fun z10 hz10 => ?_)
        have tz10 := tf_98_16 I0
        refine h_isub (pc' := 231) rfl rfl hz9 hz10 rfl (by omega) (by omega) (fun z11 hz11 => ?_)
        refine h_iconst (pc' := 232) (x := (Int32.ofInt 2)) rfl rfl rfl ?_
        refine h_cle (tg := 269) (pc' := 235) rfl rfl rfl hz11 ci_2 (fun c12 => ?_) (fun c12 => ?_)
        · exact h_vret rfl rfl (kk _ Is8 Fs8 (by omega) (by omega) (by omega))
        · refine h_aload_n (pc' := 236) rfl rfl rfl ?_
          refine h_iconst (pc' := 237) (x := (Int32.ofInt 1)) rfl rfl rfl ?_
          refine h_call (sp := false) (pc' := 240) (M := [(0, .ref 98), (1, .int (Int32.ofInt 1))]) rfl rfl rfl rfl rfl rfl rfl rfl ?_
          refine h_aload_n (pc' := 1) rfl rfl rfl ?_
          refine h_getI (pc' := 4) (v := s0 98 13) rfl rfl rfl rfl rfl es8_4 (fun z13 hz13 => ?_)
          have tz13 := tf_98_13 I0
          refine h_zne (tg := 20) (pc' := 7) rfl rfl rfl hz13 (fun c14 => ?_) (fun c14 => ?_)
          · refine h_vret rfl rfl (h_Kn ?_)
            refine h_goto (pc' := 269) rfl rfl ?_
            exact h_vret rfl rfl (kk _ Is8 Fs8 (by omega) (by omega) (by omega))
          · refine h_aload_n (pc' := 8) rfl rfl rfl ?_
            refine h_iload_n (pc' := 9) rfl rfl rfl ?_
            refine h_put (pc' := 12) rfl rfl rfl rfl rfl rfl ci_1 rfl (h_fgt (E := fun s => s 98 15 = s0 98 15 ∧ s 98 16 = s0 98 16 ∧ s 98 17 = 2 ∧ s 98 18 = s0 98 18 ∧ s 98 13 = 1) _ (if_98_13 Is8 (by omega)) (Fs8.up rfl) ⟨es8_0, es8_1, es8_2, es8_3, rfl⟩ (fun s15 Is15 Fs15 ⟨es15_0, es15_1, es15_2, es15_3, es15_4⟩ => ?_))
            clear es8_0 es8_1 es8_2 es8_3 es8_4
            refine h_aload_n (pc' := 13) rfl rfl rfl ?_
            refine h_aload_n (pc' := 14) rfl rfl rfl ?_
            refine h_getI (pc' := 17) (v := s0 98 16) rfl rfl rfl rfl rfl es15_1 (fun z16 hz16 => ?_)
            have tz16 := tf_98_16 I0
            refine h_put (pc' := 20) rfl rfl rfl rfl rfl rfl hz16 rfl (h_fgt (E := fun s => s 98 15 = s0 98 15 ∧ s 98 16 = s0 98 16 ∧ s 98 17 = 2 ∧ s 98 18 = s0 98 18 ∧ s 98 13 = 1) _ (if_98_14 Is15 (h_rgv hz16)) (Fs15.up rfl) ⟨es15_0, es15_1, es15_2, es15_3, es15_4⟩ (fun s17 Is17 Fs17 ⟨es17_0, es17_1, es17_2, es17_3, es17_4⟩ => ?_))
            clear es15_0 es15_1 es15_2 es15_3 es15_4
            refine h_vret rfl rfl (h_Kn ?_)
            refine h_goto (pc' := 269) rfl rfl ?_
            exact h_vret rfl rfl (kk _ Is17 Fs17 (by omega) (by omega) (by omega))
      · refine h_aload_n (pc' := 9) rfl rfl rfl ?_
        refine h_getR (pc' := 12) rfl rfl rfl rfl rfl ?_
        refine h_iload_n (pc' := 13) rfl rfl rfl ?_
        refine h_iald (pc' := 14) (v := σ 102 (s0 98 15)) rfl rfl rfl hz1 (by omega) (by omega) (F0_ 102 _ rfl) (fun z18 hz18 => ?_)
        have tz18 := ty_102 hI (s0 98 15)
        refine h_goto (pc' := 19) rfl rfl ?_
        refine h_iret rfl rfl (h_Kv ?_)
        refine h_i2l (pc' := 149) rfl rfl hz18 (fun z19 hz19 => ?_)
        refine h_ldc2 (pc' := 152) (x := (Int64.ofInt 48)) rfl rfl rfl ?_
        refine h_ldc2 (pc' := 155) (x := (Int64.ofInt 57)) rfl rfl rfl ?_
        refine h_calls (pc' := 158) (M := [(0, .long z19), (2, .long (Int64.ofInt 48)), (4, .long (Int64.ofInt 57))]) rfl rfl rfl rfl rfl rfl ?_
        refine h_lload_n (pc' := 1) rfl rfl rfl ?_
        refine h_lload_n (pc' := 2) rfl rfl rfl ?_
        refine h_lcmp (pc' := 3) rfl rfl hz19 cl_48 (fun z20 hz20 => ?_)
        refine h_zlt (tg := 17) (pc' := 6) rfl rfl rfl rfl (fun c21 => ?_) (fun c21 => ?_)
        · refine h_iconst (pc' := 18) (x := (Int32.ofInt 0)) rfl rfl rfl ?_
          refine h_zret rfl rfl ci_0 (by omega) (h_Kv ?_)
          refine h_zeq (tg := 217) (pc' := 161) rfl rfl rfl ci_0 (fun c22 => ?_) (fun c22 => absurd c22 (by omega))
          refine h_aload_n (pc' := 218) rfl rfl rfl ?_
          refine h_iconst (pc' := 219) (x := (Int32.ofInt 2)) rfl rfl rfl ?_
          refine h_put (pc' := 222) rfl rfl rfl rfl rfl rfl ci_2 rfl (h_fgt (E := fun s => s 98 15 = s0 98 15 ∧ s 98 16 = s0 98 16 ∧ s 98 17 = 2 ∧ s 98 18 = s0 98 18 ∧ s 98 13 = s0 98 13) _ (if_98_17 I0 (by omega)) (F0_.up rfl) ⟨rfl, rfl, rfl, rfl, rfl⟩ (fun s23 Is23 Fs23 ⟨es23_0, es23_1, es23_2, es23_3, es23_4⟩ => ?_))
          refine h_aload_n (pc' := 223) rfl rfl rfl ?_
          refine h_getI (pc' := 226) (v := s0 98 15) rfl rfl rfl rfl rfl es23_0 (fun z24 hz24 => ?_)
          have tz24 := tf_98_15 I0
          refine h_aload_n (pc' := 227) rfl rfl rfl ?_
          refine h_getI (pc' := 230) (v := s0 98 16) rfl rfl rfl rfl rfl es23_1 (fun z25 hz25 => ?_)
          have tz25 := tf_98_16 I0
          refine h_isub (pc' := 231) rfl rfl hz24 hz25 rfl (by omega) (by omega) (fun z26 hz26 => ?_)
          refine h_iconst (pc' := 232) (x := (Int32.ofInt 2)) rfl rfl rfl ?_
          refine h_cle (tg := 269) (pc' := 235) rfl rfl rfl hz26 ci_2 (fun c27 => ?_) (fun c27 => ?_)
          · exact h_vret rfl rfl (kk _ Is23 Fs23 (by omega) (by omega) (by omega))
          · refine h_aload_n (pc' := 236) rfl rfl rfl ?_
            refine h_iconst (pc' := 237) (x := (Int32.ofInt 1)) rfl rfl rfl ?_
            refine h_call (sp := false) (pc' := 240) (M := [(0, .ref 98), (1, .int (Int32.ofInt 1))]) rfl rfl rfl rfl rfl rfl rfl rfl ?_
            refine h_aload_n (pc' := 1) rfl rfl rfl ?_
            refine h_getI (pc' := 4) (v := s0 98 13) rfl rfl rfl rfl rfl es23_4 (fun z28 hz28 => ?_)
            have tz28 := tf_98_13 I0
            refine h_zne (tg := 20) (pc' := 7) rfl rfl rfl hz28 (fun c29 => ?_) (fun c29 => ?_)
            · refine h_vret rfl rfl (h_Kn ?_)
              refine h_goto (pc' := 269) rfl rfl ?_
              exact h_vret rfl rfl (kk _ Is23 Fs23 (by omega) (by omega) (by omega))
            · refine h_aload_n (pc' := 8) rfl rfl rfl ?_
              refine h_iload_n (pc' := 9) rfl rfl rfl ?_
              refine h_put (pc' := 12) rfl rfl rfl rfl rfl rfl ci_1 rfl (h_fgt (E := fun s => s 98 15 = s0 98 15 ∧ s 98 16 = s0 98 16 ∧ s 98 17 = 2 ∧ s 98 18 = s0 98 18 ∧ s 98 13 = 1) _ (if_98_13 Is23 (by omega)) (Fs23.up rfl) ⟨es23_0, es23_1, es23_2, es23_3, rfl⟩ (fun s30 Is30 Fs30 ⟨es30_0, es30_1, es30_2, es30_3, es30_4⟩ => ?_))
              clear es23_0 es23_1 es23_2 es23_3 es23_4
              refine h_aload_n (pc' := 13) rfl rfl rfl ?_
              refine h_aload_n (pc' := 14) rfl rfl rfl ?_
              refine h_getI (pc' := 17) (v := s0 98 16) rfl rfl rfl rfl rfl es30_1 (fun z31 hz31 => ?_)
              have tz31 := tf_98_16 I0
              refine h_put (pc' := 20) rfl rfl rfl rfl rfl rfl hz31 rfl (h_fgt (E := fun s => s 98 15 = s0 98 15 ∧ s 98 16 = s0 98 16 ∧ s 98 17 = 2 ∧ s 98 18 = s0 98 18 ∧ s 98 13 = 1) _ (if_98_14 Is30 (h_rgv hz31)) (Fs30.up rfl) ⟨es30_0, es30_1, es30_2, es30_3, es30_4⟩ (fun s32 Is32 Fs32 ⟨es32_0, es32_1, es32_2, es32_3, es32_4⟩ => ?_))
              clear es30_0 es30_1 es30_2 es30_3 es30_4
              refine h_vret rfl rfl (h_Kn ?_)
              refine h_goto (pc' := 269) rfl rfl ?_
              exact h_vret rfl rfl (kk _ Is32 Fs32 (by omega) (by omega) (by omega))
        · refine h_lload_n (pc' := 7) rfl rfl rfl ?_
          refine h_lload (pc' := 9) rfl rfl rfl ?_
          refine h_lcmp (pc' := 10) rfl rfl hz19 cl_57 (fun z33 hz33 => ?_)
          refine h_zgt (tg := 17) (pc' := 13) rfl rfl rfl rfl (fun c34 => ?_) (fun c34 => ?_)
          · refine h_iconst (pc' := 18) (x := (Int32.ofInt 0)) rfl rfl rfl ?_
            refine h_zret rfl rfl ci_0 (by omega) (h_Kv ?_)
            refine h_zeq (tg := 217) (pc' := 161) rfl rfl rfl ci_0 (fun c35 => ?_) (fun c35 => absurd c35 (by omega))
            refine h_aload_n (pc' := 218) rfl rfl rfl ?_
            refine h_iconst (pc' := 219) (x := (Int32.ofInt 2)) rfl rfl rfl ?_
            refine h_put (pc' := 222) rfl rfl rfl rfl rfl rfl ci_2 rfl (h_fgt (E := fun s => s 98 15 = s0 98 15 ∧ s 98 16 = s0 98 16 ∧ s 98 17 = 2 ∧ s 98 18 = s0 98 18 ∧ s 98 13 = s0 98 13) _ (if_98_17 I0 (by omega)) (F0_.up rfl) ⟨rfl, rfl, rfl, rfl, rfl⟩ (fun s36 Is36 Fs36 ⟨es36_0, es36_1, es36_2, es36_3, es36_4⟩ => ?_))
            refine h_aload_n (pc' := 223) rfl rfl rfl ?_
            refine h_getI (pc' := 226) (v := s0 98 15) rfl rfl rfl rfl rfl es36_0 (fun z37 hz37 => ?_)
            have tz37 := tf_98_15 I0
            refine h_aload_n (pc' := 227) rfl rfl rfl ?_
            refine h_getI (pc' := 230) (v := s0 98 16) rfl rfl rfl rfl rfl es36_1 (fun z38 hz38 => ?_)
            have tz38 := tf_98_16 I0
            refine h_isub (pc' := 231) rfl rfl hz37 hz38 rfl (by omega) (by omega) (fun z39 hz39 => ?_)
            refine h_iconst (pc' := 232) (x := (Int32.ofInt 2)) rfl rfl rfl ?_
            refine h_cle (tg := 269) (pc' := 235) rfl rfl rfl hz39 ci_2 (fun c40 => ?_) (fun c40 => ?_)
            · exact h_vret rfl rfl (kk _ Is36 Fs36 (by omega) (by omega) (by omega))
            · refine h_aload_n (pc' := 236) rfl rfl rfl ?_
              refine h_iconst (pc' := 237) (x := (Int32.ofInt 1)) rfl rfl rfl ?_
              refine h_call (sp := false) (pc' := 240) (M := [(0, .ref 98), (1, .int (Int32.ofInt 1))]) rfl rfl rfl rfl rfl rfl rfl rfl ?_
              refine h_aload_n (pc' := 1) rfl rfl rfl ?_
              refine h_getI (pc' := 4) (v := s0 98 13) rfl rfl rfl rfl rfl es36_4 (fun z41 hz41 => ?_)
              have tz41 := tf_98_13 I0
              refine h_zne (tg := 20) (pc' := 7) rfl rfl rfl hz41 (fun c42 => ?_) (fun c42 => ?_)
              · refine h_vret rfl rfl (h_Kn ?_)
                refine h_goto (pc' := 269) rfl rfl ?_
                exact h_vret rfl rfl (kk _ Is36 Fs36 (by omega) (by omega) (by omega))
              · refine h_aload_n (pc' := 8) rfl rfl rfl ?_
                refine h_iload_n (pc' := 9) rfl rfl rfl ?_
                refine h_put (pc' := 12) rfl rfl rfl rfl rfl rfl ci_1 rfl (h_fgt (E := fun s => s 98 15 = s0 98 15 ∧ s 98 16 = s0 98 16 ∧ s 98 17 = 2 ∧ s 98 18 = s0 98 18 ∧ s 98 13 = 1) _ (if_98_13 Is36 (by omega)) (Fs36.up rfl) ⟨es36_0, es36_1, es36_2, es36_3, rfl⟩ (fun s43 Is43 Fs43 ⟨es43_0, es43_1, es43_2, es43_3, es43_4⟩ => ?_))
                clear es36_0 es36_1 es36_2 es36_3 es36_4
                refine h_aload_n (pc' := 13) rfl rfl rfl ?_
                refine h_aload_n (pc' := 14) rfl rfl rfl ?_
                refine h_getI (pc' := 17) (v := s0 98 16) rfl rfl rfl rfl rfl es43_1 (fun z44 hz44 => ?_)
                have tz44 := tf_98_16 I0
                refine h_put (pc' := 20) rfl rfl rfl rfl rfl rfl hz44 rfl (h_fgt (E := fun s => s 98 15 = s0 98 15 ∧ s 98 16 = s0 98 16 ∧ s 98 17 = 2 ∧ s 98 18 = s0 98 18 ∧ s 98 13 = 1) _ (if_98_14 Is43 (h_rgv hz44)) (Fs43.up rfl) ⟨es43_0, es43_1, es43_2, es43_3, es43_4⟩ (fun s45 Is45 Fs45 ⟨es45_0, es45_1, es45_2, es45_3, es45_4⟩ => ?_))
                clear es43_0 es43_1 es43_2 es43_3 es43_4
                refine h_vret rfl rfl (h_Kn ?_)
                refine h_goto (pc' := 269) rfl rfl ?_
                exact h_vret rfl rfl (kk _ Is45 Fs45 (by omega) (by omega) (by omega))
          · refine h_iconst (pc' := 14) (x := (Int32.ofInt 1)) rfl rfl rfl ?_
            refine h_goto (pc' := 18) rfl rfl ?_
            refine h_zret rfl rfl ci_1 (by omega) (h_Kv ?_)
            refine h_zeq (tg := 217) (pc' := 161) rfl rfl rfl ci_1 (fun c46 => absurd c46 (by omega)) (fun c46 => ?_)
            refine h_aload_n (pc' := 162) rfl rfl rfl ?_
            refine h_aload_n (pc' := 163) rfl rfl rfl ?_
            refine h_getI (pc' := 166) (v := s0 98 15) rfl rfl rfl rfl rfl rfl (fun z47 hz47 => ?_)
            have tz47 := tf_98_15 I0
            refine h_aload_n (pc' := 167) rfl rfl rfl ?_
            refine h_getI (pc' := 170) (v := s0 98 16) rfl rfl rfl rfl rfl rfl (fun z48 hz48 => ?_)
            have tz48 := tf_98_16 I0
            refine h_isub (pc' := 171) rfl rfl hz47 hz48 rfl (by omega) (by omega) (fun z49 hz49 => ?_)
            refine h_iconst (pc' := 172) (x := (Int32.ofInt 2)) rfl rfl rfl ?_
            refine h_cge (tg := 197) (pc' := 175) rfl rfl rfl hz49 ci_2 (fun c50 => ?_) (fun c50 => ?_)
            · refine h_aload_n (pc' := 198) rfl rfl rfl ?_
              refine h_getI (pc' := 201) (v := s0 98 18) rfl rfl rfl rfl rfl rfl (fun z51 hz51 => ?_)
              have tz51 := tf_98_18 I0
              refine h_put (pc' := 204) rfl rfl rfl rfl rfl rfl hz51 rfl (h_fgt (E := fun s => s 98 15 = s0 98 15 ∧ s 98 16 = s0 98 16 ∧ s 98 17 = s0 98 17 ∧ s 98 18 = (s0 98 18) ∧ s 98 13 = s0 98 13) _ (if_98_18 I0 (by omega)) (F0_.up rfl) ⟨rfl, rfl, rfl, rfl, rfl⟩ (fun s52 Is52 Fs52 ⟨es52_0, es52_1, es52_2, es52_3, es52_4⟩ => ?_))
              refine h_aload_n (pc' := 205) rfl rfl rfl ?_
              refine h_dup (pc' := 206) rfl rfl rfl ?_
              refine h_getI (pc' := 209) (v := s0 98 15) rfl rfl rfl rfl rfl es52_0 (fun z53 hz53 => ?_)
              have tz53 := tf_98_15 I0
              refine h_iconst (pc' := 210) (x := (Int32.ofInt 1)) rfl rfl rfl ?_
              refine h_iadd (pc' := 211) rfl rfl hz53 ci_1 rfl (by omega) (by omega) (fun z54 hz54 => ?_)
              refine h_put (pc' := 214) rfl rfl rfl rfl rfl rfl hz54 rfl (h_fgt (E := fun s => s 98 15 = ((s0 98 15) + 1) ∧ s 98 16 = s0 98 16 ∧ s 98 17 = s0 98 17 ∧ s 98 18 = (s0 98 18) ∧ s 98 13 = s0 98 13) _ (if_98_15 Is52 (by omega)) (Fs52.up rfl) ⟨rfl, es52_1, es52_2, es52_3, es52_4⟩ (fun s55 Is55 Fs55 ⟨es55_0, es55_1, es55_2, es55_3, es55_4⟩ => ?_))
              clear es52_0 es52_1 es52_2 es52_3 es52_4
              refine h_goto (pc' := 140) rfl rfl ?_
              exact h_wk [(0, .ref 98), (1, .int y1)] ⟨rfl, rfl, trivial⟩ (ih.2.2 _ Is55 Fs55 y1 _ hy1 (by omega) (by omega) (by omega) (by omega) (by omega) (by omega) (by omega))
            · refine h_bipush (pc' := 177) (x := (Int32.ofInt 10)) rfl rfl cb_10 ?_
              refine h_aload_n (pc' := 178) rfl rfl rfl ?_
              refine h_getI (pc' := 181) (v := s0 98 18) rfl rfl rfl rfl rfl rfl (fun z56 hz56 => ?_)
              have tz56 := tf_98_18 I0
              refine h_imul (pc' := 182) rfl rfl ci_10 hz56 rfl (by omega) (by omega) (fun z57 hz57 => ?_)
              refine h_aload_n (pc' := 183) rfl rfl rfl ?_
              refine h_aload_n (pc' := 184) rfl rfl rfl ?_
              refine h_getI (pc' := 187) (v := s0 98 15) rfl rfl rfl rfl rfl rfl (fun z58 hz58 => ?_)
              have tz58 := tf_98_15 I0
              refine h_call (sp := false) (pc' := 190) (M := [(0, .ref 98), (1, .int z58)]) rfl rfl rfl rfl rfl rfl rfl rfl ?_
              refine h_iload_n (pc' := 1) rfl rfl rfl ?_
              refine h_aload_n (pc' := 2) rfl rfl rfl ?_
              refine h_getI (pc' := 5) (v := σ 98 11) rfl rfl rfl rfl rfl (F0_ 98 11 rfl) (fun z59 hz59 => ?_)
              have tz59 := tf_98_11 hI
              refine h_cge (tg := 17) (pc' := 8) rfl rfl rfl hz58 hz59 (fun c60 => ?_) (fun c60 => ?_)
              · refine h_bipush (pc' := 19) (x := (Int32.ofInt (-4))) rfl rfl cb_m4 ?_
                refine h_iret rfl rfl (h_Kv ?_)
                refine h_iadd (pc' := 191) rfl rfl hz57 ci_m4 rfl (by omega) (by omega) (fun z61 hz61 => ?_)
                refine h_bipush (pc' := 193) (x := (Int32.ofInt 48)) rfl rfl cb_48 ?_
                refine h_isub (pc' := 194) rfl rfl hz61 ci_48 rfl (by omega) (by omega) (fun z62 hz62 => ?_)
                refine h_goto (pc' := 201) rfl rfl ?_
                refine h_put (pc' := 204) rfl rfl rfl rfl rfl rfl hz62 rfl (h_fgt (E := fun s => s 98 15 = s0 98 15 ∧ s 98 16 = s0 98 16 ∧ s 98 17 = s0 98 17 ∧ s 98 18 = (((10 * (s0 98 18)) + (-4)) - 48) ∧ s 98 13 = s0 98 13) _ (if_98_18 I0 (by omega)) (F0_.up rfl) ⟨rfl, rfl, rfl, rfl, rfl⟩ (fun s63 Is63 Fs63 ⟨es63_0, es63_1, es63_2, es63_3, es63_4⟩ => ?_))
                refine h_aload_n (pc' := 205) rfl rfl rfl ?_
                refine h_dup (pc' := 206) rfl rfl rfl ?_
                refine h_getI (pc' := 209) (v := s0 98 15) rfl rfl rfl rfl rfl es63_0 (fun z64 hz64 => ?_)
                have tz64 := tf_98_15 I0
                refine h_iconst (pc' := 210) (x := (Int32.ofInt 1)) rfl rfl rfl ?_
                refine h_iadd (pc' := 211) rfl rfl hz64 ci_1 rfl (by omega) (by omega) (fun z65 hz65 => ?_)
                refine h_put (pc' := 214) rfl rfl rfl rfl rfl rfl hz65 rfl (h_fgt (E := fun s => s 98 15 = ((s0 98 15) + 1) ∧ s 98 16 = s0 98 16 ∧ s 98 17 = s0 98 17 ∧ s 98 18 = (((10 * (s0 98 18)) + (-4)) - 48) ∧ s 98 13 = s0 98 13) _ (if_98_15 Is63 (by omega)) (Fs63.up rfl) ⟨rfl, es63_1, es63_2, es63_3, es63_4⟩ (fun s66 Is66 Fs66 ⟨es66_0, es66_1, es66_2, es66_3, es66_4⟩ => ?_))
                clear es63_0 es63_1 es63_2 es63_3 es63_4
                refine h_goto (pc' := 140) rfl rfl ?_
                exact h_wk [(0, .ref 98), (1, .int y1)] ⟨rfl, rfl, trivial⟩ (ih.2.2 _ Is66 Fs66 y1 _ hy1 (by omega) (by omega) (by omega) (by omega) (by omega) (by omega) (by omega))
              · refine h_aload_n (pc' := 9) rfl rfl rfl ?_
                refine h_getR (pc' := 12) rfl rfl rfl rfl rfl ?_
                refine h_iload_n (pc' := 13) rfl rfl rfl ?_
                refine h_iald (pc' := 14) (v := σ 102 (s0 98 15)) rfl rfl rfl hz58 (by omega) (by omega) (F0_ 102 _ rfl) (fun z67 hz67 => ?_)
                have tz67 := ty_102 hI (s0 98 15)
                refine h_goto (pc' := 19) rfl rfl ?_
                refine h_iret rfl rfl (h_Kv ?_)
                refine h_iadd (pc' := 191) rfl rfl hz57 hz67 rfl (by omega) (by omega) (fun z68 hz68 => ?_)
                refine h_bipush (pc' := 193) (x := (Int32.ofInt 48)) rfl rfl cb_48 ?_
                refine h_isub (pc' := 194) rfl rfl hz68 ci_48 rfl (by omega) (by omega) (fun z69 hz69 => ?_)
                refine h_goto (pc' := 201) rfl rfl ?_
                refine h_put (pc' := 204) rfl rfl rfl rfl rfl rfl hz69 rfl (h_fgt (E := fun s => s 98 15 = s0 98 15 ∧ s 98 16 = s0 98 16 ∧ s 98 17 = s0 98 17 ∧ s 98 18 = (((10 * (s0 98 18)) + (σ 102 (s0 98 15))) - 48) ∧ s 98 13 = s0 98 13) _ (if_98_18 I0 (by omega)) (F0_.up rfl) ⟨rfl, rfl, rfl, rfl, rfl⟩ (fun s70 Is70 Fs70 ⟨es70_0, es70_1, es70_2, es70_3, es70_4⟩ => ?_))
                refine h_aload_n (pc' := 205) rfl rfl rfl ?_
                refine h_dup (pc' := 206) rfl rfl rfl ?_
                refine h_getI (pc' := 209) (v := s0 98 15) rfl rfl rfl rfl rfl es70_0 (fun z71 hz71 => ?_)
                have tz71 := tf_98_15 I0
                refine h_iconst (pc' := 210) (x := (Int32.ofInt 1)) rfl rfl rfl ?_
                refine h_iadd (pc' := 211) rfl rfl hz71 ci_1 rfl (by omega) (by omega) (fun z72 hz72 => ?_)
                refine h_put (pc' := 214) rfl rfl rfl rfl rfl rfl hz72 rfl (h_fgt (E := fun s => s 98 15 = ((s0 98 15) + 1) ∧ s 98 16 = s0 98 16 ∧ s 98 17 = s0 98 17 ∧ s 98 18 = (((10 * (s0 98 18)) + (σ 102 (s0 98 15))) - 48) ∧ s 98 13 = s0 98 13) _ (if_98_15 Is70 (by omega)) (Fs70.up rfl) ⟨rfl, es70_1, es70_2, es70_3, es70_4⟩ (fun s73 Is73 Fs73 ⟨es73_0, es73_1, es73_2, es73_3, es73_4⟩ => ?_))
                clear es70_0 es70_1 es70_2 es70_3 es70_4
                refine h_goto (pc' := 140) rfl rfl ?_
                exact h_wk [(0, .ref 98), (1, .int y1)] ⟨rfl, rfl, trivial⟩ (ih.2.2 _ Is73 Fs73 y1 _ hy1 (by omega) (by omega) (by omega) (by omega) (by omega) (by omega) (by omega))
theorem v_step {ns : Nat} (σ : h_S) (hI : h_I σ) {Q : Option Value → h_S → Prop} (kk : ∀ (τ : h_S), h_I τ → h_F k_lx τ σ → (σ 98 15 ≤ τ 98 15) → (¬ σ 98 13 = 0 → τ 98 13 = σ 98 13) → (σ 98 13 = 0 → (τ 98 17 = 0 ∨ σ 98 15 < τ 98 15)) → Q none τ) : h_T g_P (g_Y ns) 148 0 [(0, .ref 98)] [] σ Q := by
  have F00 : h_F k_lx σ σ := h_F.rf
  refine h_aload_n (pc' := 1) rfl rfl rfl ?_
  refine h_getI (pc' := 4) (v := σ 98 13) rfl rfl rfl rfl rfl rfl (fun z1 hz1 => ?_)
  have tz1 := tf_98_13 hI
  refine h_zle (tg := 8) (pc' := 7) rfl rfl rfl hz1 (fun c2 => ?_) (fun c2 => ?_)
  · exact h_wk [(0, .ref 98)] ⟨rfl, trivial⟩ ((v_step_l ns σ hI  kk 1000000000000).1 _ hI F00  (by omega) (by omega) (by omega) (by omega))
  · exact h_vret rfl rfl (kk _ hI F00 (by omega) (by omega) (by omega))
theorem v_number {ns : Nat} (σ : h_S) (hI : h_I σ) (x1 : Int32) (a1 : Int) (hx1 : x1.toInt = a1) {Q : Option Value → h_S → Prop} (kk : ∀ (r : Int32) (b : Int) (hb : r.toInt = b) (τ : h_S), h_I τ → h_F k_lx τ σ → (0 ≤ b ∧ b ≤ 99) → (σ 98 15 ≤ τ 98 15) → (¬ σ 98 13 = 0 → ¬ τ 98 13 = 0) → (b = 0 ∨ b ≤ a1) → Q (some (.int r)) τ) : h_T g_P (g_Y ns) 149 0 [(0, .ref 98), (1, .int (Int32.ofInt 0)), (2, .int x1)] [] σ Q := by
  have F00 : h_F k_lx σ σ := h_F.rf
  refine h_aload_n (pc' := 1) rfl rfl rfl ?_
  refine h_getI (pc' := 4) (v := σ 98 13) rfl rfl rfl rfl rfl rfl (fun z1 hz1 => ?_)
  have tz1 := tf_98_13 hI
  refine h_zne (tg := 20) (pc' := 7) rfl rfl rfl hz1 (fun c2 => ?_) (fun c2 => ?_)
  · refine h_aload_n (pc' := 21) rfl rfl rfl ?_
    refine h_getI (pc' := 24) (v := σ 98 13) rfl rfl rfl rfl rfl rfl (fun z3 hz3 => ?_)
    have tz3 := tf_98_13 hI
    refine h_zne (tg := 47) (pc' := 27) rfl rfl rfl hz3 (fun c4 => ?_) (fun c4 => absurd c4 (by omega))
    refine h_aload_n (pc' := 48) rfl rfl rfl ?_
    refine h_getI (pc' := 51) (v := σ 98 13) rfl rfl rfl rfl rfl rfl (fun z5 hz5 => ?_)
    have tz5 := tf_98_13 hI
    refine h_zne (tg := 61) (pc' := 54) rfl rfl rfl hz5 (fun c6 => ?_) (fun c6 => absurd c6 (by omega))
    refine h_iload_n (pc' := 62) rfl rfl rfl ?_
    refine h_istore_n (pc' := 63) (M := [(3, .int (Int32.ofInt 0)), (0, .ref 98), (1, .int (Int32.ofInt 0)), (2, .int x1)]) rfl rfl rfl rfl ?_
    refine h_aload_n (pc' := 64) rfl rfl rfl ?_
    refine h_call (sp := false) (pc' := 67) (M := [(0, .ref 98)]) rfl rfl rfl rfl rfl rfl rfl rfl ?_
    refine v_step _ hI  (fun s8 Is8 Gs8 ps8_0 ps8_1 ps8_2 => h_Kn ?_)
    have Fs8 := (Gs8).tr F00
    refine h_iload_n (pc' := 68) rfl rfl rfl ?_
    exact h_iret rfl rfl (kk _ _ ci_0 _ Is8 Fs8 (by omega) (by omega) (by omega) (by omega))
  · refine h_aload_n (pc' := 8) rfl rfl rfl ?_
    refine h_getI (pc' := 11) (v := σ 98 17) rfl rfl rfl rfl rfl rfl (fun z9 hz9 => ?_)
    have tz9 := tf_98_17 hI
    refine h_iconst (pc' := 12) (x := (Int32.ofInt 2)) rfl rfl rfl ?_
    refine h_ceq (tg := 20) (pc' := 15) rfl rfl rfl hz9 ci_2 (fun c10 => ?_) (fun c10 => ?_)
    · refine h_aload_n (pc' := 21) rfl rfl rfl ?_
      refine h_getI (pc' := 24) (v := σ 98 13) rfl rfl rfl rfl rfl rfl (fun z11 hz11 => ?_)
      have tz11 := tf_98_13 hI
      refine h_zne (tg := 47) (pc' := 27) rfl rfl rfl hz11 (fun c12 => absurd c12 (by omega)) (fun c12 => ?_)
      refine h_aload_n (pc' := 28) rfl rfl rfl ?_
      refine h_getI (pc' := 31) (v := σ 98 18) rfl rfl rfl rfl rfl rfl (fun z13 hz13 => ?_)
      have tz13 := tf_98_18 hI
      refine h_i2l (pc' := 32) rfl rfl hz13 (fun z14 hz14 => ?_)
      refine h_iload_n (pc' := 33) rfl rfl rfl ?_
      refine h_i2l (pc' := 34) rfl rfl ci_0 (fun z15 hz15 => ?_)
      refine h_iload_n (pc' := 35) rfl rfl rfl ?_
      refine h_i2l (pc' := 36) rfl rfl hx1 (fun z16 hz16 => ?_)
      refine h_calls (pc' := 39) (M := [(0, .long z14), (2, .long z15), (4, .long z16)]) rfl rfl rfl rfl rfl rfl ?_
      refine h_lload_n (pc' := 1) rfl rfl rfl ?_
      refine h_lload_n (pc' := 2) rfl rfl rfl ?_
      refine h_lcmp (pc' := 3) rfl rfl hz14 hz15 (fun z17 hz17 => ?_)
      refine h_zlt (tg := 17) (pc' := 6) rfl rfl rfl rfl (fun c18 => absurd c18 (by omega)) (fun c18 => ?_)
      refine h_lload_n (pc' := 7) rfl rfl rfl ?_
      refine h_lload (pc' := 9) rfl rfl rfl ?_
      refine h_lcmp (pc' := 10) rfl rfl hz14 hz16 (fun z19 hz19 => ?_)
      refine h_zgt (tg := 17) (pc' := 13) rfl rfl rfl rfl (fun c20 => ?_) (fun c20 => ?_)
      · refine h_iconst (pc' := 18) (x := (Int32.ofInt 0)) rfl rfl rfl ?_
        refine h_zret rfl rfl ci_0 (by omega) (h_Kv ?_)
        refine h_zne (tg := 47) (pc' := 42) rfl rfl rfl ci_0 (fun c21 => absurd c21 (by omega)) (fun c21 => ?_)
        refine h_aload_n (pc' := 43) rfl rfl rfl ?_
        refine h_iconst (pc' := 44) (x := (Int32.ofInt 3)) rfl rfl rfl ?_
        refine h_call (sp := false) (pc' := 47) (M := [(0, .ref 98), (1, .int (Int32.ofInt 3))]) rfl rfl rfl rfl rfl rfl rfl rfl ?_
        refine h_aload_n (pc' := 1) rfl rfl rfl ?_
        refine h_getI (pc' := 4) (v := σ 98 13) rfl rfl rfl rfl rfl rfl (fun z22 hz22 => ?_)
        have tz22 := tf_98_13 hI
        refine h_zne (tg := 20) (pc' := 7) rfl rfl rfl hz22 (fun c23 => absurd c23 (by omega)) (fun c23 => ?_)
        refine h_aload_n (pc' := 8) rfl rfl rfl ?_
        refine h_iload_n (pc' := 9) rfl rfl rfl ?_
        refine h_put (pc' := 12) rfl rfl rfl rfl rfl rfl ci_3 rfl (h_fgt (E := fun s => s 98 15 = σ 98 15 ∧ s 98 16 = σ 98 16 ∧ s 98 17 = σ 98 17 ∧ s 98 18 = σ 98 18 ∧ s 98 13 = 3) _ (if_98_13 hI (by omega)) (F00.up rfl) ⟨rfl, rfl, rfl, rfl, rfl⟩ (fun s24 Is24 Fs24 ⟨es24_0, es24_1, es24_2, es24_3, es24_4⟩ => ?_))
        refine h_aload_n (pc' := 13) rfl rfl rfl ?_
        refine h_aload_n (pc' := 14) rfl rfl rfl ?_
        refine h_getI (pc' := 17) (v := σ 98 16) rfl rfl rfl rfl rfl es24_1 (fun z25 hz25 => ?_)
        have tz25 := tf_98_16 hI
        refine h_put (pc' := 20) rfl rfl rfl rfl rfl rfl hz25 rfl (h_fgt (E := fun s => s 98 15 = σ 98 15 ∧ s 98 16 = σ 98 16 ∧ s 98 17 = σ 98 17 ∧ s 98 18 = σ 98 18 ∧ s 98 13 = 3) _ (if_98_14 Is24 (h_rgv hz25)) (Fs24.up rfl) ⟨es24_0, es24_1, es24_2, es24_3, es24_4⟩ (fun s26 Is26 Fs26 ⟨es26_0, es26_1, es26_2, es26_3, es26_4⟩ => ?_))
        clear es24_0 es24_1 es24_2 es24_3 es24_4
        refine h_vret rfl rfl (h_Kn ?_)
        refine h_aload_n (pc' := 48) rfl rfl rfl ?_
        refine h_getI (pc' := 51) (v := 3) rfl rfl rfl rfl rfl es26_4 (fun z27 hz27 => ?_)
        refine h_zne (tg := 61) (pc' := 54) rfl rfl rfl hz27 (fun c28 => ?_) (fun c28 => absurd c28 (by omega))
        refine h_iload_n (pc' := 62) rfl rfl rfl ?_
        refine h_istore_n (pc' := 63) (M := [(3, .int (Int32.ofInt 0)), (0, .ref 98), (1, .int (Int32.ofInt 0)), (2, .int x1)]) rfl rfl rfl rfl ?_
        refine h_aload_n (pc' := 64) rfl rfl rfl ?_
        refine h_call (sp := false) (pc' := 67) (M := [(0, .ref 98)]) rfl rfl rfl rfl rfl rfl rfl rfl ?_
        refine v_step _ Is26  (fun s30 Is30 Gs30 ps30_0 ps30_1 ps30_2 => h_Kn ?_)
        have Fs30 := (Gs30).tr Fs26
        clear es26_0 es26_1 es26_2 es26_3 es26_4
        refine h_iload_n (pc' := 68) rfl rfl rfl ?_
        exact h_iret rfl rfl (kk _ _ ci_0 _ Is30 Fs30 (by omega) (by omega) (by omega) (by omega))
      · refine h_iconst (pc' := 14) (x := (Int32.ofInt 1)) rfl rfl rfl ?_
        refine h_goto (pc' := 18) rfl rfl ?_
        refine h_zret rfl rfl ci_1 (by omega) (h_Kv ?_)
        refine h_zne (tg := 47) (pc' := 42) rfl rfl rfl ci_1 (fun c31 => ?_) (fun c31 => absurd c31 (by omega))
        refine h_aload_n (pc' := 48) rfl rfl rfl ?_
        refine h_getI (pc' := 51) (v := σ 98 13) rfl rfl rfl rfl rfl rfl (fun z32 hz32 => ?_)
        have tz32 := tf_98_13 hI
        refine h_zne (tg := 61) (pc' := 54) rfl rfl rfl hz32 (fun c33 => absurd c33 (by omega)) (fun c33 => ?_)
        refine h_aload_n (pc' := 55) rfl rfl rfl ?_
        refine h_getI (pc' := 58) (v := σ 98 18) rfl rfl rfl rfl rfl rfl (fun z34 hz34 => ?_)
        have tz34 := tf_98_18 hI
        refine h_goto (pc' := 62) rfl rfl ?_
        refine h_istore_n (pc' := 63) (M := [(3, .int z34), (0, .ref 98), (1, .int (Int32.ofInt 0)), (2, .int x1)]) rfl rfl rfl rfl ?_
        refine h_aload_n (pc' := 64) rfl rfl rfl ?_
        refine h_call (sp := false) (pc' := 67) (M := [(0, .ref 98)]) rfl rfl rfl rfl rfl rfl rfl rfl ?_
        refine v_step _ hI  (fun s36 Is36 Gs36 ps36_0 ps36_1 ps36_2 => h_Kn ?_)
        have Fs36 := (Gs36).tr F00
        refine h_iload_n (pc' := 68) rfl rfl rfl ?_
        exact h_iret rfl rfl (kk _ _ hz34 _ Is36 Fs36 (by omega) (by omega) (by omega) (by omega))
    · refine h_aload_n (pc' := 16) rfl rfl rfl ?_
      refine h_iconst (pc' := 17) (x := (Int32.ofInt 2)) rfl rfl rfl ?_
      refine h_call (sp := false) (pc' := 20) (M := [(0, .ref 98), (1, .int (Int32.ofInt 2))]) rfl rfl rfl rfl rfl rfl rfl rfl ?_
      refine h_aload_n (pc' := 1) rfl rfl rfl ?_
      refine h_getI (pc' := 4) (v := σ 98 13) rfl rfl rfl rfl rfl rfl (fun z37 hz37 => ?_)
      have tz37 := tf_98_13 hI
      refine h_zne (tg := 20) (pc' := 7) rfl rfl rfl hz37 (fun c38 => absurd c38 (by omega)) (fun c38 => ?_)
      refine h_aload_n (pc' := 8) rfl rfl rfl ?_
      refine h_iload_n (pc' := 9) rfl rfl rfl ?_
      refine h_put (pc' := 12) rfl rfl rfl rfl rfl rfl ci_2 rfl (h_fgt (E := fun s => s 98 15 = σ 98 15 ∧ s 98 16 = σ 98 16 ∧ s 98 17 = σ 98 17 ∧ s 98 18 = σ 98 18 ∧ s 98 13 = 2) _ (if_98_13 hI (by omega)) (F00.up rfl) ⟨rfl, rfl, rfl, rfl, rfl⟩ (fun s39 Is39 Fs39 ⟨es39_0, es39_1, es39_2, es39_3, es39_4⟩ => ?_))
      refine h_aload_n (pc' := 13) rfl rfl rfl ?_
      refine h_aload_n (pc' := 14) rfl rfl rfl ?_
      refine h_getI (pc' := 17) (v := σ 98 16) rfl rfl rfl rfl rfl es39_1 (fun z40 hz40 => ?_)
      have tz40 := tf_98_16 hI
      refine h_put (pc' := 20) rfl rfl rfl rfl rfl rfl hz40 rfl (h_fgt (E := fun s => s 98 15 = σ 98 15 ∧ s 98 16 = σ 98 16 ∧ s 98 17 = σ 98 17 ∧ s 98 18 = σ 98 18 ∧ s 98 13 = 2) _ (if_98_14 Is39 (h_rgv hz40)) (Fs39.up rfl) ⟨es39_0, es39_1, es39_2, es39_3, es39_4⟩ (fun s41 Is41 Fs41 ⟨es41_0, es41_1, es41_2, es41_3, es41_4⟩ => ?_))
      clear es39_0 es39_1 es39_2 es39_3 es39_4
      refine h_vret rfl rfl (h_Kn ?_)
      refine h_aload_n (pc' := 21) rfl rfl rfl ?_
      refine h_getI (pc' := 24) (v := 2) rfl rfl rfl rfl rfl es41_4 (fun z42 hz42 => ?_)
      refine h_zne (tg := 47) (pc' := 27) rfl rfl rfl hz42 (fun c43 => ?_) (fun c43 => absurd c43 (by omega))
      refine h_aload_n (pc' := 48) rfl rfl rfl ?_
      refine h_getI (pc' := 51) (v := 2) rfl rfl rfl rfl rfl es41_4 (fun z44 hz44 => ?_)
      refine h_zne (tg := 61) (pc' := 54) rfl rfl rfl hz44 (fun c45 => ?_) (fun c45 => absurd c45 (by omega))
      refine h_iload_n (pc' := 62) rfl rfl rfl ?_
      refine h_istore_n (pc' := 63) (M := [(3, .int (Int32.ofInt 0)), (0, .ref 98), (1, .int (Int32.ofInt 0)), (2, .int x1)]) rfl rfl rfl rfl ?_
      refine h_aload_n (pc' := 64) rfl rfl rfl ?_
      refine h_call (sp := false) (pc' := 67) (M := [(0, .ref 98)]) rfl rfl rfl rfl rfl rfl rfl rfl ?_
      refine v_step _ Is41  (fun s47 Is47 Gs47 ps47_0 ps47_1 ps47_2 => h_Kn ?_)
      have Fs47 := (Gs47).tr Fs41
      clear es41_0 es41_1 es41_2 es41_3 es41_4
      refine h_iload_n (pc' := 68) rfl rfl rfl ?_
      exact h_iret rfl rfl (kk _ _ ci_0 _ Is47 Fs47 (by omega) (by omega) (by omega) (by omega))
theorem v_oneHere {ns : Nat} (σ : h_S) (hI : h_I σ) {Q : Option Value → h_S → Prop} (kk : ∀ (r : Int32) (b : Int) (hb : r.toInt = b) (τ : h_S), h_I τ → h_F k_lx τ σ → (0 ≤ b ∧ b ≤ 99) → (σ 98 15 ≤ τ 98 15) → (¬ σ 98 13 = 0 → ¬ τ 98 13 = 0) → (b ≤ 5) → Q (some (.int r)) τ) : h_T g_P (g_Y ns) 150 0 [(0, .ref 98)] [] σ Q := by
  have F00 : h_F k_lx σ σ := h_F.rf
  refine h_aload_n (pc' := 1) rfl rfl rfl ?_
  refine h_iconst (pc' := 2) (x := (Int32.ofInt 0)) rfl rfl rfl ?_
  refine h_iconst (pc' := 3) (x := (Int32.ofInt 5)) rfl rfl rfl ?_
  refine h_call (sp := false) (pc' := 6) (M := [(0, .ref 98), (1, .int (Int32.ofInt 0)), (2, .int (Int32.ofInt 5))]) rfl rfl rfl rfl rfl rfl rfl rfl ?_
  refine v_number _ hI  (Int32.ofInt 5) _ ci_5 (fun r1 br1 hr1 s2 Is2 Gs2 tr1 ps2_0 ps2_1 ps2_2 => h_Kv ?_)
  have Fs2 := (Gs2).tr F00
  refine h_istore_n (pc' := 7) (M := [(1, .int r1), (0, .ref 98)]) rfl rfl rfl rfl ?_
  refine h_aload_n (pc' := 8) rfl rfl rfl ?_
  refine h_iload_n (pc' := 9) rfl rfl rfl ?_
  refine h_aload_n (pc' := 10) rfl rfl rfl ?_
  refine h_getI (pc' := 13) (v := s2 98 8) rfl rfl rfl rfl rfl rfl (fun z3 hz3 => ?_)
  have tz3 := tf_98_8 Is2
  refine h_cle (tg := 20) (pc' := 16) rfl rfl rfl hr1 hz3 (fun c4 => ?_) (fun c4 => ?_)
  · refine h_aload_n (pc' := 21) rfl rfl rfl ?_
    refine h_getI (pc' := 24) (v := s2 98 8) rfl rfl rfl rfl rfl rfl (fun z5 hz5 => ?_)
    have tz5 := tf_98_8 Is2
    refine h_put (pc' := 27) rfl rfl rfl rfl rfl rfl hz5 rfl (h_fgt (E := fun s => s 98 15 = s2 98 15 ∧ s 98 16 = s2 98 16 ∧ s 98 17 = s2 98 17 ∧ s 98 18 = s2 98 18 ∧ s 98 13 = s2 98 13) _ (if_98_8 Is2 (by omega)) (Fs2.up rfl) ⟨rfl, rfl, rfl, rfl, rfl⟩ (fun s6 Is6 Fs6 ⟨es6_0, es6_1, es6_2, es6_3, es6_4⟩ => ?_))
    refine h_iload_n (pc' := 28) rfl rfl rfl ?_
    exact h_iret rfl rfl (kk _ _ hr1 _ Is6 Fs6 (by omega) (by omega) (by omega) (by omega))
  · refine h_iload_n (pc' := 17) rfl rfl rfl ?_
    refine h_goto (pc' := 24) rfl rfl ?_
    refine h_put (pc' := 27) rfl rfl rfl rfl rfl rfl hr1 rfl (h_fgt (E := fun s => s 98 15 = s2 98 15 ∧ s 98 16 = s2 98 16 ∧ s 98 17 = s2 98 17 ∧ s 98 18 = s2 98 18 ∧ s 98 13 = s2 98 13) _ (if_98_8 Is2 (by omega)) (Fs2.up rfl) ⟨rfl, rfl, rfl, rfl, rfl⟩ (fun s7 Is7 Fs7 ⟨es7_0, es7_1, es7_2, es7_3, es7_4⟩ => ?_))
    refine h_iload_n (pc' := 28) rfl rfl rfl ?_
    exact h_iret rfl rfl (kk _ _ hr1 _ Is7 Fs7 (by omega) (by omega) (by omega) (by omega))
theorem v_readPair12 {ns : Nat} (σ : h_S) (hI : h_I σ) (x1 : Int32) (a1 : Int) (hx1 : x1.toInt = a1) (ra1 : 0 ≤ a1 ∧ a1 ≤ 2) (pr0 : σ 101 18 ≤ 2) {Q : Option Value → h_S → Prop} (kk : ∀ (τ : h_S), h_I τ → h_F k_nt τ σ → (σ 98 15 ≤ τ 98 15) → (¬ σ 98 13 = 0 → ¬ τ 98 13 = 0) → Q none τ) : h_T g_P (g_Y ns) 151 0 [(0, .ref 98), (1, .int (Int32.ofInt 12)), (2, .int x1)] [] σ Q := by
  have F00 : h_F k_nt σ σ := h_F.rf
  refine h_aload_n (pc' := 1) rfl rfl rfl ?_
  refine h_call (sp := false) (pc' := 4) (M := [(0, .ref 98)]) rfl rfl rfl rfl rfl rfl rfl rfl ?_
  refine v_oneHere _ hI  (fun r1 br1 hr1 s2 Is2 Gs2 tr1 ps2_0 ps2_1 ps2_2 => h_Kv ?_)
  have Fs2 := (Gs2.l1).tr F00
  have es2_5 : s2 101 18 = σ 101 18 := (Gs2 101 18 rfl).trans rfl
  refine h_istore_n (pc' := 5) (M := [(3, .int r1), (0, .ref 98), (1, .int (Int32.ofInt 12)), (2, .int x1)]) rfl rfl rfl rfl ?_
  refine h_aload_n (pc' := 6) rfl rfl rfl ?_
  refine h_getI (pc' := 9) (v := s2 98 13) rfl rfl rfl rfl rfl rfl (fun z3 hz3 => ?_)
  have tz3 := tf_98_13 Is2
  refine h_zne (tg := 33) (pc' := 12) rfl rfl rfl hz3 (fun c4 => ?_) (fun c4 => ?_)
  · refine h_aload_n (pc' := 34) rfl rfl rfl ?_
    refine h_getR (pc' := 37) rfl rfl rfl rfl rfl ?_
    refine h_iload_n (pc' := 38) rfl rfl rfl ?_
    refine h_iconst (pc' := 39) (x := (Int32.ofInt 2)) rfl rfl rfl ?_
    refine h_iload_n (pc' := 40) rfl rfl rfl ?_
    refine h_imul (pc' := 41) rfl rfl ci_2 hx1 rfl (by omega) (by omega) (fun z5 hz5 => ?_)
    refine h_iadd (pc' := 42) rfl rfl ci_12 hz5 rfl (by omega) (by omega) (fun z6 hz6 => ?_)
    refine h_iload_n (pc' := 43) rfl rfl rfl ?_
    refine h_iast (pc' := 44) rfl rfl rfl rfl hz6 (by omega) (by omega) hr1 (h_fgt (E := fun s => s 98 15 = s2 98 15 ∧ s 98 16 = s2 98 16 ∧ s 98 17 = s2 98 17 ∧ s 98 18 = s2 98 18 ∧ s 98 13 = s2 98 13 ∧ ((18 = (12 + (2 * a1)) ∧ s 101 18 = br1) ∨ (18 ≠ (12 + (2 * a1)) ∧ s 101 18 = σ 101 18))) _ (ip_101_2 Is2 (by omega) (by omega)) (Fs2.up rfl) ⟨rfl, rfl, rfl, rfl, rfl, h_up_a2 es2_5⟩ (fun s7 Is7 Fs7 ⟨es7_0, es7_1, es7_2, es7_3, es7_4, es7_5⟩ => ?_))
    clear es2_5
    refine h_aload_n (pc' := 45) rfl rfl rfl ?_
    refine h_getR (pc' := 48) rfl rfl rfl rfl rfl ?_
    refine h_iload_n (pc' := 49) rfl rfl rfl ?_
    refine h_iconst (pc' := 50) (x := (Int32.ofInt 2)) rfl rfl rfl ?_
    refine h_iload_n (pc' := 51) rfl rfl rfl ?_
    refine h_imul (pc' := 52) rfl rfl ci_2 hx1 rfl (by omega) (by omega) (fun z8 hz8 => ?_)
    refine h_iadd (pc' := 53) rfl rfl ci_12 hz8 rfl (by omega) (by omega) (fun z9 hz9 => ?_)
    refine h_iconst (pc' := 54) (x := (Int32.ofInt 1)) rfl rfl rfl ?_
    refine h_iadd (pc' := 55) rfl rfl hz9 ci_1 rfl (by omega) (by omega) (fun z10 hz10 => ?_)
    refine h_aload_n (pc' := 56) rfl rfl rfl ?_
    refine h_call (sp := false) (pc' := 59) (M := [(0, .ref 98)]) rfl rfl rfl rfl rfl rfl rfl rfl ?_
    refine v_oneHere _ Is7  (fun r11 br11 hr11 s12 Is12 Gs12 tr11 ps12_0 ps12_1 ps12_2 => h_Kv ?_)
    have Fs12 := (Gs12.l1).tr Fs7
    have es12_5 : s12 101 18 = s7 101 18 := (Gs12 101 18 rfl).trans rfl
    clear es7_0 es7_1 es7_2 es7_3 es7_4
    refine h_iast (pc' := 60) rfl rfl rfl rfl hz10 (by omega) (by omega) hr11 (h_fgt (E := fun s => s 98 15 = s12 98 15 ∧ s 98 16 = s12 98 16 ∧ s 98 17 = s12 98 17 ∧ s 98 18 = s12 98 18 ∧ s 98 13 = s12 98 13 ∧ ((18 = ((12 + (2 * a1)) + 1) ∧ s 101 18 = br11) ∨ (18 ≠ ((12 + (2 * a1)) + 1) ∧ s 101 18 = s7 101 18))) _ (ip_101_2 Is12 (by omega) (by omega)) (Fs12.up rfl) ⟨rfl, rfl, rfl, rfl, rfl, h_up_a2 es12_5⟩ (fun s13 Is13 Fs13 ⟨es13_0, es13_1, es13_2, es13_3, es13_4, es13_5⟩ => ?_))
    clear es12_5
    refine h_aload_n (pc' := 61) rfl rfl rfl ?_
    refine h_getR (pc' := 64) rfl rfl rfl rfl rfl ?_
    refine h_iload_n (pc' := 65) rfl rfl rfl ?_
    refine h_bipush (pc' := 67) (x := (Int32.ofInt 6)) rfl rfl cb_6 ?_
    refine h_iadd (pc' := 68) (c := 18) rfl rfl ci_12 ci_6 rfl (by omega) (by omega) (fun z14 hz14 => ?_)
    refine h_dup2 (pc' := 69) rfl rfl rfl ?_
    refine h_iald (pc' := 70) (v := s13 101 18) rfl rfl rfl hz14 (by omega) (by omega) rfl (fun z15 hz15 => ?_)
    have tz15 := ty_101_3 Is13 18 (by omega)
    refine h_iconst (pc' := 71) (x := (Int32.ofInt 1)) rfl rfl rfl ?_
    refine h_iadd (pc' := 72) rfl rfl hz15 ci_1 rfl (by omega) (by omega) (fun z16 hz16 => ?_)
    refine h_iast (pc' := 73) rfl rfl rfl rfl hz14 (by omega) (by omega) hz16 (h_fgt (E := fun s => s 98 15 = s12 98 15 ∧ s 98 16 = s12 98 16 ∧ s 98 17 = s12 98 17 ∧ s 98 18 = s12 98 18 ∧ s 98 13 = s12 98 13 ∧ s 101 18 = ((s13 101 18) + 1)) _ (ip_101_3 Is13 (by omega) (by omega)) (Fs13.up rfl) ⟨es13_0, es13_1, es13_2, es13_3, es13_4, rfl⟩ (fun s17 Is17 Fs17 ⟨es17_0, es17_1, es17_2, es17_3, es17_4, es17_5⟩ => ?_))
    clear es13_0 es13_1 es13_2 es13_3 es13_4
    exact h_vret rfl rfl (kk _ Is17 Fs17 (by omega) (by omega))
  · refine h_aload_n (pc' := 13) rfl rfl rfl ?_
    refine h_getI (pc' := 16) (v := s2 98 17) rfl rfl rfl rfl rfl rfl (fun z18 hz18 => ?_)
    have tz18 := tf_98_17 Is2
    refine h_iconst (pc' := 17) (x := (Int32.ofInt 2)) rfl rfl rfl ?_
    refine h_cne (tg := 33) (pc' := 20) rfl rfl rfl hz18 ci_2 (fun c19 => ?_) (fun c19 => ?_)
    · refine h_aload_n (pc' := 34) rfl rfl rfl ?_
      refine h_getR (pc' := 37) rfl rfl rfl rfl rfl ?_
      refine h_iload_n (pc' := 38) rfl rfl rfl ?_
      refine h_iconst (pc' := 39) (x := (Int32.ofInt 2)) rfl rfl rfl ?_
      refine h_iload_n (pc' := 40) rfl rfl rfl ?_
      refine h_imul (pc' := 41) rfl rfl ci_2 hx1 rfl (by omega) (by omega) (fun z20 hz20 => ?_)
      refine h_iadd (pc' := 42) rfl rfl ci_12 hz20 rfl (by omega) (by omega) (fun z21 hz21 => ?_)
      refine h_iload_n (pc' := 43) rfl rfl rfl ?_
      refine h_iast (pc' := 44) rfl rfl rfl rfl hz21 (by omega) (by omega) hr1 (h_fgt (E := fun s => s 98 15 = s2 98 15 ∧ s 98 16 = s2 98 16 ∧ s 98 17 = s2 98 17 ∧ s 98 18 = s2 98 18 ∧ s 98 13 = s2 98 13 ∧ ((18 = (12 + (2 * a1)) ∧ s 101 18 = br1) ∨ (18 ≠ (12 + (2 * a1)) ∧ s 101 18 = σ 101 18))) _ (ip_101_2 Is2 (by omega) (by omega)) (Fs2.up rfl) ⟨rfl, rfl, rfl, rfl, rfl, h_up_a2 es2_5⟩ (fun s22 Is22 Fs22 ⟨es22_0, es22_1, es22_2, es22_3, es22_4, es22_5⟩ => ?_))
      clear es2_5
      refine h_aload_n (pc' := 45) rfl rfl rfl ?_
      refine h_getR (pc' := 48) rfl rfl rfl rfl rfl ?_
      refine h_iload_n (pc' := 49) rfl rfl rfl ?_
      refine h_iconst (pc' := 50) (x := (Int32.ofInt 2)) rfl rfl rfl ?_
      refine h_iload_n (pc' := 51) rfl rfl rfl ?_
      refine h_imul (pc' := 52) rfl rfl ci_2 hx1 rfl (by omega) (by omega) (fun z23 hz23 => ?_)
      refine h_iadd (pc' := 53) rfl rfl ci_12 hz23 rfl (by omega) (by omega) (fun z24 hz24 => ?_)
      refine h_iconst (pc' := 54) (x := (Int32.ofInt 1)) rfl rfl rfl ?_
      refine h_iadd (pc' := 55) rfl rfl hz24 ci_1 rfl (by omega) (by omega) (fun z25 hz25 => ?_)
      refine h_aload_n (pc' := 56) rfl rfl rfl ?_
      refine h_call (sp := false) (pc' := 59) (M := [(0, .ref 98)]) rfl rfl rfl rfl rfl rfl rfl rfl ?_
      refine v_oneHere _ Is22  (fun r26 br26 hr26 s27 Is27 Gs27 tr26 ps27_0 ps27_1 ps27_2 => h_Kv ?_)
      have Fs27 := (Gs27.l1).tr Fs22
      have es27_5 : s27 101 18 = s22 101 18 := (Gs27 101 18 rfl).trans rfl
      clear es22_0 es22_1 es22_2 es22_3 es22_4
      refine h_iast (pc' := 60) rfl rfl rfl rfl hz25 (by omega) (by omega) hr26 (h_fgt (E := fun s => s 98 15 = s27 98 15 ∧ s 98 16 = s27 98 16 ∧ s 98 17 = s27 98 17 ∧ s 98 18 = s27 98 18 ∧ s 98 13 = s27 98 13 ∧ ((18 = ((12 + (2 * a1)) + 1) ∧ s 101 18 = br26) ∨ (18 ≠ ((12 + (2 * a1)) + 1) ∧ s 101 18 = s22 101 18))) _ (ip_101_2 Is27 (by omega) (by omega)) (Fs27.up rfl) ⟨rfl, rfl, rfl, rfl, rfl, h_up_a2 es27_5⟩ (fun s28 Is28 Fs28 ⟨es28_0, es28_1, es28_2, es28_3, es28_4, es28_5⟩ => ?_))
      clear es27_5
      refine h_aload_n (pc' := 61) rfl rfl rfl ?_
      refine h_getR (pc' := 64) rfl rfl rfl rfl rfl ?_
      refine h_iload_n (pc' := 65) rfl rfl rfl ?_
      refine h_bipush (pc' := 67) (x := (Int32.ofInt 6)) rfl rfl cb_6 ?_
      refine h_iadd (pc' := 68) (c := 18) rfl rfl ci_12 ci_6 rfl (by omega) (by omega) (fun z29 hz29 => ?_)
      refine h_dup2 (pc' := 69) rfl rfl rfl ?_
      refine h_iald (pc' := 70) (v := s28 101 18) rfl rfl rfl hz29 (by omega) (by omega) rfl (fun z30 hz30 => ?_)
      have tz30 := ty_101_3 Is28 18 (by omega)
      refine h_iconst (pc' := 71) (x := (Int32.ofInt 1)) rfl rfl rfl ?_
      refine h_iadd (pc' := 72) rfl rfl hz30 ci_1 rfl (by omega) (by omega) (fun z31 hz31 => ?_)
      refine h_iast (pc' := 73) rfl rfl rfl rfl hz29 (by omega) (by omega) hz31 (h_fgt (E := fun s => s 98 15 = s27 98 15 ∧ s 98 16 = s27 98 16 ∧ s 98 17 = s27 98 17 ∧ s 98 18 = s27 98 18 ∧ s 98 13 = s27 98 13 ∧ s 101 18 = ((s28 101 18) + 1)) _ (ip_101_3 Is28 (by omega) (by omega)) (Fs28.up rfl) ⟨es28_0, es28_1, es28_2, es28_3, es28_4, rfl⟩ (fun s32 Is32 Fs32 ⟨es32_0, es32_1, es32_2, es32_3, es32_4, es32_5⟩ => ?_))
      clear es28_0 es28_1 es28_2 es28_3 es28_4
      exact h_vret rfl rfl (kk _ Is32 Fs32 (by omega) (by omega))
    · refine h_aload_n (pc' := 21) rfl rfl rfl ?_
      refine h_getI (pc' := 24) (v := s2 98 18) rfl rfl rfl rfl rfl rfl (fun z33 hz33 => ?_)
      have tz33 := tf_98_18 Is2
      refine h_iload_n (pc' := 25) rfl rfl rfl ?_
      refine h_cne (tg := 33) (pc' := 28) rfl rfl rfl hz33 hr1 (fun c34 => ?_) (fun c34 => ?_)
      · refine h_aload_n (pc' := 34) rfl rfl rfl ?_
        refine h_getR (pc' := 37) rfl rfl rfl rfl rfl ?_
        refine h_iload_n (pc' := 38) rfl rfl rfl ?_
        refine h_iconst (pc' := 39) (x := (Int32.ofInt 2)) rfl rfl rfl ?_
        refine h_iload_n (pc' := 40) rfl rfl rfl ?_
        refine h_imul (pc' := 41) rfl rfl ci_2 hx1 rfl (by omega) (by omega) (fun z35 hz35 => ?_)
        refine h_iadd (pc' := 42) rfl rfl ci_12 hz35 rfl (by omega) (by omega) (fun z36 hz36 => ?_)
        refine h_iload_n (pc' := 43) rfl rfl rfl ?_
        refine h_iast (pc' := 44) rfl rfl rfl rfl hz36 (by omega) (by omega) hr1 (h_fgt (E := fun s => s 98 15 = s2 98 15 ∧ s 98 16 = s2 98 16 ∧ s 98 17 = s2 98 17 ∧ s 98 18 = s2 98 18 ∧ s 98 13 = s2 98 13 ∧ ((18 = (12 + (2 * a1)) ∧ s 101 18 = br1) ∨ (18 ≠ (12 + (2 * a1)) ∧ s 101 18 = σ 101 18))) _ (ip_101_2 Is2 (by omega) (by omega)) (Fs2.up rfl) ⟨rfl, rfl, rfl, rfl, rfl, h_up_a2 es2_5⟩ (fun s37 Is37 Fs37 ⟨es37_0, es37_1, es37_2, es37_3, es37_4, es37_5⟩ => ?_))
        clear es2_5
        refine h_aload_n (pc' := 45) rfl rfl rfl ?_
        refine h_getR (pc' := 48) rfl rfl rfl rfl rfl ?_
        refine h_iload_n (pc' := 49) rfl rfl rfl ?_
        refine h_iconst (pc' := 50) (x := (Int32.ofInt 2)) rfl rfl rfl ?_
        refine h_iload_n (pc' := 51) rfl rfl rfl ?_
        refine h_imul (pc' := 52) rfl rfl ci_2 hx1 rfl (by omega) (by omega) (fun z38 hz38 => ?_)
        refine h_iadd (pc' := 53) rfl rfl ci_12 hz38 rfl (by omega) (by omega) (fun z39 hz39 => ?_)
        refine h_iconst (pc' := 54) (x := (Int32.ofInt 1)) rfl rfl rfl ?_
        refine h_iadd (pc' := 55) rfl rfl hz39 ci_1 rfl (by omega) (by omega) (fun z40 hz40 => ?_)
        refine h_aload_n (pc' := 56) rfl rfl rfl ?_
        refine h_call (sp := false) (pc' := 59) (M := [(0, .ref 98)]) rfl rfl rfl rfl rfl rfl rfl rfl ?_
        refine v_oneHere _ Is37  (fun r41 br41 hr41 s42 Is42 Gs42 tr41 ps42_0 ps42_1 ps42_2 => h_Kv ?_)
        have Fs42 := (Gs42.l1).tr Fs37
        have es42_5 : s42 101 18 = s37 101 18 := (Gs42 101 18 rfl).trans rfl
        clear es37_0 es37_1 es37_2 es37_3 es37_4
        refine h_iast (pc' := 60) rfl rfl rfl rfl hz40 (by omega) (by omega) hr41 (h_fgt (E := fun s => s 98 15 = s42 98 15 ∧ s 98 16 = s42 98 16 ∧ s 98 17 = s42 98 17 ∧ s 98 18 = s42 98 18 ∧ s 98 13 = s42 98 13 ∧ ((18 = ((12 + (2 * a1)) + 1) ∧ s 101 18 = br41) ∨ (18 ≠ ((12 + (2 * a1)) + 1) ∧ s 101 18 = s37 101 18))) _ (ip_101_2 Is42 (by omega) (by omega)) (Fs42.up rfl) ⟨rfl, rfl, rfl, rfl, rfl, h_up_a2 es42_5⟩ (fun s43 Is43 Fs43 ⟨es43_0, es43_1, es43_2, es43_3, es43_4, es43_5⟩ => ?_))
        clear es42_5
        refine h_aload_n (pc' := 61) rfl rfl rfl ?_
        refine h_getR (pc' := 64) rfl rfl rfl rfl rfl ?_
        refine h_iload_n (pc' := 65) rfl rfl rfl ?_
        refine h_bipush (pc' := 67) (x := (Int32.ofInt 6)) rfl rfl cb_6 ?_
        refine h_iadd (pc' := 68) (c := 18) rfl rfl ci_12 ci_6 rfl (by omega) (by omega) (fun z44 hz44 => ?_)
        refine h_dup2 (pc' := 69) rfl rfl rfl ?_
        refine h_iald (pc' := 70) (v := s43 101 18) rfl rfl rfl hz44 (by omega) (by omega) rfl (fun z45 hz45 => ?_)
        have tz45 := ty_101_3 Is43 18 (by omega)
        refine h_iconst (pc' := 71) (x := (Int32.ofInt 1)) rfl rfl rfl ?_
        refine h_iadd (pc' := 72) rfl rfl hz45 ci_1 rfl (by omega) (by omega) (fun z46 hz46 => ?_)
        refine h_iast (pc' := 73) rfl rfl rfl rfl hz44 (by omega) (by omega) hz46 (h_fgt (E := fun s => s 98 15 = s42 98 15 ∧ s 98 16 = s42 98 16 ∧ s 98 17 = s42 98 17 ∧ s 98 18 = s42 98 18 ∧ s 98 13 = s42 98 13 ∧ s 101 18 = ((s43 101 18) + 1)) _ (ip_101_3 Is43 (by omega) (by omega)) (Fs43.up rfl) ⟨es43_0, es43_1, es43_2, es43_3, es43_4, rfl⟩ (fun s47 Is47 Fs47 ⟨es47_0, es47_1, es47_2, es47_3, es47_4, es47_5⟩ => ?_))
        clear es43_0 es43_1 es43_2 es43_3 es43_4
        exact h_vret rfl rfl (kk _ Is47 Fs47 (by omega) (by omega))
      · refine h_aload_n (pc' := 29) rfl rfl rfl ?_
        refine h_iconst (pc' := 30) (x := (Int32.ofInt 3)) rfl rfl rfl ?_
        refine h_call (sp := false) (pc' := 33) (M := [(0, .ref 98), (1, .int (Int32.ofInt 3))]) rfl rfl rfl rfl rfl rfl rfl rfl ?_
        refine h_aload_n (pc' := 1) rfl rfl rfl ?_
        refine h_getI (pc' := 4) (v := s2 98 13) rfl rfl rfl rfl rfl rfl (fun z48 hz48 => ?_)
        have tz48 := tf_98_13 Is2
        refine h_zne (tg := 20) (pc' := 7) rfl rfl rfl hz48 (fun c49 => absurd c49 (by omega)) (fun c49 => ?_)
        refine h_aload_n (pc' := 8) rfl rfl rfl ?_
        refine h_iload_n (pc' := 9) rfl rfl rfl ?_
        refine h_put (pc' := 12) rfl rfl rfl rfl rfl rfl ci_3 rfl (h_fgt (E := fun s => s 98 15 = s2 98 15 ∧ s 98 16 = s2 98 16 ∧ s 98 17 = s2 98 17 ∧ s 98 18 = s2 98 18 ∧ s 98 13 = 3 ∧ s 101 18 = σ 101 18) _ (if_98_13 Is2 (by omega)) (Fs2.up rfl) ⟨rfl, rfl, rfl, rfl, rfl, es2_5⟩ (fun s50 Is50 Fs50 ⟨es50_0, es50_1, es50_2, es50_3, es50_4, es50_5⟩ => ?_))
        clear es2_5
        refine h_aload_n (pc' := 13) rfl rfl rfl ?_
        refine h_aload_n (pc' := 14) rfl rfl rfl ?_
        refine h_getI (pc' := 17) (v := s2 98 16) rfl rfl rfl rfl rfl es50_1 (fun z51 hz51 => ?_)
        have tz51 := tf_98_16 Is2
        refine h_put (pc' := 20) rfl rfl rfl rfl rfl rfl hz51 rfl (h_fgt (E := fun s => s 98 15 = s2 98 15 ∧ s 98 16 = s2 98 16 ∧ s 98 17 = s2 98 17 ∧ s 98 18 = s2 98 18 ∧ s 98 13 = 3 ∧ s 101 18 = σ 101 18) _ (if_98_14 Is50 (h_rgv hz51)) (Fs50.up rfl) ⟨es50_0, es50_1, es50_2, es50_3, es50_4, es50_5⟩ (fun s52 Is52 Fs52 ⟨es52_0, es52_1, es52_2, es52_3, es52_4, es52_5⟩ => ?_))
        clear es50_0 es50_1 es50_2 es50_3 es50_4 es50_5
        refine h_vret rfl rfl (h_Kn ?_)
        refine h_aload_n (pc' := 34) rfl rfl rfl ?_
        refine h_getR (pc' := 37) rfl rfl rfl rfl rfl ?_
        refine h_iload_n (pc' := 38) rfl rfl rfl ?_
        refine h_iconst (pc' := 39) (x := (Int32.ofInt 2)) rfl rfl rfl ?_
        refine h_iload_n (pc' := 40) rfl rfl rfl ?_
        refine h_imul (pc' := 41) rfl rfl ci_2 hx1 rfl (by omega) (by omega) (fun z53 hz53 => ?_)
        refine h_iadd (pc' := 42) rfl rfl ci_12 hz53 rfl (by omega) (by omega) (fun z54 hz54 => ?_)
        refine h_iload_n (pc' := 43) rfl rfl rfl ?_
        refine h_iast (pc' := 44) rfl rfl rfl rfl hz54 (by omega) (by omega) hr1 (h_fgt (E := fun s => s 98 15 = s2 98 15 ∧ s 98 16 = s2 98 16 ∧ s 98 17 = s2 98 17 ∧ s 98 18 = s2 98 18 ∧ s 98 13 = 3 ∧ ((18 = (12 + (2 * a1)) ∧ s 101 18 = br1) ∨ (18 ≠ (12 + (2 * a1)) ∧ s 101 18 = σ 101 18))) _ (ip_101_2 Is52 (by omega) (by omega)) (Fs52.up rfl) ⟨es52_0, es52_1, es52_2, es52_3, es52_4, h_up_a2 es52_5⟩ (fun s55 Is55 Fs55 ⟨es55_0, es55_1, es55_2, es55_3, es55_4, es55_5⟩ => ?_))
        clear es52_0 es52_1 es52_2 es52_3 es52_4 es52_5
        refine h_aload_n (pc' := 45) rfl rfl rfl ?_
        refine h_getR (pc' := 48) rfl rfl rfl rfl rfl ?_
        refine h_iload_n (pc' := 49) rfl rfl rfl ?_
        refine h_iconst (pc' := 50) (x := (Int32.ofInt 2)) rfl rfl rfl ?_
        refine h_iload_n (pc' := 51) rfl rfl rfl ?_
        refine h_imul (pc' := 52) rfl rfl ci_2 hx1 rfl (by omega) (by omega) (fun z56 hz56 => ?_)
        refine h_iadd (pc' := 53) rfl rfl ci_12 hz56 rfl (by omega) (by omega) (fun z57 hz57 => ?_)
        refine h_iconst (pc' := 54) (x := (Int32.ofInt 1)) rfl rfl rfl ?_
        refine h_iadd (pc' := 55) rfl rfl hz57 ci_1 rfl (by omega) (by omega) (fun z58 hz58 => ?_)
        refine h_aload_n (pc' := 56) rfl rfl rfl ?_
        refine h_call (sp := false) (pc' := 59) (M := [(0, .ref 98)]) rfl rfl rfl rfl rfl rfl rfl rfl ?_
        refine v_oneHere _ Is55  (fun r59 br59 hr59 s60 Is60 Gs60 tr59 ps60_0 ps60_1 ps60_2 => h_Kv ?_)
        have Fs60 := (Gs60.l1).tr Fs55
        have es60_5 : s60 101 18 = s55 101 18 := (Gs60 101 18 rfl).trans rfl
        clear es55_0 es55_1 es55_2 es55_3 es55_4
        refine h_iast (pc' := 60) rfl rfl rfl rfl hz58 (by omega) (by omega) hr59 (h_fgt (E := fun s => s 98 15 = s60 98 15 ∧ s 98 16 = s60 98 16 ∧ s 98 17 = s60 98 17 ∧ s 98 18 = s60 98 18 ∧ s 98 13 = s60 98 13 ∧ ((18 = ((12 + (2 * a1)) + 1) ∧ s 101 18 = br59) ∨ (18 ≠ ((12 + (2 * a1)) + 1) ∧ s 101 18 = s55 101 18))) _ (ip_101_2 Is60 (by omega) (by omega)) (Fs60.up rfl) ⟨rfl, rfl, rfl, rfl, rfl, h_up_a2 es60_5⟩ (fun s61 Is61 Fs61 ⟨es61_0, es61_1, es61_2, es61_3, es61_4, es61_5⟩ => ?_))
        clear es60_5
        refine h_aload_n (pc' := 61) rfl rfl rfl ?_
        refine h_getR (pc' := 64) rfl rfl rfl rfl rfl ?_
        refine h_iload_n (pc' := 65) rfl rfl rfl ?_
        refine h_bipush (pc' := 67) (x := (Int32.ofInt 6)) rfl rfl cb_6 ?_
        refine h_iadd (pc' := 68) (c := 18) rfl rfl ci_12 ci_6 rfl (by omega) (by omega) (fun z62 hz62 => ?_)
        refine h_dup2 (pc' := 69) rfl rfl rfl ?_
        refine h_iald (pc' := 70) (v := s61 101 18) rfl rfl rfl hz62 (by omega) (by omega) rfl (fun z63 hz63 => ?_)
        have tz63 := ty_101_3 Is61 18 (by omega)
        refine h_iconst (pc' := 71) (x := (Int32.ofInt 1)) rfl rfl rfl ?_
        refine h_iadd (pc' := 72) rfl rfl hz63 ci_1 rfl (by omega) (by omega) (fun z64 hz64 => ?_)
        refine h_iast (pc' := 73) rfl rfl rfl rfl hz62 (by omega) (by omega) hz64 (h_fgt (E := fun s => s 98 15 = s60 98 15 ∧ s 98 16 = s60 98 16 ∧ s 98 17 = s60 98 17 ∧ s 98 18 = s60 98 18 ∧ s 98 13 = s60 98 13 ∧ s 101 18 = ((s61 101 18) + 1)) _ (ip_101_3 Is61 (by omega) (by omega)) (Fs61.up rfl) ⟨es61_0, es61_1, es61_2, es61_3, es61_4, rfl⟩ (fun s65 Is65 Fs65 ⟨es65_0, es65_1, es65_2, es65_3, es65_4, es65_5⟩ => ?_))
        clear es61_0 es61_1 es61_2 es61_3 es61_4
        exact h_vret rfl rfl (kk _ Is65 Fs65 (by omega) (by omega))
theorem v_readPair19 {ns : Nat} (σ : h_S) (hI : h_I σ) (x1 : Int32) (a1 : Int) (hx1 : x1.toInt = a1) (ra1 : 0 ≤ a1 ∧ a1 ≤ 2) (pr0 : σ 101 25 ≤ 2) {Q : Option Value → h_S → Prop} (kk : ∀ (τ : h_S), h_I τ → h_F k_nt τ σ → (σ 98 15 ≤ τ 98 15) → (¬ σ 98 13 = 0 → ¬ τ 98 13 = 0) → Q none τ) : h_T g_P (g_Y ns) 151 0 [(0, .ref 98), (1, .int (Int32.ofInt 19)), (2, .int x1)] [] σ Q := by
  have F00 : h_F k_nt σ σ := h_F.rf
  refine h_aload_n (pc' := 1) rfl rfl rfl ?_
  refine h_call (sp := false) (pc' := 4) (M := [(0, .ref 98)]) rfl rfl rfl rfl rfl rfl rfl rfl ?_
  refine v_oneHere _ hI  (fun r1 br1 hr1 s2 Is2 Gs2 tr1 ps2_0 ps2_1 ps2_2 => h_Kv ?_)
  have Fs2 := (Gs2.l1).tr F00
  have es2_5 : s2 101 25 = σ 101 25 := (Gs2 101 25 rfl).trans rfl
  refine h_istore_n (pc' := 5) (M := [(3, .int r1), (0, .ref 98), (1, .int (Int32.ofInt 19)), (2, .int x1)]) rfl rfl rfl rfl ?_
  refine h_aload_n (pc' := 6) rfl rfl rfl ?_
  refine h_getI (pc' := 9) (v := s2 98 13) rfl rfl rfl rfl rfl rfl (fun z3 hz3 => ?_)
  have tz3 := tf_98_13 Is2
  refine h_zne (tg := 33) (pc' := 12) rfl rfl rfl hz3 (fun c4 => ?_) (fun c4 => ?_)
  · refine h_aload_n (pc' := 34) rfl rfl rfl ?_
    refine h_getR (pc' := 37) rfl rfl rfl rfl rfl ?_
    refine h_iload_n (pc' := 38) rfl rfl rfl ?_
    refine h_iconst (pc' := 39) (x := (Int32.ofInt 2)) rfl rfl rfl ?_
    refine h_iload_n (pc' := 40) rfl rfl rfl ?_
    refine h_imul (pc' := 41) rfl rfl ci_2 hx1 rfl (by omega) (by omega) (fun z5 hz5 => ?_)
    refine h_iadd (pc' := 42) rfl rfl ci_19 hz5 rfl (by omega) (by omega) (fun z6 hz6 => ?_)
    refine h_iload_n (pc' := 43) rfl rfl rfl ?_
    refine h_iast (pc' := 44) rfl rfl rfl rfl hz6 (by omega) (by omega) hr1 (h_fgt (E := fun s => s 98 15 = s2 98 15 ∧ s 98 16 = s2 98 16 ∧ s 98 17 = s2 98 17 ∧ s 98 18 = s2 98 18 ∧ s 98 13 = s2 98 13 ∧ ((25 = (19 + (2 * a1)) ∧ s 101 25 = br1) ∨ (25 ≠ (19 + (2 * a1)) ∧ s 101 25 = σ 101 25))) _ (ip_101_4 Is2 (by omega) (by omega)) (Fs2.up rfl) ⟨rfl, rfl, rfl, rfl, rfl, h_up_a2 es2_5⟩ (fun s7 Is7 Fs7 ⟨es7_0, es7_1, es7_2, es7_3, es7_4, es7_5⟩ => ?_))
    clear es2_5
    refine h_aload_n (pc' := 45) rfl rfl rfl ?_
    refine h_getR (pc' := 48) rfl rfl rfl rfl rfl ?_
    refine h_iload_n (pc' := 49) rfl rfl rfl ?_
    refine h_iconst (pc' := 50) (x := (Int32.ofInt 2)) rfl rfl rfl ?_
    refine h_iload_n (pc' := 51) rfl rfl rfl ?_
    refine h_imul (pc' := 52) rfl rfl ci_2 hx1 rfl (by omega) (by omega) (fun z8 hz8 => ?_)
    refine h_iadd (pc' := 53) rfl rfl ci_19 hz8 rfl (by omega) (by omega) (fun z9 hz9 => ?_)
    refine h_iconst (pc' := 54) (x := (Int32.ofInt 1)) rfl rfl rfl ?_
    refine h_iadd (pc' := 55) rfl rfl hz9 ci_1 rfl (by omega) (by omega) (fun z10 hz10 => ?_)
    refine h_aload_n (pc' := 56) rfl rfl rfl ?_
    refine h_call (sp := false) (pc' := 59) (M := [(0, .ref 98)]) rfl rfl rfl rfl rfl rfl rfl rfl ?_
    refine v_oneHere _ Is7  (fun r11 br11 hr11 s12 Is12 Gs12 tr11 ps12_0 ps12_1 ps12_2 => h_Kv ?_)
    have Fs12 := (Gs12.l1).tr Fs7
    have es12_5 : s12 101 25 = s7 101 25 := (Gs12 101 25 rfl).trans rfl
    clear es7_0 es7_1 es7_2 es7_3 es7_4
    refine h_iast (pc' := 60) rfl rfl rfl rfl hz10 (by omega) (by omega) hr11 (h_fgt (E := fun s => s 98 15 = s12 98 15 ∧ s 98 16 = s12 98 16 ∧ s 98 17 = s12 98 17 ∧ s 98 18 = s12 98 18 ∧ s 98 13 = s12 98 13 ∧ ((25 = ((19 + (2 * a1)) + 1) ∧ s 101 25 = br11) ∨ (25 ≠ ((19 + (2 * a1)) + 1) ∧ s 101 25 = s7 101 25))) _ (ip_101_4 Is12 (by omega) (by omega)) (Fs12.up rfl) ⟨rfl, rfl, rfl, rfl, rfl, h_up_a2 es12_5⟩ (fun s13 Is13 Fs13 ⟨es13_0, es13_1, es13_2, es13_3, es13_4, es13_5⟩ => ?_))
    clear es12_5
    refine h_aload_n (pc' := 61) rfl rfl rfl ?_
    refine h_getR (pc' := 64) rfl rfl rfl rfl rfl ?_
    refine h_iload_n (pc' := 65) rfl rfl rfl ?_
    refine h_bipush (pc' := 67) (x := (Int32.ofInt 6)) rfl rfl cb_6 ?_
    refine h_iadd (pc' := 68) (c := 25) rfl rfl ci_19 ci_6 rfl (by omega) (by omega) (fun z14 hz14 => ?_)
    refine h_dup2 (pc' := 69) rfl rfl rfl ?_
    refine h_iald (pc' := 70) (v := s13 101 25) rfl rfl rfl hz14 (by omega) (by omega) rfl (fun z15 hz15 => ?_)
    have tz15 := ty_101_5 Is13 25 (by omega)
    refine h_iconst (pc' := 71) (x := (Int32.ofInt 1)) rfl rfl rfl ?_
    refine h_iadd (pc' := 72) rfl rfl hz15 ci_1 rfl (by omega) (by omega) (fun z16 hz16 => ?_)
    refine h_iast (pc' := 73) rfl rfl rfl rfl hz14 (by omega) (by omega) hz16 (h_fgt (E := fun s => s 98 15 = s12 98 15 ∧ s 98 16 = s12 98 16 ∧ s 98 17 = s12 98 17 ∧ s 98 18 = s12 98 18 ∧ s 98 13 = s12 98 13 ∧ s 101 25 = ((s13 101 25) + 1)) _ (ip_101_5 Is13 (by omega) (by omega)) (Fs13.up rfl) ⟨es13_0, es13_1, es13_2, es13_3, es13_4, rfl⟩ (fun s17 Is17 Fs17 ⟨es17_0, es17_1, es17_2, es17_3, es17_4, es17_5⟩ => ?_))
    clear es13_0 es13_1 es13_2 es13_3 es13_4
    exact h_vret rfl rfl (kk _ Is17 Fs17 (by omega) (by omega))
  · refine h_aload_n (pc' := 13) rfl rfl rfl ?_
    refine h_getI (pc' := 16) (v := s2 98 17) rfl rfl rfl rfl rfl rfl (fun z18 hz18 => ?_)
    have tz18 := tf_98_17 Is2
    refine h_iconst (pc' := 17) (x := (Int32.ofInt 2)) rfl rfl rfl ?_
    refine h_cne (tg := 33) (pc' := 20) rfl rfl rfl hz18 ci_2 (fun c19 => ?_) (fun c19 => ?_)
    · refine h_aload_n (pc' := 34) rfl rfl rfl ?_
      refine h_getR (pc' := 37) rfl rfl rfl rfl rfl ?_
      refine h_iload_n (pc' := 38) rfl rfl rfl ?_
      refine h_iconst (pc' := 39) (x := (Int32.ofInt 2)) rfl rfl rfl ?_
      refine h_iload_n (pc' := 40) rfl rfl rfl ?_
      refine h_imul (pc' := 41) rfl rfl ci_2 hx1 rfl (by omega) (by omega) (fun z20 hz20 => ?_)
      refine h_iadd (pc' := 42) rfl rfl ci_19 hz20 rfl (by omega) (by omega) (fun z21 hz21 => ?_)
      refine h_iload_n (pc' := 43) rfl rfl rfl ?_
      refine h_iast (pc' := 44) rfl rfl rfl rfl hz21 (by omega) (by omega) hr1 (h_fgt (E := fun s => s 98 15 = s2 98 15 ∧ s 98 16 = s2 98 16 ∧ s 98 17 = s2 98 17 ∧ s 98 18 = s2 98 18 ∧ s 98 13 = s2 98 13 ∧ ((25 = (19 + (2 * a1)) ∧ s 101 25 = br1) ∨ (25 ≠ (19 + (2 * a1)) ∧ s 101 25 = σ 101 25))) _ (ip_101_4 Is2 (by omega) (by omega)) (Fs2.up rfl) ⟨rfl, rfl, rfl, rfl, rfl, h_up_a2 es2_5⟩ (fun s22 Is22 Fs22 ⟨es22_0, es22_1, es22_2, es22_3, es22_4, es22_5⟩ => ?_))
      clear es2_5
      refine h_aload_n (pc' := 45) rfl rfl rfl ?_
      refine h_getR (pc' := 48) rfl rfl rfl rfl rfl ?_
      refine h_iload_n (pc' := 49) rfl rfl rfl ?_
      refine h_iconst (pc' := 50) (x := (Int32.ofInt 2)) rfl rfl rfl ?_
      refine h_iload_n (pc' := 51) rfl rfl rfl ?_
      refine h_imul (pc' := 52) rfl rfl ci_2 hx1 rfl (by omega) (by omega) (fun z23 hz23 => ?_)
      refine h_iadd (pc' := 53) rfl rfl ci_19 hz23 rfl (by omega) (by omega) (fun z24 hz24 => ?_)
      refine h_iconst (pc' := 54) (x := (Int32.ofInt 1)) rfl rfl rfl ?_
      refine h_iadd (pc' := 55) rfl rfl hz24 ci_1 rfl (by omega) (by omega) (fun z25 hz25 => ?_)
      refine h_aload_n (pc' := 56) rfl rfl rfl ?_
      refine h_call (sp := false) (pc' := 59) (M := [(0, .ref 98)]) rfl rfl rfl rfl rfl rfl rfl rfl ?_
      refine v_oneHere _ Is22  (fun r26 br26 hr26 s27 Is27 Gs27 tr26 ps27_0 ps27_1 ps27_2 => h_Kv ?_)
      have Fs27 := (Gs27.l1).tr Fs22
      have es27_5 : s27 101 25 = s22 101 25 := (Gs27 101 25 rfl).trans rfl
      clear es22_0 es22_1 es22_2 es22_3 es22_4
      refine h_iast (pc' := 60) rfl rfl rfl rfl hz25 (by omega) (by omega) hr26 (h_fgt (E := fun s => s 98 15 = s27 98 15 ∧ s 98 16 = s27 98 16 ∧ s 98 17 = s27 98 17 ∧ s 98 18 = s27 98 18 ∧ s 98 13 = s27 98 13 ∧ ((25 = ((19 + (2 * a1)) + 1) ∧ s 101 25 = br26) ∨ (25 ≠ ((19 + (2 * a1)) + 1) ∧ s 101 25 = s22 101 25))) _ (ip_101_4 Is27 (by omega) (by omega)) (Fs27.up rfl) ⟨rfl, rfl, rfl, rfl, rfl, h_up_a2 es27_5⟩ (fun s28 Is28 Fs28 ⟨es28_0, es28_1, es28_2, es28_3, es28_4, es28_5⟩ => ?_))
      clear es27_5
      refine h_aload_n (pc' := 61) rfl rfl rfl ?_
      refine h_getR (pc' := 64) rfl rfl rfl rfl rfl ?_
      refine h_iload_n (pc' := 65) rfl rfl rfl ?_
      refine h_bipush (pc' := 67) (x := (Int32.ofInt 6)) rfl rfl cb_6 ?_
      refine h_iadd (pc' := 68) (c := 25) rfl rfl ci_19 ci_6 rfl (by omega) (by omega) (fun z29 hz29 => ?_)
      refine h_dup2 (pc' := 69) rfl rfl rfl ?_
      refine h_iald (pc' := 70) (v := s28 101 25) rfl rfl rfl hz29 (by omega) (by omega) rfl (fun z30 hz30 => ?_)
      have tz30 := ty_101_5 Is28 25 (by omega)
      refine h_iconst (pc' := 71) (x := (Int32.ofInt 1)) rfl rfl rfl ?_
      refine h_iadd (pc' := 72) rfl rfl hz30 ci_1 rfl (by omega) (by omega) (fun z31 hz31 => ?_)
      refine h_iast (pc' := 73) rfl rfl rfl rfl hz29 (by omega) (by omega) hz31 (h_fgt (E := fun s => s 98 15 = s27 98 15 ∧ s 98 16 = s27 98 16 ∧ s 98 17 = s27 98 17 ∧ s 98 18 = s27 98 18 ∧ s 98 13 = s27 98 13 ∧ s 101 25 = ((s28 101 25) + 1)) _ (ip_101_5 Is28 (by omega) (by omega)) (Fs28.up rfl) ⟨es28_0, es28_1, es28_2, es28_3, es28_4, rfl⟩ (fun s32 Is32 Fs32 ⟨es32_0, es32_1, es32_2, es32_3, es32_4, es32_5⟩ => ?_))
      clear es28_0 es28_1 es28_2 es28_3 es28_4
      exact h_vret rfl rfl (kk _ Is32 Fs32 (by omega) (by omega))
    · refine h_aload_n (pc' := 21) rfl rfl rfl ?_
      refine h_getI (pc' := 24) (v := s2 98 18) rfl rfl rfl rfl rfl rfl (fun z33 hz33 => ?_)
      have tz33 := tf_98_18 Is2
      refine h_iload_n (pc' := 25) rfl rfl rfl ?_
      refine h_cne (tg := 33) (pc' := 28) rfl rfl rfl hz33 hr1 (fun c34 => ?_) (fun c34 => ?_)
      · refine h_aload_n (pc' := 34) rfl rfl rfl ?_
        refine h_getR (pc' := 37) rfl rfl rfl rfl rfl ?_
        refine h_iload_n (pc' := 38) rfl rfl rfl ?_
        refine h_iconst (pc' := 39) (x := (Int32.ofInt 2)) rfl rfl rfl ?_
        refine h_iload_n (pc' := 40) rfl rfl rfl ?_
        refine h_imul (pc' := 41) rfl rfl ci_2 hx1 rfl (by omega) (by omega) (fun z35 hz35 => ?_)
        refine h_iadd (pc' := 42) rfl rfl ci_19 hz35 rfl (by omega) (by omega) (fun z36 hz36 => ?_)
        refine h_iload_n (pc' := 43) rfl rfl rfl ?_
        refine h_iast (pc' := 44) rfl rfl rfl rfl hz36 (by omega) (by omega) hr1 (h_fgt (E := fun s => s 98 15 = s2 98 15 ∧ s 98 16 = s2 98 16 ∧ s 98 17 = s2 98 17 ∧ s 98 18 = s2 98 18 ∧ s 98 13 = s2 98 13 ∧ ((25 = (19 + (2 * a1)) ∧ s 101 25 = br1) ∨ (25 ≠ (19 + (2 * a1)) ∧ s 101 25 = σ 101 25))) _ (ip_101_4 Is2 (by omega) (by omega)) (Fs2.up rfl) ⟨rfl, rfl, rfl, rfl, rfl, h_up_a2 es2_5⟩ (fun s37 Is37 Fs37 ⟨es37_0, es37_1, es37_2, es37_3, es37_4, es37_5⟩ => ?_))
        clear es2_5
        refine h_aload_n (pc' := 45) rfl rfl rfl ?_
        refine h_getR (pc' := 48) rfl rfl rfl rfl rfl ?_
        refine h_iload_n (pc' := 49) rfl rfl rfl ?_
        refine h_iconst (pc' := 50) (x := (Int32.ofInt 2)) rfl rfl rfl ?_
        refine h_iload_n (pc' := 51) rfl rfl rfl ?_
        refine h_imul (pc' := 52) rfl rfl ci_2 hx1 rfl (by omega) (by omega) (fun z38 hz38 => ?_)
        refine h_iadd (pc' := 53) rfl rfl ci_19 hz38 rfl (by omega) (by omega) (fun z39 hz39 => ?_)
        refine h_iconst (pc' := 54) (x := (Int32.ofInt 1)) rfl rfl rfl ?_
        refine h_iadd (pc' := 55) rfl rfl hz39 ci_1 rfl (by omega) (by omega) (fun z40 hz40 => ?_)
        refine h_aload_n (pc' := 56) rfl rfl rfl ?_
        refine h_call (sp := false) (pc' := 59) (M := [(0, .ref 98)]) rfl rfl rfl rfl rfl rfl rfl rfl ?_
        refine v_oneHere _ Is37  (fun r41 br41 hr41 s42 Is42 Gs42 tr41 ps42_0 ps42_1 ps42_2 => h_Kv ?_)
        have Fs42 := (Gs42.l1).tr Fs37
        have es42_5 : s42 101 25 = s37 101 25 := (Gs42 101 25 rfl).trans rfl
        clear es37_0 es37_1 es37_2 es37_3 es37_4
        refine h_iast (pc' := 60) rfl rfl rfl rfl hz40 (by omega) (by omega) hr41 (h_fgt (E := fun s => s 98 15 = s42 98 15 ∧ s 98 16 = s42 98 16 ∧ s 98 17 = s42 98 17 ∧ s 98 18 = s42 98 18 ∧ s 98 13 = s42 98 13 ∧ ((25 = ((19 + (2 * a1)) + 1) ∧ s 101 25 = br41) ∨ (25 ≠ ((19 + (2 * a1)) + 1) ∧ s 101 25 = s37 101 25))) _ (ip_101_4 Is42 (by omega) (by omega)) (Fs42.up rfl) ⟨rfl, rfl, rfl, rfl, rfl, h_up_a2 es42_5⟩ (fun s43 Is43 Fs43 ⟨es43_0, es43_1, es43_2, es43_3, es43_4, es43_5⟩ => ?_))
        clear es42_5
        refine h_aload_n (pc' := 61) rfl rfl rfl ?_
        refine h_getR (pc' := 64) rfl rfl rfl rfl rfl ?_
        refine h_iload_n (pc' := 65) rfl rfl rfl ?_
        refine h_bipush (pc' := 67) (x := (Int32.ofInt 6)) rfl rfl cb_6 ?_
        refine h_iadd (pc' := 68) (c := 25) rfl rfl ci_19 ci_6 rfl (by omega) (by omega) (fun z44 hz44 => ?_)
        refine h_dup2 (pc' := 69) rfl rfl rfl ?_
        refine h_iald (pc' := 70) (v := s43 101 25) rfl rfl rfl hz44 (by omega) (by omega) rfl (fun z45 hz45 => ?_)
        have tz45 := ty_101_5 Is43 25 (by omega)
        refine h_iconst (pc' := 71) (x := (Int32.ofInt 1)) rfl rfl rfl ?_
        refine h_iadd (pc' := 72) rfl rfl hz45 ci_1 rfl (by omega) (by omega) (fun z46 hz46 => ?_)
        refine h_iast (pc' := 73) rfl rfl rfl rfl hz44 (by omega) (by omega) hz46 (h_fgt (E := fun s => s 98 15 = s42 98 15 ∧ s 98 16 = s42 98 16 ∧ s 98 17 = s42 98 17 ∧ s 98 18 = s42 98 18 ∧ s 98 13 = s42 98 13 ∧ s 101 25 = ((s43 101 25) + 1)) _ (ip_101_5 Is43 (by omega) (by omega)) (Fs43.up rfl) ⟨es43_0, es43_1, es43_2, es43_3, es43_4, rfl⟩ (fun s47 Is47 Fs47 ⟨es47_0, es47_1, es47_2, es47_3, es47_4, es47_5⟩ => ?_))
        clear es43_0 es43_1 es43_2 es43_3 es43_4
        exact h_vret rfl rfl (kk _ Is47 Fs47 (by omega) (by omega))
      · refine h_aload_n (pc' := 29) rfl rfl rfl ?_
        refine h_iconst (pc' := 30) (x := (Int32.ofInt 3)) rfl rfl rfl ?_
        refine h_call (sp := false) (pc' := 33) (M := [(0, .ref 98), (1, .int (Int32.ofInt 3))]) rfl rfl rfl rfl rfl rfl rfl rfl ?_
        refine h_aload_n (pc' := 1) rfl rfl rfl ?_
        refine h_getI (pc' := 4) (v := s2 98 13) rfl rfl rfl rfl rfl rfl (fun z48 hz48 => ?_)
        have tz48 := tf_98_13 Is2
        refine h_zne (tg := 20) (pc' := 7) rfl rfl rfl hz48 (fun c49 => absurd c49 (by omega)) (fun c49 => ?_)
        refine h_aload_n (pc' := 8) rfl rfl rfl ?_
        refine h_iload_n (pc' := 9) rfl rfl rfl ?_
        refine h_put (pc' := 12) rfl rfl rfl rfl rfl rfl ci_3 rfl (h_fgt (E := fun s => s 98 15 = s2 98 15 ∧ s 98 16 = s2 98 16 ∧ s 98 17 = s2 98 17 ∧ s 98 18 = s2 98 18 ∧ s 98 13 = 3 ∧ s 101 25 = σ 101 25) _ (if_98_13 Is2 (by omega)) (Fs2.up rfl) ⟨rfl, rfl, rfl, rfl, rfl, es2_5⟩ (fun s50 Is50 Fs50 ⟨es50_0, es50_1, es50_2, es50_3, es50_4, es50_5⟩ => ?_))
        clear es2_5
        refine h_aload_n (pc' := 13) rfl rfl rfl ?_
        refine h_aload_n (pc' := 14) rfl rfl rfl ?_
        refine h_getI (pc' := 17) (v := s2 98 16) rfl rfl rfl rfl rfl es50_1 (fun z51 hz51 => ?_)
        have tz51 := tf_98_16 Is2
        refine h_put (pc' := 20) rfl rfl rfl rfl rfl rfl hz51 rfl (h_fgt (E := fun s => s 98 15 = s2 98 15 ∧ s 98 16 = s2 98 16 ∧ s 98 17 = s2 98 17 ∧ s 98 18 = s2 98 18 ∧ s 98 13 = 3 ∧ s 101 25 = σ 101 25) _ (if_98_14 Is50 (h_rgv hz51)) (Fs50.up rfl) ⟨es50_0, es50_1, es50_2, es50_3, es50_4, es50_5⟩ (fun s52 Is52 Fs52 ⟨es52_0, es52_1, es52_2, es52_3, es52_4, es52_5⟩ => ?_))
        clear es50_0 es50_1 es50_2 es50_3 es50_4 es50_5
        refine h_vret rfl rfl (h_Kn ?_)
        refine h_aload_n (pc' := 34) rfl rfl rfl ?_
        refine h_getR (pc' := 37) rfl rfl rfl rfl rfl ?_
        refine h_iload_n (pc' := 38) rfl rfl rfl ?_
        refine h_iconst (pc' := 39) (x := (Int32.ofInt 2)) rfl rfl rfl ?_
        refine h_iload_n (pc' := 40) rfl rfl rfl ?_
        refine h_imul (pc' := 41) rfl rfl ci_2 hx1 rfl (by omega) (by omega) (fun z53 hz53 => ?_)
        refine h_iadd (pc' := 42) rfl rfl ci_19 hz53 rfl (by omega) (by omega) (fun z54 hz54 => ?_)
        refine h_iload_n (pc' := 43) rfl rfl rfl ?_
        refine h_iast (pc' := 44) rfl rfl rfl rfl hz54 (by omega) (by omega) hr1 (h_fgt (E := fun s => s 98 15 = s2 98 15 ∧ s 98 16 = s2 98 16 ∧ s 98 17 = s2 98 17 ∧ s 98 18 = s2 98 18 ∧ s 98 13 = 3 ∧ ((25 = (19 + (2 * a1)) ∧ s 101 25 = br1) ∨ (25 ≠ (19 + (2 * a1)) ∧ s 101 25 = σ 101 25))) _ (ip_101_4 Is52 (by omega) (by omega)) (Fs52.up rfl) ⟨es52_0, es52_1, es52_2, es52_3, es52_4, h_up_a2 es52_5⟩ (fun s55 Is55 Fs55 ⟨es55_0, es55_1, es55_2, es55_3, es55_4, es55_5⟩ => ?_))
        clear es52_0 es52_1 es52_2 es52_3 es52_4 es52_5
        refine h_aload_n (pc' := 45) rfl rfl rfl ?_
        refine h_getR (pc' := 48) rfl rfl rfl rfl rfl ?_
        refine h_iload_n (pc' := 49) rfl rfl rfl ?_
        refine h_iconst (pc' := 50) (x := (Int32.ofInt 2)) rfl rfl rfl ?_
        refine h_iload_n (pc' := 51) rfl rfl rfl ?_
        refine h_imul (pc' := 52) rfl rfl ci_2 hx1 rfl (by omega) (by omega) (fun z56 hz56 => ?_)
        refine h_iadd (pc' := 53) rfl rfl ci_19 hz56 rfl (by omega) (by omega) (fun z57 hz57 => ?_)
        refine h_iconst (pc' := 54) (x := (Int32.ofInt 1)) rfl rfl rfl ?_
        refine h_iadd (pc' := 55) rfl rfl hz57 ci_1 rfl (by omega) (by omega) (fun z58 hz58 => ?_)
        refine h_aload_n (pc' := 56) rfl rfl rfl ?_
        refine h_call (sp := false) (pc' := 59) (M := [(0, .ref 98)]) rfl rfl rfl rfl rfl rfl rfl rfl ?_
        refine v_oneHere _ Is55  (fun r59 br59 hr59 s60 Is60 Gs60 tr59 ps60_0 ps60_1 ps60_2 => h_Kv ?_)
        have Fs60 := (Gs60.l1).tr Fs55
        have es60_5 : s60 101 25 = s55 101 25 := (Gs60 101 25 rfl).trans rfl
        clear es55_0 es55_1 es55_2 es55_3 es55_4
        refine h_iast (pc' := 60) rfl rfl rfl rfl hz58 (by omega) (by omega) hr59 (h_fgt (E := fun s => s 98 15 = s60 98 15 ∧ s 98 16 = s60 98 16 ∧ s 98 17 = s60 98 17 ∧ s 98 18 = s60 98 18 ∧ s 98 13 = s60 98 13 ∧ ((25 = ((19 + (2 * a1)) + 1) ∧ s 101 25 = br59) ∨ (25 ≠ ((19 + (2 * a1)) + 1) ∧ s 101 25 = s55 101 25))) _ (ip_101_4 Is60 (by omega) (by omega)) (Fs60.up rfl) ⟨rfl, rfl, rfl, rfl, rfl, h_up_a2 es60_5⟩ (fun s61 Is61 Fs61 ⟨es61_0, es61_1, es61_2, es61_3, es61_4, es61_5⟩ => ?_))
        clear es60_5
        refine h_aload_n (pc' := 61) rfl rfl rfl ?_
        refine h_getR (pc' := 64) rfl rfl rfl rfl rfl ?_
        refine h_iload_n (pc' := 65) rfl rfl rfl ?_
        refine h_bipush (pc' := 67) (x := (Int32.ofInt 6)) rfl rfl cb_6 ?_
        refine h_iadd (pc' := 68) (c := 25) rfl rfl ci_19 ci_6 rfl (by omega) (by omega) (fun z62 hz62 => ?_)
        refine h_dup2 (pc' := 69) rfl rfl rfl ?_
        refine h_iald (pc' := 70) (v := s61 101 25) rfl rfl rfl hz62 (by omega) (by omega) rfl (fun z63 hz63 => ?_)
        have tz63 := ty_101_5 Is61 25 (by omega)
        refine h_iconst (pc' := 71) (x := (Int32.ofInt 1)) rfl rfl rfl ?_
        refine h_iadd (pc' := 72) rfl rfl hz63 ci_1 rfl (by omega) (by omega) (fun z64 hz64 => ?_)
        refine h_iast (pc' := 73) rfl rfl rfl rfl hz62 (by omega) (by omega) hz64 (h_fgt (E := fun s => s 98 15 = s60 98 15 ∧ s 98 16 = s60 98 16 ∧ s 98 17 = s60 98 17 ∧ s 98 18 = s60 98 18 ∧ s 98 13 = s60 98 13 ∧ s 101 25 = ((s61 101 25) + 1)) _ (ip_101_5 Is61 (by omega) (by omega)) (Fs61.up rfl) ⟨es61_0, es61_1, es61_2, es61_3, es61_4, rfl⟩ (fun s65 Is65 Fs65 ⟨es65_0, es65_1, es65_2, es65_3, es65_4, es65_5⟩ => ?_))
        clear es61_0 es61_1 es61_2 es61_3 es61_4
        exact h_vret rfl rfl (kk _ Is65 Fs65 (by omega) (by omega))
theorem v_readPlan_l (ns : Nat) (σ : h_S) (hI : h_I σ) {Q : Option Value → h_S → Prop} (kk : ∀ (τ : h_S), h_I τ → h_F k_nt τ σ → (σ 98 15 ≤ τ 98 15) → (¬ σ 98 13 = 0 → ¬ τ 98 13 = 0) → Q none τ) : ∀ n : Nat, (∀ (s0 : h_S), h_I s0 → h_F k_nt s0 σ → (σ 98 15 ≤ s0 98 15) → (¬ σ 98 13 = 0 → ¬ s0 98 13 = 0) → (161 - s0 98 15) * 100 - s0 98 13 * 10 + s0 98 17 + 61 ≤ (n : Int) → h_T g_P (g_Y ns) 152 0 [(0, .ref 98)] [] s0 Q) := by
  intro n
  induction n with
  | zero => exact by intro s0 I0 F0_ ex0 ex1 hm; have gh0 := tf_98_15 I0; have gh1 := tf_98_13 I0; have gh2 := tf_98_17 I0; exfalso; omega
  | succ n ih =>
    intro s0 I0 F0_ ex0 ex1 hm; have gh0 := tf_98_15 I0; have gh1 := tf_98_13 I0; have gh2 := tf_98_17 I0
    refine h_aload_n (pc' := 1) rfl rfl rfl ?_
    refine h_getI (pc' := 4) (v := s0 98 13) rfl rfl rfl rfl rfl rfl (fun z1 hz1 => ?_)
    have tz1 := tf_98_13 I0
    refine h_zne (tg := 167) (pc' := 7) rfl rfl rfl hz1 (fun c2 => ?_) (fun c2 => ?_)
    · exact h_vret rfl rfl (kk _ I0 F0_ (by omega) (by omega))
    · refine h_aload_n (pc' := 8) rfl rfl rfl ?_
      refine h_getI (pc' := 11) (v := s0 98 17) rfl rfl rfl rfl rfl rfl (fun z3 hz3 => ?_)
      have tz3 := tf_98_17 I0
      refine h_iconst (pc' := 12) (x := (Int32.ofInt 2)) rfl rfl rfl ?_
      refine h_cne (tg := 167) (pc' := 15) rfl rfl rfl hz3 ci_2 (fun c4 => ?_) (fun c4 => ?_)
      · exact h_vret rfl rfl (kk _ I0 F0_ (by omega) (by omega))
      · refine h_aload_n (pc' := 16) rfl rfl rfl ?_
        refine h_getR (pc' := 19) rfl rfl rfl rfl rfl ?_
        refine h_bipush (pc' := 21) (x := (Int32.ofInt 43)) rfl rfl cb_43 ?_
        refine h_iald (pc' := 22) (v := s0 101 43) rfl rfl rfl ci_43 (by omega) (by omega) rfl (fun z5 hz5 => ?_)
        have tz5 := ty_101_10 I0 43 (by omega)
        refine h_bipush (pc' := 24) (x := (Int32.ofInt 8)) rfl rfl cb_8 ?_
        refine h_cne (tg := 35) (pc' := 27) rfl rfl rfl hz5 ci_8 (fun c6 => ?_) (fun c6 => ?_)
        · refine h_aload_n (pc' := 36) rfl rfl rfl ?_
          refine h_getI (pc' := 39) (v := s0 98 18) rfl rfl rfl rfl rfl rfl (fun z7 hz7 => ?_)
          have tz7 := tf_98_18 I0
          refine h_bipush (pc' := 41) (x := (Int32.ofInt 10)) rfl rfl cb_10 ?_
          refine h_idiv (pc' := 42) rfl rfl hz7 ci_10 (by omega) (by omega) (fun z8 hz8 => ?_)
          refine h_bipush (pc' := 44) (x := (Int32.ofInt 6)) rfl rfl cb_6 ?_
          refine h_cge (tg := 58) (pc' := 47) rfl rfl rfl hz8 ci_6 (fun c9 => ?_) (fun c9 => ?_)
          · refine h_aload_n (pc' := 59) rfl rfl rfl ?_
            refine h_iconst (pc' := 60) (x := (Int32.ofInt 3)) rfl rfl rfl ?_
            refine h_call (sp := false) (pc' := 63) (M := [(0, .ref 98), (1, .int (Int32.ofInt 3))]) rfl rfl rfl rfl rfl rfl rfl rfl ?_
            refine h_aload_n (pc' := 1) rfl rfl rfl ?_
            refine h_getI (pc' := 4) (v := s0 98 13) rfl rfl rfl rfl rfl rfl (fun z10 hz10 => ?_)
            have tz10 := tf_98_13 I0
            refine h_zne (tg := 20) (pc' := 7) rfl rfl rfl hz10 (fun c11 => absurd c11 (by omega)) (fun c11 => ?_)
            refine h_aload_n (pc' := 8) rfl rfl rfl ?_
            refine h_iload_n (pc' := 9) rfl rfl rfl ?_
            refine h_put (pc' := 12) rfl rfl rfl rfl rfl rfl ci_3 rfl (h_fgt (E := fun s => s 98 15 = s0 98 15 ∧ s 98 16 = s0 98 16 ∧ s 98 17 = s0 98 17 ∧ s 98 18 = s0 98 18 ∧ s 98 13 = 3 ∧ s 101 43 = s0 101 43) _ (if_98_13 I0 (by omega)) (F0_.up rfl) ⟨rfl, rfl, rfl, rfl, rfl, rfl⟩ (fun s12 Is12 Fs12 ⟨es12_0, es12_1, es12_2, es12_3, es12_4, es12_5⟩ => ?_))
            refine h_aload_n (pc' := 13) rfl rfl rfl ?_
            refine h_aload_n (pc' := 14) rfl rfl rfl ?_
            refine h_getI (pc' := 17) (v := s0 98 16) rfl rfl rfl rfl rfl es12_1 (fun z13 hz13 => ?_)
            have tz13 := tf_98_16 I0
            refine h_put (pc' := 20) rfl rfl rfl rfl rfl rfl hz13 rfl (h_fgt (E := fun s => s 98 15 = s0 98 15 ∧ s 98 16 = s0 98 16 ∧ s 98 17 = s0 98 17 ∧ s 98 18 = s0 98 18 ∧ s 98 13 = 3 ∧ s 101 43 = s0 101 43) _ (if_98_14 Is12 (h_rgv hz13)) (Fs12.up rfl) ⟨es12_0, es12_1, es12_2, es12_3, es12_4, es12_5⟩ (fun s14 Is14 Fs14 ⟨es14_0, es14_1, es14_2, es14_3, es14_4, es14_5⟩ => ?_))
            clear es12_0 es12_1 es12_2 es12_3 es12_4 es12_5
            refine h_vret rfl rfl (h_Kn ?_)
            refine h_goto (pc' := 0) rfl rfl ?_
            exact h_wk [(0, .ref 98)] ⟨rfl, trivial⟩ (ih _ Is14 Fs14  (by omega) (by omega) (by omega))
          · refine h_aload_n (pc' := 48) rfl rfl rfl ?_
            refine h_getI (pc' := 51) (v := s0 98 18) rfl rfl rfl rfl rfl rfl (fun z15 hz15 => ?_)
            have tz15 := tf_98_18 I0
            refine h_bipush (pc' := 53) (x := (Int32.ofInt 10)) rfl rfl cb_10 ?_
            refine h_irem (pc' := 54) rfl rfl hz15 ci_10 (by omega) (by omega) (fun z16 hz16 => ?_)
            refine h_iconst (pc' := 55) (x := (Int32.ofInt 3)) rfl rfl rfl ?_
            refine h_clt (tg := 66) (pc' := 58) rfl rfl rfl hz16 ci_3 (fun c17 => ?_) (fun c17 => ?_)
            · refine h_aload_n (pc' := 67) rfl rfl rfl ?_
              refine h_aload_n (pc' := 68) rfl rfl rfl ?_
              refine h_getI (pc' := 71) (v := s0 98 18) rfl rfl rfl rfl rfl rfl (fun z18 hz18 => ?_)
              have tz18 := tf_98_18 I0
              refine h_bipush (pc' := 73) (x := (Int32.ofInt 10)) rfl rfl cb_10 ?_
              refine h_idiv (pc' := 74) rfl rfl hz18 ci_10 (by omega) (by omega) (fun z19 hz19 => ?_)
              refine h_aload_n (pc' := 75) rfl rfl rfl ?_
              refine h_getI (pc' := 78) (v := s0 98 8) rfl rfl rfl rfl rfl rfl (fun z20 hz20 => ?_)
              have tz20 := tf_98_8 I0
              refine h_cle (tg := 91) (pc' := 81) rfl rfl rfl hz19 hz20 (fun c21 => ?_) (fun c21 => ?_)
              · refine h_aload_n (pc' := 92) rfl rfl rfl ?_
                refine h_getI (pc' := 95) (v := s0 98 8) rfl rfl rfl rfl rfl rfl (fun z22 hz22 => ?_)
                have tz22 := tf_98_8 I0
                refine h_put (pc' := 98) rfl rfl rfl rfl rfl rfl hz22 rfl (h_fgt (E := fun s => s 98 15 = s0 98 15 ∧ s 98 16 = s0 98 16 ∧ s 98 17 = s0 98 17 ∧ s 98 18 = s0 98 18 ∧ s 98 13 = s0 98 13 ∧ s 101 43 = s0 101 43) _ (if_98_8 I0 (by omega)) (F0_.up rfl) ⟨rfl, rfl, rfl, rfl, rfl, rfl⟩ (fun s23 Is23 Fs23 ⟨es23_0, es23_1, es23_2, es23_3, es23_4, es23_5⟩ => ?_))
                refine h_aload_n (pc' := 99) rfl rfl rfl ?_
                refine h_aload_n (pc' := 100) rfl rfl rfl ?_
                refine h_getI (pc' := 103) (v := s0 98 18) rfl rfl rfl rfl rfl es23_3 (fun z24 hz24 => ?_)
                have tz24 := tf_98_18 I0
                refine h_bipush (pc' := 105) (x := (Int32.ofInt 10)) rfl rfl cb_10 ?_
                refine h_irem (pc' := 106) rfl rfl hz24 ci_10 (by omega) (by omega) (fun z25 hz25 => ?_)
                refine h_aload_n (pc' := 107) rfl rfl rfl ?_
                refine h_getI (pc' := 110) (v := s23 98 9) rfl rfl rfl rfl rfl rfl (fun z26 hz26 => ?_)
                have tz26 := tf_98_9 Is23
                refine h_cle (tg := 123) (pc' := 113) rfl rfl rfl hz25 hz26 (fun c27 => ?_) (fun c27 => ?_)
                · refine h_aload_n (pc' := 124) rfl rfl rfl ?_
                  refine h_getI (pc' := 127) (v := s23 98 9) rfl rfl rfl rfl rfl rfl (fun z28 hz28 => ?_)
                  have tz28 := tf_98_9 Is23
                  refine h_put (pc' := 130) rfl rfl rfl rfl rfl rfl hz28 rfl (h_fgt (E := fun s => s 98 15 = s0 98 15 ∧ s 98 16 = s0 98 16 ∧ s 98 17 = s0 98 17 ∧ s 98 18 = s0 98 18 ∧ s 98 13 = s0 98 13 ∧ s 101 43 = s0 101 43) _ (if_98_9 Is23 (by omega)) (Fs23.up rfl) ⟨es23_0, es23_1, es23_2, es23_3, es23_4, es23_5⟩ (fun s29 Is29 Fs29 ⟨es29_0, es29_1, es29_2, es29_3, es29_4, es29_5⟩ => ?_))
                  clear es23_0 es23_1 es23_2 es23_3 es23_4 es23_5
                  refine h_aload_n (pc' := 131) rfl rfl rfl ?_
                  refine h_getR (pc' := 134) rfl rfl rfl rfl rfl ?_
                  refine h_bipush (pc' := 136) (x := (Int32.ofInt 35)) rfl rfl cb_35 ?_
                  refine h_aload_n (pc' := 137) rfl rfl rfl ?_
                  refine h_getR (pc' := 140) rfl rfl rfl rfl rfl ?_
                  refine h_bipush (pc' := 142) (x := (Int32.ofInt 43)) rfl rfl cb_43 ?_
                  refine h_iald (pc' := 143) (v := s0 101 43) rfl rfl rfl ci_43 (by omega) (by omega) es29_5 (fun z30 hz30 => ?_)
                  have tz30 := ty_101_10 I0 43 (by omega)
                  refine h_iadd (pc' := 144) rfl rfl ci_35 hz30 rfl (by omega) (by omega) (fun z31 hz31 => ?_)
                  refine h_aload_n (pc' := 145) rfl rfl rfl ?_
                  refine h_getI (pc' := 148) (v := s0 98 18) rfl rfl rfl rfl rfl es29_3 (fun z32 hz32 => ?_)
                  have tz32 := tf_98_18 I0
                  refine h_iast (pc' := 149) rfl rfl rfl rfl hz31 (by omega) (by omega) hz32 (h_fgt (E := fun s => s 98 15 = s0 98 15 ∧ s 98 16 = s0 98 16 ∧ s 98 17 = s0 98 17 ∧ s 98 18 = s0 98 18 ∧ s 98 13 = s0 98 13 ∧ ((43 = (35 + (s0 101 43)) ∧ s 101 43 = (s0 98 18)) ∨ (43 ≠ (35 + (s0 101 43)) ∧ s 101 43 = s0 101 43))) _ (ip_101_9 Is29 (by omega) (by omega)) (Fs29.up rfl) ⟨es29_0, es29_1, es29_2, es29_3, es29_4, h_up_a2 es29_5⟩ (fun s33 Is33 Fs33 ⟨es33_0, es33_1, es33_2, es33_3, es33_4, es33_5⟩ => ?_))
                  clear es29_0 es29_1 es29_2 es29_3 es29_4 es29_5
                  refine h_aload_n (pc' := 150) rfl rfl rfl ?_
                  refine h_getR (pc' := 153) rfl rfl rfl rfl rfl ?_
                  refine h_bipush (pc' := 155) (x := (Int32.ofInt 43)) rfl rfl cb_43 ?_
                  refine h_dup2 (pc' := 156) rfl rfl rfl ?_
                  refine h_iald (pc' := 157) (v := s33 101 43) rfl rfl rfl ci_43 (by omega) (by omega) rfl (fun z34 hz34 => ?_)
                  have tz34 := ty_101_10 Is33 43 (by omega)
                  refine h_iconst (pc' := 158) (x := (Int32.ofInt 1)) rfl rfl rfl ?_
                  refine h_iadd (pc' := 159) rfl rfl hz34 ci_1 rfl (by omega) (by omega) (fun z35 hz35 => ?_)
                  refine h_iast (pc' := 160) rfl rfl rfl rfl ci_43 (by omega) (by omega) hz35 (h_fgt (E := fun s => s 98 15 = s0 98 15 ∧ s 98 16 = s0 98 16 ∧ s 98 17 = s0 98 17 ∧ s 98 18 = s0 98 18 ∧ s 98 13 = s0 98 13 ∧ s 101 43 = ((s33 101 43) + 1)) _ (ip_101_10 Is33 (by omega) (by omega)) (Fs33.up rfl) ⟨es33_0, es33_1, es33_2, es33_3, es33_4, rfl⟩ (fun s36 Is36 Fs36 ⟨es36_0, es36_1, es36_2, es36_3, es36_4, es36_5⟩ => ?_))
                  clear es33_0 es33_1 es33_2 es33_3 es33_4
                  refine h_aload_n (pc' := 161) rfl rfl rfl ?_
                  refine h_call (sp := false) (pc' := 164) (M := [(0, .ref 98)]) rfl rfl rfl rfl rfl rfl rfl rfl ?_
                  refine v_step _ Is36  (fun s38 Is38 Gs38 ps38_0 ps38_1 ps38_2 => h_Kn ?_)
                  have Fs38 := (Gs38.l1).tr Fs36
                  have es38_5 : s38 101 43 = ((s33 101 43) + 1) := (Gs38 101 43 rfl).trans es36_5
                  clear es36_0 es36_1 es36_2 es36_3 es36_4 es36_5
                  refine h_goto (pc' := 0) rfl rfl ?_
                  exact h_wk [(0, .ref 98)] ⟨rfl, trivial⟩ (ih _ Is38 Fs38  (by omega) (by omega) (by omega))
                · refine h_aload_n (pc' := 114) rfl rfl rfl ?_
                  refine h_getI (pc' := 117) (v := s0 98 18) rfl rfl rfl rfl rfl es23_3 (fun z39 hz39 => ?_)
                  have tz39 := tf_98_18 I0
                  refine h_bipush (pc' := 119) (x := (Int32.ofInt 10)) rfl rfl cb_10 ?_
                  refine h_irem (pc' := 120) rfl rfl hz39 ci_10 (by omega) (by omega) (fun z40 hz40 => ?_)
                  refine h_goto (pc' := 127) rfl rfl ?_
                  refine h_put (pc' := 130) rfl rfl rfl rfl rfl rfl hz40 rfl (h_fgt (E := fun s => s 98 15 = s0 98 15 ∧ s 98 16 = s0 98 16 ∧ s 98 17 = s0 98 17 ∧ s 98 18 = s0 98 18 ∧ s 98 13 = s0 98 13 ∧ s 101 43 = s0 101 43) _ (if_98_9 Is23 (by omega)) (Fs23.up rfl) ⟨es23_0, es23_1, es23_2, es23_3, es23_4, es23_5⟩ (fun s41 Is41 Fs41 ⟨es41_0, es41_1, es41_2, es41_3, es41_4, es41_5⟩ => ?_))
                  clear es23_0 es23_1 es23_2 es23_3 es23_4 es23_5
                  refine h_aload_n (pc' := 131) rfl rfl rfl ?_
                  refine h_getR (pc' := 134) rfl rfl rfl rfl rfl ?_
                  refine h_bipush (pc' := 136) (x := (Int32.ofInt 35)) rfl rfl cb_35 ?_
                  refine h_aload_n (pc' := 137) rfl rfl rfl ?_
                  refine h_getR (pc' := 140) rfl rfl rfl rfl rfl ?_
                  refine h_bipush (pc' := 142) (x := (Int32.ofInt 43)) rfl rfl cb_43 ?_
                  refine h_iald (pc' := 143) (v := s0 101 43) rfl rfl rfl ci_43 (by omega) (by omega) es41_5 (fun z42 hz42 => ?_)
                  have tz42 := ty_101_10 I0 43 (by omega)
                  refine h_iadd (pc' := 144) rfl rfl ci_35 hz42 rfl (by omega) (by omega) (fun z43 hz43 => ?_)
                  refine h_aload_n (pc' := 145) rfl rfl rfl ?_
                  refine h_getI (pc' := 148) (v := s0 98 18) rfl rfl rfl rfl rfl es41_3 (fun z44 hz44 => ?_)
                  have tz44 := tf_98_18 I0
                  refine h_iast (pc' := 149) rfl rfl rfl rfl hz43 (by omega) (by omega) hz44 (h_fgt (E := fun s => s 98 15 = s0 98 15 ∧ s 98 16 = s0 98 16 ∧ s 98 17 = s0 98 17 ∧ s 98 18 = s0 98 18 ∧ s 98 13 = s0 98 13 ∧ ((43 = (35 + (s0 101 43)) ∧ s 101 43 = (s0 98 18)) ∨ (43 ≠ (35 + (s0 101 43)) ∧ s 101 43 = s0 101 43))) _ (ip_101_9 Is41 (by omega) (by omega)) (Fs41.up rfl) ⟨es41_0, es41_1, es41_2, es41_3, es41_4, h_up_a2 es41_5⟩ (fun s45 Is45 Fs45 ⟨es45_0, es45_1, es45_2, es45_3, es45_4, es45_5⟩ => ?_))
                  clear es41_0 es41_1 es41_2 es41_3 es41_4 es41_5
                  refine h_aload_n (pc' := 150) rfl rfl rfl ?_
                  refine h_getR (pc' := 153) rfl rfl rfl rfl rfl ?_
                  refine h_bipush (pc' := 155) (x := (Int32.ofInt 43)) rfl rfl cb_43 ?_
                  refine h_dup2 (pc' := 156) rfl rfl rfl ?_
                  refine h_iald (pc' := 157) (v := s45 101 43) rfl rfl rfl ci_43 (by omega) (by omega) rfl (fun z46 hz46 => ?_)
                  have tz46 := ty_101_10 Is45 43 (by omega)
                  refine h_iconst (pc' := 158) (x := (Int32.ofInt 1)) rfl rfl rfl ?_
                  refine h_iadd (pc' := 159) rfl rfl hz46 ci_1 rfl (by omega) (by omega) (fun z47 hz47 => ?_)
                  refine h_iast (pc' := 160) rfl rfl rfl rfl ci_43 (by omega) (by omega) hz47 (h_fgt (E := fun s => s 98 15 = s0 98 15 ∧ s 98 16 = s0 98 16 ∧ s 98 17 = s0 98 17 ∧ s 98 18 = s0 98 18 ∧ s 98 13 = s0 98 13 ∧ s 101 43 = ((s45 101 43) + 1)) _ (ip_101_10 Is45 (by omega) (by omega)) (Fs45.up rfl) ⟨es45_0, es45_1, es45_2, es45_3, es45_4, rfl⟩ (fun s48 Is48 Fs48 ⟨es48_0, es48_1, es48_2, es48_3, es48_4, es48_5⟩ => ?_))
                  clear es45_0 es45_1 es45_2 es45_3 es45_4
                  refine h_aload_n (pc' := 161) rfl rfl rfl ?_
                  refine h_call (sp := false) (pc' := 164) (M := [(0, .ref 98)]) rfl rfl rfl rfl rfl rfl rfl rfl ?_
                  refine v_step _ Is48  (fun s50 Is50 Gs50 ps50_0 ps50_1 ps50_2 => h_Kn ?_)
                  have Fs50 := (Gs50.l1).tr Fs48
                  have es50_5 : s50 101 43 = ((s45 101 43) + 1) := (Gs50 101 43 rfl).trans es48_5
                  clear es48_0 es48_1 es48_2 es48_3 es48_4 es48_5
                  refine h_goto (pc' := 0) rfl rfl ?_
                  exact h_wk [(0, .ref 98)] ⟨rfl, trivial⟩ (ih _ Is50 Fs50  (by omega) (by omega) (by omega))
              · refine h_aload_n (pc' := 82) rfl rfl rfl ?_
                refine h_getI (pc' := 85) (v := s0 98 18) rfl rfl rfl rfl rfl rfl (fun z51 hz51 => ?_)
                have tz51 := tf_98_18 I0
                refine h_bipush (pc' := 87) (x := (Int32.ofInt 10)) rfl rfl cb_10 ?_
                refine h_idiv (pc' := 88) rfl rfl hz51 ci_10 (by omega) (by omega) (fun z52 hz52 => ?_)
                refine h_goto (pc' := 95) rfl rfl ?_
                refine h_put (pc' := 98) rfl rfl rfl rfl rfl rfl hz52 rfl (h_fgt (E := fun s => s 98 15 = s0 98 15 ∧ s 98 16 = s0 98 16 ∧ s 98 17 = s0 98 17 ∧ s 98 18 = s0 98 18 ∧ s 98 13 = s0 98 13 ∧ s 101 43 = s0 101 43) _ (if_98_8 I0 (by omega)) (F0_.up rfl) ⟨rfl, rfl, rfl, rfl, rfl, rfl⟩ (fun s53 Is53 Fs53 ⟨es53_0, es53_1, es53_2, es53_3, es53_4, es53_5⟩ => ?_))
                refine h_aload_n (pc' := 99) rfl rfl rfl ?_
                refine h_aload_n (pc' := 100) rfl rfl rfl ?_
                refine h_getI (pc' := 103) (v := s0 98 18) rfl rfl rfl rfl rfl es53_3 (fun z54 hz54 => ?_)
                have tz54 := tf_98_18 I0
                refine h_bipush (pc' := 105) (x := (Int32.ofInt 10)) rfl rfl cb_10 ?_
                refine h_irem (pc' := 106) rfl rfl hz54 ci_10 (by omega) (by omega) (fun z55 hz55 => ?_)
                refine h_aload_n (pc' := 107) rfl rfl rfl ?_
                refine h_getI (pc' := 110) (v := s53 98 9) rfl rfl rfl rfl rfl rfl (fun z56 hz56 => ?_)
                have tz56 := tf_98_9 Is53
                refine h_cle (tg := 123) (pc' := 113) rfl rfl rfl hz55 hz56 (fun c57 => ?_) (fun c57 => ?_)
                · refine h_aload_n (pc' := 124) rfl rfl rfl ?_
                  refine h_getI (pc' := 127) (v := s53 98 9) rfl rfl rfl rfl rfl rfl (fun z58 hz58 => ?_)
                  have tz58 := tf_98_9 Is53
                  refine h_put (pc' := 130) rfl rfl rfl rfl rfl rfl hz58 rfl (h_fgt (E := fun s => s 98 15 = s0 98 15 ∧ s 98 16 = s0 98 16 ∧ s 98 17 = s0 98 17 ∧ s 98 18 = s0 98 18 ∧ s 98 13 = s0 98 13 ∧ s 101 43 = s0 101 43) _ (if_98_9 Is53 (by omega)) (Fs53.up rfl) ⟨es53_0, es53_1, es53_2, es53_3, es53_4, es53_5⟩ (fun s59 Is59 Fs59 ⟨es59_0, es59_1, es59_2, es59_3, es59_4, es59_5⟩ => ?_))
                  clear es53_0 es53_1 es53_2 es53_3 es53_4 es53_5
                  refine h_aload_n (pc' := 131) rfl rfl rfl ?_
                  refine h_getR (pc' := 134) rfl rfl rfl rfl rfl ?_
                  refine h_bipush (pc' := 136) (x := (Int32.ofInt 35)) rfl rfl cb_35 ?_
                  refine h_aload_n (pc' := 137) rfl rfl rfl ?_
                  refine h_getR (pc' := 140) rfl rfl rfl rfl rfl ?_
                  refine h_bipush (pc' := 142) (x := (Int32.ofInt 43)) rfl rfl cb_43 ?_
                  refine h_iald (pc' := 143) (v := s0 101 43) rfl rfl rfl ci_43 (by omega) (by omega) es59_5 (fun z60 hz60 => ?_)
                  have tz60 := ty_101_10 I0 43 (by omega)
                  refine h_iadd (pc' := 144) rfl rfl ci_35 hz60 rfl (by omega) (by omega) (fun z61 hz61 => ?_)
                  refine h_aload_n (pc' := 145) rfl rfl rfl ?_
                  refine h_getI (pc' := 148) (v := s0 98 18) rfl rfl rfl rfl rfl es59_3 (fun z62 hz62 => ?_)
                  have tz62 := tf_98_18 I0
                  refine h_iast (pc' := 149) rfl rfl rfl rfl hz61 (by omega) (by omega) hz62 (h_fgt (E := fun s => s 98 15 = s0 98 15 ∧ s 98 16 = s0 98 16 ∧ s 98 17 = s0 98 17 ∧ s 98 18 = s0 98 18 ∧ s 98 13 = s0 98 13 ∧ ((43 = (35 + (s0 101 43)) ∧ s 101 43 = (s0 98 18)) ∨ (43 ≠ (35 + (s0 101 43)) ∧ s 101 43 = s0 101 43))) _ (ip_101_9 Is59 (by omega) (by omega)) (Fs59.up rfl) ⟨es59_0, es59_1, es59_2, es59_3, es59_4, h_up_a2 es59_5⟩ (fun s63 Is63 Fs63 ⟨es63_0, es63_1, es63_2, es63_3, es63_4, es63_5⟩ => ?_))
                  clear es59_0 es59_1 es59_2 es59_3 es59_4 es59_5
                  refine h_aload_n (pc' := 150) rfl rfl rfl ?_
                  refine h_getR (pc' := 153) rfl rfl rfl rfl rfl ?_
                  refine h_bipush (pc' := 155) (x := (Int32.ofInt 43)) rfl rfl cb_43 ?_
                  refine h_dup2 (pc' := 156) rfl rfl rfl ?_
                  refine h_iald (pc' := 157) (v := s63 101 43) rfl rfl rfl ci_43 (by omega) (by omega) rfl (fun z64 hz64 => ?_)
                  have tz64 := ty_101_10 Is63 43 (by omega)
                  refine h_iconst (pc' := 158) (x := (Int32.ofInt 1)) rfl rfl rfl ?_
                  refine h_iadd (pc' := 159) rfl rfl hz64 ci_1 rfl (by omega) (by omega) (fun z65 hz65 => ?_)
                  refine h_iast (pc' := 160) rfl rfl rfl rfl ci_43 (by omega) (by omega) hz65 (h_fgt (E := fun s => s 98 15 = s0 98 15 ∧ s 98 16 = s0 98 16 ∧ s 98 17 = s0 98 17 ∧ s 98 18 = s0 98 18 ∧ s 98 13 = s0 98 13 ∧ s 101 43 = ((s63 101 43) + 1)) _ (ip_101_10 Is63 (by omega) (by omega)) (Fs63.up rfl) ⟨es63_0, es63_1, es63_2, es63_3, es63_4, rfl⟩ (fun s66 Is66 Fs66 ⟨es66_0, es66_1, es66_2, es66_3, es66_4, es66_5⟩ => ?_))
                  clear es63_0 es63_1 es63_2 es63_3 es63_4
                  refine h_aload_n (pc' := 161) rfl rfl rfl ?_
                  refine h_call (sp := false) (pc' := 164) (M := [(0, .ref 98)]) rfl rfl rfl rfl rfl rfl rfl rfl ?_
                  refine v_step _ Is66  (fun s68 Is68 Gs68 ps68_0 ps68_1 ps68_2 => h_Kn ?_)
                  have Fs68 := (Gs68.l1).tr Fs66
                  have es68_5 : s68 101 43 = ((s63 101 43) + 1) := (Gs68 101 43 rfl).trans es66_5
                  clear es66_0 es66_1 es66_2 es66_3 es66_4 es66_5
                  refine h_goto (pc' := 0) rfl rfl ?_
                  exact h_wk [(0, .ref 98)] ⟨rfl, trivial⟩ (ih _ Is68 Fs68  (by omega) (by omega) (by omega))
                · refine h_aload_n (pc' := 114) rfl rfl rfl ?_
                  refine h_getI (pc' := 117) (v := s0 98 18) rfl rfl rfl rfl rfl es53_3 (fun z69 hz69 => ?_)
                  have tz69 := tf_98_18 I0
                  refine h_bipush (pc' := 119) (x := (Int32.ofInt 10)) rfl rfl cb_10 ?_
                  refine h_irem (pc' := 120) rfl rfl hz69 ci_10 (by omega) (by omega) (fun z70 hz70 => ?_)
                  refine h_goto (pc' := 127) rfl rfl ?_
                  refine h_put (pc' := 130) rfl rfl rfl rfl rfl rfl hz70 rfl (h_fgt (E := fun s => s 98 15 = s0 98 15 ∧ s 98 16 = s0 98 16 ∧ s 98 17 = s0 98 17 ∧ s 98 18 = s0 98 18 ∧ s 98 13 = s0 98 13 ∧ s 101 43 = s0 101 43) _ (if_98_9 Is53 (by omega)) (Fs53.up rfl) ⟨es53_0, es53_1, es53_2, es53_3, es53_4, es53_5⟩ (fun s71 Is71 Fs71 ⟨es71_0, es71_1, es71_2, es71_3, es71_4, es71_5⟩ => ?_))
                  clear es53_0 es53_1 es53_2 es53_3 es53_4 es53_5
                  refine h_aload_n (pc' := 131) rfl rfl rfl ?_
                  refine h_getR (pc' := 134) rfl rfl rfl rfl rfl ?_
                  refine h_bipush (pc' := 136) (x := (Int32.ofInt 35)) rfl rfl cb_35 ?_
                  refine h_aload_n (pc' := 137) rfl rfl rfl ?_
                  refine h_getR (pc' := 140) rfl rfl rfl rfl rfl ?_
                  refine h_bipush (pc' := 142) (x := (Int32.ofInt 43)) rfl rfl cb_43 ?_
                  refine h_iald (pc' := 143) (v := s0 101 43) rfl rfl rfl ci_43 (by omega) (by omega) es71_5 (fun z72 hz72 => ?_)
                  have tz72 := ty_101_10 I0 43 (by omega)
                  refine h_iadd (pc' := 144) rfl rfl ci_35 hz72 rfl (by omega) (by omega) (fun z73 hz73 => ?_)
                  refine h_aload_n (pc' := 145) rfl rfl rfl ?_
                  refine h_getI (pc' := 148) (v := s0 98 18) rfl rfl rfl rfl rfl es71_3 (fun z74 hz74 => ?_)
                  have tz74 := tf_98_18 I0
                  refine h_iast (pc' := 149) rfl rfl rfl rfl hz73 (by omega) (by omega) hz74 (h_fgt (E := fun s => s 98 15 = s0 98 15 ∧ s 98 16 = s0 98 16 ∧ s 98 17 = s0 98 17 ∧ s 98 18 = s0 98 18 ∧ s 98 13 = s0 98 13 ∧ ((43 = (35 + (s0 101 43)) ∧ s 101 43 = (s0 98 18)) ∨ (43 ≠ (35 + (s0 101 43)) ∧ s 101 43 = s0 101 43))) _ (ip_101_9 Is71 (by omega) (by omega)) (Fs71.up rfl) ⟨es71_0, es71_1, es71_2, es71_3, es71_4, h_up_a2 es71_5⟩ (fun s75 Is75 Fs75 ⟨es75_0, es75_1, es75_2, es75_3, es75_4, es75_5⟩ => ?_))
                  clear es71_0 es71_1 es71_2 es71_3 es71_4 es71_5
                  refine h_aload_n (pc' := 150) rfl rfl rfl ?_
                  refine h_getR (pc' := 153) rfl rfl rfl rfl rfl ?_
                  refine h_bipush (pc' := 155) (x := (Int32.ofInt 43)) rfl rfl cb_43 ?_
                  refine h_dup2 (pc' := 156) rfl rfl rfl ?_
                  refine h_iald (pc' := 157) (v := s75 101 43) rfl rfl rfl ci_43 (by omega) (by omega) rfl (fun z76 hz76 => ?_)
                  have tz76 := ty_101_10 Is75 43 (by omega)
                  refine h_iconst (pc' := 158) (x := (Int32.ofInt 1)) rfl rfl rfl ?_
                  refine h_iadd (pc' := 159) rfl rfl hz76 ci_1 rfl (by omega) (by omega) (fun z77 hz77 => ?_)
                  refine h_iast (pc' := 160) rfl rfl rfl rfl ci_43 (by omega) (by omega) hz77 (h_fgt (E := fun s => s 98 15 = s0 98 15 ∧ s 98 16 = s0 98 16 ∧ s 98 17 = s0 98 17 ∧ s 98 18 = s0 98 18 ∧ s 98 13 = s0 98 13 ∧ s 101 43 = ((s75 101 43) + 1)) _ (ip_101_10 Is75 (by omega) (by omega)) (Fs75.up rfl) ⟨es75_0, es75_1, es75_2, es75_3, es75_4, rfl⟩ (fun s78 Is78 Fs78 ⟨es78_0, es78_1, es78_2, es78_3, es78_4, es78_5⟩ => ?_))
                  clear es75_0 es75_1 es75_2 es75_3 es75_4
                  refine h_aload_n (pc' := 161) rfl rfl rfl ?_
                  refine h_call (sp := false) (pc' := 164) (M := [(0, .ref 98)]) rfl rfl rfl rfl rfl rfl rfl rfl ?_
                  refine v_step _ Is78  (fun s80 Is80 Gs80 ps80_0 ps80_1 ps80_2 => h_Kn ?_)
                  have Fs80 := (Gs80.l1).tr Fs78
                  have es80_5 : s80 101 43 = ((s75 101 43) + 1) := (Gs80 101 43 rfl).trans es78_5
                  clear es78_0 es78_1 es78_2 es78_3 es78_4 es78_5
                  refine h_goto (pc' := 0) rfl rfl ?_
                  exact h_wk [(0, .ref 98)] ⟨rfl, trivial⟩ (ih _ Is80 Fs80  (by omega) (by omega) (by omega))
            · refine h_aload_n (pc' := 59) rfl rfl rfl ?_
              refine h_iconst (pc' := 60) (x := (Int32.ofInt 3)) rfl rfl rfl ?_
              refine h_call (sp := false) (pc' := 63) (M := [(0, .ref 98), (1, .int (Int32.ofInt 3))]) rfl rfl rfl rfl rfl rfl rfl rfl ?_
              refine h_aload_n (pc' := 1) rfl rfl rfl ?_
              refine h_getI (pc' := 4) (v := s0 98 13) rfl rfl rfl rfl rfl rfl (fun z81 hz81 => ?_)
              have tz81 := tf_98_13 I0
              refine h_zne (tg := 20) (pc' := 7) rfl rfl rfl hz81 (fun c82 => absurd c82 (by omega)) (fun c82 => ?_)
              refine h_aload_n (pc' := 8) rfl rfl rfl ?_
              refine h_iload_n (pc' := 9) rfl rfl rfl ?_
              refine h_put (pc' := 12) rfl rfl rfl rfl rfl rfl ci_3 rfl (h_fgt (E := fun s => s 98 15 = s0 98 15 ∧ s 98 16 = s0 98 16 ∧ s 98 17 = s0 98 17 ∧ s 98 18 = s0 98 18 ∧ s 98 13 = 3 ∧ s 101 43 = s0 101 43) _ (if_98_13 I0 (by omega)) (F0_.up rfl) ⟨rfl, rfl, rfl, rfl, rfl, rfl⟩ (fun s83 Is83 Fs83 ⟨es83_0, es83_1, es83_2, es83_3, es83_4, es83_5⟩ => ?_))
              refine h_aload_n (pc' := 13) rfl rfl rfl ?_
              refine h_aload_n (pc' := 14) rfl rfl rfl ?_
              refine h_getI (pc' := 17) (v := s0 98 16) rfl rfl rfl rfl rfl es83_1 (fun z84 hz84 => ?_)
              have tz84 := tf_98_16 I0
              refine h_put (pc' := 20) rfl rfl rfl rfl rfl rfl hz84 rfl (h_fgt (E := fun s => s 98 15 = s0 98 15 ∧ s 98 16 = s0 98 16 ∧ s 98 17 = s0 98 17 ∧ s 98 18 = s0 98 18 ∧ s 98 13 = 3 ∧ s 101 43 = s0 101 43) _ (if_98_14 Is83 (h_rgv hz84)) (Fs83.up rfl) ⟨es83_0, es83_1, es83_2, es83_3, es83_4, es83_5⟩ (fun s85 Is85 Fs85 ⟨es85_0, es85_1, es85_2, es85_3, es85_4, es85_5⟩ => ?_))
              clear es83_0 es83_1 es83_2 es83_3 es83_4 es83_5
              refine h_vret rfl rfl (h_Kn ?_)
              refine h_goto (pc' := 0) rfl rfl ?_
              exact h_wk [(0, .ref 98)] ⟨rfl, trivial⟩ (ih _ Is85 Fs85  (by omega) (by omega) (by omega))
        · refine h_aload_n (pc' := 28) rfl rfl rfl ?_
          refine h_iconst (pc' := 29) (x := (Int32.ofInt 5)) rfl rfl rfl ?_
          refine h_call (sp := false) (pc' := 32) (M := [(0, .ref 98), (1, .int (Int32.ofInt 5))]) rfl rfl rfl rfl rfl rfl rfl rfl ?_
          refine h_aload_n (pc' := 1) rfl rfl rfl ?_
          refine h_getI (pc' := 4) (v := s0 98 13) rfl rfl rfl rfl rfl rfl (fun z86 hz86 => ?_)
          have tz86 := tf_98_13 I0
          refine h_zne (tg := 20) (pc' := 7) rfl rfl rfl hz86 (fun c87 => absurd c87 (by omega)) (fun c87 => ?_)
          refine h_aload_n (pc' := 8) rfl rfl rfl ?_
          refine h_iload_n (pc' := 9) rfl rfl rfl ?_
          refine h_put (pc' := 12) rfl rfl rfl rfl rfl rfl ci_5 rfl (h_fgt (E := fun s => s 98 15 = s0 98 15 ∧ s 98 16 = s0 98 16 ∧ s 98 17 = s0 98 17 ∧ s 98 18 = s0 98 18 ∧ s 98 13 = 5 ∧ s 101 43 = s0 101 43) _ (if_98_13 I0 (by omega)) (F0_.up rfl) ⟨rfl, rfl, rfl, rfl, rfl, rfl⟩ (fun s88 Is88 Fs88 ⟨es88_0, es88_1, es88_2, es88_3, es88_4, es88_5⟩ => ?_))
          refine h_aload_n (pc' := 13) rfl rfl rfl ?_
          refine h_aload_n (pc' := 14) rfl rfl rfl ?_
          refine h_getI (pc' := 17) (v := s0 98 16) rfl rfl rfl rfl rfl es88_1 (fun z89 hz89 => ?_)
          have tz89 := tf_98_16 I0
          refine h_put (pc' := 20) rfl rfl rfl rfl rfl rfl hz89 rfl (h_fgt (E := fun s => s 98 15 = s0 98 15 ∧ s 98 16 = s0 98 16 ∧ s 98 17 = s0 98 17 ∧ s 98 18 = s0 98 18 ∧ s 98 13 = 5 ∧ s 101 43 = s0 101 43) _ (if_98_14 Is88 (h_rgv hz89)) (Fs88.up rfl) ⟨es88_0, es88_1, es88_2, es88_3, es88_4, es88_5⟩ (fun s90 Is90 Fs90 ⟨es90_0, es90_1, es90_2, es90_3, es90_4, es90_5⟩ => ?_))
          clear es88_0 es88_1 es88_2 es88_3 es88_4 es88_5
          refine h_vret rfl rfl (h_Kn ?_)
          refine h_goto (pc' := 0) rfl rfl ?_
          exact h_wk [(0, .ref 98)] ⟨rfl, trivial⟩ (ih _ Is90 Fs90  (by omega) (by omega) (by omega))
theorem v_readPlan {ns : Nat} (σ : h_S) (hI : h_I σ) {Q : Option Value → h_S → Prop} (kk : ∀ (τ : h_S), h_I τ → h_F k_nt τ σ → (σ 98 15 ≤ τ 98 15) → (¬ σ 98 13 = 0 → ¬ τ 98 13 = 0) → Q none τ) : h_T g_P (g_Y ns) 152 0 [(0, .ref 98)] [] σ Q := by
  have F00 : h_F k_nt σ σ := h_F.rf
  exact h_wk [(0, .ref 98)] ⟨rfl, trivial⟩ ((v_readPlan_l ns σ hI  kk 1000000000000) _ hI F00  (by omega) (by omega) (by omega))
theorem v_readMore {ns : Nat} (σ : h_S) (hI : h_I σ) (x0 : Int32) (a0 : Int) (hx0 : x0.toInt = a0) (ra0 : 0 ≤ a0 ∧ a0 ≤ 7) (pr0 : a0 ≤ 3 → σ 98 5 ≤ 5) (pr1 : a0 = 4 → σ 101 18 ≤ 2) (pr2 : a0 = 5 → σ 101 25 ≤ 2) (pr3 : a0 = 6 → σ 98 6 ≤ 2) {Q : Option Value → h_S → Prop} (kk : ∀ (τ : h_S), h_I τ → h_F k_nt τ σ → (σ 98 15 ≤ τ 98 15) → (¬ σ 98 13 = 0 → ¬ τ 98 13 = 0) → Q none τ) : h_T g_P (g_Y ns) 153 0 [(0, .ref 98), (1, .int x0)] [] σ Q := by
  have F00 : h_F k_nt σ σ := h_F.rf
  refine h_iload_n (pc' := 1) rfl rfl rfl ?_
  refine h_iconst (pc' := 2) (x := (Int32.ofInt 3)) rfl rfl rfl ?_
  refine h_cgt (tg := 61) (pc' := 5) rfl rfl rfl hx0 ci_3 (fun c1 => ?_) (fun c1 => ?_)
  · refine h_iload_n (pc' := 62) rfl rfl rfl ?_
    refine h_iconst (pc' := 63) (x := (Int32.ofInt 4)) rfl rfl rfl ?_
    refine h_cne (tg := 82) (pc' := 66) rfl rfl rfl hx0 ci_4 (fun c2 => ?_) (fun c2 => ?_)
    · refine h_iload_n (pc' := 83) rfl rfl rfl ?_
      refine h_iconst (pc' := 84) (x := (Int32.ofInt 5)) rfl rfl rfl ?_
      refine h_cne (tg := 103) (pc' := 87) rfl rfl rfl hx0 ci_5 (fun c3 => ?_) (fun c3 => ?_)
      · refine h_iload_n (pc' := 104) rfl rfl rfl ?_
        refine h_bipush (pc' := 106) (x := (Int32.ofInt 6)) rfl rfl cb_6 ?_
        refine h_cne (tg := 174) (pc' := 109) rfl rfl rfl hx0 ci_6 (fun c4 => ?_) (fun c4 => ?_)
        · refine h_aload_n (pc' := 175) rfl rfl rfl ?_
          refine h_call (sp := false) (pc' := 178) (M := [(0, .ref 98)]) rfl rfl rfl rfl rfl rfl rfl rfl ?_
          refine v_readPlan _ hI  (fun s6 Is6 Gs6 ps6_0 ps6_1 => h_Kn ?_)
          have Fs6 := (Gs6).tr F00
          exact h_vret rfl rfl (kk _ Is6 Fs6 (by omega) (by omega))
        · refine h_aload_n (pc' := 110) rfl rfl rfl ?_
          refine h_getR (pc' := 113) rfl rfl rfl rfl rfl ?_
          refine h_bipush (pc' := 115) (x := (Int32.ofInt 26)) rfl rfl cb_26 ?_
          refine h_aload_n (pc' := 116) rfl rfl rfl ?_
          refine h_getI (pc' := 119) (v := σ 98 6) rfl rfl rfl rfl rfl rfl (fun z7 hz7 => ?_)
          have tz7 := tf_98_6 hI
          refine h_iadd (pc' := 120) rfl rfl ci_26 hz7 rfl (by omega) (by omega) (fun z8 hz8 => ?_)
          refine h_aload_n (pc' := 121) rfl rfl rfl ?_
          refine h_iconst (pc' := 122) (x := (Int32.ofInt 0)) rfl rfl rfl ?_
          refine h_bipush (pc' := 124) (x := (Int32.ofInt 9)) rfl rfl cb_9 ?_
          refine h_call (sp := false) (pc' := 127) (M := [(0, .ref 98), (1, .int (Int32.ofInt 0)), (2, .int (Int32.ofInt 9))]) rfl rfl rfl rfl rfl rfl rfl rfl ?_
          refine v_number _ hI  (Int32.ofInt 9) _ ci_9 (fun r9 br9 hr9 s10 Is10 Gs10 tr9 ps10_0 ps10_1 ps10_2 => h_Kv ?_)
          have Fs10 := (Gs10.l1).tr F00
          have es10_5 : s10 98 5 = σ 98 5 := (Gs10 98 5 rfl).trans rfl
          have es10_6 : s10 98 6 = σ 98 6 := (Gs10 98 6 rfl).trans rfl
          have es10_7 : s10 101 18 = σ 101 18 := (Gs10 101 18 rfl).trans rfl
          have es10_8 : s10 101 25 = σ 101 25 := (Gs10 101 25 rfl).trans rfl
          refine h_iast (pc' := 128) rfl rfl rfl rfl hz8 (by omega) (by omega) hr9 (h_fgt (E := fun s => s 98 15 = s10 98 15 ∧ s 98 16 = s10 98 16 ∧ s 98 17 = s10 98 17 ∧ s 98 18 = s10 98 18 ∧ s 98 13 = s10 98 13 ∧ s 98 5 = σ 98 5 ∧ s 98 6 = σ 98 6 ∧ ((18 = (26 + (σ 98 6)) ∧ s 101 18 = br9) ∨ (18 ≠ (26 + (σ 98 6)) ∧ s 101 18 = σ 101 18)) ∧ ((25 = (26 + (σ 98 6)) ∧ s 101 25 = br9) ∨ (25 ≠ (26 + (σ 98 6)) ∧ s 101 25 = σ 101 25))) _ (ip_101_6 Is10 (by omega) (by omega)) (Fs10.up rfl) ⟨rfl, rfl, rfl, rfl, rfl, es10_5, es10_6, h_up_a2 es10_7, h_up_a2 es10_8⟩ (fun s11 Is11 Fs11 ⟨es11_0, es11_1, es11_2, es11_3, es11_4, es11_5, es11_6, es11_7, es11_8⟩ => ?_))
          clear es10_5 es10_6 es10_7 es10_8
          refine h_aload_n (pc' := 129) rfl rfl rfl ?_
          refine h_getI (pc' := 132) (v := s10 98 13) rfl rfl rfl rfl rfl es11_4 (fun z12 hz12 => ?_)
          have tz12 := tf_98_13 Is10
          refine h_zne (tg := 161) (pc' := 135) rfl rfl rfl hz12 (fun c13 => ?_) (fun c13 => ?_)
          · refine h_aload_n (pc' := 162) rfl rfl rfl ?_
            refine h_dup (pc' := 163) rfl rfl rfl ?_
            refine h_getI (pc' := 166) (v := σ 98 6) rfl rfl rfl rfl rfl es11_6 (fun z14 hz14 => ?_)
            have tz14 := tf_98_6 hI
            refine h_iconst (pc' := 167) (x := (Int32.ofInt 1)) rfl rfl rfl ?_
            refine h_iadd (pc' := 168) rfl rfl hz14 ci_1 rfl (by omega) (by omega) (fun z15 hz15 => ?_)
            refine h_put (pc' := 171) rfl rfl rfl rfl rfl rfl hz15 rfl (h_fgt (E := fun s => s 98 15 = s10 98 15 ∧ s 98 16 = s10 98 16 ∧ s 98 17 = s10 98 17 ∧ s 98 18 = s10 98 18 ∧ s 98 13 = s10 98 13 ∧ s 98 5 = σ 98 5 ∧ s 98 6 = ((σ 98 6) + 1) ∧ s 101 18 = s11 101 18 ∧ s 101 25 = s11 101 25) _ (if_98_6 Is11 (by omega)) (Fs11.up rfl) ⟨es11_0, es11_1, es11_2, es11_3, es11_4, es11_5, rfl, rfl, rfl⟩ (fun s16 Is16 Fs16 ⟨es16_0, es16_1, es16_2, es16_3, es16_4, es16_5, es16_6, es16_7, es16_8⟩ => ?_))
            clear es11_0 es11_1 es11_2 es11_3 es11_4 es11_5 es11_6
            refine h_goto (pc' := 178) rfl rfl ?_
            exact h_vret rfl rfl (kk _ Is16 Fs16 (by omega) (by omega))
          · refine h_aload_n (pc' := 136) rfl rfl rfl ?_
            refine h_getI (pc' := 139) (v := s10 98 17) rfl rfl rfl rfl rfl es11_2 (fun z17 hz17 => ?_)
            have tz17 := tf_98_17 Is10
            refine h_iconst (pc' := 140) (x := (Int32.ofInt 2)) rfl rfl rfl ?_
            refine h_cne (tg := 161) (pc' := 143) rfl rfl rfl hz17 ci_2 (fun c18 => ?_) (fun c18 => ?_)
            · refine h_aload_n (pc' := 162) rfl rfl rfl ?_
              refine h_dup (pc' := 163) rfl rfl rfl ?_
              refine h_getI (pc' := 166) (v := σ 98 6) rfl rfl rfl rfl rfl es11_6 (fun z19 hz19 => ?_)
              have tz19 := tf_98_6 hI
              refine h_iconst (pc' := 167) (x := (Int32.ofInt 1)) rfl rfl rfl ?_
              refine h_iadd (pc' := 168) rfl rfl hz19 ci_1 rfl (by omega) (by omega) (fun z20 hz20 => ?_)
              refine h_put (pc' := 171) rfl rfl rfl rfl rfl rfl hz20 rfl (h_fgt (E := fun s => s 98 15 = s10 98 15 ∧ s 98 16 = s10 98 16 ∧ s 98 17 = s10 98 17 ∧ s 98 18 = s10 98 18 ∧ s 98 13 = s10 98 13 ∧ s 98 5 = σ 98 5 ∧ s 98 6 = ((σ 98 6) + 1) ∧ s 101 18 = s11 101 18 ∧ s 101 25 = s11 101 25) _ (if_98_6 Is11 (by omega)) (Fs11.up rfl) ⟨es11_0, es11_1, es11_2, es11_3, es11_4, es11_5, rfl, rfl, rfl⟩ (fun s21 Is21 Fs21 ⟨es21_0, es21_1, es21_2, es21_3, es21_4, es21_5, es21_6, es21_7, es21_8⟩ => ?_))
              clear es11_0 es11_1 es11_2 es11_3 es11_4 es11_5 es11_6
              refine h_goto (pc' := 178) rfl rfl ?_
              exact h_vret rfl rfl (kk _ Is21 Fs21 (by omega) (by omega))
            · refine h_aload_n (pc' := 144) rfl rfl rfl ?_
              refine h_getR (pc' := 147) rfl rfl rfl rfl rfl ?_
              refine h_bipush (pc' := 149) (x := (Int32.ofInt 29)) rfl rfl cb_29 ?_
              refine h_aload_n (pc' := 150) rfl rfl rfl ?_
              refine h_getI (pc' := 153) (v := σ 98 6) rfl rfl rfl rfl rfl es11_6 (fun z22 hz22 => ?_)
              have tz22 := tf_98_6 hI
              refine h_iadd (pc' := 154) rfl rfl ci_29 hz22 rfl (by omega) (by omega) (fun z23 hz23 => ?_)
              refine h_aload_n (pc' := 155) rfl rfl rfl ?_
              refine h_call (sp := false) (pc' := 158) (M := [(0, .ref 98)]) rfl rfl rfl rfl rfl rfl rfl rfl ?_
              refine v_oneHere _ Is11  (fun r24 br24 hr24 s25 Is25 Gs25 tr24 ps25_0 ps25_1 ps25_2 => h_Kv ?_)
              have Fs25 := (Gs25.l1).tr Fs11
              have es25_5 : s25 98 5 = σ 98 5 := (Gs25 98 5 rfl).trans es11_5
              have es25_6 : s25 98 6 = σ 98 6 := (Gs25 98 6 rfl).trans es11_6
              have es25_7 : s25 101 18 = s11 101 18 := (Gs25 101 18 rfl).trans rfl
              have es25_8 : s25 101 25 = s11 101 25 := (Gs25 101 25 rfl).trans rfl
              clear es11_0 es11_1 es11_2 es11_3 es11_4 es11_5 es11_6
              refine h_iconst (pc' := 159) (x := (Int32.ofInt 1)) rfl rfl rfl ?_
              refine h_iadd (pc' := 160) rfl rfl hr24 ci_1 rfl (by omega) (by omega) (fun z26 hz26 => ?_)
              refine h_iast (pc' := 161) rfl rfl rfl rfl hz23 (by omega) (by omega) hz26 (h_fgt (E := fun s => s 98 15 = s25 98 15 ∧ s 98 16 = s25 98 16 ∧ s 98 17 = s25 98 17 ∧ s 98 18 = s25 98 18 ∧ s 98 13 = s25 98 13 ∧ s 98 5 = σ 98 5 ∧ s 98 6 = σ 98 6 ∧ ((18 = (29 + (σ 98 6)) ∧ s 101 18 = (br24 + 1)) ∨ (18 ≠ (29 + (σ 98 6)) ∧ s 101 18 = s11 101 18)) ∧ ((25 = (29 + (σ 98 6)) ∧ s 101 25 = (br24 + 1)) ∨ (25 ≠ (29 + (σ 98 6)) ∧ s 101 25 = s11 101 25))) _ (ip_101_7 Is25 (by omega) (by omega)) (Fs25.up rfl) ⟨rfl, rfl, rfl, rfl, rfl, es25_5, es25_6, h_up_a2 es25_7, h_up_a2 es25_8⟩ (fun s27 Is27 Fs27 ⟨es27_0, es27_1, es27_2, es27_3, es27_4, es27_5, es27_6, es27_7, es27_8⟩ => ?_))
              clear es25_5 es25_6 es25_7 es25_8
              refine h_aload_n (pc' := 162) rfl rfl rfl ?_
              refine h_dup (pc' := 163) rfl rfl rfl ?_
              refine h_getI (pc' := 166) (v := σ 98 6) rfl rfl rfl rfl rfl es27_6 (fun z28 hz28 => ?_)
              have tz28 := tf_98_6 hI
              refine h_iconst (pc' := 167) (x := (Int32.ofInt 1)) rfl rfl rfl ?_
              refine h_iadd (pc' := 168) rfl rfl hz28 ci_1 rfl (by omega) (by omega) (fun z29 hz29 => ?_)
              refine h_put (pc' := 171) rfl rfl rfl rfl rfl rfl hz29 rfl (h_fgt (E := fun s => s 98 15 = s25 98 15 ∧ s 98 16 = s25 98 16 ∧ s 98 17 = s25 98 17 ∧ s 98 18 = s25 98 18 ∧ s 98 13 = s25 98 13 ∧ s 98 5 = σ 98 5 ∧ s 98 6 = ((σ 98 6) + 1) ∧ s 101 18 = s27 101 18 ∧ s 101 25 = s27 101 25) _ (if_98_6 Is27 (by omega)) (Fs27.up rfl) ⟨es27_0, es27_1, es27_2, es27_3, es27_4, es27_5, rfl, rfl, rfl⟩ (fun s30 Is30 Fs30 ⟨es30_0, es30_1, es30_2, es30_3, es30_4, es30_5, es30_6, es30_7, es30_8⟩ => ?_))
              clear es27_0 es27_1 es27_2 es27_3 es27_4 es27_5 es27_6
              refine h_goto (pc' := 178) rfl rfl ?_
              exact h_vret rfl rfl (kk _ Is30 Fs30 (by omega) (by omega))
      · refine h_aload_n (pc' := 88) rfl rfl rfl ?_
        refine h_bipush (pc' := 90) (x := (Int32.ofInt 19)) rfl rfl cb_19 ?_
        refine h_aload_n (pc' := 91) rfl rfl rfl ?_
        refine h_getR (pc' := 94) rfl rfl rfl rfl rfl ?_
        refine h_bipush (pc' := 96) (x := (Int32.ofInt 25)) rfl rfl cb_25 ?_
        refine h_iald (pc' := 97) (v := σ 101 25) rfl rfl rfl ci_25 (by omega) (by omega) rfl (fun z31 hz31 => ?_)
        have tz31 := ty_101_5 hI 25 (by omega)
        refine h_call (sp := false) (pc' := 100) (M := [(0, .ref 98), (1, .int (Int32.ofInt 19)), (2, .int z31)]) rfl rfl rfl rfl rfl rfl rfl rfl ?_
        refine v_readPair19 _ hI  z31 _ hz31 (by omega) (by omega) (fun s33 Is33 Gs33 ps33_0 ps33_1 => h_Kn ?_)
        have Fs33 := (Gs33).tr F00
        refine h_goto (pc' := 178) rfl rfl ?_
        exact h_vret rfl rfl (kk _ Is33 Fs33 (by omega) (by omega))
    · refine h_aload_n (pc' := 67) rfl rfl rfl ?_
      refine h_bipush (pc' := 69) (x := (Int32.ofInt 12)) rfl rfl cb_12 ?_
      refine h_aload_n (pc' := 70) rfl rfl rfl ?_
      refine h_getR (pc' := 73) rfl rfl rfl rfl rfl ?_
      refine h_bipush (pc' := 75) (x := (Int32.ofInt 18)) rfl rfl cb_18 ?_
      refine h_iald (pc' := 76) (v := σ 101 18) rfl rfl rfl ci_18 (by omega) (by omega) rfl (fun z34 hz34 => ?_)
      have tz34 := ty_101_3 hI 18 (by omega)
      refine h_call (sp := false) (pc' := 79) (M := [(0, .ref 98), (1, .int (Int32.ofInt 12)), (2, .int z34)]) rfl rfl rfl rfl rfl rfl rfl rfl ?_
      refine v_readPair12 _ hI  z34 _ hz34 (by omega) (by omega) (fun s36 Is36 Gs36 ps36_0 ps36_1 => h_Kn ?_)
      have Fs36 := (Gs36).tr F00
      refine h_goto (pc' := 178) rfl rfl ?_
      exact h_vret rfl rfl (kk _ Is36 Fs36 (by omega) (by omega))
  · refine h_aload_n (pc' := 6) rfl rfl rfl ?_
    refine h_getR (pc' := 9) rfl rfl rfl rfl rfl ?_
    refine h_aload_n (pc' := 10) rfl rfl rfl ?_
    refine h_getI (pc' := 13) (v := σ 98 5) rfl rfl rfl rfl rfl rfl (fun z37 hz37 => ?_)
    have tz37 := tf_98_5 hI
    refine h_iload_n (pc' := 14) rfl rfl rfl ?_
    refine h_iast (pc' := 15) rfl rfl rfl rfl hz37 (by omega) (by omega) hx0 (h_fgt (E := fun s => s 98 15 = σ 98 15 ∧ s 98 16 = σ 98 16 ∧ s 98 17 = σ 98 17 ∧ s 98 18 = σ 98 18 ∧ s 98 13 = σ 98 13 ∧ s 98 5 = σ 98 5 ∧ s 98 6 = σ 98 6 ∧ ((18 = (σ 98 5) ∧ s 101 18 = a0) ∨ (18 ≠ (σ 98 5) ∧ s 101 18 = σ 101 18)) ∧ ((25 = (σ 98 5) ∧ s 101 25 = a0) ∨ (25 ≠ (σ 98 5) ∧ s 101 25 = σ 101 25))) _ (ip_101_0 hI (by omega) (by omega)) (F00.up rfl) ⟨rfl, rfl, rfl, rfl, rfl, rfl, rfl, h_up_a2 rfl, h_up_a2 rfl⟩ (fun s38 Is38 Fs38 ⟨es38_0, es38_1, es38_2, es38_3, es38_4, es38_5, es38_6, es38_7, es38_8⟩ => ?_))
    refine h_aload_n (pc' := 16) rfl rfl rfl ?_
    refine h_getI (pc' := 19) (v := σ 98 17) rfl rfl rfl rfl rfl es38_2 (fun z39 hz39 => ?_)
    have tz39 := tf_98_17 hI
    refine h_iconst (pc' := 20) (x := (Int32.ofInt 2)) rfl rfl rfl ?_
    refine h_cne (tg := 48) (pc' := 23) rfl rfl rfl hz39 ci_2 (fun c40 => ?_) (fun c40 => ?_)
    · refine h_aload_n (pc' := 49) rfl rfl rfl ?_
      refine h_dup (pc' := 50) rfl rfl rfl ?_
      refine h_getI (pc' := 53) (v := σ 98 5) rfl rfl rfl rfl rfl es38_5 (fun z41 hz41 => ?_)
      have tz41 := tf_98_5 hI
      refine h_iconst (pc' := 54) (x := (Int32.ofInt 1)) rfl rfl rfl ?_
      refine h_iadd (pc' := 55) rfl rfl hz41 ci_1 rfl (by omega) (by omega) (fun z42 hz42 => ?_)
      refine h_put (pc' := 58) rfl rfl rfl rfl rfl rfl hz42 rfl (h_fgt (E := fun s => s 98 15 = σ 98 15 ∧ s 98 16 = σ 98 16 ∧ s 98 17 = σ 98 17 ∧ s 98 18 = σ 98 18 ∧ s 98 13 = σ 98 13 ∧ s 98 5 = ((σ 98 5) + 1) ∧ s 98 6 = σ 98 6 ∧ s 101 18 = s38 101 18 ∧ s 101 25 = s38 101 25) _ (if_98_5 Is38 (by omega)) (Fs38.up rfl) ⟨es38_0, es38_1, es38_2, es38_3, es38_4, rfl, es38_6, rfl, rfl⟩ (fun s43 Is43 Fs43 ⟨es43_0, es43_1, es43_2, es43_3, es43_4, es43_5, es43_6, es43_7, es43_8⟩ => ?_))
      clear es38_0 es38_1 es38_2 es38_3 es38_4 es38_5 es38_6
      refine h_goto (pc' := 178) rfl rfl ?_
      exact h_vret rfl rfl (kk _ Is43 Fs43 (by omega) (by omega))
    · refine h_aload_n (pc' := 24) rfl rfl rfl ?_
      refine h_getR (pc' := 27) rfl rfl rfl rfl rfl ?_
      refine h_bipush (pc' := 29) (x := (Int32.ofInt 6)) rfl rfl cb_6 ?_
      refine h_aload_n (pc' := 30) rfl rfl rfl ?_
      refine h_getI (pc' := 33) (v := σ 98 5) rfl rfl rfl rfl rfl es38_5 (fun z44 hz44 => ?_)
      have tz44 := tf_98_5 hI
      refine h_iadd (pc' := 34) rfl rfl ci_6 hz44 rfl (by omega) (by omega) (fun z45 hz45 => ?_)
      refine h_aload_n (pc' := 35) rfl rfl rfl ?_
      refine h_iconst (pc' := 36) (x := (Int32.ofInt 0)) rfl rfl rfl ?_
      refine h_aload_n (pc' := 37) rfl rfl rfl ?_
      refine h_getI (pc' := 40) (v := σ 98 5) rfl rfl rfl rfl rfl es38_5 (fun z46 hz46 => ?_)
      have tz46 := tf_98_5 hI
      refine h_iconst (pc' := 41) (x := (Int32.ofInt 1)) rfl rfl rfl ?_
      refine h_isub (pc' := 42) rfl rfl hz46 ci_1 rfl (by omega) (by omega) (fun z47 hz47 => ?_)
      refine h_call (sp := false) (pc' := 45) (M := [(0, .ref 98), (1, .int (Int32.ofInt 0)), (2, .int z47)]) rfl rfl rfl rfl rfl rfl rfl rfl ?_
      refine v_number _ Is38  z47 _ hz47 (fun r48 br48 hr48 s49 Is49 Gs49 tr48 ps49_0 ps49_1 ps49_2 => h_Kv ?_)
      have Fs49 := (Gs49.l1).tr Fs38
      have es49_5 : s49 98 5 = σ 98 5 := (Gs49 98 5 rfl).trans es38_5
      have es49_6 : s49 98 6 = σ 98 6 := (Gs49 98 6 rfl).trans es38_6
      have es49_7 : s49 101 18 = s38 101 18 := (Gs49 101 18 rfl).trans rfl
      have es49_8 : s49 101 25 = s38 101 25 := (Gs49 101 25 rfl).trans rfl
      clear es38_0 es38_1 es38_2 es38_3 es38_4 es38_5 es38_6
      refine h_iconst (pc' := 46) (x := (Int32.ofInt 1)) rfl rfl rfl ?_
      refine h_iadd (pc' := 47) rfl rfl hr48 ci_1 rfl (by omega) (by omega) (fun z50 hz50 => ?_)
      refine h_iast (pc' := 48) rfl rfl rfl rfl hz45 (by omega) (by omega) hz50 (h_fgt (E := fun s => s 98 15 = s49 98 15 ∧ s 98 16 = s49 98 16 ∧ s 98 17 = s49 98 17 ∧ s 98 18 = s49 98 18 ∧ s 98 13 = s49 98 13 ∧ s 98 5 = σ 98 5 ∧ s 98 6 = σ 98 6 ∧ ((18 = (6 + (σ 98 5)) ∧ s 101 18 = (br48 + 1)) ∨ (18 ≠ (6 + (σ 98 5)) ∧ s 101 18 = s38 101 18)) ∧ ((25 = (6 + (σ 98 5)) ∧ s 101 25 = (br48 + 1)) ∨ (25 ≠ (6 + (σ 98 5)) ∧ s 101 25 = s38 101 25))) _ (ip_101_1 Is49 (by omega) (by omega)) (Fs49.up rfl) ⟨rfl, rfl, rfl, rfl, rfl, es49_5, es49_6, h_up_a2 es49_7, h_up_a2 es49_8⟩ (fun s51 Is51 Fs51 ⟨es51_0, es51_1, es51_2, es51_3, es51_4, es51_5, es51_6, es51_7, es51_8⟩ => ?_))
      clear es49_5 es49_6 es49_7 es49_8
      refine h_aload_n (pc' := 49) rfl rfl rfl ?_
      refine h_dup (pc' := 50) rfl rfl rfl ?_
      refine h_getI (pc' := 53) (v := σ 98 5) rfl rfl rfl rfl rfl es51_5 (fun z52 hz52 => ?_)
      have tz52 := tf_98_5 hI
      refine h_iconst (pc' := 54) (x := (Int32.ofInt 1)) rfl rfl rfl ?_
      refine h_iadd (pc' := 55) rfl rfl hz52 ci_1 rfl (by omega) (by omega) (fun z53 hz53 => ?_)
      refine h_put (pc' := 58) rfl rfl rfl rfl rfl rfl hz53 rfl (h_fgt (E := fun s => s 98 15 = s49 98 15 ∧ s 98 16 = s49 98 16 ∧ s 98 17 = s49 98 17 ∧ s 98 18 = s49 98 18 ∧ s 98 13 = s49 98 13 ∧ s 98 5 = ((σ 98 5) + 1) ∧ s 98 6 = σ 98 6 ∧ s 101 18 = s51 101 18 ∧ s 101 25 = s51 101 25) _ (if_98_5 Is51 (by omega)) (Fs51.up rfl) ⟨es51_0, es51_1, es51_2, es51_3, es51_4, rfl, es51_6, rfl, rfl⟩ (fun s54 Is54 Fs54 ⟨es54_0, es54_1, es54_2, es54_3, es54_4, es54_5, es54_6, es54_7, es54_8⟩ => ?_))
      clear es51_0 es51_1 es51_2 es51_3 es51_4 es51_5 es51_6
      refine h_goto (pc' := 178) rfl rfl ?_
      exact h_vret rfl rfl (kk _ Is54 Fs54 (by omega) (by omega))
theorem v_readLine_l (ns : Nat) (σ : h_S) (hI : h_I σ) {Q : Option Value → h_S → Prop} (kk : ∀ (τ : h_S), h_I τ → h_F k_nt τ σ → (σ 98 15 ≤ τ 98 15) → (τ 98 17 = 0 ∨ σ 98 15 < τ 98 15 ∨ ¬ τ 98 13 = 0) → Q none τ) : ∀ n : Nat, (∀ (s0 : h_S), h_I s0 → h_F k_nt s0 σ → ∀ (y1 : Int32) (b1 : Int), y1.toInt = b1 → (0 ≤ b1 ∧ b1 ≤ 7) → (σ 98 15 ≤ s0 98 15) → (¬ s0 98 13 = 0 ∨ ¬ b1 ≤ 3 ∨ s0 98 5 ≤ 5) → (¬ s0 98 13 = 0 ∨ ¬ b1 = 4 ∨ s0 101 18 ≤ 2) → (¬ s0 98 13 = 0 ∨ ¬ b1 = 5 ∨ s0 101 25 ≤ 2) → (¬ s0 98 13 = 0 ∨ ¬ b1 = 6 ∨ s0 98 6 ≤ 2) → 3 ≤ (n : Int) → h_T g_P (g_Y ns) 154 88 [(0, .ref 98), (1, .int y1)] [] s0 Q) ∧ (∀ (s0 : h_S), h_I s0 → h_F k_nt s0 σ → ∀ (y1 : Int32) (b1 : Int), y1.toInt = b1 → (0 ≤ b1 ∧ b1 ≤ 7) → (σ 98 15 ≤ s0 98 15) → (¬ s0 98 13 = 0 ∨ ¬ b1 ≤ 3 ∨ s0 98 5 ≤ 5) → (¬ s0 98 13 = 0 ∨ ¬ b1 = 4 ∨ s0 101 18 ≤ 2) → (¬ s0 98 13 = 0 ∨ ¬ b1 = 5 ∨ s0 101 25 ≤ 2) → (¬ s0 98 13 = 0 ∨ ¬ b1 = 6 ∨ s0 98 6 ≤ 2) → 2 ≤ (n : Int) → h_T g_P (g_Y ns) 154 128 [(0, .ref 98), (1, .int y1)] [] s0 Q) ∧ (∀ (s0 : h_S), h_I s0 → h_F k_nt s0 σ → ∀ (y1 : Int32) (b1 : Int), y1.toInt = b1 → (0 ≤ b1 ∧ b1 ≤ 7) → (σ 98 15 ≤ s0 98 15) → 1 ≤ (n : Int) → h_T g_P (g_Y ns) 154 165 [(0, .ref 98), (1, .int y1)] [] s0 Q) := by
  intro n
  induction n with
  | zero => exact ⟨by intro s0 I0 F0_ y1 b1 hy1 ry1 ex0 ex1 ex2 ex3 ex4 hm; exfalso; omega, by intro s0 I0 F0_ y1 b1 hy1 ry1 ex0 ex1 ex2 ex3 ex4 hm; exfalso; omega, by intro s0 I0 F0_ y1 b1 hy1 ry1 ex0 hm; exfalso; omega⟩
  | succ n ih =>
    refine ⟨?_, ?_, ?_⟩
    · intro s0 I0 F0_ y1 b1 hy1 ry1 ex0 ex1 ex2 ex3 ex4 hm
      refine h_iload_n (pc' := 89) rfl rfl rfl ?_
      refine h_bipush (pc' := 91) (x := (Int32.ofInt 7)) rfl rfl cb_7 ?_
      refine h_cne (tg := 106) (pc' := 94) rfl rfl rfl hy1 ci_7 (fun c1 => ?_) (fun c1 => ?_)
      · refine h_aload_n (pc' := 107) rfl rfl rfl ?_
        refine h_aload_n (pc' := 108) rfl rfl rfl ?_
        refine h_getI (pc' := 111) (v := s0 98 7) rfl rfl rfl rfl rfl rfl (fun z2 hz2 => ?_)
        have tz2 := tf_98_7 I0
        refine h_zne (tg := 120) (pc' := 114) rfl rfl rfl hz2 (fun c3 => ?_) (fun c3 => ?_)
        · refine h_iconst (pc' := 121) (x := (Int32.ofInt 1)) rfl rfl rfl ?_
          refine h_goto (pc' := 125) rfl rfl ?_
          refine h_put (pc' := 128) rfl rfl rfl rfl rfl rfl ci_1 (h_fb ci_1 (by omega)) (h_fgt (E := fun s => s 98 15 = s0 98 15 ∧ s 98 16 = s0 98 16 ∧ s 98 17 = s0 98 17 ∧ s 98 18 = s0 98 18 ∧ s 98 13 = s0 98 13 ∧ s 98 5 = s0 98 5 ∧ s 98 6 = s0 98 6 ∧ s 101 18 = s0 101 18 ∧ s 101 25 = s0 101 25) _ (if_98_7 I0 (by omega)) (F0_.up rfl) ⟨rfl, rfl, rfl, rfl, rfl, rfl, rfl, rfl, rfl⟩ (fun s4 Is4 Fs4 ⟨es4_0, es4_1, es4_2, es4_3, es4_4, es4_5, es4_6, es4_7, es4_8⟩ => ?_))
          exact h_wk [(0, .ref 98), (1, .int y1)] ⟨rfl, rfl, trivial⟩ (ih.2.1 _ Is4 Fs4 y1 _ hy1 (by omega) (by omega) (by omega) (by omega) (by omega) (by omega) (by omega))
        · refine h_iload_n (pc' := 115) rfl rfl rfl ?_
          refine h_bipush (pc' := 117) (x := (Int32.ofInt 7)) rfl rfl cb_7 ?_
          refine h_cne (tg := 124) (pc' := 120) rfl rfl rfl hy1 ci_7 (fun c5 => ?_) (fun c5 => absurd c5 (by omega))
          refine h_iconst (pc' := 125) (x := (Int32.ofInt 0)) rfl rfl rfl ?_
          refine h_put (pc' := 128) rfl rfl rfl rfl rfl rfl ci_0 (h_fb ci_0 (by omega)) (h_fgt (E := fun s => s 98 15 = s0 98 15 ∧ s 98 16 = s0 98 16 ∧ s 98 17 = s0 98 17 ∧ s 98 18 = s0 98 18 ∧ s 98 13 = s0 98 13 ∧ s 98 5 = s0 98 5 ∧ s 98 6 = s0 98 6 ∧ s 101 18 = s0 101 18 ∧ s 101 25 = s0 101 25) _ (if_98_7 I0 (by omega)) (F0_.up rfl) ⟨rfl, rfl, rfl, rfl, rfl, rfl, rfl, rfl, rfl⟩ (fun s6 Is6 Fs6 ⟨es6_0, es6_1, es6_2, es6_3, es6_4, es6_5, es6_6, es6_7, es6_8⟩ => ?_))
          exact h_wk [(0, .ref 98), (1, .int y1)] ⟨rfl, rfl, trivial⟩ (ih.2.1 _ Is6 Fs6 y1 _ hy1 (by omega) (by omega) (by omega) (by omega) (by omega) (by omega) (by omega))
      · refine h_aload_n (pc' := 95) rfl rfl rfl ?_
        refine h_getI (pc' := 98) (v := s0 98 7) rfl rfl rfl rfl rfl rfl (fun z7 hz7 => ?_)
        have tz7 := tf_98_7 I0
        refine h_zeq (tg := 106) (pc' := 101) rfl rfl rfl hz7 (fun c8 => ?_) (fun c8 => ?_)
        · refine h_aload_n (pc' := 107) rfl rfl rfl ?_
          refine h_aload_n (pc' := 108) rfl rfl rfl ?_
          refine h_getI (pc' := 111) (v := s0 98 7) rfl rfl rfl rfl rfl rfl (fun z9 hz9 => ?_)
          have tz9 := tf_98_7 I0
          refine h_zne (tg := 120) (pc' := 114) rfl rfl rfl hz9 (fun c10 => absurd c10 (by omega)) (fun c10 => ?_)
          refine h_iload_n (pc' := 115) rfl rfl rfl ?_
          refine h_bipush (pc' := 117) (x := (Int32.ofInt 7)) rfl rfl cb_7 ?_
          refine h_cne (tg := 124) (pc' := 120) rfl rfl rfl hy1 ci_7 (fun c11 => absurd c11 (by omega)) (fun c11 => ?_)
          refine h_iconst (pc' := 121) (x := (Int32.ofInt 1)) rfl rfl rfl ?_
          refine h_goto (pc' := 125) rfl rfl ?_
          refine h_put (pc' := 128) rfl rfl rfl rfl rfl rfl ci_1 (h_fb ci_1 (by omega)) (h_fgt (E := fun s => s 98 15 = s0 98 15 ∧ s 98 16 = s0 98 16 ∧ s 98 17 = s0 98 17 ∧ s 98 18 = s0 98 18 ∧ s 98 13 = s0 98 13 ∧ s 98 5 = s0 98 5 ∧ s 98 6 = s0 98 6 ∧ s 101 18 = s0 101 18 ∧ s 101 25 = s0 101 25) _ (if_98_7 I0 (by omega)) (F0_.up rfl) ⟨rfl, rfl, rfl, rfl, rfl, rfl, rfl, rfl, rfl⟩ (fun s12 Is12 Fs12 ⟨es12_0, es12_1, es12_2, es12_3, es12_4, es12_5, es12_6, es12_7, es12_8⟩ => ?_))
          exact h_wk [(0, .ref 98), (1, .int y1)] ⟨rfl, rfl, trivial⟩ (ih.2.1 _ Is12 Fs12 y1 _ hy1 (by omega) (by omega) (by omega) (by omega) (by omega) (by omega) (by omega))
        · refine h_aload_n (pc' := 102) rfl rfl rfl ?_
          refine h_iconst (pc' := 103) (x := (Int32.ofInt 4)) rfl rfl rfl ?_
          refine h_call (sp := false) (pc' := 106) (M := [(0, .ref 98), (1, .int (Int32.ofInt 4))]) rfl rfl rfl rfl rfl rfl rfl rfl ?_
          refine h_aload_n (pc' := 1) rfl rfl rfl ?_
          refine h_getI (pc' := 4) (v := s0 98 13) rfl rfl rfl rfl rfl rfl (fun z13 hz13 => ?_)
          have tz13 := tf_98_13 I0
          refine h_zne (tg := 20) (pc' := 7) rfl rfl rfl hz13 (fun c14 => ?_) (fun c14 => ?_)
          · refine h_vret rfl rfl (h_Kn ?_)
            refine h_aload_n (pc' := 107) rfl rfl rfl ?_
            refine h_aload_n (pc' := 108) rfl rfl rfl ?_
            refine h_getI (pc' := 111) (v := s0 98 7) rfl rfl rfl rfl rfl rfl (fun z15 hz15 => ?_)
            have tz15 := tf_98_7 I0
            refine h_zne (tg := 120) (pc' := 114) rfl rfl rfl hz15 (fun c16 => ?_) (fun c16 => absurd c16 (by omega))
            refine h_iconst (pc' := 121) (x := (Int32.ofInt 1)) rfl rfl rfl ?_
            refine h_goto (pc' := 125) rfl rfl ?_
            refine h_put (pc' := 128) rfl rfl rfl rfl rfl rfl ci_1 (h_fb ci_1 (by omega)) (h_fgt (E := fun s => s 98 15 = s0 98 15 ∧ s 98 16 = s0 98 16 ∧ s 98 17 = s0 98 17 ∧ s 98 18 = s0 98 18 ∧ s 98 13 = s0 98 13 ∧ s 98 5 = s0 98 5 ∧ s 98 6 = s0 98 6 ∧ s 101 18 = s0 101 18 ∧ s 101 25 = s0 101 25) _ (if_98_7 I0 (by omega)) (F0_.up rfl) ⟨rfl, rfl, rfl, rfl, rfl, rfl, rfl, rfl, rfl⟩ (fun s17 Is17 Fs17 ⟨es17_0, es17_1, es17_2, es17_3, es17_4, es17_5, es17_6, es17_7, es17_8⟩ => ?_))
            exact h_wk [(0, .ref 98), (1, .int y1)] ⟨rfl, rfl, trivial⟩ (ih.2.1 _ Is17 Fs17 y1 _ hy1 (by omega) (by omega) (by omega) (by omega) (by omega) (by omega) (by omega))
          · refine h_aload_n (pc' := 8) rfl rfl rfl ?_
            refine h_iload_n (pc' := 9) rfl rfl rfl ?_
            refine h_put (pc' := 12) rfl rfl rfl rfl rfl rfl ci_4 rfl (h_fgt (E := fun s => s 98 15 = s0 98 15 ∧ s 98 16 = s0 98 16 ∧ s 98 17 = s0 98 17 ∧ s 98 18 = s0 98 18 ∧ s 98 13 = 4 ∧ s 98 5 = s0 98 5 ∧ s 98 6 = s0 98 6 ∧ s 101 18 = s0 101 18 ∧ s 101 25 = s0 101 25) _ (if_98_13 I0 (by omega)) (F0_.up rfl) ⟨rfl, rfl, rfl, rfl, rfl, rfl, rfl, rfl, rfl⟩ (fun s18 Is18 Fs18 ⟨es18_0, es18_1, es18_2, es18_3, es18_4, es18_5, es18_6, es18_7, es18_8⟩ => ?_))
            refine h_aload_n (pc' := 13) rfl rfl rfl ?_
            refine h_aload_n (pc' := 14) rfl rfl rfl ?_
            refine h_getI (pc' := 17) (v := s0 98 16) rfl rfl rfl rfl rfl es18_1 (fun z19 hz19 => ?_)
            have tz19 := tf_98_16 I0
            refine h_put (pc' := 20) rfl rfl rfl rfl rfl rfl hz19 rfl (h_fgt (E := fun s => s 98 15 = s0 98 15 ∧ s 98 16 = s0 98 16 ∧ s 98 17 = s0 98 17 ∧ s 98 18 = s0 98 18 ∧ s 98 13 = 4 ∧ s 98 5 = s0 98 5 ∧ s 98 6 = s0 98 6 ∧ s 101 18 = s0 101 18 ∧ s 101 25 = s0 101 25) _ (if_98_14 Is18 (h_rgv hz19)) (Fs18.up rfl) ⟨es18_0, es18_1, es18_2, es18_3, es18_4, es18_5, es18_6, es18_7, es18_8⟩ (fun s20 Is20 Fs20 ⟨es20_0, es20_1, es20_2, es20_3, es20_4, es20_5, es20_6, es20_7, es20_8⟩ => ?_))
            clear es18_0 es18_1 es18_2 es18_3 es18_4 es18_5 es18_6 es18_7 es18_8
            refine h_vret rfl rfl (h_Kn ?_)
            refine h_aload_n (pc' := 107) rfl rfl rfl ?_
            refine h_aload_n (pc' := 108) rfl rfl rfl ?_
            refine h_getI (pc' := 111) (v := s20 98 7) rfl rfl rfl rfl rfl rfl (fun z21 hz21 => ?_)
            have tz21 := tf_98_7 Is20
            refine h_zne (tg := 120) (pc' := 114) rfl rfl rfl hz21 (fun c22 => ?_) (fun c22 => ?_)
            · refine h_iconst (pc' := 121) (x := (Int32.ofInt 1)) rfl rfl rfl ?_
              refine h_goto (pc' := 125) rfl rfl ?_
              refine h_put (pc' := 128) rfl rfl rfl rfl rfl rfl ci_1 (h_fb ci_1 (by omega)) (h_fgt (E := fun s => s 98 15 = s0 98 15 ∧ s 98 16 = s0 98 16 ∧ s 98 17 = s0 98 17 ∧ s 98 18 = s0 98 18 ∧ s 98 13 = 4 ∧ s 98 5 = s0 98 5 ∧ s 98 6 = s0 98 6 ∧ s 101 18 = s0 101 18 ∧ s 101 25 = s0 101 25) _ (if_98_7 Is20 (by omega)) (Fs20.up rfl) ⟨es20_0, es20_1, es20_2, es20_3, es20_4, es20_5, es20_6, es20_7, es20_8⟩ (fun s23 Is23 Fs23 ⟨es23_0, es23_1, es23_2, es23_3, es23_4, es23_5, es23_6, es23_7, es23_8⟩ => ?_))
              clear es20_0 es20_1 es20_2 es20_3 es20_4 es20_5 es20_6 es20_7 es20_8
              exact h_wk [(0, .ref 98), (1, .int y1)] ⟨rfl, rfl, trivial⟩ (ih.2.1 _ Is23 Fs23 y1 _ hy1 (by omega) (by omega) (by omega) (by omega) (by omega) (by omega) (by omega))
            · refine h_iload_n (pc' := 115) rfl rfl rfl ?_
              refine h_bipush (pc' := 117) (x := (Int32.ofInt 7)) rfl rfl cb_7 ?_
              refine h_cne (tg := 124) (pc' := 120) rfl rfl rfl hy1 ci_7 (fun c24 => absurd c24 (by omega)) (fun c24 => ?_)
              refine h_iconst (pc' := 121) (x := (Int32.ofInt 1)) rfl rfl rfl ?_
              refine h_goto (pc' := 125) rfl rfl ?_
              refine h_put (pc' := 128) rfl rfl rfl rfl rfl rfl ci_1 (h_fb ci_1 (by omega)) (h_fgt (E := fun s => s 98 15 = s0 98 15 ∧ s 98 16 = s0 98 16 ∧ s 98 17 = s0 98 17 ∧ s 98 18 = s0 98 18 ∧ s 98 13 = 4 ∧ s 98 5 = s0 98 5 ∧ s 98 6 = s0 98 6 ∧ s 101 18 = s0 101 18 ∧ s 101 25 = s0 101 25) _ (if_98_7 Is20 (by omega)) (Fs20.up rfl) ⟨es20_0, es20_1, es20_2, es20_3, es20_4, es20_5, es20_6, es20_7, es20_8⟩ (fun s25 Is25 Fs25 ⟨es25_0, es25_1, es25_2, es25_3, es25_4, es25_5, es25_6, es25_7, es25_8⟩ => ?_))
              clear es20_0 es20_1 es20_2 es20_3 es20_4 es20_5 es20_6 es20_7 es20_8
              exact h_wk [(0, .ref 98), (1, .int y1)] ⟨rfl, rfl, trivial⟩ (ih.2.1 _ Is25 Fs25 y1 _ hy1 (by omega) (by omega) (by omega) (by omega) (by omega) (by omega) (by omega))
    · intro s0 I0 F0_ y1 b1 hy1 ry1 ex0 ex1 ex2 ex3 ex4 hm
      refine h_aload_n (pc' := 129) rfl rfl rfl ?_
      refine h_call (sp := false) (pc' := 132) (M := [(0, .ref 98)]) rfl rfl rfl rfl rfl rfl rfl rfl ?_
      refine v_step _ I0  (fun s2 Is2 Gs2 ps2_0 ps2_1 ps2_2 => h_Kn ?_)
      have Fs2 := (Gs2.l1).tr F0_
      have es2_5 : s2 98 5 = s0 98 5 := (Gs2 98 5 rfl).trans rfl
      have es2_6 : s2 98 6 = s0 98 6 := (Gs2 98 6 rfl).trans rfl
      have es2_7 : s2 101 18 = s0 101 18 := (Gs2 101 18 rfl).trans rfl
      have es2_8 : s2 101 25 = s0 101 25 := (Gs2 101 25 rfl).trans rfl
      refine h_aload_n (pc' := 133) rfl rfl rfl ?_
      refine h_getI (pc' := 136) (v := s2 98 13) rfl rfl rfl rfl rfl rfl (fun z3 hz3 => ?_)
      have tz3 := tf_98_13 Is2
      refine h_zle (tg := 140) (pc' := 139) rfl rfl rfl hz3 (fun c4 => ?_) (fun c4 => ?_)
      · refine h_aload_n (pc' := 141) rfl rfl rfl ?_
        refine h_iload_n (pc' := 142) rfl rfl rfl ?_
        refine h_call (sp := false) (pc' := 145) (M := [(0, .ref 98), (1, .int y1)]) rfl rfl rfl rfl rfl rfl rfl rfl ?_
        refine v_readMore _ Is2 y1 _ hy1 (by omega) (by omega) (by omega) (by omega) (by omega) (fun s6 Is6 Gs6 ps6_0 ps6_1 => h_Kn ?_)
        have Fs6 := (Gs6).tr Fs2
        clear es2_5 es2_6 es2_7 es2_8
        refine h_aload_n (pc' := 146) rfl rfl rfl ?_
        refine h_getI (pc' := 149) (v := s6 98 13) rfl rfl rfl rfl rfl rfl (fun z7 hz7 => ?_)
        have tz7 := tf_98_13 Is6
        refine h_zne (tg := 165) (pc' := 152) rfl rfl rfl hz7 (fun c8 => ?_) (fun c8 => ?_)
        · exact h_wk [(0, .ref 98), (1, .int y1)] ⟨rfl, rfl, trivial⟩ (ih.2.2 _ Is6 Fs6 y1 _ hy1 (by omega) (by omega) (by omega))
        · refine h_aload_n (pc' := 153) rfl rfl rfl ?_
          refine h_getI (pc' := 156) (v := s6 98 17) rfl rfl rfl rfl rfl rfl (fun z9 hz9 => ?_)
          have tz9 := tf_98_17 Is6
          refine h_iconst (pc' := 157) (x := (Int32.ofInt 3)) rfl rfl rfl ?_
          refine h_ceq (tg := 165) (pc' := 160) rfl rfl rfl hz9 ci_3 (fun c10 => ?_) (fun c10 => ?_)
          · exact h_wk [(0, .ref 98), (1, .int y1)] ⟨rfl, rfl, trivial⟩ (ih.2.2 _ Is6 Fs6 y1 _ hy1 (by omega) (by omega) (by omega))
          · refine h_aload_n (pc' := 161) rfl rfl rfl ?_
            refine h_iconst (pc' := 162) (x := (Int32.ofInt 2)) rfl rfl rfl ?_
            refine h_call (sp := false) (pc' := 165) (M := [(0, .ref 98), (1, .int (Int32.ofInt 2))]) rfl rfl rfl rfl rfl rfl rfl rfl ?_
            refine h_aload_n (pc' := 1) rfl rfl rfl ?_
            refine h_getI (pc' := 4) (v := s6 98 13) rfl rfl rfl rfl rfl rfl (fun z11 hz11 => ?_)
            have tz11 := tf_98_13 Is6
            refine h_zne (tg := 20) (pc' := 7) rfl rfl rfl hz11 (fun c12 => absurd c12 (by omega)) (fun c12 => ?_)
            refine h_aload_n (pc' := 8) rfl rfl rfl ?_
            refine h_iload_n (pc' := 9) rfl rfl rfl ?_
            refine h_put (pc' := 12) rfl rfl rfl rfl rfl rfl ci_2 rfl (h_fgt (E := fun s => s 98 15 = s6 98 15 ∧ s 98 16 = s6 98 16 ∧ s 98 17 = s6 98 17 ∧ s 98 18 = s6 98 18 ∧ s 98 13 = 2 ∧ s 98 5 = s6 98 5 ∧ s 98 6 = s6 98 6 ∧ s 101 18 = s6 101 18 ∧ s 101 25 = s6 101 25) _ (if_98_13 Is6 (by omega)) (Fs6.up rfl) ⟨rfl, rfl, rfl, rfl, rfl, rfl, rfl, rfl, rfl⟩ (fun s13 Is13 Fs13 ⟨es13_0, es13_1, es13_2, es13_3, es13_4, es13_5, es13_6, es13_7, es13_8⟩ => ?_))
            refine h_aload_n (pc' := 13) rfl rfl rfl ?_
            refine h_aload_n (pc' := 14) rfl rfl rfl ?_
            refine h_getI (pc' := 17) (v := s6 98 16) rfl rfl rfl rfl rfl es13_1 (fun z14 hz14 => ?_)
            have tz14 := tf_98_16 Is6
            refine h_put (pc' := 20) rfl rfl rfl rfl rfl rfl hz14 rfl (h_fgt (E := fun s => s 98 15 = s6 98 15 ∧ s 98 16 = s6 98 16 ∧ s 98 17 = s6 98 17 ∧ s 98 18 = s6 98 18 ∧ s 98 13 = 2 ∧ s 98 5 = s6 98 5 ∧ s 98 6 = s6 98 6 ∧ s 101 18 = s6 101 18 ∧ s 101 25 = s6 101 25) _ (if_98_14 Is13 (h_rgv hz14)) (Fs13.up rfl) ⟨es13_0, es13_1, es13_2, es13_3, es13_4, es13_5, es13_6, es13_7, es13_8⟩ (fun s15 Is15 Fs15 ⟨es15_0, es15_1, es15_2, es15_3, es15_4, es15_5, es15_6, es15_7, es15_8⟩ => ?_))
            clear es13_0 es13_1 es13_2 es13_3 es13_4 es13_5 es13_6 es13_7 es13_8
            refine h_vret rfl rfl (h_Kn ?_)
            exact h_wk [(0, .ref 98), (1, .int y1)] ⟨rfl, rfl, trivial⟩ (ih.2.2 _ Is15 Fs15 y1 _ hy1 (by omega) (by omega) (by omega))
      · exact h_vret rfl rfl (kk _ Is2 Fs2 (by omega) (by omega))
    · intro s0 I0 F0_ y1 b1 hy1 ry1 ex0 hm
      refine h_aload_n (pc' := 166) rfl rfl rfl ?_
      refine h_call (sp := false) (pc' := 169) (M := [(0, .ref 98)]) rfl rfl rfl rfl rfl rfl rfl rfl ?_
      refine v_step _ I0  (fun s2 Is2 Gs2 ps2_0 ps2_1 ps2_2 => h_Kn ?_)
      have Fs2 := (Gs2.l1).tr F0_
      have es2_5 : s2 98 5 = s0 98 5 := (Gs2 98 5 rfl).trans rfl
      have es2_6 : s2 98 6 = s0 98 6 := (Gs2 98 6 rfl).trans rfl
      have es2_7 : s2 101 18 = s0 101 18 := (Gs2 101 18 rfl).trans rfl
      have es2_8 : s2 101 25 = s0 101 25 := (Gs2 101 25 rfl).trans rfl
      exact h_vret rfl rfl (kk _ Is2 Fs2 (by omega) (by omega))
theorem v_readLine {ns : Nat} (σ : h_S) (hI : h_I σ) {Q : Option Value → h_S → Prop} (kk : ∀ (τ : h_S), h_I τ → h_F k_nt τ σ → (σ 98 15 ≤ τ 98 15) → (τ 98 17 = 0 ∨ σ 98 15 < τ 98 15 ∨ ¬ τ 98 13 = 0) → Q none τ) : h_T g_P (g_Y ns) 154 0 [(0, .ref 98)] [] σ Q := by
  have F00 : h_F k_nt σ σ := h_F.rf
  refine h_aload_n (pc' := 1) rfl rfl rfl ?_
  refine h_call (sp := false) (pc' := 4) (M := [(0, .ref 98)]) rfl rfl rfl rfl rfl rfl rfl rfl ?_
  refine v_nameHere _ hI  (fun r1 br1 hr1 tr1 ps2_0 => h_Kv ?_)
  refine h_istore_n (pc' := 5) (M := [(1, .int r1), (0, .ref 98)]) rfl rfl rfl rfl ?_
  refine h_iload_n (pc' := 6) rfl rfl rfl ?_
  refine h_i2l (pc' := 7) rfl rfl hr1 (fun z3 hz3 => ?_)
  refine h_lconst (pc' := 8) (x := (Int64.ofInt 0)) rfl rfl rfl ?_
  refine h_ldc2 (pc' := 11) (x := (Int64.ofInt 7)) rfl rfl rfl ?_
  refine h_calls (pc' := 14) (M := [(0, .long z3), (2, .long (Int64.ofInt 0)), (4, .long (Int64.ofInt 7))]) rfl rfl rfl rfl rfl rfl ?_
  refine h_lload_n (pc' := 1) rfl rfl rfl ?_
  refine h_lload_n (pc' := 2) rfl rfl rfl ?_
  refine h_lcmp (pc' := 3) rfl rfl hz3 cl_0 (fun z4 hz4 => ?_)
  refine h_zlt (tg := 17) (pc' := 6) rfl rfl rfl rfl (fun c5 => ?_) (fun c5 => ?_)
  · refine h_iconst (pc' := 18) (x := (Int32.ofInt 0)) rfl rfl rfl ?_
    refine h_zret rfl rfl ci_0 (by omega) (h_Kv ?_)
    refine h_zne (tg := 23) (pc' := 17) rfl rfl rfl ci_0 (fun c6 => absurd c6 (by omega)) (fun c6 => ?_)
    refine h_aload_n (pc' := 18) rfl rfl rfl ?_
    refine h_iconst (pc' := 19) (x := (Int32.ofInt 2)) rfl rfl rfl ?_
    refine h_call (sp := false) (pc' := 22) (M := [(0, .ref 98), (1, .int (Int32.ofInt 2))]) rfl rfl rfl rfl rfl rfl rfl rfl ?_
    refine h_aload_n (pc' := 1) rfl rfl rfl ?_
    refine h_getI (pc' := 4) (v := σ 98 13) rfl rfl rfl rfl rfl rfl (fun z7 hz7 => ?_)
    have tz7 := tf_98_13 hI
    refine h_zne (tg := 20) (pc' := 7) rfl rfl rfl hz7 (fun c8 => ?_) (fun c8 => ?_)
    · refine h_vret rfl rfl (h_Kn ?_)
      exact h_vret rfl rfl (kk _ hI F00 (by omega) (by omega))
    · refine h_aload_n (pc' := 8) rfl rfl rfl ?_
      refine h_iload_n (pc' := 9) rfl rfl rfl ?_
      refine h_put (pc' := 12) rfl rfl rfl rfl rfl rfl ci_2 rfl (h_fgt (E := fun s => s 98 15 = σ 98 15 ∧ s 98 16 = σ 98 16 ∧ s 98 17 = σ 98 17 ∧ s 98 18 = σ 98 18 ∧ s 98 13 = 2 ∧ s 98 5 = σ 98 5 ∧ s 98 6 = σ 98 6 ∧ s 101 18 = σ 101 18 ∧ s 101 25 = σ 101 25) _ (if_98_13 hI (by omega)) (F00.up rfl) ⟨rfl, rfl, rfl, rfl, rfl, rfl, rfl, rfl, rfl⟩ (fun s9 Is9 Fs9 ⟨es9_0, es9_1, es9_2, es9_3, es9_4, es9_5, es9_6, es9_7, es9_8⟩ => ?_))
      refine h_aload_n (pc' := 13) rfl rfl rfl ?_
      refine h_aload_n (pc' := 14) rfl rfl rfl ?_
      refine h_getI (pc' := 17) (v := σ 98 16) rfl rfl rfl rfl rfl es9_1 (fun z10 hz10 => ?_)
      have tz10 := tf_98_16 hI
      refine h_put (pc' := 20) rfl rfl rfl rfl rfl rfl hz10 rfl (h_fgt (E := fun s => s 98 15 = σ 98 15 ∧ s 98 16 = σ 98 16 ∧ s 98 17 = σ 98 17 ∧ s 98 18 = σ 98 18 ∧ s 98 13 = 2 ∧ s 98 5 = σ 98 5 ∧ s 98 6 = σ 98 6 ∧ s 101 18 = σ 101 18 ∧ s 101 25 = σ 101 25) _ (if_98_14 Is9 (h_rgv hz10)) (Fs9.up rfl) ⟨es9_0, es9_1, es9_2, es9_3, es9_4, es9_5, es9_6, es9_7, es9_8⟩ (fun s11 Is11 Fs11 ⟨es11_0, es11_1, es11_2, es11_3, es11_4, es11_5, es11_6, es11_7, es11_8⟩ => ?_))
      clear es9_0 es9_1 es9_2 es9_3 es9_4 es9_5 es9_6 es9_7 es9_8
      refine h_vret rfl rfl (h_Kn ?_)
      exact h_vret rfl rfl (kk _ Is11 Fs11 (by omega) (by omega))
  · refine h_lload_n (pc' := 7) rfl rfl rfl ?_
    refine h_lload (pc' := 9) rfl rfl rfl ?_
    refine h_lcmp (pc' := 10) rfl rfl hz3 cl_7 (fun z12 hz12 => ?_)
    refine h_zgt (tg := 17) (pc' := 13) rfl rfl rfl rfl (fun c13 => absurd c13 (by omega)) (fun c13 => ?_)
    refine h_iconst (pc' := 14) (x := (Int32.ofInt 1)) rfl rfl rfl ?_
    refine h_goto (pc' := 18) rfl rfl ?_
    refine h_zret rfl rfl ci_1 (by omega) (h_Kv ?_)
    refine h_zne (tg := 23) (pc' := 17) rfl rfl rfl ci_1 (fun c14 => ?_) (fun c14 => absurd c14 (by omega))
    refine h_iload_n (pc' := 24) rfl rfl rfl ?_
    refine h_iconst (pc' := 25) (x := (Int32.ofInt 3)) rfl rfl rfl ?_
    refine h_cgt (tg := 37) (pc' := 28) rfl rfl rfl hr1 ci_3 (fun c15 => ?_) (fun c15 => ?_)
    · refine h_iload_n (pc' := 38) rfl rfl rfl ?_
      refine h_iconst (pc' := 39) (x := (Int32.ofInt 4)) rfl rfl rfl ?_
      refine h_cne (tg := 53) (pc' := 42) rfl rfl rfl hr1 ci_4 (fun c16 => ?_) (fun c16 => ?_)
      · refine h_iload_n (pc' := 54) rfl rfl rfl ?_
        refine h_iconst (pc' := 55) (x := (Int32.ofInt 5)) rfl rfl rfl ?_
        refine h_cne (tg := 69) (pc' := 58) rfl rfl rfl hr1 ci_5 (fun c17 => ?_) (fun c17 => ?_)
        · refine h_iload_n (pc' := 70) rfl rfl rfl ?_
          refine h_bipush (pc' := 72) (x := (Int32.ofInt 6)) rfl rfl cb_6 ?_
          refine h_cne (tg := 88) (pc' := 75) rfl rfl rfl hr1 ci_6 (fun c18 => ?_) (fun c18 => ?_)
          · exact h_wk [(0, .ref 98), (1, .int r1)] ⟨rfl, rfl, trivial⟩ ((v_readLine_l ns σ hI  kk 1000000000000).1 _ hI F00 r1 _ hr1 (by omega) (by omega) (by omega) (by omega) (by omega) (by omega) (by omega))
          · refine h_aload_n (pc' := 76) rfl rfl rfl ?_
            refine h_getI (pc' := 79) (v := σ 98 6) rfl rfl rfl rfl rfl rfl (fun z19 hz19 => ?_)
            have tz19 := tf_98_6 hI
            refine h_iconst (pc' := 80) (x := (Int32.ofInt 3)) rfl rfl rfl ?_
            refine h_cne (tg := 88) (pc' := 83) rfl rfl rfl hz19 ci_3 (fun c20 => ?_) (fun c20 => ?_)
            · exact h_wk [(0, .ref 98), (1, .int r1)] ⟨rfl, rfl, trivial⟩ ((v_readLine_l ns σ hI  kk 1000000000000).1 _ hI F00 r1 _ hr1 (by omega) (by omega) (by omega) (by omega) (by omega) (by omega) (by omega))
            · refine h_aload_n (pc' := 84) rfl rfl rfl ?_
              refine h_iconst (pc' := 85) (x := (Int32.ofInt 5)) rfl rfl rfl ?_
              refine h_call (sp := false) (pc' := 88) (M := [(0, .ref 98), (1, .int (Int32.ofInt 5))]) rfl rfl rfl rfl rfl rfl rfl rfl ?_
              refine h_aload_n (pc' := 1) rfl rfl rfl ?_
              refine h_getI (pc' := 4) (v := σ 98 13) rfl rfl rfl rfl rfl rfl (fun z21 hz21 => ?_)
              have tz21 := tf_98_13 hI
              refine h_zne (tg := 20) (pc' := 7) rfl rfl rfl hz21 (fun c22 => ?_) (fun c22 => ?_)
              · refine h_vret rfl rfl (h_Kn ?_)
                exact h_wk [(0, .ref 98), (1, .int r1)] ⟨rfl, rfl, trivial⟩ ((v_readLine_l ns σ hI  kk 1000000000000).1 _ hI F00 r1 _ hr1 (by omega) (by omega) (by omega) (by omega) (by omega) (by omega) (by omega))
              · refine h_aload_n (pc' := 8) rfl rfl rfl ?_
                refine h_iload_n (pc' := 9) rfl rfl rfl ?_
                refine h_put (pc' := 12) rfl rfl rfl rfl rfl rfl ci_5 rfl (h_fgt (E := fun s => s 98 15 = σ 98 15 ∧ s 98 16 = σ 98 16 ∧ s 98 17 = σ 98 17 ∧ s 98 18 = σ 98 18 ∧ s 98 13 = 5 ∧ s 98 5 = σ 98 5 ∧ s 98 6 = σ 98 6 ∧ s 101 18 = σ 101 18 ∧ s 101 25 = σ 101 25) _ (if_98_13 hI (by omega)) (F00.up rfl) ⟨rfl, rfl, rfl, rfl, rfl, rfl, rfl, rfl, rfl⟩ (fun s23 Is23 Fs23 ⟨es23_0, es23_1, es23_2, es23_3, es23_4, es23_5, es23_6, es23_7, es23_8⟩ => ?_))
                refine h_aload_n (pc' := 13) rfl rfl rfl ?_
                refine h_aload_n (pc' := 14) rfl rfl rfl ?_
                refine h_getI (pc' := 17) (v := σ 98 16) rfl rfl rfl rfl rfl es23_1 (fun z24 hz24 => ?_)
                have tz24 := tf_98_16 hI
                refine h_put (pc' := 20) rfl rfl rfl rfl rfl rfl hz24 rfl (h_fgt (E := fun s => s 98 15 = σ 98 15 ∧ s 98 16 = σ 98 16 ∧ s 98 17 = σ 98 17 ∧ s 98 18 = σ 98 18 ∧ s 98 13 = 5 ∧ s 98 5 = σ 98 5 ∧ s 98 6 = σ 98 6 ∧ s 101 18 = σ 101 18 ∧ s 101 25 = σ 101 25) _ (if_98_14 Is23 (h_rgv hz24)) (Fs23.up rfl) ⟨es23_0, es23_1, es23_2, es23_3, es23_4, es23_5, es23_6, es23_7, es23_8⟩ (fun s25 Is25 Fs25 ⟨es25_0, es25_1, es25_2, es25_3, es25_4, es25_5, es25_6, es25_7, es25_8⟩ => ?_))
                clear es23_0 es23_1 es23_2 es23_3 es23_4 es23_5 es23_6 es23_7 es23_8
                refine h_vret rfl rfl (h_Kn ?_)
                exact h_wk [(0, .ref 98), (1, .int r1)] ⟨rfl, rfl, trivial⟩ ((v_readLine_l ns σ hI  kk 1000000000000).1 _ Is25 Fs25 r1 _ hr1 (by omega) (by omega) (by omega) (by omega) (by omega) (by omega) (by omega))
        · refine h_aload_n (pc' := 59) rfl rfl rfl ?_
          refine h_getR (pc' := 62) rfl rfl rfl rfl rfl ?_
          refine h_bipush (pc' := 64) (x := (Int32.ofInt 25)) rfl rfl cb_25 ?_
          refine h_iald (pc' := 65) (v := σ 101 25) rfl rfl rfl ci_25 (by omega) (by omega) rfl (fun z26 hz26 => ?_)
          have tz26 := ty_101_5 hI 25 (by omega)
          refine h_iconst (pc' := 66) (x := (Int32.ofInt 3)) rfl rfl rfl ?_
          refine h_ceq (tg := 83) (pc' := 69) rfl rfl rfl hz26 ci_3 (fun c27 => ?_) (fun c27 => ?_)
          · refine h_aload_n (pc' := 84) rfl rfl rfl ?_
            refine h_iconst (pc' := 85) (x := (Int32.ofInt 5)) rfl rfl rfl ?_
            refine h_call (sp := false) (pc' := 88) (M := [(0, .ref 98), (1, .int (Int32.ofInt 5))]) rfl rfl rfl rfl rfl rfl rfl rfl ?_
            refine h_aload_n (pc' := 1) rfl rfl rfl ?_
            refine h_getI (pc' := 4) (v := σ 98 13) rfl rfl rfl rfl rfl rfl (fun z28 hz28 => ?_)
            have tz28 := tf_98_13 hI
            refine h_zne (tg := 20) (pc' := 7) rfl rfl rfl hz28 (fun c29 => ?_) (fun c29 => ?_)
            · refine h_vret rfl rfl (h_Kn ?_)
              exact h_wk [(0, .ref 98), (1, .int r1)] ⟨rfl, rfl, trivial⟩ ((v_readLine_l ns σ hI  kk 1000000000000).1 _ hI F00 r1 _ hr1 (by omega) (by omega) (by omega) (by omega) (by omega) (by omega) (by omega))
            · refine h_aload_n (pc' := 8) rfl rfl rfl ?_
              refine h_iload_n (pc' := 9) rfl rfl rfl ?_
              refine h_put (pc' := 12) rfl rfl rfl rfl rfl rfl ci_5 rfl (h_fgt (E := fun s => s 98 15 = σ 98 15 ∧ s 98 16 = σ 98 16 ∧ s 98 17 = σ 98 17 ∧ s 98 18 = σ 98 18 ∧ s 98 13 = 5 ∧ s 98 5 = σ 98 5 ∧ s 98 6 = σ 98 6 ∧ s 101 18 = σ 101 18 ∧ s 101 25 = σ 101 25) _ (if_98_13 hI (by omega)) (F00.up rfl) ⟨rfl, rfl, rfl, rfl, rfl, rfl, rfl, rfl, rfl⟩ (fun s30 Is30 Fs30 ⟨es30_0, es30_1, es30_2, es30_3, es30_4, es30_5, es30_6, es30_7, es30_8⟩ => ?_))
              refine h_aload_n (pc' := 13) rfl rfl rfl ?_
              refine h_aload_n (pc' := 14) rfl rfl rfl ?_
              refine h_getI (pc' := 17) (v := σ 98 16) rfl rfl rfl rfl rfl es30_1 (fun z31 hz31 => ?_)
              have tz31 := tf_98_16 hI
              refine h_put (pc' := 20) rfl rfl rfl rfl rfl rfl hz31 rfl (h_fgt (E := fun s => s 98 15 = σ 98 15 ∧ s 98 16 = σ 98 16 ∧ s 98 17 = σ 98 17 ∧ s 98 18 = σ 98 18 ∧ s 98 13 = 5 ∧ s 98 5 = σ 98 5 ∧ s 98 6 = σ 98 6 ∧ s 101 18 = σ 101 18 ∧ s 101 25 = σ 101 25) _ (if_98_14 Is30 (h_rgv hz31)) (Fs30.up rfl) ⟨es30_0, es30_1, es30_2, es30_3, es30_4, es30_5, es30_6, es30_7, es30_8⟩ (fun s32 Is32 Fs32 ⟨es32_0, es32_1, es32_2, es32_3, es32_4, es32_5, es32_6, es32_7, es32_8⟩ => ?_))
              clear es30_0 es30_1 es30_2 es30_3 es30_4 es30_5 es30_6 es30_7 es30_8
              refine h_vret rfl rfl (h_Kn ?_)
              exact h_wk [(0, .ref 98), (1, .int r1)] ⟨rfl, rfl, trivial⟩ ((v_readLine_l ns σ hI  kk 1000000000000).1 _ Is32 Fs32 r1 _ hr1 (by omega) (by omega) (by omega) (by omega) (by omega) (by omega) (by omega))
          · refine h_iload_n (pc' := 70) rfl rfl rfl ?_
            refine h_bipush (pc' := 72) (x := (Int32.ofInt 6)) rfl rfl cb_6 ?_
            refine h_cne (tg := 88) (pc' := 75) rfl rfl rfl hr1 ci_6 (fun c33 => ?_) (fun c33 => absurd c33 (by omega))
            exact h_wk [(0, .ref 98), (1, .int r1)] ⟨rfl, rfl, trivial⟩ ((v_readLine_l ns σ hI  kk 1000000000000).1 _ hI F00 r1 _ hr1 (by omega) (by omega) (by omega) (by omega) (by omega) (by omega) (by omega))
      · refine h_aload_n (pc' := 43) rfl rfl rfl ?_
        refine h_getR (pc' := 46) rfl rfl rfl rfl rfl ?_
        refine h_bipush (pc' := 48) (x := (Int32.ofInt 18)) rfl rfl cb_18 ?_
        refine h_iald (pc' := 49) (v := σ 101 18) rfl rfl rfl ci_18 (by omega) (by omega) rfl (fun z34 hz34 => ?_)
        have tz34 := ty_101_3 hI 18 (by omega)
        refine h_iconst (pc' := 50) (x := (Int32.ofInt 3)) rfl rfl rfl ?_
        refine h_ceq (tg := 83) (pc' := 53) rfl rfl rfl hz34 ci_3 (fun c35 => ?_) (fun c35 => ?_)
        · refine h_aload_n (pc' := 84) rfl rfl rfl ?_
          refine h_iconst (pc' := 85) (x := (Int32.ofInt 5)) rfl rfl rfl ?_
          refine h_call (sp := false) (pc' := 88) (M := [(0, .ref 98), (1, .int (Int32.ofInt 5))]) rfl rfl rfl rfl rfl rfl rfl rfl ?_
          refine h_aload_n (pc' := 1) rfl rfl rfl ?_
          refine h_getI (pc' := 4) (v := σ 98 13) rfl rfl rfl rfl rfl rfl (fun z36 hz36 => ?_)
          have tz36 := tf_98_13 hI
          refine h_zne (tg := 20) (pc' := 7) rfl rfl rfl hz36 (fun c37 => ?_) (fun c37 => ?_)
          · refine h_vret rfl rfl (h_Kn ?_)
            exact h_wk [(0, .ref 98), (1, .int r1)] ⟨rfl, rfl, trivial⟩ ((v_readLine_l ns σ hI  kk 1000000000000).1 _ hI F00 r1 _ hr1 (by omega) (by omega) (by omega) (by omega) (by omega) (by omega) (by omega))
          · refine h_aload_n (pc' := 8) rfl rfl rfl ?_
            refine h_iload_n (pc' := 9) rfl rfl rfl ?_
            refine h_put (pc' := 12) rfl rfl rfl rfl rfl rfl ci_5 rfl (h_fgt (E := fun s => s 98 15 = σ 98 15 ∧ s 98 16 = σ 98 16 ∧ s 98 17 = σ 98 17 ∧ s 98 18 = σ 98 18 ∧ s 98 13 = 5 ∧ s 98 5 = σ 98 5 ∧ s 98 6 = σ 98 6 ∧ s 101 18 = σ 101 18 ∧ s 101 25 = σ 101 25) _ (if_98_13 hI (by omega)) (F00.up rfl) ⟨rfl, rfl, rfl, rfl, rfl, rfl, rfl, rfl, rfl⟩ (fun s38 Is38 Fs38 ⟨es38_0, es38_1, es38_2, es38_3, es38_4, es38_5, es38_6, es38_7, es38_8⟩ => ?_))
            refine h_aload_n (pc' := 13) rfl rfl rfl ?_
            refine h_aload_n (pc' := 14) rfl rfl rfl ?_
            refine h_getI (pc' := 17) (v := σ 98 16) rfl rfl rfl rfl rfl es38_1 (fun z39 hz39 => ?_)
            have tz39 := tf_98_16 hI
            refine h_put (pc' := 20) rfl rfl rfl rfl rfl rfl hz39 rfl (h_fgt (E := fun s => s 98 15 = σ 98 15 ∧ s 98 16 = σ 98 16 ∧ s 98 17 = σ 98 17 ∧ s 98 18 = σ 98 18 ∧ s 98 13 = 5 ∧ s 98 5 = σ 98 5 ∧ s 98 6 = σ 98 6 ∧ s 101 18 = σ 101 18 ∧ s 101 25 = σ 101 25) _ (if_98_14 Is38 (h_rgv hz39)) (Fs38.up rfl) ⟨es38_0, es38_1, es38_2, es38_3, es38_4, es38_5, es38_6, es38_7, es38_8⟩ (fun s40 Is40 Fs40 ⟨es40_0, es40_1, es40_2, es40_3, es40_4, es40_5, es40_6, es40_7, es40_8⟩ => ?_))
            clear es38_0 es38_1 es38_2 es38_3 es38_4 es38_5 es38_6 es38_7 es38_8
            refine h_vret rfl rfl (h_Kn ?_)
            exact h_wk [(0, .ref 98), (1, .int r1)] ⟨rfl, rfl, trivial⟩ ((v_readLine_l ns σ hI  kk 1000000000000).1 _ Is40 Fs40 r1 _ hr1 (by omega) (by omega) (by omega) (by omega) (by omega) (by omega) (by omega))
        · refine h_iload_n (pc' := 54) rfl rfl rfl ?_
          refine h_iconst (pc' := 55) (x := (Int32.ofInt 5)) rfl rfl rfl ?_
          refine h_cne (tg := 69) (pc' := 58) rfl rfl rfl hr1 ci_5 (fun c41 => ?_) (fun c41 => absurd c41 (by omega))
          refine h_iload_n (pc' := 70) rfl rfl rfl ?_
          refine h_bipush (pc' := 72) (x := (Int32.ofInt 6)) rfl rfl cb_6 ?_
          refine h_cne (tg := 88) (pc' := 75) rfl rfl rfl hr1 ci_6 (fun c42 => ?_) (fun c42 => absurd c42 (by omega))
          exact h_wk [(0, .ref 98), (1, .int r1)] ⟨rfl, rfl, trivial⟩ ((v_readLine_l ns σ hI  kk 1000000000000).1 _ hI F00 r1 _ hr1 (by omega) (by omega) (by omega) (by omega) (by omega) (by omega) (by omega))
    · refine h_aload_n (pc' := 29) rfl rfl rfl ?_
      refine h_getI (pc' := 32) (v := σ 98 5) rfl rfl rfl rfl rfl rfl (fun z43 hz43 => ?_)
      have tz43 := tf_98_5 hI
      refine h_bipush (pc' := 34) (x := (Int32.ofInt 6)) rfl rfl cb_6 ?_
      refine h_ceq (tg := 83) (pc' := 37) rfl rfl rfl hz43 ci_6 (fun c44 => ?_) (fun c44 => ?_)
      · refine h_aload_n (pc' := 84) rfl rfl rfl ?_
        refine h_iconst (pc' := 85) (x := (Int32.ofInt 5)) rfl rfl rfl ?_
        refine h_call (sp := false) (pc' := 88) (M := [(0, .ref 98), (1, .int (Int32.ofInt 5))]) rfl rfl rfl rfl rfl rfl rfl rfl ?_
        refine h_aload_n (pc' := 1) rfl rfl rfl ?_
        refine h_getI (pc' := 4) (v := σ 98 13) rfl rfl rfl rfl rfl rfl (fun z45 hz45 => ?_)
        have tz45 := tf_98_13 hI
        refine h_zne (tg := 20) (pc' := 7) rfl rfl rfl hz45 (fun c46 => ?_) (fun c46 => ?_)
        · refine h_vret rfl rfl (h_Kn ?_)
          exact h_wk [(0, .ref 98), (1, .int r1)] ⟨rfl, rfl, trivial⟩ ((v_readLine_l ns σ hI  kk 1000000000000).1 _ hI F00 r1 _ hr1 (by omega) (by omega) (by omega) (by omega) (by omega) (by omega) (by omega))
        · refine h_aload_n (pc' := 8) rfl rfl rfl ?_
          refine h_iload_n (pc' := 9) rfl rfl rfl ?_
          refine h_put (pc' := 12) rfl rfl rfl rfl rfl rfl ci_5 rfl (h_fgt (E := fun s => s 98 15 = σ 98 15 ∧ s 98 16 = σ 98 16 ∧ s 98 17 = σ 98 17 ∧ s 98 18 = σ 98 18 ∧ s 98 13 = 5 ∧ s 98 5 = σ 98 5 ∧ s 98 6 = σ 98 6 ∧ s 101 18 = σ 101 18 ∧ s 101 25 = σ 101 25) _ (if_98_13 hI (by omega)) (F00.up rfl) ⟨rfl, rfl, rfl, rfl, rfl, rfl, rfl, rfl, rfl⟩ (fun s47 Is47 Fs47 ⟨es47_0, es47_1, es47_2, es47_3, es47_4, es47_5, es47_6, es47_7, es47_8⟩ => ?_))
          refine h_aload_n (pc' := 13) rfl rfl rfl ?_
          refine h_aload_n (pc' := 14) rfl rfl rfl ?_
          refine h_getI (pc' := 17) (v := σ 98 16) rfl rfl rfl rfl rfl es47_1 (fun z48 hz48 => ?_)
          have tz48 := tf_98_16 hI
          refine h_put (pc' := 20) rfl rfl rfl rfl rfl rfl hz48 rfl (h_fgt (E := fun s => s 98 15 = σ 98 15 ∧ s 98 16 = σ 98 16 ∧ s 98 17 = σ 98 17 ∧ s 98 18 = σ 98 18 ∧ s 98 13 = 5 ∧ s 98 5 = σ 98 5 ∧ s 98 6 = σ 98 6 ∧ s 101 18 = σ 101 18 ∧ s 101 25 = σ 101 25) _ (if_98_14 Is47 (h_rgv hz48)) (Fs47.up rfl) ⟨es47_0, es47_1, es47_2, es47_3, es47_4, es47_5, es47_6, es47_7, es47_8⟩ (fun s49 Is49 Fs49 ⟨es49_0, es49_1, es49_2, es49_3, es49_4, es49_5, es49_6, es49_7, es49_8⟩ => ?_))
          clear es47_0 es47_1 es47_2 es47_3 es47_4 es47_5 es47_6 es47_7 es47_8
          refine h_vret rfl rfl (h_Kn ?_)
          exact h_wk [(0, .ref 98), (1, .int r1)] ⟨rfl, rfl, trivial⟩ ((v_readLine_l ns σ hI  kk 1000000000000).1 _ Is49 Fs49 r1 _ hr1 (by omega) (by omega) (by omega) (by omega) (by omega) (by omega) (by omega))
      · refine h_iload_n (pc' := 38) rfl rfl rfl ?_
        refine h_iconst (pc' := 39) (x := (Int32.ofInt 4)) rfl rfl rfl ?_
        refine h_cne (tg := 53) (pc' := 42) rfl rfl rfl hr1 ci_4 (fun c50 => ?_) (fun c50 => absurd c50 (by omega))
        refine h_iload_n (pc' := 54) rfl rfl rfl ?_
        refine h_iconst (pc' := 55) (x := (Int32.ofInt 5)) rfl rfl rfl ?_
        refine h_cne (tg := 69) (pc' := 58) rfl rfl rfl hr1 ci_5 (fun c51 => ?_) (fun c51 => absurd c51 (by omega))
        refine h_iload_n (pc' := 70) rfl rfl rfl ?_
        refine h_bipush (pc' := 72) (x := (Int32.ofInt 6)) rfl rfl cb_6 ?_
        refine h_cne (tg := 88) (pc' := 75) rfl rfl rfl hr1 ci_6 (fun c52 => ?_) (fun c52 => absurd c52 (by omega))
        exact h_wk [(0, .ref 98), (1, .int r1)] ⟨rfl, rfl, trivial⟩ ((v_readLine_l ns σ hI  kk 1000000000000).1 _ hI F00 r1 _ hr1 (by omega) (by omega) (by omega) (by omega) (by omega) (by omega) (by omega))
theorem v_textM_l (ns : Nat) (σ : h_S) (hI : h_I σ) {Q : Option Value → h_S → Prop} (kk : ∀ (r : Int32) (b : Int) (hb : r.toInt = b) (τ : h_S), h_I τ → h_F k_tp τ σ → (τ 98 11 = 0) → (τ 64 1 = σ 64 1) → Q (some (.int r)) τ) : ∀ n : Nat, (∀ (s0 : h_S), h_I s0 → h_F k_tp s0 σ → ∀ (y1 : Int32) (b1 : Int), y1.toInt = b1 → (0 ≤ b1 ∧ b1 ≤ 0) → ∀ (y2 : Int32) (b2 : Int), y2.toInt = b2 → (0 ≤ b2 ∧ b2 ≤ 44) → (s0 64 1 = σ 64 1) → (45 - b2) + 1000000 ≤ (n : Int) → h_T g_P (g_Y ns) 155 39 [(0, .ref 98), (1, .int y1), (2, .int y2)] [] s0 Q) ∧ (∀ (s0 : h_S), h_I s0 → h_F k_tp s0 σ → ∀ (y1 : Int32) (b1 : Int), y1.toInt = b1 → ∀ (y2 : Int32) (b2 : Int), y2.toInt = b2 → (44 ≤ b2 ∧ b2 ≤ 44) → (s0 64 1 = σ 64 1) → (161 - s0 98 15) * 100 - s0 98 13 * 10 + s0 98 17 + 61 + 1000 ≤ (n : Int) → h_T g_P (g_Y ns) 155 62 [(0, .ref 98), (1, .int y1), (2, .int y2)] [] s0 Q) ∧ (∀ (s0 : h_S), h_I s0 → h_F k_tp s0 σ → ∀ (y1 : Int32) (b1 : Int), y1.toInt = b1 → ∀ (y2 : Int32) (b2 : Int), y2.toInt = b2 → (0 ≤ b2 ∧ b2 ≤ 44) → (s0 64 1 = σ 64 1) → (45 - b2) ≤ (n : Int) → h_T g_P (g_Y ns) 155 151 [(0, .ref 98), (1, .int y1), (2, .int y2)] [] s0 Q) := by
  intro n
  induction n with
  | zero => exact ⟨by intro s0 I0 F0_ y1 b1 hy1 ry1 y2 b2 hy2 ry2 ex0 hm; have gh0 := tf_98_15 I0; have gh1 := tf_98_13 I0; have gh2 := tf_98_17 I0; exfalso; omega, by intro s0 I0 F0_ y1 b1 hy1 y2 b2 hy2 ry2 ex0 hm; have gh0 := tf_98_15 I0; have gh1 := tf_98_13 I0; have gh2 := tf_98_17 I0; exfalso; omega, by intro s0 I0 F0_ y1 b1 hy1 y2 b2 hy2 ry2 ex0 hm; have gh0 := tf_98_15 I0; have gh1 := tf_98_13 I0; have gh2 := tf_98_17 I0; exfalso; omega⟩
  | succ n ih =>
    refine ⟨?_, ?_, ?_⟩
    · intro s0 I0 F0_ y1 b1 hy1 ry1 y2 b2 hy2 ry2 ex0 hm; have gh0 := tf_98_15 I0; have gh1 := tf_98_13 I0; have gh2 := tf_98_17 I0
      refine h_iload_n (pc' := 40) rfl rfl rfl ?_
      refine h_bipush (pc' := 42) (x := (Int32.ofInt 44)) rfl rfl cb_44 ?_
      refine h_cge (tg := 58) (pc' := 45) rfl rfl rfl hy2 ci_44 (fun c1 => ?_) (fun c1 => ?_)
      · refine h_aload_n (pc' := 59) rfl rfl rfl ?_
        refine h_call (sp := false) (pc' := 62) (M := [(0, .ref 98)]) rfl rfl rfl rfl rfl rfl rfl rfl ?_
        refine v_step _ I0  (fun s3 Is3 Gs3 ps3_0 ps3_1 ps3_2 => h_Kn ?_)
        have Fs3 := (Gs3.l1.t1).tr F0_
        have es3_3 : s3 64 1 = s0 64 1 := (Gs3 64 1 rfl).trans rfl
        have es3_4 : s3 98 11 = s0 98 11 := (Gs3 98 11 rfl).trans rfl
        exact h_wk [(0, .ref 98), (1, .int y1), (2, .int y2)] ⟨rfl, rfl, rfl, trivial⟩ (ih.2.1 _ Is3 Fs3 y1 _ hy1 y2 _ hy2 (by omega) (by omega) (by omega))
      · refine h_aload_n (pc' := 46) rfl rfl rfl ?_
        refine h_getR (pc' := 49) rfl rfl rfl rfl rfl ?_
        refine h_iload_n (pc' := 50) rfl rfl rfl ?_
        refine h_iconst (pc' := 51) (x := (Int32.ofInt 0)) rfl rfl rfl ?_
        refine h_iast (pc' := 52) rfl rfl rfl rfl hy2 (by omega) (by omega) ci_0 (h_fgt (E := fun s => s 98 15 = s0 98 15 ∧ s 98 17 = s0 98 17 ∧ s 98 13 = s0 98 13 ∧ s 64 1 = s0 64 1 ∧ s 98 11 = s0 98 11) _ (iz_101 I0) (F0_.up rfl) ⟨rfl, rfl, rfl, rfl, rfl⟩ (fun s4 Is4 Fs4 ⟨es4_0, es4_1, es4_2, es4_3, es4_4⟩ => ?_))
        refine h_iinc (pc' := 55) (M := fun z5 => [(2, .int z5), (0, .ref 98), (1, .int y1)]) rfl rfl rfl rfl hy2 ci_1 rfl (by omega) (by omega) (fun _ => rfl) (fun z5 hz5 => ?_)
        refine h_goto (pc' := 39) rfl rfl ?_
        exact h_wk [(0, .ref 98), (1, .int y1), (2, .int z5)] ⟨rfl, rfl, rfl, trivial⟩ (ih.1 _ Is4 Fs4 y1 _ hy1 (by omega) z5 _ hz5 (by omega) (by omega) (by omega))
    · intro s0 I0 F0_ y1 b1 hy1 y2 b2 hy2 ry2 ex0 hm; have gh0 := tf_98_15 I0; have gh1 := tf_98_13 I0; have gh2 := tf_98_17 I0
      refine h_aload_n (pc' := 63) rfl rfl rfl ?_
      refine h_getI (pc' := 66) (v := s0 98 13) rfl rfl rfl rfl rfl rfl (fun z1 hz1 => ?_)
      have tz1 := tf_98_13 I0
      refine h_zne (tg := 86) (pc' := 69) rfl rfl rfl hz1 (fun c2 => ?_) (fun c2 => ?_)
      · refine h_aload_n (pc' := 87) rfl rfl rfl ?_
        refine h_getI (pc' := 90) (v := s0 98 13) rfl rfl rfl rfl rfl rfl (fun z3 hz3 => ?_)
        have tz3 := tf_98_13 I0
        refine h_zne (tg := 121) (pc' := 93) rfl rfl rfl hz3 (fun c4 => ?_) (fun c4 => absurd c4 (by omega))
        refine h_aload_n (pc' := 122) rfl rfl rfl ?_
        refine h_iconst (pc' := 123) (x := (Int32.ofInt 0)) rfl rfl rfl ?_
        refine h_put (pc' := 126) rfl rfl rfl rfl rfl rfl ci_0 rfl (h_fgt (E := fun s => s 98 15 = s0 98 15 ∧ s 98 17 = s0 98 17 ∧ s 98 13 = s0 98 13 ∧ s 64 1 = s0 64 1 ∧ s 98 11 = 0) _ (if_98_11 I0 (by omega)) (F0_.up rfl) ⟨rfl, rfl, rfl, rfl, rfl⟩ (fun s5 Is5 Fs5 ⟨es5_0, es5_1, es5_2, es5_3, es5_4⟩ => ?_))
        refine h_aload_n (pc' := 127) rfl rfl rfl ?_
        refine h_aload_n (pc' := 128) rfl rfl rfl ?_
        refine h_getI (pc' := 131) (v := s0 98 13) rfl rfl rfl rfl rfl es5_2 (fun z6 hz6 => ?_)
        have tz6 := tf_98_13 I0
        refine h_put (pc' := 134) rfl rfl rfl rfl rfl rfl hz6 rfl (h_fgt (E := fun s => s 98 15 = s0 98 15 ∧ s 98 17 = s0 98 17 ∧ s 98 13 = s0 98 13 ∧ s 64 1 = s0 64 1 ∧ s 98 11 = 0) _ (if_98_12 Is5 (h_rgv hz6)) (Fs5.up rfl) ⟨es5_0, es5_1, es5_2, es5_3, es5_4⟩ (fun s7 Is7 Fs7 ⟨es7_0, es7_1, es7_2, es7_3, es7_4⟩ => ?_))
        clear es5_0 es5_1 es5_2 es5_3 es5_4
        refine h_aload_n (pc' := 135) rfl rfl rfl ?_
        refine h_getI (pc' := 138) (v := s0 98 13) rfl rfl rfl rfl rfl es7_2 (fun z8 hz8 => ?_)
        have tz8 := tf_98_13 I0
        refine h_zle (tg := 149) (pc' := 141) rfl rfl rfl hz8 (fun c9 => absurd c9 (by omega)) (fun c9 => ?_)
        refine h_bipush (pc' := 143) (x := (Int32.ofInt (-10))) rfl rfl cb_m10 ?_
        refine h_aload_n (pc' := 144) rfl rfl rfl ?_
        refine h_getI (pc' := 147) (v := s7 98 14) rfl rfl rfl rfl rfl rfl (fun z10 hz10 => ?_)
        have tz10 := tf_98_14 Is7
        refine h_isubA (pc' := 148) rfl rfl (fun z11 hz11 => ?_)
        exact h_iret rfl rfl (kk _ _ rfl _ Is7 Fs7 (by omega) (by omega))
      · refine h_aload_n (pc' := 70) rfl rfl rfl ?_
        refine h_getI (pc' := 73) (v := s0 98 17) rfl rfl rfl rfl rfl rfl (fun z12 hz12 => ?_)
        have tz12 := tf_98_17 I0
        refine h_zeq (tg := 86) (pc' := 76) rfl rfl rfl hz12 (fun c13 => ?_) (fun c13 => ?_)
        · refine h_aload_n (pc' := 87) rfl rfl rfl ?_
          refine h_getI (pc' := 90) (v := s0 98 13) rfl rfl rfl rfl rfl rfl (fun z14 hz14 => ?_)
          have tz14 := tf_98_13 I0
          refine h_zne (tg := 121) (pc' := 93) rfl rfl rfl hz14 (fun c15 => absurd c15 (by omega)) (fun c15 => ?_)
          refine h_aload_n (pc' := 94) rfl rfl rfl ?_
          refine h_getI (pc' := 97) (v := s0 98 8) rfl rfl rfl rfl rfl rfl (fun z16 hz16 => ?_)
          have tz16 := tf_98_8 I0
          refine h_aload_n (pc' := 98) rfl rfl rfl ?_
          refine h_getI (pc' := 101) (v := s0 98 5) rfl rfl rfl rfl rfl rfl (fun z17 hz17 => ?_)
          have tz17 := tf_98_5 I0
          refine h_cge (tg := 115) (pc' := 104) rfl rfl rfl hz16 hz17 (fun c18 => ?_) (fun c18 => ?_)
          · refine h_aload_n (pc' := 116) rfl rfl rfl ?_
            refine h_bipush (pc' := 118) (x := (Int32.ofInt 6)) rfl rfl cb_6 ?_
            refine h_call (sp := false) (pc' := 121) (M := [(0, .ref 98), (1, .int (Int32.ofInt 6))]) rfl rfl rfl rfl rfl rfl rfl rfl ?_
            refine h_aload_n (pc' := 1) rfl rfl rfl ?_
            refine h_getI (pc' := 4) (v := s0 98 13) rfl rfl rfl rfl rfl rfl (fun z19 hz19 => ?_)
            have tz19 := tf_98_13 I0
            refine h_zne (tg := 20) (pc' := 7) rfl rfl rfl hz19 (fun c20 => absurd c20 (by omega)) (fun c20 => ?_)
            refine h_aload_n (pc' := 8) rfl rfl rfl ?_
            refine h_iload_n (pc' := 9) rfl rfl rfl ?_
            refine h_put (pc' := 12) rfl rfl rfl rfl rfl rfl ci_6 rfl (h_fgt (E := fun s => s 98 15 = s0 98 15 ∧ s 98 17 = s0 98 17 ∧ s 98 13 = 6 ∧ s 64 1 = s0 64 1 ∧ s 98 11 = s0 98 11) _ (if_98_13 I0 (by omega)) (F0_.up rfl) ⟨rfl, rfl, rfl, rfl, rfl⟩ (fun s21 Is21 Fs21 ⟨es21_0, es21_1, es21_2, es21_3, es21_4⟩ => ?_))
            refine h_aload_n (pc' := 13) rfl rfl rfl ?_
            refine h_aload_n (pc' := 14) rfl rfl rfl ?_
            refine h_getI (pc' := 17) (v := s21 98 16) rfl rfl rfl rfl rfl rfl (fun z22 hz22 => ?_)
            have tz22 := tf_98_16 Is21
            refine h_put (pc' := 20) rfl rfl rfl rfl rfl rfl hz22 rfl (h_fgt (E := fun s => s 98 15 = s0 98 15 ∧ s 98 17 = s0 98 17 ∧ s 98 13 = 6 ∧ s 64 1 = s0 64 1 ∧ s 98 11 = s0 98 11) _ (if_98_14 Is21 (h_rgv hz22)) (Fs21.up rfl) ⟨es21_0, es21_1, es21_2, es21_3, es21_4⟩ (fun s23 Is23 Fs23 ⟨es23_0, es23_1, es23_2, es23_3, es23_4⟩ => ?_))
            clear es21_0 es21_1 es21_2 es21_3 es21_4
            refine h_vret rfl rfl (h_Kn ?_)
            refine h_aload_n (pc' := 122) rfl rfl rfl ?_
            refine h_iconst (pc' := 123) (x := (Int32.ofInt 0)) rfl rfl rfl ?_
            refine h_put (pc' := 126) rfl rfl rfl rfl rfl rfl ci_0 rfl (h_fgt (E := fun s => s 98 15 = s0 98 15 ∧ s 98 17 = s0 98 17 ∧ s 98 13 = 6 ∧ s 64 1 = s0 64 1 ∧ s 98 11 = 0) _ (if_98_11 Is23 (by omega)) (Fs23.up rfl) ⟨es23_0, es23_1, es23_2, es23_3, rfl⟩ (fun s24 Is24 Fs24 ⟨es24_0, es24_1, es24_2, es24_3, es24_4⟩ => ?_))
            clear es23_0 es23_1 es23_2 es23_3 es23_4
            refine h_aload_n (pc' := 127) rfl rfl rfl ?_
            refine h_aload_n (pc' := 128) rfl rfl rfl ?_
            refine h_getI (pc' := 131) (v := 6) rfl rfl rfl rfl rfl es24_2 (fun z25 hz25 => ?_)
            refine h_put (pc' := 134) rfl rfl rfl rfl rfl rfl hz25 rfl (h_fgt (E := fun s => s 98 15 = s0 98 15 ∧ s 98 17 = s0 98 17 ∧ s 98 13 = 6 ∧ s 64 1 = s0 64 1 ∧ s 98 11 = 0) _ (if_98_12 Is24 (h_rgv hz25)) (Fs24.up rfl) ⟨es24_0, es24_1, es24_2, es24_3, es24_4⟩ (fun s26 Is26 Fs26 ⟨es26_0, es26_1, es26_2, es26_3, es26_4⟩ => ?_))
            clear es24_0 es24_1 es24_2 es24_3 es24_4
            refine h_aload_n (pc' := 135) rfl rfl rfl ?_
            refine h_getI (pc' := 138) (v := 6) rfl rfl rfl rfl rfl es26_2 (fun z27 hz27 => ?_)
            refine h_zle (tg := 149) (pc' := 141) rfl rfl rfl hz27 (fun c28 => absurd c28 (by omega)) (fun c28 => ?_)
            refine h_bipush (pc' := 143) (x := (Int32.ofInt (-10))) rfl rfl cb_m10 ?_
            refine h_aload_n (pc' := 144) rfl rfl rfl ?_
            refine h_getI (pc' := 147) (v := s26 98 14) rfl rfl rfl rfl rfl rfl (fun z29 hz29 => ?_)
            have tz29 := tf_98_14 Is26
            refine h_isubA (pc' := 148) rfl rfl (fun z30 hz30 => ?_)
            exact h_iret rfl rfl (kk _ _ rfl _ Is26 Fs26 (by omega) (by omega))
          · refine h_aload_n (pc' := 105) rfl rfl rfl ?_
            refine h_getI (pc' := 108) (v := s0 98 9) rfl rfl rfl rfl rfl rfl (fun z31 hz31 => ?_)
            have tz31 := tf_98_9 I0
            refine h_aload_n (pc' := 109) rfl rfl rfl ?_
            refine h_getI (pc' := 112) (v := s0 98 6) rfl rfl rfl rfl rfl rfl (fun z32 hz32 => ?_)
            have tz32 := tf_98_6 I0
            refine h_clt (tg := 121) (pc' := 115) rfl rfl rfl hz31 hz32 (fun c33 => ?_) (fun c33 => ?_)
            · refine h_aload_n (pc' := 122) rfl rfl rfl ?_
              refine h_iconst (pc' := 123) (x := (Int32.ofInt 0)) rfl rfl rfl ?_
              refine h_put (pc' := 126) rfl rfl rfl rfl rfl rfl ci_0 rfl (h_fgt (E := fun s => s 98 15 = s0 98 15 ∧ s 98 17 = s0 98 17 ∧ s 98 13 = s0 98 13 ∧ s 64 1 = s0 64 1 ∧ s 98 11 = 0) _ (if_98_11 I0 (by omega)) (F0_.up rfl) ⟨rfl, rfl, rfl, rfl, rfl⟩ (fun s34 Is34 Fs34 ⟨es34_0, es34_1, es34_2, es34_3, es34_4⟩ => ?_))
              refine h_aload_n (pc' := 127) rfl rfl rfl ?_
              refine h_aload_n (pc' := 128) rfl rfl rfl ?_
              refine h_getI (pc' := 131) (v := s0 98 13) rfl rfl rfl rfl rfl es34_2 (fun z35 hz35 => ?_)
              have tz35 := tf_98_13 I0
              refine h_put (pc' := 134) rfl rfl rfl rfl rfl rfl hz35 rfl (h_fgt (E := fun s => s 98 15 = s0 98 15 ∧ s 98 17 = s0 98 17 ∧ s 98 13 = s0 98 13 ∧ s 64 1 = s0 64 1 ∧ s 98 11 = 0) _ (if_98_12 Is34 (h_rgv hz35)) (Fs34.up rfl) ⟨es34_0, es34_1, es34_2, es34_3, es34_4⟩ (fun s36 Is36 Fs36 ⟨es36_0, es36_1, es36_2, es36_3, es36_4⟩ => ?_))
              clear es34_0 es34_1 es34_2 es34_3 es34_4
              refine h_aload_n (pc' := 135) rfl rfl rfl ?_
              refine h_getI (pc' := 138) (v := s0 98 13) rfl rfl rfl rfl rfl es36_2 (fun z37 hz37 => ?_)
              have tz37 := tf_98_13 I0
              refine h_zle (tg := 149) (pc' := 141) rfl rfl rfl hz37 (fun c38 => ?_) (fun c38 => absurd c38 (by omega))
              refine h_iconst (pc' := 150) (x := (Int32.ofInt 0)) rfl rfl rfl ?_
              refine h_istore_n (pc' := 151) (M := [(2, .int (Int32.ofInt 0)), (0, .ref 98), (1, .int y1)]) rfl rfl rfl rfl ?_
              exact h_wk [(0, .ref 98), (1, .int y1), (2, .int (Int32.ofInt 0))] ⟨rfl, rfl, rfl, trivial⟩ (ih.2.2 _ Is36 Fs36 y1 _ hy1 (Int32.ofInt 0) _ ci_0 (by omega) (by omega) (by omega))
            · refine h_aload_n (pc' := 116) rfl rfl rfl ?_
              refine h_bipush (pc' := 118) (x := (Int32.ofInt 6)) rfl rfl cb_6 ?_
              refine h_call (sp := false) (pc' := 121) (M := [(0, .ref 98), (1, .int (Int32.ofInt 6))]) rfl rfl rfl rfl rfl rfl rfl rfl ?_
              refine h_aload_n (pc' := 1) rfl rfl rfl ?_
              refine h_getI (pc' := 4) (v := s0 98 13) rfl rfl rfl rfl rfl rfl (fun z39 hz39 => ?_)
              have tz39 := tf_98_13 I0
              refine h_zne (tg := 20) (pc' := 7) rfl rfl rfl hz39 (fun c40 => absurd c40 (by omega)) (fun c40 => ?_)
              refine h_aload_n (pc' := 8) rfl rfl rfl ?_
              refine h_iload_n (pc' := 9) rfl rfl rfl ?_
              refine h_put (pc' := 12) rfl rfl rfl rfl rfl rfl ci_6 rfl (h_fgt (E := fun s => s 98 15 = s0 98 15 ∧ s 98 17 = s0 98 17 ∧ s 98 13 = 6 ∧ s 64 1 = s0 64 1 ∧ s 98 11 = s0 98 11) _ (if_98_13 I0 (by omega)) (F0_.up rfl) ⟨rfl, rfl, rfl, rfl, rfl⟩ (fun s41 Is41 Fs41 ⟨es41_0, es41_1, es41_2, es41_3, es41_4⟩ => ?_))
              refine h_aload_n (pc' := 13) rfl rfl rfl ?_
              refine h_aload_n (pc' := 14) rfl rfl rfl ?_
              refine h_getI (pc' := 17) (v := s41 98 16) rfl rfl rfl rfl rfl rfl (fun z42 hz42 => ?_)
              have tz42 := tf_98_16 Is41
              refine h_put (pc' := 20) rfl rfl rfl rfl rfl rfl hz42 rfl (h_fgt (E := fun s => s 98 15 = s0 98 15 ∧ s 98 17 = s0 98 17 ∧ s 98 13 = 6 ∧ s 64 1 = s0 64 1 ∧ s 98 11 = s0 98 11) _ (if_98_14 Is41 (h_rgv hz42)) (Fs41.up rfl) ⟨es41_0, es41_1, es41_2, es41_3, es41_4⟩ (fun s43 Is43 Fs43 ⟨es43_0, es43_1, es43_2, es43_3, es43_4⟩ => ?_))
              clear es41_0 es41_1 es41_2 es41_3 es41_4
              refine h_vret rfl rfl (h_Kn ?_)
              refine h_aload_n (pc' := 122) rfl rfl rfl ?_
              refine h_iconst (pc' := 123) (x := (Int32.ofInt 0)) rfl rfl rfl ?_
              refine h_put (pc' := 126) rfl rfl rfl rfl rfl rfl ci_0 rfl (h_fgt (E := fun s => s 98 15 = s0 98 15 ∧ s 98 17 = s0 98 17 ∧ s 98 13 = 6 ∧ s 64 1 = s0 64 1 ∧ s 98 11 = 0) _ (if_98_11 Is43 (by omega)) (Fs43.up rfl) ⟨es43_0, es43_1, es43_2, es43_3, rfl⟩ (fun s44 Is44 Fs44 ⟨es44_0, es44_1, es44_2, es44_3, es44_4⟩ => ?_))
              clear es43_0 es43_1 es43_2 es43_3 es43_4
              refine h_aload_n (pc' := 127) rfl rfl rfl ?_
              refine h_aload_n (pc' := 128) rfl rfl rfl ?_
              refine h_getI (pc' := 131) (v := 6) rfl rfl rfl rfl rfl es44_2 (fun z45 hz45 => ?_)
              refine h_put (pc' := 134) rfl rfl rfl rfl rfl rfl hz45 rfl (h_fgt (E := fun s => s 98 15 = s0 98 15 ∧ s 98 17 = s0 98 17 ∧ s 98 13 = 6 ∧ s 64 1 = s0 64 1 ∧ s 98 11 = 0) _ (if_98_12 Is44 (h_rgv hz45)) (Fs44.up rfl) ⟨es44_0, es44_1, es44_2, es44_3, es44_4⟩ (fun s46 Is46 Fs46 ⟨es46_0, es46_1, es46_2, es46_3, es46_4⟩ => ?_))
              clear es44_0 es44_1 es44_2 es44_3 es44_4
              refine h_aload_n (pc' := 135) rfl rfl rfl ?_
              refine h_getI (pc' := 138) (v := 6) rfl rfl rfl rfl rfl es46_2 (fun z47 hz47 => ?_)
              refine h_zle (tg := 149) (pc' := 141) rfl rfl rfl hz47 (fun c48 => absurd c48 (by omega)) (fun c48 => ?_)
              refine h_bipush (pc' := 143) (x := (Int32.ofInt (-10))) rfl rfl cb_m10 ?_
              refine h_aload_n (pc' := 144) rfl rfl rfl ?_
              refine h_getI (pc' := 147) (v := s46 98 14) rfl rfl rfl rfl rfl rfl (fun z49 hz49 => ?_)
              have tz49 := tf_98_14 Is46
              refine h_isubA (pc' := 148) rfl rfl (fun z50 hz50 => ?_)
              exact h_iret rfl rfl (kk _ _ rfl _ Is46 Fs46 (by omega) (by omega))
        · refine h_aload_n (pc' := 77) rfl rfl rfl ?_
          refine h_call (sp := false) (pc' := 80) (M := [(0, .ref 98)]) rfl rfl rfl rfl rfl rfl rfl rfl ?_
          refine v_readLine _ I0  (fun s52 Is52 Gs52 ps52_0 ps52_1 => h_Kn ?_)
          have Fs52 := (Gs52.t1).tr F0_
          have es52_3 : s52 64 1 = s0 64 1 := (Gs52 64 1 rfl).trans rfl
          have es52_4 : s52 98 11 = s0 98 11 := (Gs52 98 11 rfl).trans rfl
          refine h_iincA (pc' := 83) (M := fun z53 => [(1, .int z53), (0, .ref 98), (2, .int y2)]) rfl rfl rfl rfl (fun _ => rfl) (fun z53 hz53 => ?_)
          refine h_goto (pc' := 62) rfl rfl ?_
          exact h_wk [(0, .ref 98), (1, .int z53), (2, .int y2)] ⟨rfl, rfl, rfl, trivial⟩ (ih.2.1 _ Is52 Fs52 z53 _ rfl y2 _ hy2 (by omega) (by omega) (by omega))
    · intro s0 I0 F0_ y1 b1 hy1 y2 b2 hy2 ry2 ex0 hm; have gh0 := tf_98_15 I0; have gh1 := tf_98_13 I0; have gh2 := tf_98_17 I0
      refine h_iload_n (pc' := 152) rfl rfl rfl ?_
      refine h_bipush (pc' := 154) (x := (Int32.ofInt 44)) rfl rfl cb_44 ?_
      refine h_cge (tg := 175) (pc' := 157) rfl rfl rfl hy2 ci_44 (fun c1 => ?_) (fun c1 => ?_)
      · refine h_aload_n (pc' := 176) rfl rfl rfl ?_
        refine h_aload_n (pc' := 177) rfl rfl rfl ?_
        refine h_getI (pc' := 180) (v := s0 98 5) rfl rfl rfl rfl rfl rfl (fun z2 hz2 => ?_)
        have tz2 := tf_98_5 I0
        refine h_put (pc' := 183) rfl rfl rfl rfl rfl rfl hz2 rfl (h_fgt (E := fun s => s 98 15 = s0 98 15 ∧ s 98 17 = s0 98 17 ∧ s 98 13 = s0 98 13 ∧ s 64 1 = s0 64 1 ∧ s 98 11 = s0 98 11) _ (if_98_1 I0 (by omega)) (F0_.up rfl) ⟨rfl, rfl, rfl, rfl, rfl⟩ (fun s3 Is3 Fs3 ⟨es3_0, es3_1, es3_2, es3_3, es3_4⟩ => ?_))
        refine h_aload_n (pc' := 184) rfl rfl rfl ?_
        refine h_aload_n (pc' := 185) rfl rfl rfl ?_
        refine h_getI (pc' := 188) (v := s3 98 6) rfl rfl rfl rfl rfl rfl (fun z4 hz4 => ?_)
        have tz4 := tf_98_6 Is3
        refine h_put (pc' := 191) rfl rfl rfl rfl rfl rfl hz4 rfl (h_fgt (E := fun s => s 98 15 = s0 98 15 ∧ s 98 17 = s0 98 17 ∧ s 98 13 = s0 98 13 ∧ s 64 1 = s0 64 1 ∧ s 98 11 = s0 98 11) _ (if_98_2 Is3 (by omega)) (Fs3.up rfl) ⟨es3_0, es3_1, es3_2, es3_3, es3_4⟩ (fun s5 Is5 Fs5 ⟨es5_0, es5_1, es5_2, es5_3, es5_4⟩ => ?_))
        clear es3_0 es3_1 es3_2 es3_3 es3_4
        refine h_aload_n (pc' := 192) rfl rfl rfl ?_
        refine h_iconst (pc' := 193) (x := (Int32.ofInt 0)) rfl rfl rfl ?_
        refine h_put (pc' := 196) rfl rfl rfl rfl rfl rfl ci_0 rfl (h_fgt (E := fun s => s 98 15 = s0 98 15 ∧ s 98 17 = s0 98 17 ∧ s 98 13 = s0 98 13 ∧ s 64 1 = s0 64 1 ∧ s 98 11 = s0 98 11) _ (if_98_29 Is5 (by omega)) (Fs5.up rfl) ⟨es5_0, es5_1, es5_2, es5_3, es5_4⟩ (fun s6 Is6 Fs6 ⟨es6_0, es6_1, es6_2, es6_3, es6_4⟩ => ?_))
        clear es5_0 es5_1 es5_2 es5_3 es5_4
        refine h_aload_n (pc' := 197) rfl rfl rfl ?_
        refine h_getR (pc' := 200) rfl rfl rfl rfl rfl ?_
        refine h_iconst (pc' := 201) (x := (Int32.ofInt 0)) rfl rfl rfl ?_
        refine h_iconst (pc' := 202) (x := (Int32.ofInt 0)) rfl rfl rfl ?_
        refine h_bast (pc' := 203) rfl rfl rfl rfl ci_0 (by omega) (by omega) ci_0 (by omega) (h_fgt (E := fun s => s 98 15 = s0 98 15 ∧ s 98 17 = s0 98 17 ∧ s 98 13 = s0 98 13 ∧ s 64 1 = s0 64 1 ∧ s 98 11 = s0 98 11) _ (in_110 Is6 (by omega)) (Fs6.up rfl) ⟨es6_0, es6_1, es6_2, es6_3, es6_4⟩ (fun s7 Is7 Fs7 ⟨es7_0, es7_1, es7_2, es7_3, es7_4⟩ => ?_))
        clear es6_0 es6_1 es6_2 es6_3 es6_4
        refine h_aload_n (pc' := 204) rfl rfl rfl ?_
        refine h_getR (pc' := 207) rfl rfl rfl rfl rfl ?_
        refine h_iconst (pc' := 208) (x := (Int32.ofInt 1)) rfl rfl rfl ?_
        refine h_iconst (pc' := 209) (x := (Int32.ofInt 0)) rfl rfl rfl ?_
        refine h_bast (pc' := 210) rfl rfl rfl rfl ci_1 (by omega) (by omega) ci_0 (by omega) (h_fgt (E := fun s => s 98 15 = s0 98 15 ∧ s 98 17 = s0 98 17 ∧ s 98 13 = s0 98 13 ∧ s 64 1 = s0 64 1 ∧ s 98 11 = s0 98 11) _ (in_110 Is7 (by omega)) (Fs7.up rfl) ⟨es7_0, es7_1, es7_2, es7_3, es7_4⟩ (fun s8 Is8 Fs8 ⟨es8_0, es8_1, es8_2, es8_3, es8_4⟩ => ?_))
        clear es7_0 es7_1 es7_2 es7_3 es7_4
        refine h_iload_n (pc' := 211) rfl rfl rfl ?_
        exact h_iret rfl rfl (kk _ _ hy1 _ Is8 Fs8 (by omega) (by omega))
      · refine h_aload_n (pc' := 158) rfl rfl rfl ?_
        refine h_getR (pc' := 161) rfl rfl rfl rfl rfl ?_
        refine h_iload_n (pc' := 162) rfl rfl rfl ?_
        refine h_aload_n (pc' := 163) rfl rfl rfl ?_
        refine h_getR (pc' := 166) rfl rfl rfl rfl rfl ?_
        refine h_iload_n (pc' := 167) rfl rfl rfl ?_
        refine h_iald (pc' := 168) (v := s0 101 b2) rfl rfl rfl hy2 (by omega) (by omega) rfl (fun z9 hz9 => ?_)
        have tz9 := h_rng z9
        rw [hz9] at tz9
        refine h_iast (pc' := 169) rfl rfl rfl rfl hy2 (by omega) (by omega) hz9 (h_fgt (E := fun s => s 98 15 = s0 98 15 ∧ s 98 17 = s0 98 17 ∧ s 98 13 = s0 98 13 ∧ s 64 1 = s0 64 1 ∧ s 98 11 = s0 98 11) _ (im_99 (i := b2) I0 (by omega) (I0 101 b2)) (F0_.up rfl) ⟨rfl, rfl, rfl, rfl, rfl⟩ (fun s10 Is10 Fs10 ⟨es10_0, es10_1, es10_2, es10_3, es10_4⟩ => ?_))
        refine h_iinc (pc' := 172) (M := fun z11 => [(2, .int z11), (0, .ref 98), (1, .int y1)]) rfl rfl rfl rfl hy2 ci_1 rfl (by omega) (by omega) (fun _ => rfl) (fun z11 hz11 => ?_)
        refine h_goto (pc' := 151) rfl rfl ?_
        exact h_wk [(0, .ref 98), (1, .int y1), (2, .int z11)] ⟨rfl, rfl, rfl, trivial⟩ (ih.2.2 _ Is10 Fs10 y1 _ hy1 z11 _ hz11 (by omega) (by omega) (by omega))
theorem v_textM {ns : Nat} (σ : h_S) (hI : h_I σ) {Q : Option Value → h_S → Prop} (kk : ∀ (r : Int32) (b : Int) (hb : r.toInt = b) (τ : h_S), h_I τ → h_F k_tp τ σ → (τ 98 11 = 0) → (τ 64 1 = σ 64 1) → Q (some (.int r)) τ) : h_T g_P (g_Y ns) 155 0 [(0, .ref 98)] [] σ Q := by
  have F00 : h_F k_tp σ σ := h_F.rf
  refine h_aload_n (pc' := 1) rfl rfl rfl ?_
  refine h_iconst (pc' := 2) (x := (Int32.ofInt 0)) rfl rfl rfl ?_
  refine h_put (pc' := 5) rfl rfl rfl rfl rfl rfl ci_0 rfl (h_fgt (E := fun s => s 98 15 = σ 98 15 ∧ s 98 17 = σ 98 17 ∧ s 98 13 = 0 ∧ s 64 1 = σ 64 1 ∧ s 98 11 = σ 98 11) _ (if_98_13 hI (by omega)) (F00.up rfl) ⟨rfl, rfl, rfl, rfl, rfl⟩ (fun s1 Is1 Fs1 ⟨es1_0, es1_1, es1_2, es1_3, es1_4⟩ => ?_))
  refine h_aload_n (pc' := 6) rfl rfl rfl ?_
  refine h_iconst (pc' := 7) (x := (Int32.ofInt 0)) rfl rfl rfl ?_
  refine h_put (pc' := 10) rfl rfl rfl rfl rfl rfl ci_0 rfl (h_fgt (E := fun s => s 98 15 = 0 ∧ s 98 17 = σ 98 17 ∧ s 98 13 = 0 ∧ s 64 1 = σ 64 1 ∧ s 98 11 = σ 98 11) _ (if_98_15 Is1 (by omega)) (Fs1.up rfl) ⟨rfl, es1_1, es1_2, es1_3, es1_4⟩ (fun s2 Is2 Fs2 ⟨es2_0, es2_1, es2_2, es2_3, es2_4⟩ => ?_))
  clear es1_0 es1_1 es1_2 es1_3 es1_4
  refine h_aload_n (pc' := 11) rfl rfl rfl ?_
  refine h_iconst (pc' := 12) (x := (Int32.ofInt 0)) rfl rfl rfl ?_
  refine h_put (pc' := 15) rfl rfl rfl rfl rfl rfl ci_0 rfl (h_fgt (E := fun s => s 98 15 = 0 ∧ s 98 17 = σ 98 17 ∧ s 98 13 = 0 ∧ s 64 1 = σ 64 1 ∧ s 98 11 = σ 98 11) _ (if_98_5 Is2 (by omega)) (Fs2.up rfl) ⟨es2_0, es2_1, es2_2, es2_3, es2_4⟩ (fun s3 Is3 Fs3 ⟨es3_0, es3_1, es3_2, es3_3, es3_4⟩ => ?_))
  clear es2_0 es2_1 es2_2 es2_3 es2_4
  refine h_aload_n (pc' := 16) rfl rfl rfl ?_
  refine h_iconst (pc' := 17) (x := (Int32.ofInt 0)) rfl rfl rfl ?_
  refine h_put (pc' := 20) rfl rfl rfl rfl rfl rfl ci_0 rfl (h_fgt (E := fun s => s 98 15 = 0 ∧ s 98 17 = σ 98 17 ∧ s 98 13 = 0 ∧ s 64 1 = σ 64 1 ∧ s 98 11 = σ 98 11) _ (if_98_6 Is3 (by omega)) (Fs3.up rfl) ⟨es3_0, es3_1, es3_2, es3_3, es3_4⟩ (fun s4 Is4 Fs4 ⟨es4_0, es4_1, es4_2, es4_3, es4_4⟩ => ?_))
  clear es3_0 es3_1 es3_2 es3_3 es3_4
  refine h_aload_n (pc' := 21) rfl rfl rfl ?_
  refine h_iconst (pc' := 22) (x := (Int32.ofInt 0)) rfl rfl rfl ?_
  refine h_put (pc' := 25) rfl rfl rfl rfl rfl rfl ci_0 (h_fb ci_0 (by omega)) (h_fgt (E := fun s => s 98 15 = 0 ∧ s 98 17 = σ 98 17 ∧ s 98 13 = 0 ∧ s 64 1 = σ 64 1 ∧ s 98 11 = σ 98 11) _ (if_98_7 Is4 (by omega)) (Fs4.up rfl) ⟨es4_0, es4_1, es4_2, es4_3, es4_4⟩ (fun s5 Is5 Fs5 ⟨es5_0, es5_1, es5_2, es5_3, es5_4⟩ => ?_))
  clear es4_0 es4_1 es4_2 es4_3 es4_4
  refine h_aload_n (pc' := 26) rfl rfl rfl ?_
  refine h_iconst (pc' := 27) (x := (Int32.ofInt (-1))) rfl rfl rfl ?_
  refine h_put (pc' := 30) rfl rfl rfl rfl rfl rfl ci_m1 rfl (h_fgt (E := fun s => s 98 15 = 0 ∧ s 98 17 = σ 98 17 ∧ s 98 13 = 0 ∧ s 64 1 = σ 64 1 ∧ s 98 11 = σ 98 11) _ (if_98_8 Is5 (by omega)) (Fs5.up rfl) ⟨es5_0, es5_1, es5_2, es5_3, es5_4⟩ (fun s6 Is6 Fs6 ⟨es6_0, es6_1, es6_2, es6_3, es6_4⟩ => ?_))
  clear es5_0 es5_1 es5_2 es5_3 es5_4
  refine h_aload_n (pc' := 31) rfl rfl rfl ?_
  refine h_iconst (pc' := 32) (x := (Int32.ofInt (-1))) rfl rfl rfl ?_
  refine h_put (pc' := 35) rfl rfl rfl rfl rfl rfl ci_m1 rfl (h_fgt (E := fun s => s 98 15 = 0 ∧ s 98 17 = σ 98 17 ∧ s 98 13 = 0 ∧ s 64 1 = σ 64 1 ∧ s 98 11 = σ 98 11) _ (if_98_9 Is6 (by omega)) (Fs6.up rfl) ⟨es6_0, es6_1, es6_2, es6_3, es6_4⟩ (fun s7 Is7 Fs7 ⟨es7_0, es7_1, es7_2, es7_3, es7_4⟩ => ?_))
  clear es6_0 es6_1 es6_2 es6_3 es6_4
  refine h_iconst (pc' := 36) (x := (Int32.ofInt 0)) rfl rfl rfl ?_
  refine h_istore_n (pc' := 37) (M := [(1, .int (Int32.ofInt 0)), (0, .ref 98)]) rfl rfl rfl rfl ?_
  refine h_iconst (pc' := 38) (x := (Int32.ofInt 0)) rfl rfl rfl ?_
  refine h_istore_n (pc' := 39) (M := [(2, .int (Int32.ofInt 0)), (1, .int (Int32.ofInt 0)), (0, .ref 98)]) rfl rfl rfl rfl ?_
  exact h_wk [(0, .ref 98), (1, .int (Int32.ofInt 0)), (2, .int (Int32.ofInt 0))] ⟨rfl, rfl, rfl, trivial⟩ ((v_textM_l ns σ hI  kk 1000000000000).1 _ Is7 Fs7 (Int32.ofInt 0) _ ci_0 (by omega) (Int32.ofInt 0) _ ci_0 (by omega) (by omega) (by omega))
theorem v_feedM {ns : Nat} (σ : h_S) (hI : h_I σ) (x0 : Int32) (a0 : Int) (hx0 : x0.toInt = a0) {Q : Option Value → h_S → Prop} (kk : ∀ (r : Int32) (b : Int) (hb : r.toInt = b) (τ : h_S), h_I τ → h_F k_tp τ σ → ((-3) ≤ b ∧ b ≤ 160) → ((0 ≤ a0 ∧ a0 ≤ 127 ∧ σ 98 11 ≤ 159 ∧ τ 98 11 = σ 98 11 + 1 ∧ b = σ 98 11 + 1) ∨ ((a0 < 0 ∨ 127 < a0) ∧ b = -1 ∧ τ 98 11 = σ 98 11) ∨ (0 ≤ a0 ∧ a0 ≤ 127 ∧ σ 98 11 = 160 ∧ b = -3 ∧ τ 98 11 = σ 98 11)) → (τ 64 1 = σ 64 1) → Q (some (.int r)) τ) : h_T g_P (g_Y ns) 143 0 [(0, .ref 98), (1, .int x0)] [] σ Q := by
  have F00 : h_F k_tp σ σ := h_F.rf
  refine h_iload_n (pc' := 1) rfl rfl rfl ?_
  refine h_i2l (pc' := 2) rfl rfl hx0 (fun z1 hz1 => ?_)
  refine h_lconst (pc' := 3) (x := (Int64.ofInt 0)) rfl rfl rfl ?_
  refine h_ldc2 (pc' := 6) (x := (Int64.ofInt 127)) rfl rfl rfl ?_
  refine h_calls (pc' := 9) (M := [(0, .long z1), (2, .long (Int64.ofInt 0)), (4, .long (Int64.ofInt 127))]) rfl rfl rfl rfl rfl rfl ?_
  refine h_lload_n (pc' := 1) rfl rfl rfl ?_
  refine h_lload_n (pc' := 2) rfl rfl rfl ?_
  refine h_lcmp (pc' := 3) rfl rfl hz1 cl_0 (fun z2 hz2 => ?_)
  refine h_zlt (tg := 17) (pc' := 6) rfl rfl rfl rfl (fun c3 => ?_) (fun c3 => ?_)
  · refine h_iconst (pc' := 18) (x := (Int32.ofInt 0)) rfl rfl rfl ?_
    refine h_zret rfl rfl ci_0 (by omega) (h_Kv ?_)
    refine h_zne (tg := 14) (pc' := 12) rfl rfl rfl ci_0 (fun c4 => absurd c4 (by omega)) (fun c4 => ?_)
    refine h_iconst (pc' := 13) (x := (Int32.ofInt (-1))) rfl rfl rfl ?_
    exact h_iret rfl rfl (kk _ _ ci_m1 _ hI F00 (by omega) (by omega) (by omega))
  · refine h_lload_n (pc' := 7) rfl rfl rfl ?_
    refine h_lload (pc' := 9) rfl rfl rfl ?_
    refine h_lcmp (pc' := 10) rfl rfl hz1 cl_127 (fun z5 hz5 => ?_)
    refine h_zgt (tg := 17) (pc' := 13) rfl rfl rfl rfl (fun c6 => ?_) (fun c6 => ?_)
    · refine h_iconst (pc' := 18) (x := (Int32.ofInt 0)) rfl rfl rfl ?_
      refine h_zret rfl rfl ci_0 (by omega) (h_Kv ?_)
      refine h_zne (tg := 14) (pc' := 12) rfl rfl rfl ci_0 (fun c7 => absurd c7 (by omega)) (fun c7 => ?_)
      refine h_iconst (pc' := 13) (x := (Int32.ofInt (-1))) rfl rfl rfl ?_
      exact h_iret rfl rfl (kk _ _ ci_m1 _ hI F00 (by omega) (by omega) (by omega))
    · refine h_iconst (pc' := 14) (x := (Int32.ofInt 1)) rfl rfl rfl ?_
      refine h_goto (pc' := 18) rfl rfl ?_
      refine h_zret rfl rfl ci_1 (by omega) (h_Kv ?_)
      refine h_zne (tg := 14) (pc' := 12) rfl rfl rfl ci_1 (fun c8 => ?_) (fun c8 => absurd c8 (by omega))
      refine h_aload_n (pc' := 15) rfl rfl rfl ?_
      refine h_getI (pc' := 18) (v := σ 98 11) rfl rfl rfl rfl rfl rfl (fun z9 hz9 => ?_)
      have tz9 := tf_98_11 hI
      refine h_sipush (pc' := 21) (x := (Int32.ofInt 160)) rfl rfl cs_160 ?_
      refine h_cne (tg := 27) (pc' := 24) rfl rfl rfl hz9 ci_160 (fun c10 => ?_) (fun c10 => ?_)
      · refine h_aload_n (pc' := 28) rfl rfl rfl ?_
        refine h_getR (pc' := 31) rfl rfl rfl rfl rfl ?_
        refine h_aload_n (pc' := 32) rfl rfl rfl ?_
        refine h_getI (pc' := 35) (v := σ 98 11) rfl rfl rfl rfl rfl rfl (fun z11 hz11 => ?_)
        have tz11 := tf_98_11 hI
        refine h_iload_n (pc' := 36) rfl rfl rfl ?_
        refine h_iast (pc' := 37) rfl rfl rfl rfl hz11 (by omega) (by omega) hx0 (h_fgt (E := fun s => s 64 1 = σ 64 1 ∧ s 98 11 = σ 98 11) _ (in_102 hI (by omega)) (F00.up rfl) ⟨rfl, rfl⟩ (fun s12 Is12 Fs12 ⟨es12_0, es12_1⟩ => ?_))
        refine h_aload_n (pc' := 38) rfl rfl rfl ?_
        refine h_dup (pc' := 39) rfl rfl rfl ?_
        refine h_getI (pc' := 42) (v := σ 98 11) rfl rfl rfl rfl rfl es12_1 (fun z13 hz13 => ?_)
        have tz13 := tf_98_11 hI
        refine h_iconst (pc' := 43) (x := (Int32.ofInt 1)) rfl rfl rfl ?_
        refine h_iadd (pc' := 44) rfl rfl hz13 ci_1 rfl (by omega) (by omega) (fun z14 hz14 => ?_)
        refine h_put (pc' := 47) rfl rfl rfl rfl rfl rfl hz14 rfl (h_fgt (E := fun s => s 64 1 = σ 64 1 ∧ s 98 11 = ((σ 98 11) + 1)) _ (if_98_11 Is12 (by omega)) (Fs12.up rfl) ⟨es12_0, rfl⟩ (fun s15 Is15 Fs15 ⟨es15_0, es15_1⟩ => ?_))
        clear es12_0 es12_1
        refine h_aload_n (pc' := 48) rfl rfl rfl ?_
        refine h_getI (pc' := 51) (v := ((σ 98 11) + 1)) rfl rfl rfl rfl rfl es15_1 (fun z16 hz16 => ?_)
        exact h_iret rfl rfl (kk _ _ hz16 _ Is15 Fs15 (by omega) (by omega) (by omega))
      · refine h_bipush (pc' := 26) (x := (Int32.ofInt (-3))) rfl rfl cb_m3 ?_
        exact h_iret rfl rfl (kk _ _ ci_m3 _ hI F00 (by omega) (by omega) (by omega))
theorem v_endM {ns : Nat} (σ : h_S) (hI : h_I σ) (x0 : Int32) (a0 : Int) (hx0 : x0.toInt = a0) {Q : Option Value → h_S → Prop} (kk : ∀ (r : Int32) (b : Int) (hb : r.toInt = b) (τ : h_S), h_I τ → h_F k_tp τ σ → ((-1) ≤ b ∧ b ≤ 160) → ((0 ≤ a0 ∧ a0 ≤ σ 98 11 ∧ b = σ 98 11 ∧ τ 98 11 = a0) ∨ ((a0 < 0 ∨ σ 98 11 < a0) ∧ b = -1 ∧ τ 98 11 = σ 98 11)) → (τ 64 1 = σ 64 1) → Q (some (.int r)) τ) : h_T g_P (g_Y ns) 144 0 [(0, .ref 98), (1, .int x0)] [] σ Q := by
  have F00 : h_F k_tp σ σ := h_F.rf
  refine h_iload_n (pc' := 1) rfl rfl rfl ?_
  refine h_i2l (pc' := 2) rfl rfl hx0 (fun z1 hz1 => ?_)
  refine h_lconst (pc' := 3) (x := (Int64.ofInt 0)) rfl rfl rfl ?_
  refine h_aload_n (pc' := 4) rfl rfl rfl ?_
  refine h_getI (pc' := 7) (v := σ 98 11) rfl rfl rfl rfl rfl rfl (fun z2 hz2 => ?_)
  have tz2 := tf_98_11 hI
  refine h_i2l (pc' := 8) rfl rfl hz2 (fun z3 hz3 => ?_)
  refine h_calls (pc' := 11) (M := [(0, .long z1), (2, .long (Int64.ofInt 0)), (4, .long z3)]) rfl rfl rfl rfl rfl rfl ?_
  refine h_lload_n (pc' := 1) rfl rfl rfl ?_
  refine h_lload_n (pc' := 2) rfl rfl rfl ?_
  refine h_lcmp (pc' := 3) rfl rfl hz1 cl_0 (fun z4 hz4 => ?_)
  refine h_zlt (tg := 17) (pc' := 6) rfl rfl rfl rfl (fun c5 => ?_) (fun c5 => ?_)
  · refine h_iconst (pc' := 18) (x := (Int32.ofInt 0)) rfl rfl rfl ?_
    refine h_zret rfl rfl ci_0 (by omega) (h_Kv ?_)
    refine h_zne (tg := 16) (pc' := 14) rfl rfl rfl ci_0 (fun c6 => absurd c6 (by omega)) (fun c6 => ?_)
    refine h_iconst (pc' := 15) (x := (Int32.ofInt (-1))) rfl rfl rfl ?_
    exact h_iret rfl rfl (kk _ _ ci_m1 _ hI F00 (by omega) (by omega) (by omega))
  · refine h_lload_n (pc' := 7) rfl rfl rfl ?_
    refine h_lload (pc' := 9) rfl rfl rfl ?_
    refine h_lcmp (pc' := 10) rfl rfl hz1 hz3 (fun z7 hz7 => ?_)
    refine h_zgt (tg := 17) (pc' := 13) rfl rfl rfl rfl (fun c8 => ?_) (fun c8 => ?_)
    · refine h_iconst (pc' := 18) (x := (Int32.ofInt 0)) rfl rfl rfl ?_
      refine h_zret rfl rfl ci_0 (by omega) (h_Kv ?_)
      refine h_zne (tg := 16) (pc' := 14) rfl rfl rfl ci_0 (fun c9 => absurd c9 (by omega)) (fun c9 => ?_)
      refine h_iconst (pc' := 15) (x := (Int32.ofInt (-1))) rfl rfl rfl ?_
      exact h_iret rfl rfl (kk _ _ ci_m1 _ hI F00 (by omega) (by omega) (by omega))
    · refine h_iconst (pc' := 14) (x := (Int32.ofInt 1)) rfl rfl rfl ?_
      refine h_goto (pc' := 18) rfl rfl ?_
      refine h_zret rfl rfl ci_1 (by omega) (h_Kv ?_)
      refine h_zne (tg := 16) (pc' := 14) rfl rfl rfl ci_1 (fun c10 => ?_) (fun c10 => absurd c10 (by omega))
      refine h_aload_n (pc' := 17) rfl rfl rfl ?_
      refine h_getI (pc' := 20) (v := σ 98 11) rfl rfl rfl rfl rfl rfl (fun z11 hz11 => ?_)
      have tz11 := tf_98_11 hI
      refine h_istore_n (pc' := 21) (M := [(2, .int z11), (0, .ref 98), (1, .int x0)]) rfl rfl rfl rfl ?_
      refine h_aload_n (pc' := 22) rfl rfl rfl ?_
      refine h_iload_n (pc' := 23) rfl rfl rfl ?_
      refine h_put (pc' := 26) rfl rfl rfl rfl rfl rfl hx0 rfl (h_fgt (E := fun s => s 64 1 = σ 64 1 ∧ s 98 11 = a0) _ (if_98_11 hI (by omega)) (F00.up rfl) ⟨rfl, rfl⟩ (fun s12 Is12 Fs12 ⟨es12_0, es12_1⟩ => ?_))
      refine h_iload_n (pc' := 27) rfl rfl rfl ?_
      exact h_iret rfl rfl (kk _ _ hz11 _ Is12 Fs12 (by omega) (by omega) (by omega))
